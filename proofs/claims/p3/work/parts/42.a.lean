/-! the class in general states: by program (wip/tools/gen.py) -/
abbrev b01 (b : Bool) : Int32 := if b then 1 else 0
def isW (c : Int32) : Bool := (decide (¬ c < 97) && decide (c ≤ 122)) || (decide (¬ c < 65) && decide (c ≤ 90)) || (decide (¬ c < 48) && decide (¬ 57 < c))
/-- how many tokens begin among the first letters of t -/
def tokN (t : Nat → Int32) : Nat → Nat
  | 0 => 0
  | i + 1 => tokN t i + (if isW (t i) = true ∧ (i = 0 ∨ isW (t (i - 1)) = false) then 1 else 0)
theorem tokN_y {t : Nat → Int32} {i : Nat} (h : isW (t i) = true) (h2 : i = 0 ∨ isW (t (i - 1)) = false) : tokN t (i + 1) = tokN t i + 1 := by rw [tokN, if_pos ⟨h, h2⟩]
theorem tokN_n {t : Nat → Int32} {i : Nat} (h : isW (t i) = false ∨ (¬ i = 0 ∧ isW (t (i - 1)) = true)) : tokN t (i + 1) = tokN t i := by
  rw [tokN, if_neg, Nat.add_zero]
  rintro ⟨a, b⟩
  rcases h with h | ⟨h1, h2⟩
  · rw [a] at h; cases h
  · rcases b with b | b
    · exact h1 b
    · rw [h2] at b; cases b
theorem tokN_half (t : Nat → Int32) : ∀ i, 2 * tokN t i ≤ i + 1 ∧ ((i = 0 ∨ isW (t (i - 1)) = false) → 2 * tokN t i ≤ i) := by
  intro i
  induction i with
  | zero => exact ⟨by simp [tokN], fun _ => by simp [tokN]⟩
  | succ i ih =>
    cases hw : isW (t i) with
    | false =>
      rw [tokN_n (Or.inl hw)]
      exact ⟨by omega, fun _ => ih.1⟩
    | true =>
      refine ⟨?_, fun h => ?_⟩
      · by_cases hn : i = 0 ∨ isW (t (i - 1)) = false
        · rw [tokN_y hw hn]
          have := ih.2 hn
          omega
        · rw [tokN_n (Or.inr ⟨fun q => hn (Or.inl q), by cases hq : isW (t (i - 1)); exact absurd (Or.inr hq) hn; rfl⟩)]
          omega
      · rcases h with h | h
        · omega
        · rw [Nat.add_sub_cancel, hw] at h
          cases h
theorem b01_f0 {b : Bool} (h : b01 b = 0) : b = false := by cases b; rfl; exact absurd h (by decide)
theorem b01_t0 {b : Bool} (h : ¬ b01 b = 0) : b = true := by cases b; exact absurd rfl h; rfl
theorem tokN_mono (t : Nat → Int32) {i j : Nat} (h : i ≤ j) : tokN t i ≤ tokN t j := by
  obtain ⟨d, rfl⟩ : ∃ d, j = i + d := ⟨j - i, by omega⟩
  clear h
  induction d with
  | zero => exact Nat.le_refl _
  | succ d ih =>
    have h1 : tokN t (i + d) ≤ tokN t (i + (d + 1)) := by
      show tokN t (i + d) ≤ tokN t (i + d + 1)
      rw [tokN]
      exact Nat.le_add_right _ _
    exact Nat.le_trans ih h1
/-- gather at the letter i: how many tokens there are, and whether it is inside of one, if there is room for all -/
def GaT (fq : Nat → Int32) (b e k n0 i n : Nat) (ins : Int32) : Prop := n0 + tokN (fun j => fq (b + j)) (e - b) < k → n = n0 + tokN (fun j => fq (b + j)) (i - b) ∧ ins = b01 (decide (b < i) && isW (fq (i - 1)))
theorem GaT.zero {fq : Nat → Int32} {b e k n : Nat} : GaT fq b e k n b n 0 := fun _ => ⟨by rw [Nat.sub_self]; rfl, by rw [decide_eq_false (Nat.lt_irrefl _)]; rfl⟩
theorem GaT.wd {fq : Nat → Int32} {b X : Nat} (hb : b ≤ X) : b01 (isW (fq X)) = b01 (decide (b < X + 1) && isW (fq (X + 1 - 1))) := by
  rw [decide_eq_true (show b < X + 1 by omega), Bool.true_and, Nat.add_sub_cancel]
theorem GaT.no {fq : Nat → Int32} {b e k n0 i n X : Nat} {ins : Int32} (h : GaT fq b e k n0 i n ins) (hX : X = i) (hb : b ≤ i) (w : b01 (isW (fq X)) = 0) : GaT fq b e k n0 (i + 1) n (b01 (isW (fq X))) := fun c => by
  subst hX
  obtain ⟨h1, h2⟩ := h c
  have w1 := b01_f0 w
  refine ⟨?_, GaT.wd hb⟩
  have e1 : X + 1 - b = (X - b) + 1 := by omega
  have e2 : b + (X - b) = X := by omega
  rw [e1, tokN_n (t := fun j => fq (b + j)) (i := X - b) (Or.inl (by show isW (fq (b + (X - b))) = false; rw [e2]; exact w1))]
  exact h1
theorem GaT.ins {fq : Nat → Int32} {b e k n0 i n X : Nat} {ins : Int32} (h : GaT fq b e k n0 i n ins) (hX : X = i) (hb : b ≤ i) (wi : ¬ ins = 0) : GaT fq b e k n0 (i + 1) n (b01 (isW (fq X))) := fun c => by
  subst hX
  obtain ⟨h1, h2⟩ := h c
  have q : (decide (b < X) && isW (fq (X - 1))) = true := b01_t0 (fun z => wi (h2.trans z))
  rw [Bool.and_eq_true, decide_eq_true_eq] at q
  refine ⟨?_, GaT.wd hb⟩
  have e1 : X + 1 - b = (X - b) + 1 := by omega
  have e2 : b + (X - b - 1) = X - 1 := by have := q.1; omega
  rw [e1, tokN_n (t := fun j => fq (b + j)) (i := X - b) (Or.inr ⟨by have := q.1; omega, by show isW (fq (b + (X - b - 1))) = true; rw [e2]; exact q.2⟩)]
  exact h1
theorem GaT.new {fq : Nat → Int32} {b e k n0 i n X : Nat} {ins : Int32} (h : GaT fq b e k n0 i n ins) (hX : X = i) (hb : b ≤ i) (w : ¬ b01 (isW (fq X)) = 0) (wi : ins = 0) : GaT fq b e k n0 (i + 1) (n + 1) (b01 (isW (fq X))) := fun c => by
  subst hX
  obtain ⟨h1, h2⟩ := h c
  have w1 := b01_t0 w
  have q := b01_f0 (h2.symm.trans wi)
  refine ⟨?_, GaT.wd hb⟩
  have e1 : X + 1 - b = (X - b) + 1 := by omega
  have e2 : b + (X - b) = X := by omega
  have e4 : X - b = 0 ∨ isW (fq (b + (X - b - 1))) = false := by
    by_cases e5 : b < X
    · rw [decide_eq_true e5, Bool.true_and] at q
      have e6 : b + (X - b - 1) = X - 1 := by omega
      rw [e6]
      exact Or.inr q
    · exact Or.inl (by omega)
  rw [e1, tokN_y (t := fun j => fq (b + j)) (i := X - b) (by show isW (fq (b + (X - b))) = true; rw [e2]; exact w1) e4]
  omega
theorem GaT.full {fq : Nat → Int32} {b e k n0 i n X : Nat} {ins : Int32} (h : GaT fq b e k n0 i n ins) (hX : X = i) (hb : b ≤ i) (hie : i < e) (w : ¬ b01 (isW (fq X)) = 0) (wi : ins = 0) (hk : k ≤ n + 1) : GaT fq b e k n0 (i + 1) n (b01 (isW (fq X))) := fun c => by
  have h3 := (h.new hX hb w wi c).1
  have h4 := tokN_mono (fun j => fq (b + j)) (show i + 1 - b ≤ e - b by omega)
  exfalso
  omega
theorem oct256 : ∀ j, j < 256 → ((nI j).toUInt32 % 65536).toInt32 = nI j := by decide +kernel
theorem octC (w : Int64) (i : Nat) : vp_nar .char (((oct w i).toUInt32 % 65536).toInt32) = oct w i := by
  obtain ⟨j, hj, e⟩ := pk_andE (((w.toUInt64 >>> ((8 * nI i).toInt64.toUInt64 &&& Int64.toUInt64 63)).toInt64).toInt32) (m := 255) 8 (by decide)
  have e9 : oct w i = nI j := e
  rw [e9, pk_vc]
  exact oct256 j hj
theorem tokN_eq {a b : Nat → Int32} : ∀ {n : Nat}, (∀ j, j < n → a j = b j) → tokN a n = tokN b n := by
  intro n
  induction n with
  | zero => intro _; rfl
  | succ n ih =>
    intro h
    rw [tokN, tokN, ih (fun j hj => h j (by omega)), h n (by omega), h (n - 1) (by omega)]
theorem tokN_pos (t : Nat → Int32) : ∀ i, isW (t i) = true → 1 ≤ tokN t (i + 1) := by
  intro i
  induction i with
  | zero => intro h; rw [tokN_y h (Or.inl rfl)]; omega
  | succ i ih =>
    intro h
    cases hp : isW (t i) with
    | false => rw [tokN_y h (Or.inr (by rw [Nat.add_sub_cancel]; exact hp))]; omega
    | true => rw [tokN_n (Or.inr ⟨by omega, by rw [Nat.add_sub_cancel]; exact hp⟩)]; exact ih hp
/-! TIER F: the tokens of a text, letter by letter -/
def lowc (c : Int32) : Int32 := if ¬ c < 65 ∧ ¬ 90 < c then c + 32 else c
/-- how many of the first letters are in words -/
def wN (t : Nat → Int32) : Nat → Nat
  | 0 => 0
  | i + 1 => wN t i + (if isW (t i) = true then 1 else 0)
/-- the length of token s, when the first i letters are read -/
def tkL (t : Nat → Int32) : Nat → Nat → Nat
  | 0, _ => 0
  | i + 1, s => tkL t i s + (if isW (t i) = true ∧ s + 1 = tokN t (i + 1) then 1 else 0)
/-- its letter k -/
def tkC (t : Nat → Int32) : Nat → Nat → Nat → Int32
  | 0, _, _ => 0
  | i + 1, s, k => if isW (t i) = true ∧ s + 1 = tokN t (i + 1) ∧ k = tkL t i s then lowc (t i) else tkC t i s k
theorem wN_n {t : Nat → Int32} {i : Nat} (h : isW (t i) = false) : wN t (i + 1) = wN t i := by rw [wN, if_neg (by rw [h]; decide), Nat.add_zero]
theorem wN_y {t : Nat → Int32} {i : Nat} (h : isW (t i) = true) : wN t (i + 1) = wN t i + 1 := by rw [wN, if_pos h]
theorem wN_le (t : Nat → Int32) : ∀ i, wN t i ≤ i := by
  intro i
  induction i with
  | zero => exact Nat.le_refl _
  | succ i ih => rw [wN]; split <;> omega
theorem tkL_n {t : Nat → Int32} {i s : Nat} (h : ¬ (isW (t i) = true ∧ s + 1 = tokN t (i + 1))) : tkL t (i + 1) s = tkL t i s := by rw [tkL, if_neg h, Nat.add_zero]
theorem tkL_y {t : Nat → Int32} {i s : Nat} (h : isW (t i) = true) (h2 : s + 1 = tokN t (i + 1)) : tkL t (i + 1) s = tkL t i s + 1 := by rw [tkL, if_pos ⟨h, h2⟩]
theorem tkC_n {t : Nat → Int32} {i s k : Nat} (h : ¬ (isW (t i) = true ∧ s + 1 = tokN t (i + 1) ∧ k = tkL t i s)) : tkC t (i + 1) s k = tkC t i s k := by rw [tkC, if_neg h]
theorem tkC_y {t : Nat → Int32} {i s : Nat} (h : isW (t i) = true) (h2 : s + 1 = tokN t (i + 1)) : tkC t (i + 1) s (tkL t i s) = lowc (t i) := by rw [tkC, if_pos ⟨h, h2, rfl⟩]
theorem tkL_0 (t : Nat → Int32) : ∀ i s, tokN t i ≤ s → tkL t i s = 0 := by
  intro i
  induction i with
  | zero => intro s _; rfl
  | succ i ih =>
    intro s hs
    have h1 := tokN_mono t (show i ≤ i + 1 by omega)
    rw [tkL_n (fun q => by omega), ih s (by omega)]
theorem tkL_eq {a b : Nat → Int32} : ∀ {n : Nat}, (∀ j, j < n → a j = b j) → ∀ s, tkL a n s = tkL b n s := by
  intro n
  induction n with
  | zero => intro _ s; rfl
  | succ n ih =>
    intro h s
    rw [tkL, tkL, ih (fun j hj => h j (by omega)) s, h n (by omega), tokN_eq (n := n + 1) h]
theorem tkC_eq {a b : Nat → Int32} : ∀ {n : Nat}, (∀ j, j < n → a j = b j) → ∀ s k, tkC a n s k = tkC b n s k := by
  intro n
  induction n with
  | zero => intro _ s k; rfl
  | succ n ih =>
    intro h s k
    rw [tkC, tkC, ih (fun j hj => h j (by omega)) s k, h n (by omega), tokN_eq (n := n + 1) h, tkL_eq (fun j hj => h j (by omega)) s]
/-- tokens s and s2 of the text are the same -/
def tkE (t : Nat → Int32) (n s s2 : Nat) : Prop := tkL t n s = tkL t n s2 ∧ ∀ k, k < tkL t n s → tkC t n s k = tkC t n s2 k
/-- how many of the first s tokens are different -/
noncomputable def tkD (t : Nat → Int32) (n : Nat) : Nat → Nat
  | 0 => 0
  | s + 1 => tkD t n s + (Classical.propDecidable (∃ s2, s2 < s ∧ tkE t n s s2)).casesOn (fun _ => 1) (fun _ => 0)
theorem tkD_y {t : Nat → Int32} {n s : Nat} (h : ∃ s2, s2 < s ∧ tkE t n s s2) : tkD t n (s + 1) = tkD t n s := by
  rw [tkD]
  cases Classical.propDecidable (∃ s2, s2 < s ∧ tkE t n s s2) with
  | isTrue _ => rfl
  | isFalse q => exact absurd h q
theorem tkD_n {t : Nat → Int32} {n s : Nat} (h : ¬ ∃ s2, s2 < s ∧ tkE t n s s2) : tkD t n (s + 1) = tkD t n s + 1 := by
  rw [tkD]
  cases Classical.propDecidable (∃ s2, s2 < s ∧ tkE t n s s2) with
  | isTrue q => exact absurd q h
  | isFalse _ => rfl
/-- the tokens that gather leaves: their starts G, their letters f; n0 of them and w0 letters were there before -/
def TkS (u : Nat → Int32) (i n0 : Nat) (f : Nat → Int32) (G : Nat → Nat) : Prop := ∀ s, s < tokN u i → G (n0 + s + 1) = G (n0 + s) + tkL u i s ∧ ∀ k, k < tkL u i s → f (G (n0 + s) + k) = tkC u i s k
theorem TkS.no {u : Nat → Int32} {i n0 : Nat} {f : Nat → Int32} {G : Nat → Nat} (h : TkS u i n0 f G) (w : isW (u i) = false) : TkS u (i + 1) n0 f G := fun s hs => by
  rw [tokN_n (Or.inl w)] at hs
  have e1 : tkL u (i + 1) s = tkL u i s := tkL_n (fun q => by rw [w] at q; exact absurd q.1 (by decide))
  obtain ⟨h1, h2⟩ := h s hs
  refine ⟨by rw [e1]; exact h1, fun k hk => ?_⟩
  rw [e1] at hk
  rw [tkC_n (fun q => by rw [w] at q; exact absurd q.1 (by decide))]
  exact h2 k hk
/-- one letter more in the last token (n tokens, the last has one at least) -/
theorem TkS.letter {u : Nat → Int32} {i n0 n : Nat} {f : Nat → Int32} {G : Nat → Nat} (h : TkS u i n0 f G) (w : isW (u i) = true) (hp : ¬ i = 0 ∧ isW (u (i - 1)) = true) (hn : n = n0 + tokN u i) (hpos : 1 ≤ tokN u i) (mono : ∀ s, s < n → G s ≤ G (s + 1)) :
    TkS u (i + 1) n0 (upd f (G n) (lowc (u i))) (fun s => if s = n then G n + 1 else G s) := fun s hs => by
  have et : tokN u (i + 1) = tokN u i := tokN_n (Or.inr hp)
  rw [et] at hs
  have mm : ∀ a b, a ≤ b → b ≤ n → G a ≤ G b := fun a b hab hb => by
    obtain ⟨d, rfl⟩ : ∃ d, b = a + d := ⟨b - a, by omega⟩
    clear hab
    induction d with
    | zero => exact Nat.le_refl _
    | succ d ih => exact Nat.le_trans (ih (by omega)) (mono (a + d) (by omega))
  obtain ⟨h1, h2⟩ := h s hs
  have n1 : ¬ n0 + s = n := by omega
  have hle := mm (n0 + s + 1) n (by omega) (Nat.le_refl _)
  simp only [if_neg n1]
  by_cases q : s + 1 = tokN u i
  · have n2 : n0 + s + 1 = n := by omega
    have e1 : tkL u (i + 1) s = tkL u i s + 1 := tkL_y w (by rw [et]; exact q)
    rw [if_pos n2, e1]
    rw [n2] at h1
    refine ⟨by omega, fun k hk => ?_⟩
    by_cases qk : k = tkL u i s
    · subst qk
      rw [tkC_y w (by rw [et]; exact q), ← h1]
      exact pk_us
    · rw [tkC_n (fun z => qk z.2.2)]
      have hne : ¬ G (n0 + s) + k = G n := by omega
      rw [pk_un hne]
      exact h2 k (by omega)
  · have n2 : ¬ n0 + s + 1 = n := by omega
    have e1 : tkL u (i + 1) s = tkL u i s := tkL_n (fun z => q (by rw [← et]; exact z.2))
    rw [if_neg n2, e1]
    refine ⟨h1, fun k hk => ?_⟩
    rw [tkC_n (fun z => q (by rw [← et]; exact z.2.1))]
    have hne : ¬ G (n0 + s) + k = G n := by omega
    rw [pk_un hne]
    exact h2 k hk
/-- a new token with its first letter -/
theorem TkS.new {u : Nat → Int32} {i n0 n : Nat} {f : Nat → Int32} {G : Nat → Nat} (h : TkS u i n0 f G) (w : isW (u i) = true) (hp : i = 0 ∨ isW (u (i - 1)) = false) (hn : n = n0 + tokN u i) (mono : ∀ s, s < n → G s ≤ G (s + 1)) :
    TkS u (i + 1) n0 (upd f (G n) (lowc (u i))) (fun s => if s = n + 1 then G n + 1 else G s) := fun s hs => by
  have et : tokN u (i + 1) = tokN u i + 1 := tokN_y w hp
  rw [et] at hs
  have mm : ∀ a b, a ≤ b → b ≤ n → G a ≤ G b := fun a b hab hb => by
    obtain ⟨d, rfl⟩ : ∃ d, b = a + d := ⟨b - a, by omega⟩
    clear hab
    induction d with
    | zero => exact Nat.le_refl _
    | succ d ih => exact Nat.le_trans (ih (by omega)) (mono (a + d) (by omega))
  by_cases q : s = tokN u i
  · have n2 : n0 + s + 1 = n + 1 := by omega
    have n1 : ¬ n0 + s = n + 1 := by omega
    have n3 : n0 + s = n := by omega
    have e0 : tkL u i s = 0 := tkL_0 u i s (by omega)
    have e1 : tkL u (i + 1) s = 1 := by rw [tkL_y w (by rw [et]; omega), e0]
    have g1 : (if n0 + s + 1 = n + 1 then G n + 1 else G (n0 + s + 1)) = G n + 1 := if_pos n2
    have g2 : (if n0 + s = n + 1 then G n + 1 else G (n0 + s)) = G n := by rw [if_neg n1, n3]
    show (if n0 + s + 1 = n + 1 then G n + 1 else G (n0 + s + 1)) = (if n0 + s = n + 1 then G n + 1 else G (n0 + s)) + tkL u (i + 1) s ∧ ∀ k, k < tkL u (i + 1) s → upd f (G n) (lowc (u i)) ((if n0 + s = n + 1 then G n + 1 else G (n0 + s)) + k) = tkC u (i + 1) s k
    rw [g1, g2, e1]
    refine ⟨rfl, fun k hk => ?_⟩
    obtain rfl : k = 0 := by omega
    have e2 := tkC_y (s := s) w (by rw [et]; omega)
    rw [e0] at e2
    rw [e2, Nat.add_zero]
    exact pk_us
  · obtain ⟨h1, h2⟩ := h s (by omega)
    have n2 : ¬ n0 + s + 1 = n + 1 := by omega
    have n1 : ¬ n0 + s = n + 1 := by omega
    have e1 : tkL u (i + 1) s = tkL u i s := tkL_n (fun z => by have := z.2; omega)
    have hle := mm (n0 + s + 1) n (by omega) (Nat.le_refl _)
    simp only [if_neg n1, if_neg n2, e1]
    refine ⟨h1, fun k hk => ?_⟩
    rw [tkC_n (fun z => by have := z.2.1; omega)]
    have hne : ¬ G (n0 + s) + k = G n := by omega
    rw [pk_un hne]
    exact h2 k hk
/-- the class's way to a small letter -/
theorem low128 : ∀ b, b < 128 → ¬ nI b < 65 → ¬ 90 < nI b → vp_nar .char (((nI b - 65 + 97).toUInt32 % 65536).toInt32) = lowc (nI b) := by decide +kernel
theorem low128n : ∀ b, b < 128 → (nI b < 65 ∨ 90 < nI b) → vp_nar .char (nI b) = lowc (nI b) := by decide +kernel
theorem wN_mono (t : Nat → Int32) {i j : Nat} (h : i ≤ j) : wN t i ≤ wN t j := by
  obtain ⟨d, rfl⟩ : ∃ d, j = i + d := ⟨j - i, by omega⟩
  clear h
  induction d with
  | zero => exact Nat.le_refl _
  | succ d ih =>
    have h1 : wN t (i + d) ≤ wN t (i + (d + 1)) := by
      show wN t (i + d) ≤ wN t (i + d + 1)
      rw [wN]
      exact Nat.le_add_right _ _
    exact Nat.le_trans ih h1
/-- gather at the letter i: the tokens' starts and letters, if there is room for all -/
def GaX (fq : Nat → Int32) (b e k m n0 w0 : Nat) (f0 g0 : Nat → Int32) (i n : Nat) (f g : Nat → Int32) : Prop :=
  (n0 + tokN (fun j => fq (b + j)) (e - b) < k ∧ w0 + wN (fun j => fq (b + j)) (e - b) ≤ m ∧ ∀ j, b ≤ j → j < e → ∃ c, c < 128 ∧ fq j = nI c) →
    ∃ G : Nat → Nat, (∀ s, s ≤ n → g s = nI (G s)) ∧ (∀ s, s < n → G s ≤ G (s + 1)) ∧ G n0 = w0 ∧ G n = w0 + wN (fun j => fq (b + j)) (i - b) ∧ TkS (fun j => fq (b + j)) (i - b) n0 f G ∧ (∀ s, s ≤ n0 → g s = g0 s) ∧ ∀ j, j < w0 → f j = f0 j
theorem GaX.no {fq : Nat → Int32} {b e k m n0 w0 i n X : Nat} {f0 g0 f g : Nat → Int32} (h : GaX fq b e k m n0 w0 f0 g0 i n f g) (hX : X = i) (hb : b ≤ i) (w : b01 (isW (fq X)) = 0) : GaX fq b e k m n0 w0 f0 g0 (i + 1) n f g := fun c => by
  subst hX
  obtain ⟨G, h1, h2, h3, h4, h5, h6⟩ := h c
  have w1 := b01_f0 w
  have e1 : X + 1 - b = (X - b) + 1 := by omega
  have e2 : b + (X - b) = X := by omega
  have w2 : isW ((fun j => fq (b + j)) (X - b)) = false := by show isW (fq (b + (X - b))) = false; rw [e2]; exact w1
  refine ⟨G, h1, h2, h3, ?_, ?_, h6⟩
  · rw [e1, wN_n (t := fun j => fq (b + j)) (i := X - b) w2]; exact h4
  · rw [e1]; exact h5.no w2
theorem GaX.ins {fq : Nat → Int32} {b e k m n0 w0 i n X : Nat} {f0 g0 f g f' g' : Nat → Int32} {ins : Int32} (h : GaX fq b e k m n0 w0 f0 g0 i n f g) (T : GaT fq b e k n0 i n ins) (hX : X = i) (hb : b ≤ i) (hie : i < e) (w : ¬ b01 (isW (fq X)) = 0) (wi : ¬ ins = 0) (hm : m < 2 ^ 31)
    (a : ∀ j c, j < m → c < 128 → g n = nI j → fq X = nI c → f' = upd f j (lowc (fq X)) ∧ g' = upd g n (nI (j + 1))) : GaX fq b e k m n0 w0 f0 g0 (i + 1) n f' g' := fun c => by
  subst hX
  obtain ⟨G, h1, h2, h3, h4, h5, h6, h7⟩ := h c
  obtain ⟨t1, t2⟩ := T c.1
  have w1 := b01_t0 w
  have e1 : X + 1 - b = (X - b) + 1 := by omega
  have e2 : b + (X - b) = X := by omega
  have w2 : isW ((fun j => fq (b + j)) (X - b)) = true := by show isW (fq (b + (X - b))) = true; rw [e2]; exact w1
  have q : (decide (b < X) && isW (fq (X - 1))) = true := b01_t0 (fun z => wi (t2.trans z))
  rw [Bool.and_eq_true, decide_eq_true_eq] at q
  have e3 : b + (X - b - 1) = X - 1 := by have := q.1; omega
  have hp : ¬ X - b = 0 ∧ isW ((fun j => fq (b + j)) (X - b - 1)) = true := ⟨by have := q.1; omega, by show isW (fq (b + (X - b - 1))) = true; rw [e3]; exact q.2⟩
  have hw := wN_mono (fun j => fq (b + j)) (show (X - b) + 1 ≤ e - b by omega)
  rw [wN_y (t := fun j => fq (b + j)) (i := X - b) w2] at hw
  have hG : G n < m := by have := c.2.1; omega
  obtain ⟨cc, hc1, hc2⟩ := c.2.2 X hb hie
  obtain ⟨rfl, rfl⟩ := a (G n) cc hG hc1 (h1 n (Nat.le_refl _)) hc2
  have hpos : 1 ≤ tokN (fun j => fq (b + j)) (X - b) := by
    have := tokN_pos (fun j => fq (b + j)) (X - b - 1) hp.2
    rw [show X - b - 1 + 1 = X - b by have := q.1; omega] at this
    exact this
  have hn0 : n0 < n := by omega
  refine ⟨fun s => if s = n then G n + 1 else G s, fun s hs => ?_, fun s hs => ?_, ?_, ?_, ?_, fun s hs => ?_, fun j hj => ?_⟩
  · dsimp only
    by_cases z : s = n
    · subst z; rw [pk_us, if_pos rfl]
    · rw [pk_un z, if_neg z]; exact h1 s hs
  · dsimp only
    have z : ¬ s = n := by omega
    rw [if_neg z]
    by_cases z2 : s + 1 = n
    · rw [if_pos z2]; have := h2 s hs; rw [z2] at this; omega
    · rw [if_neg z2]; exact h2 s hs
  · dsimp only
    rw [if_neg (by omega)]; exact h3
  · dsimp only
    rw [if_pos rfl, e1, wN_y (t := fun j => fq (b + j)) (i := X - b) w2]; omega
  · have z := h5.letter (n := n) w2 hp t1 hpos h2
    rw [e1]
    rw [e2] at z
    exact z
  · rw [pk_un (show ¬ s = n by omega)]; exact h6 s hs
  · have z : w0 ≤ G n := by omega
    rw [pk_un (show ¬ j = G n by omega)]; exact h7 j hj
theorem GaX.new {fq : Nat → Int32} {b e k m n0 w0 i n X : Nat} {f0 g0 f g f' g' : Nat → Int32} {ins : Int32} (h : GaX fq b e k m n0 w0 f0 g0 i n f g) (T : GaT fq b e k n0 i n ins) (hX : X = i) (hb : b ≤ i) (hie : i < e) (w : ¬ b01 (isW (fq X)) = 0) (wi : ins = 0) (hm : m < 2 ^ 31)
    (a : ∀ j c, j < m → c < 128 → upd g (n + 1) (g n) (n + 1) = nI j → fq X = nI c → f' = upd f j (lowc (fq X)) ∧ g' = upd (upd g (n + 1) (g n)) (n + 1) (nI (j + 1))) : GaX fq b e k m n0 w0 f0 g0 (i + 1) (n + 1) f' g' := fun c => by
  subst hX
  obtain ⟨G, h1, h2, h3, h4, h5, h6, h7⟩ := h c
  obtain ⟨t1, t2⟩ := T c.1
  have w1 := b01_t0 w
  have q := b01_f0 (t2.symm.trans wi)
  have e1 : X + 1 - b = (X - b) + 1 := by omega
  have e2 : b + (X - b) = X := by omega
  have w2 : isW ((fun j => fq (b + j)) (X - b)) = true := by show isW (fq (b + (X - b))) = true; rw [e2]; exact w1
  have hp : X - b = 0 ∨ isW ((fun j => fq (b + j)) (X - b - 1)) = false := by
    by_cases e5 : b < X
    · rw [decide_eq_true e5, Bool.true_and] at q
      have e6 : b + (X - b - 1) = X - 1 := by omega
      refine Or.inr ?_
      show isW (fq (b + (X - b - 1))) = false
      rw [e6]
      exact q
    · exact Or.inl (by omega)
  have hw := wN_mono (fun j => fq (b + j)) (show (X - b) + 1 ≤ e - b by omega)
  rw [wN_y (t := fun j => fq (b + j)) (i := X - b) w2] at hw
  have hG : G n < m := by have := c.2.1; omega
  obtain ⟨cc, hc1, hc2⟩ := c.2.2 X hb hie
  obtain ⟨rfl, rfl⟩ := a (G n) cc hG hc1 (pk_us.trans (h1 n (Nat.le_refl _))) hc2
  refine ⟨fun s => if s = n + 1 then G n + 1 else G s, fun s hs => ?_, fun s hs => ?_, ?_, ?_, ?_, fun s hs => ?_, fun j hj => ?_⟩
  · dsimp only
    by_cases z : s = n + 1
    · subst z; rw [pk_us, if_pos rfl]
    · rw [pk_un z, pk_un z, if_neg z]; exact h1 s (by omega)
  · dsimp only
    have z : ¬ s = n + 1 := by omega
    rw [if_neg z]
    by_cases z2 : s + 1 = n + 1
    · rw [if_pos z2]
      have z3 : s = n := by omega
      subst z3
      omega
    · rw [if_neg z2]; exact h2 s (by omega)
  · dsimp only
    rw [if_neg (by omega)]; exact h3
  · dsimp only
    rw [if_pos rfl, e1, wN_y (t := fun j => fq (b + j)) (i := X - b) w2]; omega
  · have z := h5.new (n := n) w2 hp t1 h2
    rw [e1]
    rw [e2] at z
    exact z
  · rw [pk_un (show ¬ s = n + 1 by omega), pk_un (show ¬ s = n + 1 by omega)]; exact h6 s hs
  · have z : w0 ≤ G n := by omega
    rw [pk_un (show ¬ j = G n by omega)]; exact h7 j hj
theorem GaX.full {fq : Nat → Int32} {b e k m n0 w0 i n X : Nat} {f0 g0 f g : Nat → Int32} {ins : Int32} (_ : GaX fq b e k m n0 w0 f0 g0 i n f g) (T : GaT fq b e k n0 i n ins) (hX : X = i) (hb : b ≤ i) (hie : i < e) (w : ¬ b01 (isW (fq X)) = 0) (wi : ins = 0) (hk : k ≤ n + 1) : GaX fq b e k m n0 w0 f0 g0 (i + 1) n f g := fun c => by
  have h3 := (T.new hX hb w wi c.1).1
  have h4 := tokN_mono (fun j => fq (b + j)) (show i + 1 - b ≤ e - b by omega)
  have := c.1
  exfalso
  omega
theorem GaX.zero {fq : Nat → Int32} {b e k m n w0 : Nat} {f g : Nat → Int32} {G : Nat → Nat} (h1 : ∀ s, s ≤ n → g s = nI (G s)) (h2 : ∀ s, s < n → G s ≤ G (s + 1)) (h3 : G n = w0) : GaX fq b e k m n w0 f g b n f g := fun _ => ⟨G, h1, h2, h3, by rw [Nat.sub_self]; exact h3, (fun s hs => absurd hs (by rw [Nat.sub_self]; exact Nat.not_lt_zero _)), fun _ _ => rfl, fun _ _ => rfl⟩
set_option maxHeartbeats 400000 in
theorem g_isWord {G : xw_G} {F L : Nat} {h : xw_A} {c : Int32} (hF : 1 ≤ F) (hL : 20 ≤ L) :
    xw_Met G m_Shelf_isWord F L 0 0 [.int c] h (fun v h' => v = some (.int (b01 (isW c))) ∧ h = h') (fun _ _ => False) := by
  refine xw_Met.of rfl (by decide) (Nat.le_of_ble_eq_true rfl) ?_
  refine s_Shelf_isWord_0 (fun z_1 => ?_) (fun z_2 => ?_)
  · skip
    refine s_Shelf_isWord_12 (fun z_3 => ?_) (fun z_4 => ?_)
    · skip
      refine s_Shelf_isWord_24 (fun z_5 => ?_) (fun z_6 => ?_)
      · skip
        refine s_Shelf_isWord_40 ?_
        refine s_Shelf_isWord_41 rfl ?_
        exact ⟨congrArg (fun z => some (Value.int z)) (by simp [isW, b01, *]), rfl⟩
      · skip
        refine s_Shelf_isWord_30 (fun z_7 => ?_) (fun z_8 => ?_)
        · skip
          refine s_Shelf_isWord_40 ?_
          refine s_Shelf_isWord_41 rfl ?_
          exact ⟨congrArg (fun z => some (Value.int z)) (by simp [isW, b01, *]), rfl⟩
        · skip
          refine s_Shelf_isWord_36 ?_
          refine s_Shelf_isWord_41 rfl ?_
          exact ⟨congrArg (fun z => some (Value.int z)) (by simp [isW, b01, *]), rfl⟩
    · skip
      refine s_Shelf_isWord_18 (fun z_9 => ?_) (fun z_10 => ?_)
      · skip
        refine s_Shelf_isWord_36 ?_
        refine s_Shelf_isWord_41 rfl ?_
        exact ⟨congrArg (fun z => some (Value.int z)) (by simp [isW, b01, *]), rfl⟩
      · skip
        refine s_Shelf_isWord_24 (fun z_11 => ?_) (fun z_12 => ?_)
        · skip
          refine s_Shelf_isWord_40 ?_
          refine s_Shelf_isWord_41 rfl ?_
          exact ⟨congrArg (fun z => some (Value.int z)) (by simp [isW, b01, *]), rfl⟩
        · skip
          refine s_Shelf_isWord_30 (fun z_13 => ?_) (fun z_14 => ?_)
          · skip
            refine s_Shelf_isWord_40 ?_
            refine s_Shelf_isWord_41 rfl ?_
            exact ⟨congrArg (fun z => some (Value.int z)) (by simp [isW, b01, *]), rfl⟩
          · skip
            refine s_Shelf_isWord_36 ?_
            refine s_Shelf_isWord_41 rfl ?_
            exact ⟨congrArg (fun z => some (Value.int z)) (by simp [isW, b01, *]), rfl⟩
  · skip
    refine s_Shelf_isWord_6 (fun z_15 => ?_) (fun z_16 => ?_)
    · skip
      refine s_Shelf_isWord_36 ?_
      refine s_Shelf_isWord_41 rfl ?_
      exact ⟨congrArg (fun z => some (Value.int z)) (by simp [isW, b01, *]), rfl⟩
    · skip
      refine s_Shelf_isWord_12 (fun z_17 => ?_) (fun z_18 => ?_)
      · skip
        refine s_Shelf_isWord_24 (fun z_19 => ?_) (fun z_20 => ?_)
        · skip
          refine s_Shelf_isWord_40 ?_
          refine s_Shelf_isWord_41 rfl ?_
          exact ⟨congrArg (fun z => some (Value.int z)) (by simp [isW, b01, *]), rfl⟩
        · skip
          refine s_Shelf_isWord_30 (fun z_21 => ?_) (fun z_22 => ?_)
          · skip
            refine s_Shelf_isWord_40 ?_
            refine s_Shelf_isWord_41 rfl ?_
            exact ⟨congrArg (fun z => some (Value.int z)) (by simp [isW, b01, *]), rfl⟩
          · skip
            refine s_Shelf_isWord_36 ?_
            refine s_Shelf_isWord_41 rfl ?_
            exact ⟨congrArg (fun z => some (Value.int z)) (by simp [isW, b01, *]), rfl⟩
      · skip
        refine s_Shelf_isWord_18 (fun z_23 => ?_) (fun z_24 => ?_)
        · skip
          refine s_Shelf_isWord_36 ?_
          refine s_Shelf_isWord_41 rfl ?_
          exact ⟨congrArg (fun z => some (Value.int z)) (by simp [isW, b01, *]), rfl⟩
        · skip
          refine s_Shelf_isWord_24 (fun z_25 => ?_) (fun z_26 => ?_)
          · skip
            refine s_Shelf_isWord_40 ?_
            refine s_Shelf_isWord_41 rfl ?_
            exact ⟨congrArg (fun z => some (Value.int z)) (by simp [isW, b01, *]), rfl⟩
          · skip
            refine s_Shelf_isWord_30 (fun z_27 => ?_) (fun z_28 => ?_)
            · skip
              refine s_Shelf_isWord_40 ?_
              refine s_Shelf_isWord_41 rfl ?_
              exact ⟨congrArg (fun z => some (Value.int z)) (by simp [isW, b01, *]), rfl⟩
            · skip
              refine s_Shelf_isWord_36 ?_
              refine s_Shelf_isWord_41 rfl ?_
              exact ⟨congrArg (fun z => some (Value.int z)) (by simp [isW, b01, *]), rfl⟩
set_option maxHeartbeats 400000 in
theorem g_addLetter {G : xw_G} {F L : Nat} {h : xw_A} {c : Int32} {a l z m k n : Nat} {f g : Nat → Int32} (K : TokC a l z m k n f g h) (hF : 1 ≤ F) (hL : 20 ≤ L) :
    xw_Met G m_Tokens_addLetter F L 0 0 [.ref a, .int c] h (fun v h' => v = none ∧ (∃ f' g' : Nat → Int32, TokC a l z m k n f' g' h' ∧ ∀ j b, j < m → b < 128 → g n = nI j → c = nI b → f' = upd f j (lowc c) ∧ g' = upd g n (nI (j + 1))) ∧ FrO [l, z] h h') (fun _ _ => False) := by
  refine xw_Met.of rfl (by decide) (Nat.le_of_ble_eq_true rfl) ?_
  obtain ⟨e_a, e_l, e_z, hnk, hm, hk, hG⟩ := K
  obtain ⟨j, hj, hjl⟩ := hG.at (Nat.le_refl n)
  have hjj : g (nI n).toNatClampNeg = nI j := by rw [nI_clamp (by omega)]; exact hj
  have r0 : FrO [l, z] h h := FrO.rf
  refine s_Tokens_addLetter_0 e_a e_z (vp_in_nI hnk (by omega)) e_l (fun z_1 => ?_) (fun z_2 => ?_)
  · skip
    refine s_Tokens_addLetter_61 ?_
    exact ⟨rfl, ⟨f, g, ⟨e_a, e_l, e_z, hnk, hm, hk, hG⟩, fun j9 b9 hj9 hb9 e9 ec => by
        have q := (nI_eq (a := j9) (b := j) (by omega) (by omega)).mp (e9.symm.trans hj)
        exact absurd z_1 (by rw [hjj]; exact nI_ge (b := m) (show j < m by omega) (by omega))⟩, r0⟩
  · skip
    rw [hjj]
    have hjm : j < m := by rw [hjj] at z_2; exact Nat.lt_of_not_le (fun q => z_2 (nI_le q (by omega)))
    refine s_Tokens_addLetter_19 (letters_a0 := some l) (starts_a0 := some z) e_a (fun z_3 => ?_) (fun z_4 => ?_)
    · skip
      refine s_Tokens_addLetter_47 ?_
      refine s_Tokens_addLetter_48 (letters_a0 := some l) e_l (vp_in_nI hjm (by omega)) e_a e_z (vp_in_nI hnk (by omega)) ?_
      refine x_u2 (fun h_5 e_6 f_7 h_8 e_9 f_10 => ?_)
      have e_11 := (f_7 a (xw_neC e_a e_l (by simp))).trans e_a
      have e_12 := (f_7 z (xw_neC e_z e_l (by simp))).trans e_z
      have r_13 := r0.up (by simp) f_7
      have e_14 := (f_10 a (xw_neC e_11 e_12 (by simp))).trans e_11
      have e_15 := (f_10 l (xw_neC e_6 e_12 (by simp))).trans e_6
      have r_16 := r_13.up (by simp) f_10
      refine s_Tokens_addLetter_61 ?_
      exact ⟨rfl, ⟨_, _, ⟨e_14, e_15, e_9, hnk, hm, hk, by rw [nI_clamp (by omega), nI_1]; exact hG.letter hj hjm (by omega)⟩, fun j9 b9 hj9 hb9 e9 ec => by
        have q := (nI_eq (a := j9) (b := j) (by omega) (by omega)).mp (e9.symm.trans hj)
        subst q
        subst ec
        exact ⟨by rw [nI_clamp (by omega), low128n b9 hb9 (Or.inl z_3)], by rw [nI_clamp (by omega), nI_1]⟩⟩, r_16⟩
    · skip
      refine s_Tokens_addLetter_30 (fun z_17 => ?_) (fun z_18 => ?_)
      · skip
        refine s_Tokens_addLetter_47 ?_
        refine s_Tokens_addLetter_48 (letters_a0 := some l) e_l (vp_in_nI hjm (by omega)) e_a e_z (vp_in_nI hnk (by omega)) ?_
        refine x_u2 (fun h_19 e_20 f_21 h_22 e_23 f_24 => ?_)
        have e_25 := (f_21 a (xw_neC e_a e_l (by simp))).trans e_a
        have e_26 := (f_21 z (xw_neC e_z e_l (by simp))).trans e_z
        have r_27 := r0.up (by simp) f_21
        have e_28 := (f_24 a (xw_neC e_25 e_26 (by simp))).trans e_25
        have e_29 := (f_24 l (xw_neC e_20 e_26 (by simp))).trans e_20
        have r_30 := r_27.up (by simp) f_24
        refine s_Tokens_addLetter_61 ?_
        exact ⟨rfl, ⟨_, _, ⟨e_28, e_29, e_23, hnk, hm, hk, by rw [nI_clamp (by omega), nI_1]; exact hG.letter hj hjm (by omega)⟩, fun j9 b9 hj9 hb9 e9 ec => by
        have q := (nI_eq (a := j9) (b := j) (by omega) (by omega)).mp (e9.symm.trans hj)
        subst q
        subst ec
        exact ⟨by rw [nI_clamp (by omega), low128n b9 hb9 (Or.inr z_17)], by rw [nI_clamp (by omega), nI_1]⟩⟩, r_30⟩
      · skip
        refine s_Tokens_addLetter_36 ?_
        refine s_Tokens_addLetter_48 (letters_a0 := some l) e_l (vp_in_nI hjm (by omega)) e_a e_z (vp_in_nI hnk (by omega)) ?_
        refine x_u2 (fun h_31 e_32 f_33 h_34 e_35 f_36 => ?_)
        have e_37 := (f_33 a (xw_neC e_a e_l (by simp))).trans e_a
        have e_38 := (f_33 z (xw_neC e_z e_l (by simp))).trans e_z
        have r_39 := r0.up (by simp) f_33
        have e_40 := (f_36 a (xw_neC e_37 e_38 (by simp))).trans e_37
        have e_41 := (f_36 l (xw_neC e_32 e_38 (by simp))).trans e_32
        have r_42 := r_39.up (by simp) f_36
        refine s_Tokens_addLetter_61 ?_
        exact ⟨rfl, ⟨_, _, ⟨e_40, e_41, e_35, hnk, hm, hk, by rw [nI_clamp (by omega), nI_1]; exact hG.letter hj hjm (by omega)⟩, fun j9 b9 hj9 hb9 e9 ec => by
        have q := (nI_eq (a := j9) (b := j) (by omega) (by omega)).mp (e9.symm.trans hj)
        subst q
        subst ec
        exact ⟨by rw [nI_clamp (by omega), low128 b9 hb9 z_4 z_18], by rw [nI_clamp (by omega), nI_1]⟩⟩, r_42⟩
set_option maxHeartbeats 2000000 in
theorem lp_gather {G : xw_G} {F L bc bs : Nat} {pr : Option Value → xw_A → Prop} {px : String → xw_A → Prop} {h0 : xw_A} {a l z m k q N e n0 b0 w0 : Nat} {fq f0 g0 : Nat → Int32} (n_l_q : l ≠ q) (he : e ≤ N) (hN : N < 2 ^ 31) (hF : 2 ≤ F) (hL : 42 ≤ L)
    (kk : ∀ (h : xw_A) (n : Nat) (f g : Nat → Int32), n0 ≤ n → (n0 + tokN (fun j => fq (b0 + j)) (e - b0) < k → n = n0 + tokN (fun j => fq (b0 + j)) (e - b0)) → GaX fq b0 e k m n0 w0 f0 g0 e n f g → TokC a l z m k n f g h → FrO [a, l, z] h0 h → pr none h) :
    ∀ (d i : Nat) (h : xw_A) (n : Nat) (f g : Nat → Int32) (ins : Int32), i + d = e → b0 ≤ i → GaT fq b0 e k n0 i n ins → GaX fq b0 e k m n0 w0 f0 g0 i n f g → (ins = 0 ∨ ins = 1) → TokC a l z m k n f g h → h q = some (.inl (1, N, .inl fq)) → FrO [a, l, z] h0 h → n0 ≤ n → xw G m_Tokens_gather F L bc bs pr px 6 [some (.ref a), some (.ref q), none, some (.int (nI e)), some (.int ins), some (.int (nI i)), none] [] h := by
  intro d
  induction d with
  | zero =>
    intro i h n f g ins hi hb9 T9 X9 hins K e_q r0 hle
    obtain rfl : i = e := by omega
    refine s_Tokens_gather_6 (fun _ => ?_) (fun z => absurd (nI_le (Nat.le_refl _) (by omega)) z)
    exact s_Tokens_gather_98 (kk _ _ _ _ hle (fun c => (T9 c).1) X9 K r0)
  | succ d ih =>
    intro i h n f g ins hi hb9 T9 X9 hins K e_q r0 hle
    have K0 := K
    obtain ⟨e_a, e_l, e_z, hnk, hm, hk, hG⟩ := K0
    have n_q_z : q ≠ z := xw_neC e_q e_z (by simp)
    refine s_Tokens_gather_6 (fun z => absurd z (nI_ge (b := e) (show i < e by omega) (by omega))) (fun _ => ?_)
    refine s_Tokens_gather_12 e_q (vp_in_nI (by omega) (by omega)) ?_
    refine x_callSN (As := [.int (fq (nI i).toNatClampNeg)]) (rest := []) (F1 := 1) (L1 := 20) (mc := 0) (ms := 0) d_Tokens_gather_16 cN_Tokens_17 (g_isWord (by omega) (by omega)) ⟨by omega, by show 8 + (1 + 11) + 20 ≤ _; omega⟩ ⟨by omega, by omega⟩ (Nat.le_of_ble_eq_true rfl) (fun v_2 h_1 p_3 => ?_)
    obtain ⟨rfl, rfl⟩ := p_3
    refine s_Tokens_gather_19 (fun z_4 => ?_) (fun z_5 => ?_)
    · skip
      refine s_Tokens_gather_88 ?_
      rw [nI_1]
      exact ih (i + 1) _ _ _ _ _ (by omega) (by omega) (T9.no (nI_clamp (show i < 2 ^ 31 by omega)) hb9 z_4) (X9.no (nI_clamp (show i < 2 ^ 31 by omega)) hb9 z_4) (by unfold b01; split <;> simp) K e_q r0 hle
    · skip
      refine s_Tokens_gather_26 (fun z_6 => ?_) (fun z_7 => ?_)
      · skip
        refine s_Tokens_gather_45 (fun z_8 => ?_) (fun z => absurd z z_6)
        refine s_Tokens_gather_80 e_q (vp_in_nI (by omega) (by omega)) ?_
        refine x_callV (As := [.int (fq (nI i).toNatClampNeg)]) (b := a) (rest := []) (F1 := 1) (L1 := 20) (mc := 0) (ms := 0) d_Tokens_gather_85 cV_Tokens_27 (g_addLetter K (by omega) (by omega)) e_a ⟨by decide, rfl⟩ ⟨by omega, by show 8 + (3 + 11) + 20 ≤ _; omega⟩ ⟨by omega, by omega⟩ (Nat.le_of_ble_eq_true rfl) (fun v_15 h_14 p_16 => ?_)
        obtain ⟨rfl, ⟨f_9, g_10, K_11, ad_13⟩, fr_12⟩ := p_16
        have e_17 := fr_12 q _ (by simp only [List.mem_cons, List.not_mem_nil, or_false, not_or]; exact ⟨Ne.symm n_l_q, n_q_z⟩) e_q
        have r_18 := r0.trans (fr_12.mono (by simp))
        refine s_Tokens_gather_88 ?_
        rw [nI_1]
        exact ih (i + 1) _ _ _ _ _ (by omega) (by omega) (T9.ins (nI_clamp (show i < 2 ^ 31 by omega)) hb9 z_6) (X9.ins T9 (nI_clamp (show i < 2 ^ 31 by omega)) hb9 (by omega) z_5 z_6 (by omega) ad_13) (by unfold b01; split <;> simp) K_11 e_17 r_18 hle
      · skip
        refine s_Tokens_gather_31 (letters_a0 := some l) e_a e_z (fun z_19 => ?_) (fun z_20 => ?_)
        · skip
          refine s_Tokens_gather_88 ?_
          rw [nI_1]
          exact ih (i + 1) _ _ _ _ _ (by omega) (by omega) (T9.full (nI_clamp (show i < 2 ^ 31 by omega)) hb9 (by omega) z_5 z_7 (by rw [nI_1] at z_19; exact Nat.le_of_not_lt (fun q => absurd z_19 (nI_ge (b := k) (show n + 1 < k from q) (by omega))))) (X9.full T9 (nI_clamp (show i < 2 ^ 31 by omega)) hb9 (by omega) z_5 z_7 (by rw [nI_1] at z_19; exact Nat.le_of_not_lt (fun q => absurd z_19 (nI_ge (b := k) (show n + 1 < k from q) (by omega))))) (by unfold b01; split <;> simp) K e_q r0 hle
        · skip
          refine s_Tokens_gather_45 (fun z => absurd z_7 z) (fun z_21 => ?_)
          have hn1 : n + 1 < k := by rw [nI_1] at z_20; exact Nat.lt_of_not_le (fun q => z_20 (nI_le q (by omega)))
          have hi1 : (nI n + 1).toNatClampNeg = n + 1 := by rw [nI_1]; exact nI_clamp (by omega)
          have hi2 : (nI n + 1 - 1).toNatClampNeg = n := by rw [nI_1, nI_pred]; exact nI_clamp (by omega)
          refine s_Tokens_gather_50 (letters_a0 := some l) e_a e_z (by rw [nI_1, nI_pred]; exact vp_in_nI (by omega) (by omega)) (by rw [nI_1]; exact vp_in_nI (by omega) (by omega)) ?_
          refine x_u2 (fun h_22 e_23 f_24 h_25 e_26 f_27 => ?_)
          have e_28 := (f_24 l (xw_neC e_l e_a (by simp))).trans e_l
          have e_29 := (f_24 z (xw_neC e_z e_a (by simp))).trans e_z
          have e_30 := (f_24 q (xw_neC e_q e_a (by simp))).trans e_q
          have r_31 := r0.up (by simp) f_24
          have e_32 := (f_27 a (xw_neC e_23 e_29 (by simp))).trans e_23
          have e_33 := (f_27 l (xw_neC e_28 e_29 (by simp))).trans e_28
          have e_34 := (f_27 q (xw_neC e_30 e_29 (by simp))).trans e_30
          have r_35 := r_31.up (by simp) f_27
          rw [nI_1] at e_32
          rw [hi1, hi2] at e_26
          have K_36 : TokC a l z m k (n + 1) _ _ _ := ⟨e_32, e_33, e_26, hn1, hm, hk, hG.token⟩
          refine s_Tokens_gather_80 e_34 (vp_in_nI (by omega) (by omega)) ?_
          refine x_callV (As := [.int (fq (nI i).toNatClampNeg)]) (b := a) (rest := []) (F1 := 1) (L1 := 20) (mc := 0) (ms := 0) d_Tokens_gather_85 cV_Tokens_27 (g_addLetter K_36 (by omega) (by omega)) e_32 ⟨by decide, rfl⟩ ⟨by omega, by show 8 + (3 + 11) + 20 ≤ _; omega⟩ ⟨by omega, by omega⟩ (Nat.le_of_ble_eq_true rfl) (fun v_43 h_42 p_44 => ?_)
          obtain ⟨rfl, ⟨f_37, g_38, K_39, ad_41⟩, fr_40⟩ := p_44
          have e_45 := fr_40 q _ (by simp only [List.mem_cons, List.not_mem_nil, or_false, not_or]; exact ⟨Ne.symm n_l_q, n_q_z⟩) e_34
          have r_46 := r_35.trans (fr_40.mono (by simp))
          refine s_Tokens_gather_88 ?_
          rw [nI_1]
          exact ih (i + 1) _ _ _ _ _ (by omega) (by omega) (T9.new (nI_clamp (show i < 2 ^ 31 by omega)) hb9 z_5 z_7) (X9.new T9 (nI_clamp (show i < 2 ^ 31 by omega)) hb9 (by omega) z_5 z_7 (by omega) ad_41) (by unfold b01; split <;> simp) K_39 e_45 r_46 (by omega)
theorem GOK.two {m n : Nat} {g : Nat → Int32} (k : GOK m n g) {i : Nat} (hi : i < n) : ∃ p q, g i = nI p ∧ g (i + 1) = nI q ∧ p ≤ q ∧ q ≤ m := by
  obtain ⟨G, h1, h2⟩ := k
  exact ⟨G i, G (i + 1), (h1 i (by omega)).1, (h1 (i + 1) (by omega)).1, h2 i hi, (h1 (i + 1) (by omega)).2⟩
/-- tokens s and s2 of one object are the same -/
def sameT (f g : Nat → Int32) (s s2 : Nat) : Prop := ∃ p q p2 q2, p ≤ 96 ∧ q ≤ 96 ∧ p2 ≤ 96 ∧ q2 ≤ 96 ∧ g s = nI p ∧ g (s + 1) = nI q ∧ g s2 = nI p2 ∧ g (s2 + 1) = nI q2 ∧ q - p = q2 - p2 ∧ ∀ k, k < q - p → f (p + k) = f (p2 + k)
/-- what fits says -/
def fitT (f g f2 g2 : Nat → Int32) (i j : Nat) (b c : Int32) : Prop := ∀ p q p2 q2, p ≤ 96 → q ≤ 96 → p2 ≤ 96 → q2 ≤ 96 → g i = nI p → g (i + 1) = nI q → g2 j = nI p2 → g2 (j + 1) = nI q2 → (c = 1 ↔ (((b = 0 → q - p = q2 - p2) ∧ q - p ≤ q2 - p2) ∧ ∀ k, k < q - p → f (p + k) = f2 (p2 + k)))
theorem fitT.same {f g : Nat → Int32} {m n i j : Nat} {c : Int32} (h : fitT f g f g i j 0 c) (hG : GOK m n g) (hm : m ≤ 96) (hi : i < n) (hj : j < n) : c = 1 ↔ sameT f g i j := by
  obtain ⟨p, q, hp, hq, hpq, hqm⟩ := hG.two hi
  obtain ⟨p2, q2, hp2, hq2, hpq2, hqm2⟩ := hG.two hj
  have h9 := h p q p2 q2 (by omega) (by omega) (by omega) (by omega) hp hq hp2 hq2
  refine ⟨fun z => ?_, fun z => ?_⟩
  · obtain ⟨⟨z1, -⟩, z2⟩ := h9.mp z
    exact ⟨p, q, p2, q2, by omega, by omega, by omega, by omega, hp, hq, hp2, hq2, z1 rfl, z2⟩
  · obtain ⟨P, Q, P2, Q2, b1, b2, b3, b4, e1, e2, e3, e4, e5, e6⟩ := z
    obtain rfl : P = p := (nI_eq (by omega) (by omega)).mp (e1.symm.trans hp)
    obtain rfl : Q = q := (nI_eq (by omega) (by omega)).mp (e2.symm.trans hq)
    obtain rfl : P2 = p2 := (nI_eq (by omega) (by omega)).mp (e3.symm.trans hp2)
    obtain rfl : Q2 = q2 := (nI_eq (by omega) (by omega)).mp (e4.symm.trans hq2)
    exact h9.mpr ⟨⟨fun _ => e5, by omega⟩, e6⟩
/-- how many of the first s tokens are different -/
noncomputable def sameD (f g : Nat → Int32) : Nat → Nat
  | 0 => 0
  | s + 1 => sameD f g s + (Classical.propDecidable (∃ s2, s2 < s ∧ sameT f g s s2)).casesOn (fun _ => 1) (fun _ => 0)
theorem sameD_y {f g : Nat → Int32} {s : Nat} (h : ∃ s2, s2 < s ∧ sameT f g s s2) : sameD f g (s + 1) = sameD f g s := by
  rw [sameD]
  cases Classical.propDecidable (∃ s2, s2 < s ∧ sameT f g s s2) with
  | isTrue _ => rfl
  | isFalse q => exact absurd h q
theorem sameD_n {f g : Nat → Int32} {s : Nat} (h : ¬ ∃ s2, s2 < s ∧ sameT f g s s2) : sameD f g (s + 1) = sameD f g s + 1 := by
  rw [sameD]
  cases Classical.propDecidable (∃ s2, s2 < s ∧ sameT f g s s2) with
  | isTrue q => exact absurd q h
  | isFalse _ => rfl
theorem sameD_le (f g : Nat → Int32) : ∀ s, sameD f g s ≤ s := by
  intro s
  induction s with
  | zero => exact Nat.le_refl _
  | succ s ih =>
    by_cases h : ∃ s2, s2 < s ∧ sameT f g s s2
    · rw [sameD_y h]; omega
    · rw [sameD_n h]; omega
/-- the tokens of the text t of n letters, as gather leaves them -/
theorem same_tk {t : Nat → Int32} {n cnt m : Nat} {f g : Nat → Int32} {G : Nat → Nat} (h1 : ∀ s, s ≤ cnt → g s = nI (G s)) (hm : ∀ s, s ≤ cnt → G s ≤ m) (m96 : m ≤ 96) (hc : cnt = tokN t n) (hT : TkS t n 0 f G) {s s2 : Nat} (hs : s < cnt) (hs2 : s2 < cnt) : sameT f g s s2 ↔ tkE t n s s2 := by
  obtain ⟨a1, a2⟩ := hT s (by omega)
  obtain ⟨b1, b2⟩ := hT s2 (by omega)
  simp only [Nat.zero_add] at a1 a2 b1 b2
  have l1 := hm s (by omega)
  have l2 := hm (s + 1) (by omega)
  have l3 := hm s2 (by omega)
  have l4 := hm (s2 + 1) (by omega)
  refine ⟨fun z => ?_, fun z => ?_⟩
  · obtain ⟨P, Q, P2, Q2, c1, c2, c3, c4, e1, e2, e3, e4, e5, e6⟩ := z
    obtain rfl : P = G s := (nI_eq (by omega) (by omega)).mp (e1.symm.trans (h1 s (by omega)))
    obtain rfl : Q = G (s + 1) := (nI_eq (by omega) (by omega)).mp (e2.symm.trans (h1 (s + 1) (by omega)))
    obtain rfl : P2 = G s2 := (nI_eq (by omega) (by omega)).mp (e3.symm.trans (h1 s2 (by omega)))
    obtain rfl : Q2 = G (s2 + 1) := (nI_eq (by omega) (by omega)).mp (e4.symm.trans (h1 (s2 + 1) (by omega)))
    have e7 : tkL t n s = tkL t n s2 := by omega
    exact ⟨e7, fun k hk => by rw [← a2 k hk, ← b2 k (by omega)]; exact e6 k (by omega)⟩
  · obtain ⟨z1, z2⟩ := z
    exact ⟨G s, G (s + 1), G s2, G (s2 + 1), by omega, by omega, by omega, by omega, h1 s (by omega), h1 (s + 1) (by omega), h1 s2 (by omega), h1 (s2 + 1) (by omega), by omega, fun k hk => by rw [a2 k (by omega), b2 k (by omega)]; exact z2 k (by omega)⟩
theorem sameD_tk {t : Nat → Int32} {n cnt m : Nat} {f g : Nat → Int32} {G : Nat → Nat} (h1 : ∀ s, s ≤ cnt → g s = nI (G s)) (hm : ∀ s, s ≤ cnt → G s ≤ m) (m96 : m ≤ 96) (hc : cnt = tokN t n) (hT : TkS t n 0 f G) : ∀ s, s ≤ cnt → sameD f g s = tkD t n s := by
  intro s
  induction s with
  | zero => intro _; rfl
  | succ s ih =>
    intro hs
    have hi : (∃ s2, s2 < s ∧ sameT f g s s2) ↔ (∃ s2, s2 < s ∧ tkE t n s s2) :=
      ⟨fun ⟨x, hx, q⟩ => ⟨x, hx, (same_tk h1 hm m96 hc hT (by omega) (by omega)).mp q⟩, fun ⟨x, hx, q⟩ => ⟨x, hx, (same_tk h1 hm m96 hc hT (by omega) (by omega)).mpr q⟩⟩
    by_cases h : ∃ s2, s2 < s ∧ tkE t n s s2
    · rw [tkD_y h, sameD_y (hi.mpr h)]; exact ih (by omega)
    · rw [tkD_n h, sameD_n (fun z => h (hi.mp z)), ih (by omega)]
theorem GaX.dif {fq : Nat → Int32} {e k m n : Nat} {f0 g0 f g : Nat → Int32} (h : GaX fq 0 e k m 0 0 f0 g0 e n f g) (hn : n = tokN fq e) (hk : tokN fq e < k) (hm : e ≤ m) (m96 : m ≤ 96) (hl : ∀ j, j < e → ∃ c, c < 128 ∧ fq j = nI c) : tkD fq e (tokN fq e) = sameD f g n := by
  have e9 : (fun j => fq (0 + j)) = fq := funext (fun j => by rw [Nat.zero_add])
  have hw := wN_le fq e
  have h' := h ⟨by rw [e9, Nat.sub_zero]; omega, by rw [e9, Nat.sub_zero]; omega, fun j _ hj => hl j hj⟩
  rw [e9, Nat.sub_zero] at h'
  obtain ⟨G, h1, h2, -, h4, h5, -⟩ := h'
  have mm : ∀ d s, s + d = n → G s ≤ G n := fun d => by
    induction d with
    | zero => intro s hs; rw [show s = n by omega]; exact Nat.le_refl _
    | succ d ih => intro s hs; exact Nat.le_trans (h2 s (by omega)) (ih (s + 1) (by omega))
  have q := sameD_tk (t := fq) (n := e) (cnt := n) (m := m) h1 (fun s hs => by have := mm (n - s) s (by omega); omega) m96 hn h5 n (Nat.le_refl _)
  rw [q, hn]
/-- the tokens a, of which c are different; they are never changed -/
def DiA (A : List Nat) (h : xw_A) (a c : Nat) : Prop := a ∉ A ∧ ∃ (l z m k n : Nat) (f g : Nat → Int32), l ∉ A ∧ z ∉ A ∧ TokC a l z m k n f g h ∧ c = sameD f g n
theorem DiA.fr {A B : List Nat} {h h' : xw_A} {a c : Nat} (k : DiA A h a c) (r : FrO B h h') (hB : ∀ q ∈ B, q ∈ A) : DiA A h' a c := by
  obtain ⟨h0, l, z, m, kk, n, f, g, h1, h2, ⟨e1, e2, e3, e4⟩, hc⟩ := k
  exact ⟨h0, l, z, m, kk, n, f, g, h1, h2, ⟨r _ _ (fun q => h0 (hB _ q)) e1, r _ _ (fun q => h1 (hB _ q)) e2, r _ _ (fun q => h2 (hB _ q)) e3, e4⟩, hc⟩
theorem DiA.inj {A : List Nat} {h : xw_A} {a c c2 : Nat} (k : DiA A h a c) (k2 : DiA A h a c2) : c = c2 := by
  obtain ⟨-, l, z, m, kk, n, f, g, -, -, ⟨e1, e2, e3, e4, e5, e6, -⟩, rfl⟩ := k
  obtain ⟨-, l2, z2, m2, kk2, n2, f2, g2, -, -, ⟨d1, d2, d3, d4, d5, d6, -⟩, rfl⟩ := k2
  have q := e1.symm.trans d1
  simp only [Option.some.injEq, Sum.inr.injEq, Prod.mk.injEq, List.cons.injEq, Value.int.injEq, Value.ref.injEq, true_and, and_true] at q
  obtain ⟨rfl, rfl, q3⟩ := q
  obtain rfl : n = n2 := (nI_eq (by omega) (by omega)).mp q3
  have q := e2.symm.trans d2
  simp only [Option.some.injEq, Sum.inl.injEq, Prod.mk.injEq, true_and] at q
  obtain ⟨rfl, rfl⟩ := q
  have q := e3.symm.trans d3
  simp only [Option.some.injEq, Sum.inl.injEq, Prod.mk.injEq, true_and] at q
  obtain ⟨rfl, rfl⟩ := q
  rfl
theorem TokC.fr {B : List Nat} {h h' : xw_A} {a l z m k n : Nat} {f g : Nat → Int32} (K : TokC a l z m k n f g h) (r : FrO B h h') (na : a ∉ B) (nl : l ∉ B) (nz : z ∉ B) : TokC a l z m k n f g h' := ⟨r _ _ na K.1, r _ _ nl K.2.1, r _ _ nz K.2.2.1, K.2.2.2⟩
set_option maxHeartbeats 400000 in
theorem g_lengthOf {G : xw_G} {F L : Nat} {h : xw_A} {i p q : Nat} {a l z m k n : Nat} {f g : Nat → Int32} (K : TokC a l z m k n f g h) (hi : i < n) (hp : g i = nI p) (hq : g (i + 1) = nI q) (hpq : p ≤ q) (hF : 1 ≤ F) (hL : 20 ≤ L) :
    xw_Met G m_Tokens_lengthOf F L 0 0 [.ref a, .int (nI i)] h (fun v h' => v = some (.int (nI (q - p))) ∧ h = h') (fun _ _ => False) := by
  refine xw_Met.of rfl (by decide) (Nat.le_of_ble_eq_true rfl) ?_
  obtain ⟨e_a, e_l, e_z, hnk, hm, hk, hG⟩ := K
  refine s_Tokens_lengthOf_0 (letters_a0 := some l) e_a e_z (by rw [nI_1]; exact vp_in_nI (by omega) (by omega)) (vp_in_nI (by omega) (by omega)) ?_
  exact ⟨congrArg (fun z => some (Value.int z)) (by rw [nI_1, nI_clamp (by omega), nI_clamp (by omega), hp, hq, pk_sub hpq]), rfl⟩
set_option maxHeartbeats 1000000 in
theorem lp_fits {G : xw_G} {F L bc bs : Nat} {pr : Option Value → xw_A → Prop} {px : String → xw_A → Prop} {h : xw_A} {i j c p p2 : Nat} {a l z m k n : Nat} {f g : Nat → Int32} (K : TokC a l z m k n f g h) {a2 l2 z2 m2 k2 n2 : Nat} {f2 g2 : Nat → Int32} (K2 : TokC a2 l2 z2 m2 k2 n2 f2 g2 h) (hi : i < n) (hj : j < n2) (hp : g i = nI p) (hp2 : g2 j = nI p2) (hc : p + c ≤ m) (hc2 : p2 + c ≤ m2)
    (kk : ∀ b : Int32, ((b = 1 ∧ ∀ k, k < c → f (p + k) = f2 (p2 + k)) ∨ (b = 0 ∧ ∃ k, k < c ∧ ¬ f (p + k) = f2 (p2 + k))) → pr (some (.int b)) h) :
    ∀ d t : Nat, t + d = c → (∀ k, k < t → f (p + k) = f2 (p2 + k)) → xw G m_Tokens_fits F L bc bs pr px 38 [some (.ref a), some (.int (nI i)), some (.ref a2), some (.int (nI j)), none, some (.int (nI c)), none, some (.int (nI t))] [] h := by
  obtain ⟨e_a, e_l, e_z, hnk, hm, hk, hG⟩ := K
  obtain ⟨e_a2, e_l2, e_z2, hnk2, hm2, hk2, hG2⟩ := K2
  intro d
  induction d with
  | zero =>
    intro t ht hq
    obtain rfl : t = c := by omega
    refine s_Tokens_fits_38 (fun _ => ?_) (fun z => absurd (nI_le (Nat.le_refl _) (by omega)) z)
    exact s_Tokens_fits_84 (kk 1 (Or.inl ⟨rfl, hq⟩))
  | succ d ih =>
    intro t ht hq
    refine s_Tokens_fits_38 (fun z => absurd z (nI_ge (b := c) (show t < c by omega) (by omega))) (fun _ => ?_)
    refine s_Tokens_fits_45 e_a e_z (vp_in_nI (by omega) (by omega)) e_l (by rw [nI_clamp (by omega), hp, nI_add]; exact vp_in_nI (by omega) (by omega)) e_a2 e_z2 (vp_in_nI (by omega) (by omega)) e_l2 (by rw [nI_clamp (by omega), hp2, nI_add]; exact vp_in_nI (by omega) (by omega)) (fun z_1 => ?_) (fun z_2 => ?_)
    · skip
      refine s_Tokens_fits_78 ?_
      rw [nI_1]
      rw [nI_clamp (show i < 2 ^ 31 by omega), nI_clamp (show j < 2 ^ 31 by omega), hp, hp2, nI_add, nI_add, nI_clamp (show p + t < 2 ^ 31 by omega), nI_clamp (show p2 + t < 2 ^ 31 by omega)] at z_1
      exact ih (t + 1) (by omega) (fun k9 hk9 => by by_cases q9 : k9 = t; (rw [q9]; exact z_1); (exact hq k9 (by omega)))
    · skip
      refine s_Tokens_fits_76 ?_
      rw [nI_clamp (show i < 2 ^ 31 by omega), nI_clamp (show j < 2 ^ 31 by omega), hp, hp2, nI_add, nI_add, nI_clamp (show p + t < 2 ^ 31 by omega), nI_clamp (show p2 + t < 2 ^ 31 by omega)] at z_2
      exact kk 0 (Or.inr ⟨rfl, t, by omega, z_2⟩)
set_option maxHeartbeats 400000 in
theorem g_fits {G : xw_G} {F L : Nat} {h : xw_A} {i j : Nat} {b : Int32} {a l z m k n : Nat} {f g : Nat → Int32} (K : TokC a l z m k n f g h) {a2 l2 z2 m2 k2 n2 : Nat} {f2 g2 : Nat → Int32} (K2 : TokC a2 l2 z2 m2 k2 n2 f2 g2 h) (hi : i < n) (hj : j < n2) (hF : 2 ≤ F) (hL : 41 ≤ L) :
    xw_Met G m_Tokens_fits F L 0 0 [.ref a, .int (nI i), .ref a2, .int (nI j), .int b] h (fun v h' => (∃ c : Int32, v = some (.int c) ∧ (c = 0 ∨ c = 1) ∧ fitT f g f2 g2 i j b c) ∧ h = h') (fun _ _ => False) := by
  refine xw_Met.of rfl (by decide) (Nat.le_of_ble_eq_true rfl) ?_
  have K0 := K
  obtain ⟨e_a, e_l, e_z, hnk, hm, hk, hG⟩ := K
  obtain ⟨p, q, hp, hq, hpq, hqm⟩ := hG.two hi
  have K20 := K2
  obtain ⟨e_a2, e_l2, e_z2, hnk2, hm2, hk2, hG2⟩ := K20
  obtain ⟨p2, q2, hp2, hq2, hpq2, hqm2⟩ := hG2.two hj
  refine s_Tokens_fits_0 ?_
  refine x_callV (As := [.int (nI i)]) (b := a) (rest := []) (F1 := 1) (L1 := 20) (mc := 0) (ms := 0) d_Tokens_fits_2 cV_Tokens_31 (g_lengthOf K0 hi hp hq hpq (by omega) (by omega)) e_a ⟨by decide, rfl⟩ ⟨by omega, by show 8 + (2 + 11) + 20 ≤ _; omega⟩ ⟨by omega, by omega⟩ (Nat.le_of_ble_eq_true rfl) (fun v_2 h_1 p_3 => ?_)
  obtain ⟨rfl, rfl⟩ := p_3
  refine s_Tokens_fits_5 ?_
  refine x_callV (As := [.int (nI j)]) (b := a2) (rest := []) (F1 := 1) (L1 := 20) (mc := 0) (ms := 0) d_Tokens_fits_9 cV_Tokens_31 (g_lengthOf K2 hj hp2 hq2 hpq2 (by omega) (by omega)) e_a2 ⟨by decide, rfl⟩ ⟨by omega, by show 8 + (2 + 11) + 20 ≤ _; omega⟩ ⟨by omega, by omega⟩ (Nat.le_of_ble_eq_true rfl) (fun v_5 h_4 p_6 => ?_)
  obtain ⟨rfl, rfl⟩ := p_6
  refine s_Tokens_fits_12 (fun z_7 => ?_) (fun z_8 => ?_)
  · skip
    refine s_Tokens_fits_33 ?_
    exact ⟨⟨_, rfl, Or.inl rfl, fun P Q P2 Q2 h1 h2 h3 h4 e1 e2 e3 e4 => by obtain rfl : P = p := (nI_eq (by omega) (by omega)).mp (e1.symm.trans hp); obtain rfl : Q = q := (nI_eq (by omega) (by omega)).mp (e2.symm.trans hq); obtain rfl : P2 = p2 := (nI_eq (by omega) (by omega)).mp (e3.symm.trans hp2); obtain rfl : Q2 = q2 := (nI_eq (by omega) (by omega)).mp (e4.symm.trans hq2); exact ⟨fun y => absurd y (by decide), fun y => absurd z_7 (nI_nlt y.1.2 (by omega))⟩⟩, rfl⟩
  · skip
    refine s_Tokens_fits_21 (fun z_9 => ?_) (fun z_10 => ?_)
    · skip
      refine s_Tokens_fits_35 ?_
      have hle : q - p ≤ q2 - p2 := Nat.le_of_not_lt (fun y => z_8 (nI_lt y (by omega)))
      have hge : q2 - p2 ≤ q - p := Nat.le_of_not_lt (fun y => absurd z_9 (nI_ge (b := q2 - p2) y (by omega)))
      exact lp_fits K0 K2 hi hj hp hp2 (by omega) (by omega) (fun b9 hb => ⟨⟨b9, rfl, hb.elim (fun y => Or.inr y.1) (fun y => Or.inl y.1), fun P Q P2 Q2 h1 h2 h3 h4 e1 e2 e3 e4 => by obtain rfl : P = p := (nI_eq (by omega) (by omega)).mp (e1.symm.trans hp); obtain rfl : Q = q := (nI_eq (by omega) (by omega)).mp (e2.symm.trans hq); obtain rfl : P2 = p2 := (nI_eq (by omega) (by omega)).mp (e3.symm.trans hp2); obtain rfl : Q2 = q2 := (nI_eq (by omega) (by omega)).mp (e4.symm.trans hq2); exact ⟨fun y => ⟨⟨fun _ => by omega, hle⟩, hb.elim (fun x => x.2) (fun x => absurd (x.1.symm.trans y) (by decide))⟩, fun y => hb.elim (fun x => x.1) (fun ⟨_, k9, hk9, hne⟩ => absurd (y.2 k9 hk9) hne)⟩⟩, rfl⟩) _ 0 (Nat.zero_add _) (fun k9 hk9 => absurd hk9 (Nat.not_lt_zero _))
    · skip
      refine s_Tokens_fits_28 (fun z_11 => ?_) (fun z_12 => ?_)
      · skip
        refine s_Tokens_fits_35 ?_
        have hle : q - p ≤ q2 - p2 := Nat.le_of_not_lt (fun y => z_8 (nI_lt y (by omega)))
        exact lp_fits K0 K2 hi hj hp hp2 (by omega) (by omega) (fun b9 hb => ⟨⟨b9, rfl, hb.elim (fun y => Or.inr y.1) (fun y => Or.inl y.1), fun P Q P2 Q2 h1 h2 h3 h4 e1 e2 e3 e4 => by obtain rfl : P = p := (nI_eq (by omega) (by omega)).mp (e1.symm.trans hp); obtain rfl : Q = q := (nI_eq (by omega) (by omega)).mp (e2.symm.trans hq); obtain rfl : P2 = p2 := (nI_eq (by omega) (by omega)).mp (e3.symm.trans hp2); obtain rfl : Q2 = q2 := (nI_eq (by omega) (by omega)).mp (e4.symm.trans hq2); exact ⟨fun y => ⟨⟨fun e9 => absurd e9 z_11, hle⟩, hb.elim (fun x => x.2) (fun x => absurd (x.1.symm.trans y) (by decide))⟩, fun y => hb.elim (fun x => x.1) (fun ⟨_, k9, hk9, hne⟩ => absurd (y.2 k9 hk9) hne)⟩⟩, rfl⟩) _ 0 (Nat.zero_add _) (fun k9 hk9 => absurd hk9 (Nat.not_lt_zero _))
      · skip
        refine s_Tokens_fits_33 ?_
        have hlt : q - p < q2 - p2 := Nat.lt_of_not_le (fun y => z_10 (nI_le y (by omega)))
        exact ⟨⟨_, rfl, Or.inl rfl, fun P Q P2 Q2 h1 h2 h3 h4 e1 e2 e3 e4 => by obtain rfl : P = p := (nI_eq (by omega) (by omega)).mp (e1.symm.trans hp); obtain rfl : Q = q := (nI_eq (by omega) (by omega)).mp (e2.symm.trans hq); obtain rfl : P2 = p2 := (nI_eq (by omega) (by omega)).mp (e3.symm.trans hp2); obtain rfl : Q2 = q2 := (nI_eq (by omega) (by omega)).mp (e4.symm.trans hq2); exact ⟨fun y => absurd y (by decide), fun y => absurd (y.1.1 z_12) (by omega)⟩⟩, rfl⟩
set_option maxHeartbeats 1000000 in
theorem lp_isEarlier {G : xw_G} {F L bc bs : Nat} {pr : Option Value → xw_A → Prop} {px : String → xw_A → Prop} {h : xw_A} {t : Nat} {a l z m k n : Nat} {f g : Nat → Int32} (K : TokC a l z m k n f g h) (ht : t < n) (hF : 3 ≤ F) (hL : 68 ≤ L) (kk : ∀ c : Int32, ((c = 1 ∧ ∃ i, i < t ∧ sameT f g t i) ∨ (c = 0 ∧ ∀ i, i < t → ¬ sameT f g t i)) → pr (some (.int c)) h) :
    ∀ (dd i : Nat) , i + dd = t → (∀ j, j < i → ¬ sameT f g t j) → xw G m_Tokens_isEarlier F L bc bs pr px 2 [some (.ref a), some (.int (nI t)), some (.int (nI i))] [] h := by
  have K0 := K
  obtain ⟨e_a, e_l, e_z, hnk, hm, hk, hG⟩ := K0
  intro dd
  induction dd with
  | zero =>
    intro i  hi hp
    obtain rfl : i = t := by omega
    refine s_Tokens_isEarlier_2 (fun z_1 => ?_) (fun z => absurd (nI_le (Nat.le_refl _) (by omega)) z)
    refine s_Tokens_isEarlier_26 ?_
    exact kk _ (Or.inr ⟨rfl, hp⟩)
  | succ dd ih =>
    intro i  hi hp
    refine s_Tokens_isEarlier_2 (fun z => absurd z (nI_ge (b := t) (show i < t by omega) (by omega))) (fun z_1 => ?_)
    refine s_Tokens_isEarlier_7 ?_
    refine x_callV (As := [.int (nI t), .ref a, .int (nI i), .int 0]) (b := a) (rest := []) (F1 := 2) (L1 := 41) (mc := 0) (ms := 0) d_Tokens_isEarlier_12 cV_Tokens_39 (g_fits K K (by omega) (by omega) (by omega) (by omega)) e_a ⟨by decide, rfl⟩ ⟨by omega, by show 8 + (8 + 11) + 41 ≤ _; omega⟩ ⟨by omega, by omega⟩ (Nat.le_of_ble_eq_true rfl) (fun v_6 h_5 p_7 => ?_)
    obtain ⟨⟨c_2, rfl, hc_3, ht_4⟩, rfl⟩ := p_7
    have hsm := ht_4.same hG hm ht (show i < n by omega)
    refine s_Tokens_isEarlier_15 (fun z_8 => ?_) (fun z_9 => ?_)
    · skip
      refine s_Tokens_isEarlier_20 ?_
      simp only [nI_1]
      exact ih (i + 1) (by omega) (fun j9 hj9 q9 => by by_cases e9 : j9 = i; (rw [e9] at q9; exact absurd ((hsm.mpr q9).symm.trans z_8) (by decide)); (exact hp j9 (by omega) q9))
    · skip
      refine s_Tokens_isEarlier_18 ?_
      exact kk _ (Or.inl ⟨rfl, i, by omega, hsm.mp (hc_3.resolve_left z_9)⟩)
set_option maxHeartbeats 400000 in
theorem g_isEarlier {G : xw_G} {F L : Nat} {h : xw_A} {t : Nat} {a l z m k n : Nat} {f g : Nat → Int32} (K : TokC a l z m k n f g h) (ht : t < n) (hF : 3 ≤ F) (hL : 68 ≤ L) :
    xw_Met G m_Tokens_isEarlier F L 0 0 [.ref a, .int (nI t)] h (fun v h' => (∃ c : Int32, v = some (.int c) ∧ ((c = 1 ∧ ∃ i, i < t ∧ sameT f g t i) ∨ (c = 0 ∧ ∀ i, i < t → ¬ sameT f g t i))) ∧ h = h') (fun _ _ => False) := by
  refine xw_Met.of rfl (by decide) (Nat.le_of_ble_eq_true rfl) ?_
  refine s_Tokens_isEarlier_0 ?_
  exact lp_isEarlier K ht (by omega) (by omega) (fun c hc => ⟨⟨c, rfl, hc⟩, rfl⟩) _ 0 (Nat.zero_add _) (fun j9 hj9 => absurd hj9 (Nat.not_lt_zero _))
set_option maxHeartbeats 1000000 in
theorem lp_different {G : xw_G} {F L bc bs : Nat} {pr : Option Value → xw_A → Prop} {px : String → xw_A → Prop} {h : xw_A} {a l z m k n : Nat} {f g : Nat → Int32} (K : TokC a l z m k n f g h) (hF : 4 ≤ F) (hL : 90 ≤ L) (kk : ∀ r : Nat, r = sameD f g n → pr (some (.int (nI r))) h) :
    ∀ (dd i : Nat) (r : Nat), i + dd = n → r = sameD f g i → xw G m_Tokens_different F L bc bs pr px 4 [some (.ref a), some (.int (nI r)), some (.int (nI i))] [] h := by
  have K0 := K
  obtain ⟨e_a, e_l, e_z, hnk, hm, hk, hG⟩ := K0
  intro dd
  induction dd with
  | zero =>
    intro i r hi hp
    obtain rfl : i = n := by omega
    refine s_Tokens_different_4 (letters_a0 := some l) (starts_a0 := some z) e_a (fun z_1 => ?_) (fun z => absurd (nI_le (Nat.le_refl _) (by omega)) z)
    refine s_Tokens_different_29 ?_
    exact kk _ hp
  | succ dd ih =>
    intro i r hi hp
    refine s_Tokens_different_4 (letters_a0 := some l) (starts_a0 := some z) e_a (fun z => absurd z (nI_ge (b := n) (show i < n by omega) (by omega))) (fun z_1 => ?_)
    refine s_Tokens_different_12 ?_
    refine x_callV (As := [.int (nI i)]) (b := a) (rest := []) (F1 := 3) (L1 := 68) (mc := 0) (ms := 0) d_Tokens_different_14 cV_Tokens_35 (g_isEarlier K (by omega) (by omega) (by omega)) e_a ⟨by decide, rfl⟩ ⟨by omega, by show 8 + (3 + 11) + 68 ≤ _; omega⟩ ⟨by omega, by omega⟩ (Nat.le_of_ble_eq_true rfl) (fun v_5 h_4 p_6 => ?_)
    obtain ⟨⟨c_2, rfl, hc_3⟩, rfl⟩ := p_6
    refine s_Tokens_different_17 (fun z_7 => ?_) (fun z_8 => ?_)
    · skip
      refine s_Tokens_different_23 ?_
      simp only [nI_1]
      exact ih (i + 1) _ (by omega) (by rw [sameD_y (hc_3.elim (fun y => y.2) (fun y => absurd y.1 z_7))]; exact hp)
    · skip
      refine s_Tokens_different_20 ?_
      refine s_Tokens_different_23 ?_
      simp only [nI_1]
      exact ih (i + 1) _ (by omega) (by rw [sameD_n (fun ⟨x9, hx9, q9⟩ => hc_3.elim (fun y => absurd (y.1.symm.trans z_8) (by decide)) (fun y => y.2 x9 hx9 q9)), hp])
set_option maxHeartbeats 400000 in
theorem g_different {G : xw_G} {F L : Nat} {h : xw_A} {a l z m k n : Nat} {f g : Nat → Int32} (K : TokC a l z m k n f g h) (hF : 4 ≤ F) (hL : 90 ≤ L) :
    xw_Met G m_Tokens_different F L 0 0 [.ref a] h (fun v h' => (∃ c : Nat, v = some (.int (nI c)) ∧ c = sameD f g n) ∧ h = h') (fun _ _ => False) := by
  refine xw_Met.of rfl (by decide) (Nat.le_of_ble_eq_true rfl) ?_
  refine s_Tokens_different_0 ?_
  exact lp_different K (by omega) (by omega) (fun r hr => ⟨⟨r, rfl, hr⟩, rfl⟩) _ 0 0 (Nat.zero_add _) rfl
theorem GOK.zero {m : Nat} : GOK m 0 (fun _ => 0) := ⟨fun _ => 0, fun _ _ => ⟨rfl, Nat.zero_le _⟩, fun _ h => absurd h (Nat.not_lt_zero _)⟩
set_option maxHeartbeats 1000000 in
theorem g_tokInit {G : xw_G} {F L : Nat} {h : xw_A} {a m : Nat} (hm : m ≤ 96) (e_a : h a = some (.inr (9, [.null, .null, .int 0]))) (hF : 1 ≤ F) (hL : 20 ≤ L) :
    xw_Met G m_Tokens_init F L 2 (m + ((m + 1) / 2 + 1)) [.ref a, .int (nI m)] h (fun v h' => v = none ∧ ∃ l z : Nat, TokC a l z m ((m + 1) / 2 + 1) 0 (fun _ => 0) (fun _ => 0) h' ∧ h l = none ∧ h z = none ∧ FrO [a] h h') (fun _ _ => False) := by
  have e1 : (nI m).toNatClampNeg = m := nI_clamp (by omega)
  have e2 : (nI m + 1) / 2 + 1 = nI ((m + 1) / 2 + 1) := by
    rw [nI_1, show (2 : Int32) = nI 2 from rfl, pk_div (by omega) (by omega) (by omega), nI_1]
  have e3 : ((nI m + 1) / 2 + 1).toNatClampNeg = (m + 1) / 2 + 1 := by rw [e2]; exact nI_clamp (by omega)
  refine xw_Met.of rfl (by decide) (Nat.le_of_ble_eq_true rfl) ?_
  refine s_Tokens_init_0 (letters_a0 := none) (starts_a0 := none) (count_a0 := 0) ⟨hF, by omega⟩ (nI_pos (by omega)) (by rw [e1]; omega) (by rw [e1]; show m * 2 ≤ _; omega) e_a (by rw [e2]; exact nI_pos (by omega)) (by rw [e1, e3]; omega) (by rw [e3]; show ((m + 1) / 2 + 1) * 4 ≤ _; omega) (fun q6 h6 q19 h19 => ?_)
  refine s_Tokens_init_24 ?_
  obtain ⟨n1, y1⟩ := xw_upN h19
  obtain ⟨n2, y2⟩ := xw_upN y1
  have na6 : a ≠ q6 := xw_neN e_a h6
  refine ⟨rfl, q6, q19, ⟨xw_up_s _ _ _, ?_, ?_, by omega, hm, by omega, GOK.zero⟩, h6, y2, ?_⟩
  · rw [xw_up_n _ _ na6.symm, xw_up_n _ _ n2.symm, xw_up_n _ _ na6.symm, xw_up_s, e1]
  · rw [xw_up_n _ _ n1, xw_up_s, e3]
  · intro q e hq he
    simp only [List.mem_cons, List.not_mem_nil, or_false] at hq
    rw [xw_up_n _ _ hq, xw_up_n _ _ (xw_neN he y2), xw_up_n _ _ hq, xw_up_n _ _ (xw_neN he h6)]
    exact he
set_option maxHeartbeats 400000 in
theorem g_text {G : xw_G} {F L : Nat} {h : xw_A} {c : Int32} {a p q : Nat} {n r y : Int32} (e_a : h a = some (.inr (10, [.int n, .int r, .ref p, .ref q, .int y]))) (hF : 1 ≤ F) (hL : 20 ≤ L) :
    xw_Met G m_Version_text F L 0 0 [.ref a, .int c] h (fun v h' => (v = some (.ref p) ∨ v = some (.ref q)) ∧ h = h') (fun _ _ => False) := by
  refine xw_Met.of rfl (by decide) (Nat.le_of_ble_eq_true rfl) ?_
  refine s_Version_text_0 (fun z_1 => ?_) (fun z_2 => ?_)
  · skip
    refine s_Version_text_11 (first_a0 := some p) (second_a0 := some q) e_a ?_
    refine s_Version_text_15 (s0 := some q) ?_
    exact ⟨Or.inr rfl, rfl⟩
  · skip
    refine s_Version_text_4 (first_a0 := some p) (second_a0 := some q) e_a ?_
    refine s_Version_text_15 (s0 := some p) ?_
    exact ⟨Or.inl rfl, rfl⟩
set_option maxHeartbeats 400000 in
theorem g_vtokens {G : xw_G} {F L : Nat} {h : xw_A} {a p q : Nat} {n r y : Int32} (e_a : h a = some (.inr (10, [.int n, .int r, .ref p, .ref q, .int y]))) {l z j l2 z2 j2 : Nat} (e_p : h p = some (.inr (9, [.ref l, .ref z, .int (nI j)]))) (e_q : h q = some (.inr (9, [.ref l2, .ref z2, .int (nI j2)]))) (hF : 1 ≤ F) (hL : 20 ≤ L) :
    xw_Met G m_Version_tokens F L 0 0 [.ref a] h (fun v h' => v = some (.int (nI (j + j2))) ∧ h = h') (fun _ _ => False) := by
  refine xw_Met.of rfl (by decide) (Nat.le_of_ble_eq_true rfl) ?_
  refine s_Version_tokens_0 (letters_first_a0 := some l) (starts_first_a0 := some z) (letters_second_a0 := some l2) (starts_second_a0 := some z2) e_a e_p e_q ?_
  exact ⟨congrArg (fun z => some (Value.int z)) (nI_add _ _), rfl⟩
set_option maxHeartbeats 400000 in
theorem g_verInit {G : xw_G} {F L : Nat} {h : xw_A} {a p q : Nat} {n r y : Int32} (e_a : h a = some (.inr (10, [.int 0, .int 0, .null, .null, .int 0]))) (hF : 1 ≤ F) (hL : 20 ≤ L) :
    xw_Met G m_Version_init F L 0 0 [.ref a, .int n, .int r, .ref p, .ref q, .int y] h (fun v h' => v = none ∧ h' a = some (.inr (10, [.int n, .int r, .ref p, .ref q, .int y])) ∧ FrO [a] h h') (fun _ _ => False) := by
  refine xw_Met.of rfl (by decide) (Nat.le_of_ble_eq_true rfl) ?_
  have r0 : FrO [a] h h := FrO.rf
  refine s_Version_init_0 (first_a0 := none) (second_a0 := none) ⟨by omega, by omega⟩ e_a ?_
  rw [xw_up_up, xw_up_up, xw_up_up]
  refine x_u1 (fun h_1 e_2 f_3 => ?_)
  have r_4 := r0.up (by simp) f_3
  refine s_Version_init_25 (first_a0 := some p) (second_a0 := some q) e_2 ?_
  obtain ⟨h_5, z_8⟩ : ∃ z, z = xw_up h_1 a (.inr (10, [.int n, .int r, va_rf (some p), va_rf (some q), .int y])) := ⟨_, rfl⟩
  rw [← z_8]
  have e_6 : h_5 a = some (.inr (10, [.int n, .int r, va_rf (some p), va_rf (some q), .int y])) := by rw [z_8]; exact xw_up_s _ _ _
  have f_7 : ∀ q, q ≠ a → h_5 q = h_1 q := fun q hq => by rw [z_8]; exact xw_up_n _ _ hq
  clear z_8
  have r_9 := r_4.up (by simp) f_7
  exact ⟨rfl, e_6, r_9⟩
