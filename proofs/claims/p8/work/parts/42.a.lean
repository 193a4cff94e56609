/-! the class in general states: by program (wip/tools/gen.py) -/
abbrev b01 (b : Bool) : Int32 := if b then 1 else 0
def isW (c : Int32) : Bool := (decide (¬ c < 97) && decide (c ≤ 122)) || (decide (¬ c < 65) && decide (c ≤ 90)) || (decide (¬ c < 48) && decide (¬ 57 < c))
/-- how many tokens begin among the first letters of t -/
def tokN (t : Nat → Int32) : Nat → Nat
  | 0 => 0
  | i + 1 => tokN t i + (if isW (t i) = true ∧ (i = 0 ∨ isW (t (i - 1)) = false) then 1 else 0)
theorem tokN_y {t : Nat → Int32} {i : Nat} (h : isW (t i) = true) (h2 : i = 0 ∨ isW (t (i - 1)) = false) : tokN t (i + 1) = tokN t i + 1 := by rw [tokN, if_pos ⟨h, h2⟩]
theorem tokN_n {t : Nat → Int32} {i : Nat} (h : isW (t i) = false ∨ (¬ i = 0 ∧ isW (t (i - 1)) = true)) : tokN t (i + 1) = tokN t i := by
  rw [tokN, if_neg, Nat.add_zero]
  rintro ⟨a, b⟩
  rcases h with h | ⟨h1, h2⟩
  · rw [a] at h; cases h
  · rcases b with b | b
    · exact h1 b
    · rw [h2] at b; cases b
theorem tokN_half (t : Nat → Int32) : ∀ i, 2 * tokN t i ≤ i + 1 ∧ ((i = 0 ∨ isW (t (i - 1)) = false) → 2 * tokN t i ≤ i) := by
  intro i
  induction i with
  | zero => exact ⟨by simp [tokN], fun _ => by simp [tokN]⟩
  | succ i ih =>
    cases hw : isW (t i) with
    | false =>
      rw [tokN_n (Or.inl hw)]
      exact ⟨by omega, fun _ => ih.1⟩
    | true =>
      refine ⟨?_, fun h => ?_⟩
      · by_cases hn : i = 0 ∨ isW (t (i - 1)) = false
        · rw [tokN_y hw hn]
          have := ih.2 hn
          omega
        · rw [tokN_n (Or.inr ⟨fun q => hn (Or.inl q), by cases hq : isW (t (i - 1)); exact absurd (Or.inr hq) hn; rfl⟩)]
          omega
      · rcases h with h | h
        · omega
        · rw [Nat.add_sub_cancel, hw] at h
          cases h
theorem b01_f0 {b : Bool} (h : b01 b = 0) : b = false := by cases b; rfl; exact absurd h (by decide)
theorem b01_t0 {b : Bool} (h : ¬ b01 b = 0) : b = true := by cases b; exact absurd rfl h; rfl
theorem tokN_mono (t : Nat → Int32) {i j : Nat} (h : i ≤ j) : tokN t i ≤ tokN t j := by
  obtain ⟨d, rfl⟩ : ∃ d, j = i + d := ⟨j - i, by omega⟩
  clear h
  induction d with
  | zero => exact Nat.le_refl _
  | succ d ih =>
    have h1 : tokN t (i + d) ≤ tokN t (i + (d + 1)) := by
      show tokN t (i + d) ≤ tokN t (i + d + 1)
      rw [tokN]
      exact Nat.le_add_right _ _
    exact Nat.le_trans ih h1
/-- gather at the letter i: how many tokens there are, and whether it is inside of one, if there is room for all -/
def GaT (fq : Nat → Int32) (b e k n0 i n : Nat) (ins : Int32) : Prop := n0 + tokN (fun j => fq (b + j)) (e - b) < k → n = n0 + tokN (fun j => fq (b + j)) (i - b) ∧ ins = b01 (decide (b < i) && isW (fq (i - 1)))
theorem GaT.zero {fq : Nat → Int32} {b e k n : Nat} : GaT fq b e k n b n 0 := fun _ => ⟨by rw [Nat.sub_self]; rfl, by rw [decide_eq_false (Nat.lt_irrefl _)]; rfl⟩
theorem GaT.wd {fq : Nat → Int32} {b X : Nat} (hb : b ≤ X) : b01 (isW (fq X)) = b01 (decide (b < X + 1) && isW (fq (X + 1 - 1))) := by
  rw [decide_eq_true (show b < X + 1 by omega), Bool.true_and, Nat.add_sub_cancel]
theorem GaT.no {fq : Nat → Int32} {b e k n0 i n X : Nat} {ins : Int32} (h : GaT fq b e k n0 i n ins) (hX : X = i) (hb : b ≤ i) (w : b01 (isW (fq X)) = 0) : GaT fq b e k n0 (i + 1) n (b01 (isW (fq X))) := fun c => by
  subst hX
  obtain ⟨h1, h2⟩ := h c
  have w1 := b01_f0 w
  refine ⟨?_, GaT.wd hb⟩
  have e1 : X + 1 - b = (X - b) + 1 := by omega
  have e2 : b + (X - b) = X := by omega
  rw [e1, tokN_n (t := fun j => fq (b + j)) (i := X - b) (Or.inl (by show isW (fq (b + (X - b))) = false; rw [e2]; exact w1))]
  exact h1
theorem GaT.ins {fq : Nat → Int32} {b e k n0 i n X : Nat} {ins : Int32} (h : GaT fq b e k n0 i n ins) (hX : X = i) (hb : b ≤ i) (wi : ¬ ins = 0) : GaT fq b e k n0 (i + 1) n (b01 (isW (fq X))) := fun c => by
  subst hX
  obtain ⟨h1, h2⟩ := h c
  have q : (decide (b < X) && isW (fq (X - 1))) = true := b01_t0 (fun z => wi (h2.trans z))
  rw [Bool.and_eq_true, decide_eq_true_eq] at q
  refine ⟨?_, GaT.wd hb⟩
  have e1 : X + 1 - b = (X - b) + 1 := by omega
  have e2 : b + (X - b - 1) = X - 1 := by have := q.1; omega
  rw [e1, tokN_n (t := fun j => fq (b + j)) (i := X - b) (Or.inr ⟨by have := q.1; omega, by show isW (fq (b + (X - b - 1))) = true; rw [e2]; exact q.2⟩)]
  exact h1
theorem GaT.new {fq : Nat → Int32} {b e k n0 i n X : Nat} {ins : Int32} (h : GaT fq b e k n0 i n ins) (hX : X = i) (hb : b ≤ i) (w : ¬ b01 (isW (fq X)) = 0) (wi : ins = 0) : GaT fq b e k n0 (i + 1) (n + 1) (b01 (isW (fq X))) := fun c => by
  subst hX
  obtain ⟨h1, h2⟩ := h c
  have w1 := b01_t0 w
  have q := b01_f0 (h2.symm.trans wi)
  refine ⟨?_, GaT.wd hb⟩
  have e1 : X + 1 - b = (X - b) + 1 := by omega
  have e2 : b + (X - b) = X := by omega
  have e4 : X - b = 0 ∨ isW (fq (b + (X - b - 1))) = false := by
    by_cases e5 : b < X
    · rw [decide_eq_true e5, Bool.true_and] at q
      have e6 : b + (X - b - 1) = X - 1 := by omega
      rw [e6]
      exact Or.inr q
    · exact Or.inl (by omega)
  rw [e1, tokN_y (t := fun j => fq (b + j)) (i := X - b) (by show isW (fq (b + (X - b))) = true; rw [e2]; exact w1) e4]
  omega
theorem GaT.full {fq : Nat → Int32} {b e k n0 i n X : Nat} {ins : Int32} (h : GaT fq b e k n0 i n ins) (hX : X = i) (hb : b ≤ i) (hie : i < e) (w : ¬ b01 (isW (fq X)) = 0) (wi : ins = 0) (hk : k ≤ n + 1) : GaT fq b e k n0 (i + 1) n (b01 (isW (fq X))) := fun c => by
  have h3 := (h.new hX hb w wi c).1
  have h4 := tokN_mono (fun j => fq (b + j)) (show i + 1 - b ≤ e - b by omega)
  exfalso
  omega
theorem oct256 : ∀ j, j < 256 → ((nI j).toUInt32 % 65536).toInt32 = nI j := by decide +kernel
theorem octC (w : Int64) (i : Nat) : vp_nar .char (((oct w i).toUInt32 % 65536).toInt32) = oct w i := by
  obtain ⟨j, hj, e⟩ := pk_andE (((w.toUInt64 >>> ((8 * nI i).toInt64.toUInt64 &&& Int64.toUInt64 63)).toInt64).toInt32) (m := 255) 8 (by decide)
  have e9 : oct w i = nI j := e
  rw [e9, pk_vc]
  exact oct256 j hj
set_option maxHeartbeats 400000 in
theorem g_isWord {G : xw_G} {F L : Nat} {h : xw_A} {c : Int32} (hF : 1 ≤ F) (hL : 20 ≤ L) :
    xw_Met G m_Shelf_isWord F L 0 0 [.int c] h (fun v h' => v = some (.int (b01 (isW c))) ∧ h = h') (fun _ _ => False) := by
  refine xw_Met.of rfl (by decide) (Nat.le_of_ble_eq_true rfl) ?_
  refine s_Shelf_isWord_0 (fun z_1 => ?_) (fun z_2 => ?_)
  · skip
    refine s_Shelf_isWord_12 (fun z_3 => ?_) (fun z_4 => ?_)
    · skip
      refine s_Shelf_isWord_24 (fun z_5 => ?_) (fun z_6 => ?_)
      · skip
        refine s_Shelf_isWord_40 ?_
        refine s_Shelf_isWord_41 rfl ?_
        exact ⟨congrArg (fun z => some (Value.int z)) (by simp [isW, b01, *]), rfl⟩
      · skip
        refine s_Shelf_isWord_30 (fun z_7 => ?_) (fun z_8 => ?_)
        · skip
          refine s_Shelf_isWord_40 ?_
          refine s_Shelf_isWord_41 rfl ?_
          exact ⟨congrArg (fun z => some (Value.int z)) (by simp [isW, b01, *]), rfl⟩
        · skip
          refine s_Shelf_isWord_36 ?_
          refine s_Shelf_isWord_41 rfl ?_
          exact ⟨congrArg (fun z => some (Value.int z)) (by simp [isW, b01, *]), rfl⟩
    · skip
      refine s_Shelf_isWord_18 (fun z_9 => ?_) (fun z_10 => ?_)
      · skip
        refine s_Shelf_isWord_36 ?_
        refine s_Shelf_isWord_41 rfl ?_
        exact ⟨congrArg (fun z => some (Value.int z)) (by simp [isW, b01, *]), rfl⟩
      · skip
        refine s_Shelf_isWord_24 (fun z_11 => ?_) (fun z_12 => ?_)
        · skip
          refine s_Shelf_isWord_40 ?_
          refine s_Shelf_isWord_41 rfl ?_
          exact ⟨congrArg (fun z => some (Value.int z)) (by simp [isW, b01, *]), rfl⟩
        · skip
          refine s_Shelf_isWord_30 (fun z_13 => ?_) (fun z_14 => ?_)
          · skip
            refine s_Shelf_isWord_40 ?_
            refine s_Shelf_isWord_41 rfl ?_
            exact ⟨congrArg (fun z => some (Value.int z)) (by simp [isW, b01, *]), rfl⟩
          · skip
            refine s_Shelf_isWord_36 ?_
            refine s_Shelf_isWord_41 rfl ?_
            exact ⟨congrArg (fun z => some (Value.int z)) (by simp [isW, b01, *]), rfl⟩
  · skip
    refine s_Shelf_isWord_6 (fun z_15 => ?_) (fun z_16 => ?_)
    · skip
      refine s_Shelf_isWord_36 ?_
      refine s_Shelf_isWord_41 rfl ?_
      exact ⟨congrArg (fun z => some (Value.int z)) (by simp [isW, b01, *]), rfl⟩
    · skip
      refine s_Shelf_isWord_12 (fun z_17 => ?_) (fun z_18 => ?_)
      · skip
        refine s_Shelf_isWord_24 (fun z_19 => ?_) (fun z_20 => ?_)
        · skip
          refine s_Shelf_isWord_40 ?_
          refine s_Shelf_isWord_41 rfl ?_
          exact ⟨congrArg (fun z => some (Value.int z)) (by simp [isW, b01, *]), rfl⟩
        · skip
          refine s_Shelf_isWord_30 (fun z_21 => ?_) (fun z_22 => ?_)
          · skip
            refine s_Shelf_isWord_40 ?_
            refine s_Shelf_isWord_41 rfl ?_
            exact ⟨congrArg (fun z => some (Value.int z)) (by simp [isW, b01, *]), rfl⟩
          · skip
            refine s_Shelf_isWord_36 ?_
            refine s_Shelf_isWord_41 rfl ?_
            exact ⟨congrArg (fun z => some (Value.int z)) (by simp [isW, b01, *]), rfl⟩
      · skip
        refine s_Shelf_isWord_18 (fun z_23 => ?_) (fun z_24 => ?_)
        · skip
          refine s_Shelf_isWord_36 ?_
          refine s_Shelf_isWord_41 rfl ?_
          exact ⟨congrArg (fun z => some (Value.int z)) (by simp [isW, b01, *]), rfl⟩
        · skip
          refine s_Shelf_isWord_24 (fun z_25 => ?_) (fun z_26 => ?_)
          · skip
            refine s_Shelf_isWord_40 ?_
            refine s_Shelf_isWord_41 rfl ?_
            exact ⟨congrArg (fun z => some (Value.int z)) (by simp [isW, b01, *]), rfl⟩
          · skip
            refine s_Shelf_isWord_30 (fun z_27 => ?_) (fun z_28 => ?_)
            · skip
              refine s_Shelf_isWord_40 ?_
              refine s_Shelf_isWord_41 rfl ?_
              exact ⟨congrArg (fun z => some (Value.int z)) (by simp [isW, b01, *]), rfl⟩
            · skip
              refine s_Shelf_isWord_36 ?_
              refine s_Shelf_isWord_41 rfl ?_
              exact ⟨congrArg (fun z => some (Value.int z)) (by simp [isW, b01, *]), rfl⟩
set_option maxHeartbeats 400000 in
theorem g_addLetter {G : xw_G} {F L : Nat} {h : xw_A} {c : Int32} {a l z m k n : Nat} {f g : Nat → Int32} (K : TokC a l z m k n f g h) (hF : 1 ≤ F) (hL : 20 ≤ L) :
    xw_Met G m_Tokens_addLetter F L 0 0 [.ref a, .int c] h (fun v h' => v = none ∧ (∃ f' g' : Nat → Int32, TokC a l z m k n f' g' h') ∧ FrO [l, z] h h') (fun _ _ => False) := by
  refine xw_Met.of rfl (by decide) (Nat.le_of_ble_eq_true rfl) ?_
  obtain ⟨e_a, e_l, e_z, hnk, hm, hk, hG⟩ := K
  obtain ⟨j, hj, hjl⟩ := hG.at (Nat.le_refl n)
  have hjj : g (nI n).toNatClampNeg = nI j := by rw [nI_clamp (by omega)]; exact hj
  have r0 : FrO [l, z] h h := FrO.rf
  refine s_Tokens_addLetter_0 e_a e_z (vp_in_nI hnk (by omega)) e_l (fun z_1 => ?_) (fun z_2 => ?_)
  · skip
    refine s_Tokens_addLetter_61 ?_
    exact ⟨rfl, ⟨f, g, e_a, e_l, e_z, hnk, hm, hk, hG⟩, r0⟩
  · skip
    rw [hjj]
    have hjm : j < m := by rw [hjj] at z_2; exact Nat.lt_of_not_le (fun q => z_2 (nI_le q (by omega)))
    refine s_Tokens_addLetter_19 (letters_a0 := some l) (starts_a0 := some z) e_a (fun z_3 => ?_) (fun z_4 => ?_)
    · skip
      refine s_Tokens_addLetter_47 ?_
      refine s_Tokens_addLetter_48 (letters_a0 := some l) e_l (vp_in_nI hjm (by omega)) e_a e_z (vp_in_nI hnk (by omega)) ?_
      refine x_u2 (fun h_5 e_6 f_7 h_8 e_9 f_10 => ?_)
      have e_11 := (f_7 a (xw_neC e_a e_l (by simp))).trans e_a
      have e_12 := (f_7 z (xw_neC e_z e_l (by simp))).trans e_z
      have r_13 := r0.up (by simp) f_7
      have e_14 := (f_10 a (xw_neC e_11 e_12 (by simp))).trans e_11
      have e_15 := (f_10 l (xw_neC e_6 e_12 (by simp))).trans e_6
      have r_16 := r_13.up (by simp) f_10
      refine s_Tokens_addLetter_61 ?_
      exact ⟨rfl, ⟨_, _, e_14, e_15, e_9, hnk, hm, hk, by rw [nI_clamp (by omega), nI_1]; exact hG.letter hj hjm (by omega)⟩, r_16⟩
    · skip
      refine s_Tokens_addLetter_30 (fun z_17 => ?_) (fun z_18 => ?_)
      · skip
        refine s_Tokens_addLetter_47 ?_
        refine s_Tokens_addLetter_48 (letters_a0 := some l) e_l (vp_in_nI hjm (by omega)) e_a e_z (vp_in_nI hnk (by omega)) ?_
        refine x_u2 (fun h_19 e_20 f_21 h_22 e_23 f_24 => ?_)
        have e_25 := (f_21 a (xw_neC e_a e_l (by simp))).trans e_a
        have e_26 := (f_21 z (xw_neC e_z e_l (by simp))).trans e_z
        have r_27 := r0.up (by simp) f_21
        have e_28 := (f_24 a (xw_neC e_25 e_26 (by simp))).trans e_25
        have e_29 := (f_24 l (xw_neC e_20 e_26 (by simp))).trans e_20
        have r_30 := r_27.up (by simp) f_24
        refine s_Tokens_addLetter_61 ?_
        exact ⟨rfl, ⟨_, _, e_28, e_29, e_23, hnk, hm, hk, by rw [nI_clamp (by omega), nI_1]; exact hG.letter hj hjm (by omega)⟩, r_30⟩
      · skip
        refine s_Tokens_addLetter_36 ?_
        refine s_Tokens_addLetter_48 (letters_a0 := some l) e_l (vp_in_nI hjm (by omega)) e_a e_z (vp_in_nI hnk (by omega)) ?_
        refine x_u2 (fun h_31 e_32 f_33 h_34 e_35 f_36 => ?_)
        have e_37 := (f_33 a (xw_neC e_a e_l (by simp))).trans e_a
        have e_38 := (f_33 z (xw_neC e_z e_l (by simp))).trans e_z
        have r_39 := r0.up (by simp) f_33
        have e_40 := (f_36 a (xw_neC e_37 e_38 (by simp))).trans e_37
        have e_41 := (f_36 l (xw_neC e_32 e_38 (by simp))).trans e_32
        have r_42 := r_39.up (by simp) f_36
        refine s_Tokens_addLetter_61 ?_
        exact ⟨rfl, ⟨_, _, e_40, e_41, e_35, hnk, hm, hk, by rw [nI_clamp (by omega), nI_1]; exact hG.letter hj hjm (by omega)⟩, r_42⟩
set_option maxHeartbeats 2000000 in
theorem lp_gather {G : xw_G} {F L bc bs : Nat} {pr : Option Value → xw_A → Prop} {px : String → xw_A → Prop} {h0 : xw_A} {a l z m k q N e n0 b0 : Nat} {fq : Nat → Int32} (n_l_q : l ≠ q) (he : e ≤ N) (hN : N < 2 ^ 31) (hF : 2 ≤ F) (hL : 42 ≤ L)
    (kk : ∀ (h : xw_A) (n : Nat) (f g : Nat → Int32), n0 ≤ n → (n0 + tokN (fun j => fq (b0 + j)) (e - b0) < k → n = n0 + tokN (fun j => fq (b0 + j)) (e - b0)) → TokC a l z m k n f g h → FrO [a, l, z] h0 h → pr none h) :
    ∀ (d i : Nat) (h : xw_A) (n : Nat) (f g : Nat → Int32) (ins : Int32), i + d = e → b0 ≤ i → GaT fq b0 e k n0 i n ins → (ins = 0 ∨ ins = 1) → TokC a l z m k n f g h → h q = some (.inl (1, N, .inl fq)) → FrO [a, l, z] h0 h → n0 ≤ n → xw G m_Tokens_gather F L bc bs pr px 6 [some (.ref a), some (.ref q), none, some (.int (nI e)), some (.int ins), some (.int (nI i)), none] [] h := by
  intro d
  induction d with
  | zero =>
    intro i h n f g ins hi hb9 T9 hins K e_q r0 hle
    obtain rfl : i = e := by omega
    refine s_Tokens_gather_6 (fun _ => ?_) (fun z => absurd (nI_le (Nat.le_refl _) (by omega)) z)
    exact s_Tokens_gather_98 (kk _ _ _ _ hle (fun c => (T9 c).1) K r0)
  | succ d ih =>
    intro i h n f g ins hi hb9 T9 hins K e_q r0 hle
    have K0 := K
    obtain ⟨e_a, e_l, e_z, hnk, hm, hk, hG⟩ := K0
    have n_q_z : q ≠ z := xw_neC e_q e_z (by simp)
    refine s_Tokens_gather_6 (fun z => absurd z (nI_ge (b := e) (show i < e by omega) (by omega))) (fun _ => ?_)
    refine s_Tokens_gather_12 e_q (vp_in_nI (by omega) (by omega)) ?_
    refine x_callSN (As := [.int (fq (nI i).toNatClampNeg)]) (rest := []) (F1 := 1) (L1 := 20) (mc := 0) (ms := 0) d_Tokens_gather_16 cN_Tokens_17 (g_isWord (by omega) (by omega)) ⟨by omega, by show 8 + (1 + 11) + 20 ≤ _; omega⟩ ⟨by omega, by omega⟩ (Nat.le_of_ble_eq_true rfl) (fun v_2 h_1 p_3 => ?_)
    obtain ⟨rfl, rfl⟩ := p_3
    refine s_Tokens_gather_19 (fun z_4 => ?_) (fun z_5 => ?_)
    · skip
      refine s_Tokens_gather_88 ?_
      rw [nI_1]
      exact ih (i + 1) _ _ _ _ _ (by omega) (by omega) (T9.no (nI_clamp (show i < 2 ^ 31 by omega)) hb9 z_4) (by unfold b01; split <;> simp) K e_q r0 hle
    · skip
      refine s_Tokens_gather_26 (fun z_6 => ?_) (fun z_7 => ?_)
      · skip
        refine s_Tokens_gather_45 (fun z_8 => ?_) (fun z => absurd z z_6)
        refine s_Tokens_gather_80 e_q (vp_in_nI (by omega) (by omega)) ?_
        refine x_callV (As := [.int (fq (nI i).toNatClampNeg)]) (b := a) (rest := []) (F1 := 1) (L1 := 20) (mc := 0) (ms := 0) d_Tokens_gather_85 cV_Tokens_27 (g_addLetter K (by omega) (by omega)) e_a ⟨by decide, rfl⟩ ⟨by omega, by show 8 + (3 + 11) + 20 ≤ _; omega⟩ ⟨by omega, by omega⟩ (Nat.le_of_ble_eq_true rfl) (fun v_14 h_13 p_15 => ?_)
        obtain ⟨rfl, ⟨f_9, g_10, K_11⟩, fr_12⟩ := p_15
        have e_16 := fr_12 q _ (by simp only [List.mem_cons, List.not_mem_nil, or_false, not_or]; exact ⟨Ne.symm n_l_q, n_q_z⟩) e_q
        have r_17 := r0.trans (fr_12.mono (by simp))
        refine s_Tokens_gather_88 ?_
        rw [nI_1]
        exact ih (i + 1) _ _ _ _ _ (by omega) (by omega) (T9.ins (nI_clamp (show i < 2 ^ 31 by omega)) hb9 z_6) (by unfold b01; split <;> simp) K_11 e_16 r_17 hle
      · skip
        refine s_Tokens_gather_31 (letters_a0 := some l) e_a e_z (fun z_18 => ?_) (fun z_19 => ?_)
        · skip
          refine s_Tokens_gather_88 ?_
          rw [nI_1]
          exact ih (i + 1) _ _ _ _ _ (by omega) (by omega) (T9.full (nI_clamp (show i < 2 ^ 31 by omega)) hb9 (by omega) z_5 z_7 (by rw [nI_1] at z_18; exact Nat.le_of_not_lt (fun q => absurd z_18 (nI_ge (b := k) (show n + 1 < k from q) (by omega))))) (by unfold b01; split <;> simp) K e_q r0 hle
        · skip
          refine s_Tokens_gather_45 (fun z => absurd z_7 z) (fun z_20 => ?_)
          have hn1 : n + 1 < k := by rw [nI_1] at z_19; exact Nat.lt_of_not_le (fun q => z_19 (nI_le q (by omega)))
          have hi1 : (nI n + 1).toNatClampNeg = n + 1 := by rw [nI_1]; exact nI_clamp (by omega)
          have hi2 : (nI n + 1 - 1).toNatClampNeg = n := by rw [nI_1, nI_pred]; exact nI_clamp (by omega)
          refine s_Tokens_gather_50 (letters_a0 := some l) e_a e_z (by rw [nI_1, nI_pred]; exact vp_in_nI (by omega) (by omega)) (by rw [nI_1]; exact vp_in_nI (by omega) (by omega)) ?_
          refine x_u2 (fun h_21 e_22 f_23 h_24 e_25 f_26 => ?_)
          have e_27 := (f_23 l (xw_neC e_l e_a (by simp))).trans e_l
          have e_28 := (f_23 z (xw_neC e_z e_a (by simp))).trans e_z
          have e_29 := (f_23 q (xw_neC e_q e_a (by simp))).trans e_q
          have r_30 := r0.up (by simp) f_23
          have e_31 := (f_26 a (xw_neC e_22 e_28 (by simp))).trans e_22
          have e_32 := (f_26 l (xw_neC e_27 e_28 (by simp))).trans e_27
          have e_33 := (f_26 q (xw_neC e_29 e_28 (by simp))).trans e_29
          have r_34 := r_30.up (by simp) f_26
          rw [nI_1] at e_31
          rw [hi1, hi2] at e_25
          have K_35 : TokC a l z m k (n + 1) _ _ _ := ⟨e_31, e_32, e_25, hn1, hm, hk, hG.token⟩
          refine s_Tokens_gather_80 e_33 (vp_in_nI (by omega) (by omega)) ?_
          refine x_callV (As := [.int (fq (nI i).toNatClampNeg)]) (b := a) (rest := []) (F1 := 1) (L1 := 20) (mc := 0) (ms := 0) d_Tokens_gather_85 cV_Tokens_27 (g_addLetter K_35 (by omega) (by omega)) e_31 ⟨by decide, rfl⟩ ⟨by omega, by show 8 + (3 + 11) + 20 ≤ _; omega⟩ ⟨by omega, by omega⟩ (Nat.le_of_ble_eq_true rfl) (fun v_41 h_40 p_42 => ?_)
          obtain ⟨rfl, ⟨f_36, g_37, K_38⟩, fr_39⟩ := p_42
          have e_43 := fr_39 q _ (by simp only [List.mem_cons, List.not_mem_nil, or_false, not_or]; exact ⟨Ne.symm n_l_q, n_q_z⟩) e_33
          have r_44 := r_34.trans (fr_39.mono (by simp))
          refine s_Tokens_gather_88 ?_
          rw [nI_1]
          exact ih (i + 1) _ _ _ _ _ (by omega) (by omega) (T9.new (nI_clamp (show i < 2 ^ 31 by omega)) hb9 z_5 z_7) (by unfold b01; split <;> simp) K_38 e_43 r_44 (by omega)
theorem GOK.two {m n : Nat} {g : Nat → Int32} (k : GOK m n g) {i : Nat} (hi : i < n) : ∃ p q, g i = nI p ∧ g (i + 1) = nI q ∧ p ≤ q ∧ q ≤ m := by
  obtain ⟨G, h1, h2⟩ := k
  exact ⟨G i, G (i + 1), (h1 i (by omega)).1, (h1 (i + 1) (by omega)).1, h2 i hi, (h1 (i + 1) (by omega)).2⟩
set_option maxHeartbeats 400000 in
theorem g_lengthOf {G : xw_G} {F L : Nat} {h : xw_A} {i p q : Nat} {a l z m k n : Nat} {f g : Nat → Int32} (K : TokC a l z m k n f g h) (hi : i < n) (hp : g i = nI p) (hq : g (i + 1) = nI q) (hpq : p ≤ q) (hF : 1 ≤ F) (hL : 20 ≤ L) :
    xw_Met G m_Tokens_lengthOf F L 0 0 [.ref a, .int (nI i)] h (fun v h' => v = some (.int (nI (q - p))) ∧ h = h') (fun _ _ => False) := by
  refine xw_Met.of rfl (by decide) (Nat.le_of_ble_eq_true rfl) ?_
  obtain ⟨e_a, e_l, e_z, hnk, hm, hk, hG⟩ := K
  refine s_Tokens_lengthOf_0 (letters_a0 := some l) e_a e_z (by rw [nI_1]; exact vp_in_nI (by omega) (by omega)) (vp_in_nI (by omega) (by omega)) ?_
  exact ⟨congrArg (fun z => some (Value.int z)) (by rw [nI_1, nI_clamp (by omega), nI_clamp (by omega), hp, hq, pk_sub hpq]), rfl⟩
set_option maxHeartbeats 1000000 in
theorem lp_fits {G : xw_G} {F L bc bs : Nat} {pr : Option Value → xw_A → Prop} {px : String → xw_A → Prop} {h : xw_A} {i j c p p2 : Nat} {a l z m k n : Nat} {f g : Nat → Int32} (K : TokC a l z m k n f g h) {a2 l2 z2 m2 k2 n2 : Nat} {f2 g2 : Nat → Int32} (K2 : TokC a2 l2 z2 m2 k2 n2 f2 g2 h) (hi : i < n) (hj : j < n2) (hp : g i = nI p) (hp2 : g2 j = nI p2) (hc : p + c ≤ m) (hc2 : p2 + c ≤ m2)
    (kk : ∀ b : Int32, (b = 0 ∨ b = 1) → pr (some (.int b)) h) :
    ∀ d t : Nat, t + d = c → xw G m_Tokens_fits F L bc bs pr px 38 [some (.ref a), some (.int (nI i)), some (.ref a2), some (.int (nI j)), none, some (.int (nI c)), none, some (.int (nI t))] [] h := by
  obtain ⟨e_a, e_l, e_z, hnk, hm, hk, hG⟩ := K
  obtain ⟨e_a2, e_l2, e_z2, hnk2, hm2, hk2, hG2⟩ := K2
  intro d
  induction d with
  | zero =>
    intro t ht
    obtain rfl : t = c := by omega
    refine s_Tokens_fits_38 (fun _ => ?_) (fun z => absurd (nI_le (Nat.le_refl _) (by omega)) z)
    exact s_Tokens_fits_84 (kk 1 (Or.inr rfl))
  | succ d ih =>
    intro t ht
    refine s_Tokens_fits_38 (fun z => absurd z (nI_ge (b := c) (show t < c by omega) (by omega))) (fun _ => ?_)
    refine s_Tokens_fits_45 e_a e_z (vp_in_nI (by omega) (by omega)) e_l (by rw [nI_clamp (by omega), hp, nI_add]; exact vp_in_nI (by omega) (by omega)) e_a2 e_z2 (vp_in_nI (by omega) (by omega)) e_l2 (by rw [nI_clamp (by omega), hp2, nI_add]; exact vp_in_nI (by omega) (by omega)) (fun z_1 => ?_) (fun z_2 => ?_)
    · skip
      refine s_Tokens_fits_78 ?_
      rw [nI_1]
      exact ih (t + 1) (by omega)
    · skip
      refine s_Tokens_fits_76 ?_
      exact kk 0 (Or.inl rfl)
set_option maxHeartbeats 400000 in
theorem g_fits {G : xw_G} {F L : Nat} {h : xw_A} {i j : Nat} {b : Int32} {a l z m k n : Nat} {f g : Nat → Int32} (K : TokC a l z m k n f g h) {a2 l2 z2 m2 k2 n2 : Nat} {f2 g2 : Nat → Int32} (K2 : TokC a2 l2 z2 m2 k2 n2 f2 g2 h) (hi : i < n) (hj : j < n2) (hF : 2 ≤ F) (hL : 41 ≤ L) :
    xw_Met G m_Tokens_fits F L 0 0 [.ref a, .int (nI i), .ref a2, .int (nI j), .int b] h (fun v h' => (∃ c : Int32, v = some (.int c) ∧ (c = 0 ∨ c = 1)) ∧ h = h') (fun _ _ => False) := by
  refine xw_Met.of rfl (by decide) (Nat.le_of_ble_eq_true rfl) ?_
  have K0 := K
  obtain ⟨e_a, e_l, e_z, hnk, hm, hk, hG⟩ := K
  obtain ⟨p, q, hp, hq, hpq, hqm⟩ := hG.two hi
  have K20 := K2
  obtain ⟨e_a2, e_l2, e_z2, hnk2, hm2, hk2, hG2⟩ := K20
  obtain ⟨p2, q2, hp2, hq2, hpq2, hqm2⟩ := hG2.two hj
  refine s_Tokens_fits_0 ?_
  refine x_callV (As := [.int (nI i)]) (b := a) (rest := []) (F1 := 1) (L1 := 20) (mc := 0) (ms := 0) d_Tokens_fits_2 cV_Tokens_31 (g_lengthOf K0 hi hp hq hpq (by omega) (by omega)) e_a ⟨by decide, rfl⟩ ⟨by omega, by show 8 + (2 + 11) + 20 ≤ _; omega⟩ ⟨by omega, by omega⟩ (Nat.le_of_ble_eq_true rfl) (fun v_2 h_1 p_3 => ?_)
  obtain ⟨rfl, rfl⟩ := p_3
  refine s_Tokens_fits_5 ?_
  refine x_callV (As := [.int (nI j)]) (b := a2) (rest := []) (F1 := 1) (L1 := 20) (mc := 0) (ms := 0) d_Tokens_fits_9 cV_Tokens_31 (g_lengthOf K2 hj hp2 hq2 hpq2 (by omega) (by omega)) e_a2 ⟨by decide, rfl⟩ ⟨by omega, by show 8 + (2 + 11) + 20 ≤ _; omega⟩ ⟨by omega, by omega⟩ (Nat.le_of_ble_eq_true rfl) (fun v_5 h_4 p_6 => ?_)
  obtain ⟨rfl, rfl⟩ := p_6
  refine s_Tokens_fits_12 (fun z_7 => ?_) (fun z_8 => ?_)
  · skip
    refine s_Tokens_fits_33 ?_
    exact ⟨⟨_, rfl, Or.inl rfl⟩, rfl⟩
  · skip
    refine s_Tokens_fits_21 (fun z_9 => ?_) (fun z_10 => ?_)
    · skip
      refine s_Tokens_fits_35 ?_
      have hle : q - p ≤ q2 - p2 := Nat.le_of_not_lt (fun y => z_8 (nI_lt y (by omega)))
      exact lp_fits K0 K2 hi hj hp hp2 (by omega) (by omega) (fun b hb => ⟨⟨b, rfl, hb⟩, rfl⟩) _ 0 (Nat.zero_add _)
    · skip
      refine s_Tokens_fits_28 (fun z_11 => ?_) (fun z_12 => ?_)
      · skip
        refine s_Tokens_fits_35 ?_
        have hle : q - p ≤ q2 - p2 := Nat.le_of_not_lt (fun y => z_8 (nI_lt y (by omega)))
        exact lp_fits K0 K2 hi hj hp hp2 (by omega) (by omega) (fun b hb => ⟨⟨b, rfl, hb⟩, rfl⟩) _ 0 (Nat.zero_add _)
      · skip
        refine s_Tokens_fits_33 ?_
        exact ⟨⟨_, rfl, Or.inl rfl⟩, rfl⟩
set_option maxHeartbeats 1000000 in
theorem lp_isEarlier {G : xw_G} {F L bc bs : Nat} {pr : Option Value → xw_A → Prop} {px : String → xw_A → Prop} {h : xw_A} {t : Nat} {a l z m k n : Nat} {f g : Nat → Int32} (K : TokC a l z m k n f g h) (ht : t < n) (hF : 3 ≤ F) (hL : 68 ≤ L) (kk : ∀ c : Int32, (c = 0 ∨ c = 1) → pr (some (.int c)) h) :
    ∀ (dd i : Nat) , i + dd = t → xw G m_Tokens_isEarlier F L bc bs pr px 2 [some (.ref a), some (.int (nI t)), some (.int (nI i))] [] h := by
  have K0 := K
  obtain ⟨e_a, e_l, e_z, hnk, hm, hk, hG⟩ := K0
  intro dd
  induction dd with
  | zero =>
    intro i  hi
    obtain rfl : i = t := by omega
    refine s_Tokens_isEarlier_2 (fun z_1 => ?_) (fun z => absurd (nI_le (Nat.le_refl _) (by omega)) z)
    refine s_Tokens_isEarlier_26 ?_
    exact kk _ (by simp)
  | succ dd ih =>
    intro i  hi
    refine s_Tokens_isEarlier_2 (fun z => absurd z (nI_ge (b := t) (show i < t by omega) (by omega))) (fun z_1 => ?_)
    refine s_Tokens_isEarlier_7 ?_
    refine x_callV (As := [.int (nI t), .ref a, .int (nI i), .int 0]) (b := a) (rest := []) (F1 := 2) (L1 := 41) (mc := 0) (ms := 0) d_Tokens_isEarlier_12 cV_Tokens_39 (g_fits K K (by omega) (by omega) (by omega) (by omega)) e_a ⟨by decide, rfl⟩ ⟨by omega, by show 8 + (8 + 11) + 41 ≤ _; omega⟩ ⟨by omega, by omega⟩ (Nat.le_of_ble_eq_true rfl) (fun v_5 h_4 p_6 => ?_)
    obtain ⟨⟨c_2, rfl, hc_3⟩, rfl⟩ := p_6
    refine s_Tokens_isEarlier_15 (fun z_7 => ?_) (fun z_8 => ?_)
    · skip
      refine s_Tokens_isEarlier_20 ?_
      rw [nI_1]
      exact ih (i + 1) (by omega)
    · skip
      refine s_Tokens_isEarlier_18 ?_
      exact kk _ (by simp)
set_option maxHeartbeats 400000 in
theorem g_isEarlier {G : xw_G} {F L : Nat} {h : xw_A} {t : Nat} {a l z m k n : Nat} {f g : Nat → Int32} (K : TokC a l z m k n f g h) (ht : t < n) (hF : 3 ≤ F) (hL : 68 ≤ L) :
    xw_Met G m_Tokens_isEarlier F L 0 0 [.ref a, .int (nI t)] h (fun v h' => (∃ c : Int32, v = some (.int c) ∧ (c = 0 ∨ c = 1)) ∧ h = h') (fun _ _ => False) := by
  refine xw_Met.of rfl (by decide) (Nat.le_of_ble_eq_true rfl) ?_
  refine s_Tokens_isEarlier_0 ?_
  exact lp_isEarlier K ht (by omega) (by omega) (fun c hc => ⟨⟨c, rfl, hc⟩, rfl⟩) _ 0 (Nat.zero_add _)
set_option maxHeartbeats 1000000 in
theorem lp_different {G : xw_G} {F L bc bs : Nat} {pr : Option Value → xw_A → Prop} {px : String → xw_A → Prop} {h : xw_A} {a l z m k n : Nat} {f g : Nat → Int32} (K : TokC a l z m k n f g h) (hF : 4 ≤ F) (hL : 90 ≤ L) (kk : ∀ r : Int32, pr (some (.int r)) h) :
    ∀ (dd i : Nat) (r : Int32), i + dd = n → xw G m_Tokens_different F L bc bs pr px 4 [some (.ref a), some (.int r), some (.int (nI i))] [] h := by
  have K0 := K
  obtain ⟨e_a, e_l, e_z, hnk, hm, hk, hG⟩ := K0
  intro dd
  induction dd with
  | zero =>
    intro i r hi
    obtain rfl : i = n := by omega
    refine s_Tokens_different_4 (letters_a0 := some l) (starts_a0 := some z) e_a (fun z_1 => ?_) (fun z => absurd (nI_le (Nat.le_refl _) (by omega)) z)
    refine s_Tokens_different_29 ?_
    exact kk _
  | succ dd ih =>
    intro i r hi
    refine s_Tokens_different_4 (letters_a0 := some l) (starts_a0 := some z) e_a (fun z => absurd z (nI_ge (b := n) (show i < n by omega) (by omega))) (fun z_1 => ?_)
    refine s_Tokens_different_12 ?_
    refine x_callV (As := [.int (nI i)]) (b := a) (rest := []) (F1 := 3) (L1 := 68) (mc := 0) (ms := 0) d_Tokens_different_14 cV_Tokens_35 (g_isEarlier K (by omega) (by omega) (by omega)) e_a ⟨by decide, rfl⟩ ⟨by omega, by show 8 + (3 + 11) + 68 ≤ _; omega⟩ ⟨by omega, by omega⟩ (Nat.le_of_ble_eq_true rfl) (fun v_5 h_4 p_6 => ?_)
    obtain ⟨⟨c_2, rfl, hc_3⟩, rfl⟩ := p_6
    refine s_Tokens_different_17 (fun z_7 => ?_) (fun z_8 => ?_)
    · skip
      refine s_Tokens_different_23 ?_
      rw [nI_1]
      exact ih (i + 1) _ (by omega)
    · skip
      refine s_Tokens_different_20 ?_
      refine s_Tokens_different_23 ?_
      rw [nI_1]
      exact ih (i + 1) _ (by omega)
set_option maxHeartbeats 400000 in
theorem g_different {G : xw_G} {F L : Nat} {h : xw_A} {a l z m k n : Nat} {f g : Nat → Int32} (K : TokC a l z m k n f g h) (hF : 4 ≤ F) (hL : 90 ≤ L) :
    xw_Met G m_Tokens_different F L 0 0 [.ref a] h (fun v h' => (∃ c : Int32, v = some (.int c)) ∧ h = h') (fun _ _ => False) := by
  refine xw_Met.of rfl (by decide) (Nat.le_of_ble_eq_true rfl) ?_
  refine s_Tokens_different_0 ?_
  exact lp_different K (by omega) (by omega) (fun r => ⟨⟨r, rfl⟩, rfl⟩) _ 0 0 (Nat.zero_add _)
theorem GOK.zero {m : Nat} : GOK m 0 (fun _ => 0) := ⟨fun _ => 0, fun _ _ => ⟨rfl, Nat.zero_le _⟩, fun _ h => absurd h (Nat.not_lt_zero _)⟩
set_option maxHeartbeats 1000000 in
theorem g_tokInit {G : xw_G} {F L : Nat} {h : xw_A} {a m : Nat} (hm : m ≤ 96) (e_a : h a = some (.inr (9, [.null, .null, .int 0]))) (hF : 1 ≤ F) (hL : 20 ≤ L) :
    xw_Met G m_Tokens_init F L 2 (m + ((m + 1) / 2 + 1)) [.ref a, .int (nI m)] h (fun v h' => v = none ∧ ∃ l z : Nat, TokC a l z m ((m + 1) / 2 + 1) 0 (fun _ => 0) (fun _ => 0) h' ∧ h l = none ∧ h z = none ∧ FrO [a] h h') (fun _ _ => False) := by
  have e1 : (nI m).toNatClampNeg = m := nI_clamp (by omega)
  have e2 : (nI m + 1) / 2 + 1 = nI ((m + 1) / 2 + 1) := by
    rw [nI_1, show (2 : Int32) = nI 2 from rfl, pk_div (by omega) (by omega) (by omega), nI_1]
  have e3 : ((nI m + 1) / 2 + 1).toNatClampNeg = (m + 1) / 2 + 1 := by rw [e2]; exact nI_clamp (by omega)
  refine xw_Met.of rfl (by decide) (Nat.le_of_ble_eq_true rfl) ?_
  refine s_Tokens_init_0 (letters_a0 := none) (starts_a0 := none) (count_a0 := 0) ⟨hF, by omega⟩ (nI_pos (by omega)) (by rw [e1]; omega) (by rw [e1]; show m * 2 ≤ _; omega) e_a (by rw [e2]; exact nI_pos (by omega)) (by rw [e1, e3]; omega) (by rw [e3]; show ((m + 1) / 2 + 1) * 4 ≤ _; omega) (fun q6 h6 q19 h19 => ?_)
  refine s_Tokens_init_24 ?_
  obtain ⟨n1, y1⟩ := xw_upN h19
  obtain ⟨n2, y2⟩ := xw_upN y1
  have na6 : a ≠ q6 := xw_neN e_a h6
  refine ⟨rfl, q6, q19, ⟨xw_up_s _ _ _, ?_, ?_, by omega, hm, by omega, GOK.zero⟩, h6, y2, ?_⟩
  · rw [xw_up_n _ _ na6.symm, xw_up_n _ _ n2.symm, xw_up_n _ _ na6.symm, xw_up_s, e1]
  · rw [xw_up_n _ _ n1, xw_up_s, e3]
  · intro q e hq he
    simp only [List.mem_cons, List.not_mem_nil, or_false] at hq
    rw [xw_up_n _ _ hq, xw_up_n _ _ (xw_neN he y2), xw_up_n _ _ hq, xw_up_n _ _ (xw_neN he h6)]
    exact he
set_option maxHeartbeats 400000 in
theorem g_text {G : xw_G} {F L : Nat} {h : xw_A} {c : Int32} {a p q : Nat} {n r y : Int32} (e_a : h a = some (.inr (10, [.int n, .int r, .ref p, .ref q, .int y]))) (hF : 1 ≤ F) (hL : 20 ≤ L) :
    xw_Met G m_Version_text F L 0 0 [.ref a, .int c] h (fun v h' => (v = some (.ref p) ∨ v = some (.ref q)) ∧ h = h') (fun _ _ => False) := by
  refine xw_Met.of rfl (by decide) (Nat.le_of_ble_eq_true rfl) ?_
  refine s_Version_text_0 (fun z_1 => ?_) (fun z_2 => ?_)
  · skip
    refine s_Version_text_11 (first_a0 := some p) (second_a0 := some q) e_a ?_
    refine s_Version_text_15 (s0 := some q) ?_
    exact ⟨Or.inr rfl, rfl⟩
  · skip
    refine s_Version_text_4 (first_a0 := some p) (second_a0 := some q) e_a ?_
    refine s_Version_text_15 (s0 := some p) ?_
    exact ⟨Or.inl rfl, rfl⟩
set_option maxHeartbeats 400000 in
theorem g_vtokens {G : xw_G} {F L : Nat} {h : xw_A} {a p q : Nat} {n r y : Int32} (e_a : h a = some (.inr (10, [.int n, .int r, .ref p, .ref q, .int y]))) {l z j l2 z2 j2 : Nat} (e_p : h p = some (.inr (9, [.ref l, .ref z, .int (nI j)]))) (e_q : h q = some (.inr (9, [.ref l2, .ref z2, .int (nI j2)]))) (hF : 1 ≤ F) (hL : 20 ≤ L) :
    xw_Met G m_Version_tokens F L 0 0 [.ref a] h (fun v h' => v = some (.int (nI (j + j2))) ∧ h = h') (fun _ _ => False) := by
  refine xw_Met.of rfl (by decide) (Nat.le_of_ble_eq_true rfl) ?_
  refine s_Version_tokens_0 (letters_first_a0 := some l) (starts_first_a0 := some z) (letters_second_a0 := some l2) (starts_second_a0 := some z2) e_a e_p e_q ?_
  exact ⟨congrArg (fun z => some (Value.int z)) (nI_add _ _), rfl⟩
set_option maxHeartbeats 400000 in
theorem g_verInit {G : xw_G} {F L : Nat} {h : xw_A} {a p q : Nat} {n r y : Int32} (e_a : h a = some (.inr (10, [.int 0, .int 0, .null, .null, .int 0]))) (hF : 1 ≤ F) (hL : 20 ≤ L) :
    xw_Met G m_Version_init F L 0 0 [.ref a, .int n, .int r, .ref p, .ref q, .int y] h (fun v h' => v = none ∧ h' a = some (.inr (10, [.int n, .int r, .ref p, .ref q, .int y])) ∧ FrO [a] h h') (fun _ _ => False) := by
  refine xw_Met.of rfl (by decide) (Nat.le_of_ble_eq_true rfl) ?_
  have r0 : FrO [a] h h := FrO.rf
  refine s_Version_init_0 (first_a0 := none) (second_a0 := none) ⟨by omega, by omega⟩ e_a ?_
  rw [xw_up_up, xw_up_up, xw_up_up]
  refine x_u1 (fun h_1 e_2 f_3 => ?_)
  have r_4 := r0.up (by simp) f_3
  refine s_Version_init_25 (first_a0 := some p) (second_a0 := some q) e_2 ?_
  obtain ⟨h_5, z_8⟩ : ∃ z, z = xw_up h_1 a (.inr (10, [.int n, .int r, va_rf (some p), va_rf (some q), .int y])) := ⟨_, rfl⟩
  rw [← z_8]
  have e_6 : h_5 a = some (.inr (10, [.int n, .int r, va_rf (some p), va_rf (some q), .int y])) := by rw [z_8]; exact xw_up_s _ _ _
  have f_7 : ∀ q, q ≠ a → h_5 q = h_1 q := fun q hq => by rw [z_8]; exact xw_up_n _ _ hq
  clear z_8
  have r_9 := r_4.up (by simp) f_7
  exact ⟨rfl, e_6, r_9⟩
