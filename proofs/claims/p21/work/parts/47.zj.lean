/-! TIER H, reference: its letters, its kinds of parts -/
theorem qv_in {f : Nat → Int32} {n k : Nat} (h : k < n) : qv f n k = f k := by unfold qv; rw [if_pos h]
theorem qv_c {f : Nat → Int32} {n k : Nat} {c : Int32} (hc : ¬ c = 0) : qv f n k = c ↔ (k < n ∧ f k = c) := by
  unfold qv
  by_cases q : k < n
  · rw [if_pos q]; exact ⟨fun z => ⟨q, z⟩, fun z => z.2⟩
  · rw [if_neg q]; exact ⟨fun z => absurd z.symm hc, fun z => absurd z.1 q⟩
theorem qv_w {f : Nat → Int32} {n k : Nat} : isW (qv f n k) = true ↔ (k < n ∧ isW (f k) = true) := by
  unfold qv
  by_cases q : k < n
  · rw [if_pos q]; exact ⟨fun z => ⟨q, z⟩, fun z => z.2⟩
  · rw [if_neg q]; exact ⟨fun z => absurd z (by decide), fun z => absurd z.1 q⟩
/-- the class's kinds in the reference's numbers -/
def rkd (k : Nat) : Nat := ([0, 15, 1, 1, 2, 12, 11, 13, 14, 3, 4, 6, 7, 10, 8, 9, 5][k]?).getD 0
theorem rkd_wn {t : Nat → Int32} {n s e : Nat} (h1 : ¬ isN t s e [79, 82]) (h2 : ¬ isN t s e [65, 78, 68]) (h3 : ¬ isN t s e [78, 79, 84]) (h4 : ¬ isN t s e [78, 69, 65, 82]) : rkd (wkd t n s e) = 1 := by
  rw [wkd_n h1 h2 h3 h4]
  split <;> rfl
theorem kdP_eq {t : Nat → Int32} {n p k y : Nat} (h : lexK t n (bl t n p) = (k, y)) : kdP t n p = k ∧ skP t n p = y := by
  unfold kdP skP
  rw [h]
  exact ⟨rfl, rfl⟩
theorem sgn_no {c : Int32} (h1 : ¬ c = 40) (h2 : ¬ c = 41) (h3 : ¬ c = 58) (h4 : ¬ c = 45) (h5 : ¬ c = 94) (h6 : ¬ c = 43) (h7 : ¬ c = 42) (h8 : ¬ c = 44) : sgn c = 1 := by
  unfold sgn
  rw [if_neg h1, if_neg h2, if_neg h4, if_neg h5, if_neg h8, if_neg h6, if_neg h7, if_neg h3]
theorem rk_str : ∀ k, k ≤ 16 → (isS k = true ↔ (rkd k = 2 ∨ (rkd k = 1 ∧ ¬ k = 3))) := by decide
theorem rk_1 : ∀ k, k ≤ 16 → (rkd k = 1 ↔ (k = 2 ∨ k = 3)) := by decide
theorem rk_iff : ∀ k, k ≤ 16 → (rkd k = 0 ↔ k = 0) ∧ (rkd k = 2 ↔ k = 4) ∧ (rkd k = 3 ↔ k = 9) ∧ (rkd k = 4 ↔ k = 10) ∧ (rkd k = 5 ↔ k = 16) ∧ (rkd k = 6 ↔ k = 11) ∧ (rkd k = 7 ↔ k = 12) ∧ (rkd k = 8 ↔ k = 14) ∧ (rkd k = 9 ↔ k = 15) ∧ (rkd k = 10 ↔ k = 13) ∧ (rkd k = 11 ↔ k = 6) ∧ (rkd k = 12 ↔ k = 5) ∧ (rkd k = 13 ↔ k = 7) ∧ (rkd k = 14 ↔ k = 8) ∧ (rkd k = 15 ↔ k = 1) := by decide
theorem rk_le : ∀ k, k ≤ 16 → rkd k ≤ 15 := by decide
/-- a word with a colon behind it -/
theorem kd_3c {t : Nat → Int32} {n p : Nat} (h : kdP t n p = 2 ∨ kdP t n p = 3) : (kdP t n p = 3 ↔ (skP t n p < n ∧ t (skP t n p) = 58)) := by
  have g := kd_w h
  have hb : bl t n p < n := by omega
  have w := g.2.2 (bl t n p) (Nat.le_refl _) g.1
  obtain ⟨e1, e2⟩ := kdP_eq (lexK_w (n := n) hb w)
  rw [e2]
  rw [e1] at h ⊢
  by_cases q1 : isN t (bl t n p) (wr t n (bl t n p)) [79, 82]
  · rw [wkd_5 q1] at h; omega
  · by_cases q2 : isN t (bl t n p) (wr t n (bl t n p)) [65, 78, 68]
    · rw [wkd_6 q1 q2] at h; omega
    · by_cases q3 : isN t (bl t n p) (wr t n (bl t n p)) [78, 79, 84]
      · rw [wkd_7 q1 q2 q3] at h; omega
      · by_cases q4 : isN t (bl t n p) (wr t n (bl t n p)) [78, 69, 65, 82]
        · rw [wkd_8 q1 q2 q3 q4] at h; omega
        · rw [wkd_n q1 q2 q3 q4]
          by_cases q5 : wr t n (bl t n p) < n ∧ t (wr t n (bl t n p)) = 58
          · rw [if_pos q5]; exact ⟨fun _ => q5, fun _ => rfl⟩
          · rw [if_neg q5]; exact ⟨fun z => absurd z (by decide), fun z => absurd z q5⟩
/-! TIER H, reference: the tokens of a question, its phrases -/
def TkR (ws : List (List Int32)) (t : Nat) (ca cs fa : Nat → Int32) : Prop := t = ws.length ∧ ∀ (s : Nat) (w : List Int32), ws[s]? = some w → ∃ a, ca s = nI a ∧ cs s = nI w.length ∧ a + w.length ≤ 96 ∧ ∀ (k : Nat) (c : Int32), w[k]? = some c → lowc (fa (a + k)) = c
def TkY (fa : Nat → Int32) (b t0 : Nat) (ca cs : Nat → Int32) (i : Nat) : Prop := ∀ s, s < tokN (fun j => fa (b + j)) i → ∃ x, ca (t0 + s) = nI x ∧ cs (t0 + s) = nI (tkL (fun j => fa (b + j)) i s) ∧ b ≤ x ∧ x + tkL (fun j => fa (b + j)) i s ≤ b + i ∧ (s + 1 = tokN (fun j => fa (b + j)) i → ¬ i = 0 → isW (fa (b + (i - 1))) = true → x + tkL (fun j => fa (b + j)) i s = b + i) ∧ ∀ k, k < tkL (fun j => fa (b + j)) i s → lowc (fa (x + k)) = tkC (fun j => fa (b + j)) i s k
theorem TkY.no {fa : Nat → Int32} {b t0 i : Nat} {ca cs : Nat → Int32} (h : TkY fa b t0 ca cs i) (w : isW (fa (b + i)) = false) : TkY fa b t0 ca cs (i + 1) := fun s hs => by
  have w2 : isW ((fun j => fa (b + j)) i) = false := w
  rw [tokN_n (t := fun j => fa (b + j)) (i := i) (Or.inl w2)] at hs
  obtain ⟨x, h1, h2, h3, h4, h5, h6⟩ := h s hs
  have e1 : tkL (fun j => fa (b + j)) (i + 1) s = tkL (fun j => fa (b + j)) i s := tkL_n (fun q => by rw [w2] at q; exact absurd q.1 (by decide))
  refine ⟨x, h1, by rw [e1]; exact h2, h3, by rw [e1]; omega, fun _ _ q => ?_, fun k hk => ?_⟩
  · rw [Nat.add_sub_cancel, w] at q
    exact absurd q (by decide)
  · rw [e1] at hk
    rw [tkC_n (fun q => by rw [w2] at q; exact absurd q.1 (by decide))]
    exact h6 k hk
theorem TkY.ext {fa : Nat → Int32} {b t0 i k0 : Nat} {ca cs : Nat → Int32} (h : TkY fa b t0 ca cs i) (w : isW (fa (b + i)) = true) (hi : ¬ i = 0) (hp : isW (fa (b + (i - 1))) = true) (hk : k0 + 1 = tokN (fun j => fa (b + j)) i) : TkY fa b t0 ca (upd cs (t0 + k0) (cs (t0 + k0) + 1)) (i + 1) := fun s hs => by
  have w2 : isW ((fun j => fa (b + j)) i) = true := w
  have et : tokN (fun j => fa (b + j)) (i + 1) = tokN (fun j => fa (b + j)) i := tokN_n (t := fun j => fa (b + j)) (i := i) (Or.inr ⟨hi, hp⟩)
  rw [et] at hs
  obtain ⟨x, h1, h2, h3, h4, h5, h6⟩ := h s hs
  by_cases q : s = k0
  · subst q
    have e0 := h5 hk hi hp
    have e1 : tkL (fun j => fa (b + j)) (i + 1) s = tkL (fun j => fa (b + j)) i s + 1 := tkL_y w2 (by rw [et]; exact hk)
    refine ⟨x, h1, ?_, h3, by omega, fun _ _ _ => by omega, fun k hk2 => ?_⟩
    · rw [pk_us, h2, nI_1, e1]
    · by_cases qk : k = tkL (fun j => fa (b + j)) i s
      · subst qk
        rw [tkC_y (t := fun j => fa (b + j)) (i := i) (s := s) w2 (by rw [et]; exact hk), e0]
      · rw [tkC_n (fun z => qk z.2.2)]
        exact h6 k (by omega)
  · have e1 : tkL (fun j => fa (b + j)) (i + 1) s = tkL (fun j => fa (b + j)) i s := tkL_n (fun z => q (by have := z.2; rw [et] at this; omega))
    refine ⟨x, h1, by rw [pk_un (by omega), e1]; exact h2, h3, by omega, fun z => absurd z (by rw [et]; omega), fun k hk2 => ?_⟩
    rw [tkC_n (fun z => q (by have := z.2.1; rw [et] at this; omega))]
    exact h6 k (by omega)
theorem TkY.new {fa : Nat → Int32} {b t0 i t : Nat} {ca cs : Nat → Int32} (h : TkY fa b t0 ca cs i) (w : isW (fa (b + i)) = true) (hp : i = 0 ∨ isW (fa (b + (i - 1))) = false) (hk : t = t0 + tokN (fun j => fa (b + j)) i) : TkY fa b t0 (upd ca t (nI (b + i))) (upd (upd cs t 0) t (upd cs t 0 t + 1)) (i + 1) := fun s hs => by
  have w2 : isW ((fun j => fa (b + j)) i) = true := w
  have et : tokN (fun j => fa (b + j)) (i + 1) = tokN (fun j => fa (b + j)) i + 1 := tokN_y (t := fun j => fa (b + j)) (i := i) w2 hp
  rw [et] at hs
  by_cases q : t0 + s = t
  · have e0 : tkL (fun j => fa (b + j)) i s = 0 := tkL_0 _ i s (by omega)
    have e1 : tkL (fun j => fa (b + j)) (i + 1) s = 1 := by rw [tkL_y (t := fun j => fa (b + j)) (i := i) (s := s) w2 (by rw [et]; omega), e0]
    refine ⟨b + i, by rw [q, pk_us], by rw [q, pk_us, pk_us, e1]; rfl, by omega, by omega, fun _ _ _ => by omega, fun k2 hk2 => ?_⟩
    obtain rfl : k2 = 0 := by omega
    have e2 := tkC_y (t := fun j => fa (b + j)) (i := i) (s := s) w2 (by rw [et]; omega)
    rw [e0] at e2
    rw [e2]
    rfl
  · obtain ⟨x, h1, h2, h3, h4, h5, h6⟩ := h s (by omega)
    have e1 : tkL (fun j => fa (b + j)) (i + 1) s = tkL (fun j => fa (b + j)) i s := tkL_n (fun z => by have := z.2; omega)
    refine ⟨x, by rw [pk_un q]; exact h1, by rw [pk_un q, pk_un q, e1]; exact h2, h3, by omega, fun z => absurd z (by rw [et]; omega), fun k2 hk2 => ?_⟩
    rw [tkC_n (fun z => by have := z.2.1; omega)]
    exact h6 k2 (by omega)
theorem TkR.add {ws : List (List Int32)} {t b e t' : Nat} {ca cs fa ca' cs' : Nat → Int32} (h : TkR ws t ca cs fa) (hy : TkY fa b t ca' cs' (e - b)) (old : ∀ j, j < t → ca' j = ca j ∧ cs' j = cs j) (hbe : b ≤ e) (he : e ≤ 96) (ht : t' = t + tokN (fun j => fa (b + j)) (e - b)) : TkR (ws ++ wdS fa b e) t' ca' cs' fa := by
  refine ⟨by rw [List.length_append, wdS_len, ← h.1]; exact ht, fun s w hw => ?_⟩
  by_cases q : s < t
  · rw [List.getElem?_append_left (by rw [← h.1]; exact q)] at hw
    obtain ⟨a, a1, a2, a3⟩ := h.2 s w hw
    exact ⟨a, by rw [(old s q).1]; exact a1, by rw [(old s q).2]; exact a2, a3⟩
  · rw [List.getElem?_append_right (by rw [← h.1]; omega), ← h.1] at hw
    obtain ⟨b1, b2⟩ := wdS_at hw
    obtain ⟨x, c1, c2, c3, c4, -, c6⟩ := hy (s - t) b1
    rw [show t + (s - t) = s by omega] at c1 c2
    subst b2
    refine ⟨x, c1, by rw [List.length_map, List.length_range]; exact c2, by rw [List.length_map, List.length_range]; omega, fun k c hc => ?_⟩
    obtain ⟨d1, d2⟩ := rg_at hc
    rw [d2]
    exact c6 k d1
def PhR (fa c1 c2 : Nat → Int32) (ph : List PHt) : Prop := ∀ (i : Nat) (x : PHt), ph[i]? = some x → c1 i = nI (wds fa (spn (ph.take i))).length ∧ c1 (i + 1) = nI ((wds fa (spn (ph.take i))).length + (wds fa x.1).length) ∧ c2 i = b01 x.2
def RqT (fa : Nat → Int32) (asz : Nat) (c1 c2 ca cs : Nat → Int32) (t p : Nat) (ph : List PHt) (sp : List (Nat × Nat)) : Prop := (p < asz → bnd fa p) ∧ TkR (wds fa (spn ph ++ sp)) t ca cs fa ∧ t ≤ tokN fa p ∧ PhR fa c1 c2 ph
theorem RqT.next {fa : Nat → Int32} {asz : Nat} {c1 c2 ca cs : Nat → Int32} {t p : Nat} {ph : List PHt} {sp : List (Nat × Nat)} (h : RqT fa asz c1 c2 ca cs t p ph sp) (h0 : ¬ kdP fa asz p = 0) (h1 : ¬ kdP fa asz p = 1) : RqT fa asz c1 c2 ca cs t (skP fa asz p) ph sp :=
  ⟨fun q => sk_bnd h0 h1 q, h.2.1, Nat.le_trans h.2.2.1 (tokN_mono fa (sk_ge fa asz p)), h.2.2.2⟩
/-- a string fits -/
theorem RqT.room {fa : Nat → Int32} {asz : Nat} {c1 c2 ca cs : Nat → Int32} {t p : Nat} {ph : List PHt} {sp : List (Nat × Nat)} (h : RqT fa asz c1 c2 ca cs t p ph sp) (ha : asz ≤ 96) (k : isS (kdP fa asz p) = true) : bl fa asz p < skP fa asz p ∧ skP fa asz p ≤ asz ∧ t + tokN (fun j => fa (bl fa asz p + j)) (skP fa asz p - bl fa asz p) ≤ tokN fa (skP fa asz p) ∧ tokN fa (skP fa asz p) ≤ 48 := by
  have k2 := isS_k k
  have g := lex_end k2.1 k2.2
  have g2 : bl fa asz p < skP fa asz p := g.2.1
  have g3 : skP fa asz p ≤ asz := g.2.2
  have b := bl_ge fa asz p
  have sp := tokN_split (bl_bnd h.1 g.1) (skP fa asz p - bl fa asz p)
  rw [show bl fa asz p + (skP fa asz p - bl fa asz p) = skP fa asz p by omega] at sp
  have m1 := tokN_mono fa b.1
  have m3 := (tokN_half fa (skP fa asz p)).1
  have h3 := h.2.2.1
  exact ⟨g2, g3, by omega, by omega⟩
/-- a string was taken -/
theorem RqT.str {fa : Nat → Int32} {asz : Nat} {c1 c2 ca cs ca' cs' : Nat → Int32} {t p : Nat} {ph : List PHt} {sp : List (Nat × Nat)} (h : RqT fa asz c1 c2 ca cs t p ph sp) (ha : asz ≤ 96) (k : isS (kdP fa asz p) = true) (T : TkR (wds fa (spn ph ++ sp) ++ wdS fa (bl fa asz p) (skP fa asz p)) (t + tokN (fun j => fa (bl fa asz p + j)) (skP fa asz p - bl fa asz p)) ca' cs' fa) : RqT fa asz c1 c2 ca' cs' (t + tokN (fun j => fa (bl fa asz p + j)) (skP fa asz p - bl fa asz p)) (skP fa asz p) ph (sp ++ [(bl fa asz p, skP fa asz p)]) := by
  have k2 := isS_k k
  refine ⟨fun q => sk_bnd k2.1 k2.2 q, ?_, (h.room ha k).2.2.1, h.2.2.2⟩
  rw [← List.append_assoc, wds_app, wds_one]
  exact T
/-- with enough letters the bound of the loops says nothing -/
theorem rdP_st {t : Nat → Int32} {n : Nat} : ∀ (f p : Nat) (sp : List (Nat × Nat)), n - p ≤ f → rdP t n f p sp = rdP t n (f + 1) p sp := by
  intro f
  induction f with
  | zero =>
    intro p sp h
    have hk : ¬ kdP t n p = 14 := fun q => by
      have := sk_gt (t := t) (n := n) (p := p) (by omega) (by omega)
      omega
    rw [rdP_n hk, rdP_n hk]
  | succ f ih =>
    intro p sp h
    by_cases q : kdP t n p = 14
    · have g := sk_gt (t := t) (n := n) (p := p) (by omega) (by omega)
      cases hs : isS (kdP t n (skP t n p)) with
      | false => rw [rdP_f q hs, rdP_f q hs]
      | true =>
        rw [rdP_y q hs, rdP_y q hs]
        have := sk_ge t n (skP t n p)
        exact ih _ _ (by omega)
    · rw [rdP_n q, rdP_n q]
theorem rdP_sta {t : Nat → Int32} {n : Nat} {p : Nat} {sp : List (Nat × Nat)} : ∀ d f, n - p ≤ f → rdP t n f p sp = rdP t n (f + d) p sp := by
  intro d
  induction d with
  | zero => intro f _; rfl
  | succ d ih => intro f h; rw [ih f h, rdP_st (f + d) p sp (by omega)]; rfl
theorem rdP_any {t : Nat → Int32} {n : Nat} {p : Nat} {sp : List (Nat × Nat)} {f f2 : Nat} (h : n - p ≤ f) (h2 : n - p ≤ f2) : rdP t n f p sp = rdP t n f2 p sp := by
  have e1 := rdP_sta (t := t) (n := n) (p := p) (sp := sp) (f - (n - p)) (n - p) (Nat.le_refl _)
  have e2 := rdP_sta (t := t) (n := n) (p := p) (sp := sp) (f2 - (n - p)) (n - p) (Nat.le_refl _)
  rw [show n - p + (f - (n - p)) = f by omega] at e1
  rw [show n - p + (f2 - (n - p)) = f2 by omega] at e2
  rw [← e1, e2]
theorem rdPs_st {t : Nat → Int32} {n : Nat} : ∀ (f p : Nat) (ph : List PHt), n - p ≤ f → rdPs t n f p ph = rdPs t n (f + 1) p ph := by
  intro f
  induction f with
  | zero =>
    intro p ph h
    have hk : isS (kdP t n p) = false := by
      cases q : isS (kdP t n p) with
      | false => rfl
      | true =>
        have k2 := isS_k q
        have := sk_gt (t := t) (n := n) (p := p) k2.1 k2.2
        omega
    rw [ps_0 hk, ps_0 hk]
  | succ f ih =>
    intro p ph h
    cases q : isS (kdP t n p) with
    | false => rw [ps_0 q, ps_0 q]
    | true =>
      cases hs : rdPh t n ph.length p with
      | none => rw [ps_n q hs, ps_n q hs]
      | some y =>
        obtain ⟨p1, x⟩ := y
        rw [ps_y q hs, ps_y q hs]
        have := rdPh_gt hs
        exact ih _ _ (by omega)
theorem rdPs_sta {t : Nat → Int32} {n : Nat} {p : Nat} {ph : List PHt} : ∀ d f, n - p ≤ f → rdPs t n f p ph = rdPs t n (f + d) p ph := by
  intro d
  induction d with
  | zero => intro f _; rfl
  | succ d ih => intro f h; rw [ih f h, rdPs_st (f + d) p ph (by omega)]; rfl
theorem rdPs_any {t : Nat → Int32} {n : Nat} {p : Nat} {ph : List PHt} {f f2 : Nat} (h : n - p ≤ f) (h2 : n - p ≤ f2) : rdPs t n f p ph = rdPs t n f2 p ph := by
  have e1 := rdPs_sta (t := t) (n := n) (p := p) (ph := ph) (f - (n - p)) (n - p) (Nat.le_refl _)
  have e2 := rdPs_sta (t := t) (n := n) (p := p) (ph := ph) (f2 - (n - p)) (n - p) (Nat.le_refl _)
  rw [show n - p + (f - (n - p)) = f by omega] at e1
  rw [show n - p + (f2 - (n - p)) = f2 by omega] at e2
  rw [← e1, e2]
/-- the fields of L are ints -/
def INT (fs : List Value) (L : List Nat) : Prop := ∀ i ∈ L, ∃ v : Int32, fs[i]? = some (.int v)
theorem spn_last {t : Nat → Int32} {ph : List PHt} {i : Nat} {x : PHt} (h : ph[i]? = some x) (hl : i + 1 = ph.length) : (wds t (spn ph)).length = (wds t (spn (ph.take i))).length + (wds t x.1).length := by
  obtain ⟨h1, h2⟩ := List.getElem?_eq_some_iff.mp h
  have e : ph = ph.take i ++ [x] := by
    have e1 : ph.drop i = [x] := by
      rw [← List.getElem_cons_drop h1, h2, List.drop_eq_nil_of_le (by omega)]
    rw [← e1, List.take_append_drop]
  have e2 : wds t (spn ph) = wds t (spn (ph.take i)) ++ wds t x.1 := by
    conv => lhs; rw [e]
    rw [spn_app, spn_one, wds_app]
  rw [e2, List.length_append]
/-- the next phrase begins -/
theorem RqT.beg {fa : Nat → Int32} {asz : Nat} {c1 c2 ca cs : Nat → Int32} {t p : Nat} {ph : List PHt} (h : RqT fa asz c1 c2 ca cs t p ph []) (b : Int32) : RqT fa asz (upd c1 ph.length (nI t)) (upd c2 ph.length b) ca cs t p ph [] := by
  refine ⟨h.1, h.2.1, h.2.2.1, fun i x hx => ?_⟩
  have hi : i < ph.length := (List.getElem?_eq_some_iff.mp hx).1
  obtain ⟨a1, a2, a3⟩ := h.2.2.2 i x hx
  refine ⟨by rw [pk_un (by omega)]; exact a1, ?_, by rw [pk_un (by omega)]; exact a3⟩
  by_cases q : i + 1 = ph.length
  · have e := h.2.1.1
    rw [List.append_nil] at e
    rw [q, pk_us, e, spn_last hx q]
  · rw [pk_un q]
    exact a2
theorem RqT.n0 {fa : Nat → Int32} {asz : Nat} {c1 c2 ca cs : Nat → Int32} {t p : Nat} {ph : List PHt} (h : RqT fa asz c1 c2 ca cs t p ph []) : t = (wds fa (spn ph)).length := by
  have e := h.2.1.1
  rw [List.append_nil] at e
  exact e
theorem RqT.star {fa : Nat → Int32} {asz : Nat} {c1 c2 ca cs : Nat → Int32} {t p : Nat} {ph : List PHt} {sp : List (Nat × Nat)} (h : RqT fa asz c1 c2 ca cs t p ph sp) (b : Int32) : RqT fa asz c1 (upd c2 ph.length b) ca cs t p ph sp := by
  refine ⟨h.1, h.2.1, h.2.2.1, fun i x hx => ?_⟩
  have hi : i < ph.length := (List.getElem?_eq_some_iff.mp hx).1
  obtain ⟨a1, a2, a3⟩ := h.2.2.2 i x hx
  exact ⟨a1, a2, by rw [pk_un (by omega)]; exact a3⟩
/-- and ends -/
theorem RqT.fin {fa : Nat → Int32} {asz : Nat} {c1 c2 ca cs : Nat → Int32} {t p : Nat} {ph : List PHt} {sp : List (Nat × Nat)} {b : Bool} (h : RqT fa asz c1 c2 ca cs t p ph sp) (h1 : c1 ph.length = nI (wds fa (spn ph)).length) (h2 : c2 ph.length = b01 b) : RqT fa asz (upd c1 (ph.length + 1) (nI t)) c2 ca cs t p (ph ++ [(sp, b)]) [] := by
  have ht : t = (wds fa (spn ph)).length + (wds fa sp).length := by
    have e := h.2.1.1
    rw [wds_app, List.length_append] at e
    exact e
  refine ⟨h.1, ?_, h.2.2.1, fun i x hx => ?_⟩
  · rw [List.append_nil, spn_app, spn_one]
    exact h.2.1
  · by_cases q : i < ph.length
    · rw [List.getElem?_append_left q] at hx
      obtain ⟨a1, a2, a3⟩ := h.2.2.2 i x hx
      rw [List.take_append_of_le_length (by omega)]
      exact ⟨by rw [pk_un (by omega)]; exact a1, by rw [pk_un (by omega)]; exact a2, a3⟩
    · rw [List.getElem?_append_right (by omega)] at hx
      have hi : i = ph.length := by
        have := (List.getElem?_eq_some_iff.mp hx).1
        simp only [List.length_cons, List.length_nil] at this
        omega
      subst hi
      rw [Nat.sub_self] at hx
      obtain rfl : (sp, b) = x := by simpa using hx
      rw [List.take_append_of_le_length (Nat.le_refl _), List.take_length]
      exact ⟨by rw [pk_un (by omega)]; exact h1, by rw [pk_us, ht], h2⟩
/-! TIER H, reference: numbers -/
set_option maxRecDepth 4000 in
theorem dgT : ∀ c, c < 128 → (decide (¬ nI c - 48 < 0) && decide (¬ 9 < nI c - 48)) = dig (nI c) := by decide +kernel
set_option maxRecDepth 4000 in
theorem dgV : ∀ c, c < 128 → dig (nI c) = true → nI c - 48 = nI ((nI c).toNatClampNeg - 48) ∧ (nI c).toNatClampNeg - 48 ≤ 9 := by decide +kernel
theorem qv_128 {f : Nat → Int32} {n k : Nat} (h : ∀ j, j < n → ∃ c, c < 128 ∧ f j = nI c) : ∃ c, c < 128 ∧ qv f n k = nI c := by
  unfold qv
  by_cases q : k < n
  · rw [if_pos q]; exact h k q
  · rw [if_neg q]; exact ⟨0, by decide, rfl⟩
theorem dgq {f : Nat → Int32} {n k : Nat} (h : ∀ j, j < n → ∃ c, c < 128 ∧ f j = nI c) : (decide (¬ qv f n k - 48 < 0) && decide (¬ 9 < qv f n k - 48)) = dig (qv f n k) := by
  obtain ⟨c, hc, e⟩ := qv_128 (k := k) h
  rw [e]
  exact dgT c hc
theorem dgw {f : Nat → Int32} {n k : Nat} (h : ∀ j, j < n → ∃ c, c < 128 ∧ f j = nI c) (hd : dig (qv f n k) = true) : qv f n k - 48 = nI ((qv f n k).toNatClampNeg - 48) ∧ (qv f n k).toNatClampNeg - 48 ≤ 9 := by
  obtain ⟨c, hc, e⟩ := qv_128 (k := k) h
  rw [e] at hd ⊢
  exact dgV c hc hd
section NumR
variable {t : Nat → Int32} {n p : Nat}
theorem rn_1 (hk : kdP t n p = 2 ∨ kdP t n p = 3) (d : dig (t (bl t n p)) = true) (e : skP t n p = bl t n p + 1) : rdN t n p = some ((t (bl t n p)).toNatClampNeg - 48) := by
  unfold rdN
  rw [if_pos ⟨hk, d, Or.inl e⟩, if_pos e]
theorem rn_2 (hk : kdP t n p = 2 ∨ kdP t n p = 3) (d : dig (t (bl t n p)) = true) (e : skP t n p = bl t n p + 2) (d2 : dig (t (bl t n p + 1)) = true) : rdN t n p = some (10 * ((t (bl t n p)).toNatClampNeg - 48) + ((t (bl t n p + 1)).toNatClampNeg - 48)) := by
  unfold rdN
  rw [if_pos ⟨hk, d, Or.inr ⟨e, d2⟩⟩, if_neg (by omega)]
theorem rn_d0 (d : dig (t (bl t n p)) = false) : rdN t n p = none := by
  unfold rdN
  rw [if_neg (fun q => by have := q.2.1; rw [d] at this; cases this)]
theorem rn_l (e1 : ¬ skP t n p = bl t n p + 1) (e2 : ¬ skP t n p = bl t n p + 2) : rdN t n p = none := by
  unfold rdN
  rw [if_neg (fun q => q.2.2.elim e1 (fun z => e2 z.1))]
theorem rn_d1 (e1 : ¬ skP t n p = bl t n p + 1) (d : dig (t (bl t n p + 1)) = false) : rdN t n p = none := by
  unfold rdN
  rw [if_neg (fun q => q.2.2.elim e1 (fun z => by have := z.2; rw [d] at this; cases this))]
end NumR
theorem rdPh_str {t : Nat → Int32} {n k p p' : Nat} {x : PHt} (h : rdPh t n k p = some (p', x)) : isS (kdP t n p) = true := by
  cases q : isS (kdP t n p) with
  | true => rfl
  | false => rw [rdPh_s q] at h; cases h
theorem rdPh_12 {t : Nat → Int32} {n k p p' : Nat} {x : PHt} (h : rdPh t n k p = some (p', x)) : k < 12 := by
  refine Nat.lt_of_not_le (fun q => ?_)
  rw [rdPh_k q] at h
  cases h
/-! TIER H, reference: its stack, its out, its groups -/
def StR : List EV → (Nat → Int32) → (Nat → Int32) → Prop
  | [], _, _ => True
  | e :: st, ct, cm => (1 ≤ e.1 ∧ e.1 ≤ 6 ∧ e.2 ≤ 3) ∧ ct st.length = nI e.1 ∧ cm st.length = nI e.2 ∧ StR st ct cm
def OuR (o : List EV) (co : Nat → Int32) : Prop := ∀ (j : Nat) (e : EV), o[j]? = some e → co j = (if e.1 = 0 then nI e.2 else -(nI e.1)) ∧ e.1 ≤ 4 ∧ e.2 ≤ 12
def GrR (gr : List GRt) (c5 c6 c7 c8 c9 : Nat → Int32) : Prop := ∀ (g : Nat) (y : GRt), gr[g]? = some y → c5 g = nI y.1 ∧ c6 g = nI y.2.1 ∧ c7 g = nI (y.2.2.1 - y.2.1) ∧ c8 g = nI y.2.2.2.1 ∧ c9 g = nI y.2.2.2.2
def cJ : List EV → Nat
  | [] => 0
  | e :: st => (if e.1 < 5 then 1 else 0) + cJ st
/-- a group's place in the events -/
def OgR (o : List EV) (n : Nat) : Prop := ∀ x ∈ o, x.1 = 0 → x.2 < n
theorem OgR.nil {n : Nat} : OgR [] n := fun x hx => by cases hx
theorem OgR.add {o : List EV} {n n' g : Nat} (h : OgR o n) (hn : n ≤ n') (hg : g < n') : OgR (o ++ [(0, g)]) n' := fun x hx h0 => by
  rcases List.mem_append.mp hx with q | q
  · exact Nat.lt_of_lt_of_le (h x q h0) hn
  · rw [List.mem_singleton.mp q]; exact hg
theorem cJ_len : ∀ st : List EV, cJ st + depS st = st.length := by
  intro st
  induction st with
  | nil => rfl
  | cons e st ih =>
    rw [cJ, depS, List.length_cons]
    by_cases q : e.1 < 5
    · rw [if_pos q, if_neg (by omega)]; omega
    · rw [if_neg q, if_pos (by omega)]; omega
theorem StR.up {ct cm : Nat → Int32} {x y : Int32} : ∀ {st : List EV} {k : Nat}, StR st ct cm → st.length ≤ k → StR st (upd ct k x) (upd cm k y) := by
  intro st
  induction st with
  | nil => intro k _ _; trivial
  | cons e st ih =>
    intro k h hk
    obtain ⟨h1, h2, h3, h4⟩ := h
    rw [List.length_cons] at hk
    exact ⟨h1, by rw [pk_un (by omega)]; exact h2, by rw [pk_un (by omega)]; exact h3, ih h4 (by omega)⟩
theorem StR.push {ct cm : Nat → Int32} {st : List EV} {a b : Nat} (h : StR st ct cm) (ha : 1 ≤ a) (ha6 : a ≤ 6) (hb : b ≤ 3) : StR ((a, b) :: st) (upd ct st.length (nI a)) (upd cm st.length (nI b)) := ⟨⟨ha, ha6, hb⟩, pk_us, pk_us, h.up (Nat.le_refl _)⟩
theorem OuR.add {o : List EV} {co : Nat → Int32} {e : EV} {x : Int32} (h : OuR o co) (hx : x = (if e.1 = 0 then nI e.2 else -(nI e.1))) (h4 : e.1 ≤ 4) (h12 : e.2 ≤ 12) : OuR (o ++ [e]) (upd co o.length x) := fun j z hz => by
  by_cases q : j < o.length
  · rw [List.getElem?_append_left q] at hz
    rw [pk_un (by omega)]
    exact h j z hz
  · rw [List.getElem?_append_right (by omega)] at hz
    have hj : j = o.length := by
      have := (List.getElem?_eq_some_iff.mp hz).1
      simp only [List.length_cons, List.length_nil] at this
      omega
    subst hj
    rw [Nat.sub_self] at hz
    obtain rfl : e = z := by simpa using hz
    rw [pk_us]
    exact ⟨hx, h4, h12⟩
theorem GrR.add {gr : List GRt} {c5 c6 c7 c8 c9 d9 : Nat → Int32} {y : GRt} {x5 x6 x7 x8 : Int32} (h : GrR gr c5 c6 c7 c8 c9) (h5 : x5 = nI y.1) (h6 : x6 = nI y.2.1) (h7 : x7 = nI (y.2.2.1 - y.2.1)) (h8 : x8 = nI y.2.2.2.1) (h9 : d9 gr.length = nI y.2.2.2.2) (h9o : ∀ j, j < gr.length → d9 j = c9 j) : GrR (gr ++ [y]) (upd c5 gr.length x5) (upd c6 gr.length x6) (upd c7 gr.length x7) (upd c8 gr.length x8) d9 := fun g z hz => by
  by_cases q : g < gr.length
  · rw [List.getElem?_append_left q] at hz
    rw [pk_un (by omega), pk_un (by omega), pk_un (by omega), pk_un (by omega), h9o g q]
    exact h g z hz
  · rw [List.getElem?_append_right (by omega)] at hz
    have hj : g = gr.length := by
      have := (List.getElem?_eq_some_iff.mp hz).1
      simp only [List.length_cons, List.length_nil] at this
      omega
    subst hj
    rw [Nat.sub_self] at hz
    obtain rfl : y = z := by simpa using hz
    rw [pk_us, pk_us, pk_us, pk_us]
    exact ⟨h5, h6, h7, h8, h9⟩
theorem cntD_dep {ct cm : Nat → Int32} : ∀ {st : List EV}, StR st ct cm → cntD ct st.length = depS st := by
  intro st
  induction st with
  | nil => intro _; rfl
  | cons e st ih =>
    intro h
    obtain ⟨h1, h2, h3, h4⟩ := h
    rw [List.length_cons, cntD, ih h4, h2, depS]
    by_cases q : e.1 < 5
    · rw [if_pos (show nI e.1 < 5 from nI_lt (b := 5) q (by decide)), if_neg (by omega)]; omega
    · rw [if_neg (show ¬ nI e.1 < 5 from fun z => q ((nI_ltI (b := 5) (by omega) (by decide)).mp z)), if_pos (by omega)]; omega
theorem cf_y {st : List EV} {p : EV} {c : Nat} (h : p.1 = 6) : cfS (p :: st) c = cfS st p.2 := by rw [cfS, if_pos h]
theorem cf_n {st : List EV} {p : EV} {c : Nat} (h : ¬ p.1 = 6) : cfS (p :: st) c = (p :: st, c) := by rw [cfS, if_neg h]
theorem rd_y {st o : List EV} {p : EV} {l : Nat} (h1 : p.1 < 5) (h2 : l ≤ p.1) : redS l (p :: st) o = redS l st (o ++ [(p.1, 0)]) := by rw [redS, if_pos ⟨h1, h2⟩]
theorem rd_n {st o : List EV} {p : EV} {l : Nat} (h : ¬ (p.1 < 5 ∧ l ≤ p.1)) : redS l (p :: st) o = (p :: st, o) := by rw [redS, if_neg h]
/-- what taking off keeps -/
theorem rd_kp {l : Nat} : ∀ (st o : List EV), (redS l st o).2.length + cJ (redS l st o).1 = o.length + cJ st ∧ depS (redS l st o).1 = depS st := by
  intro st
  induction st with
  | nil => intro o; exact ⟨rfl, rfl⟩
  | cons p st ih =>
    intro o
    by_cases q : p.1 < 5 ∧ l ≤ p.1
    · rw [rd_y q.1 q.2]
      have h := ih (o ++ [(p.1, 0)])
      rw [cJ, depS, if_pos q.1, if_neg (by omega)]
      rw [List.length_append, List.length_singleton] at h
      exact ⟨by omega, by omega⟩
    · rw [rd_n q]
      exact ⟨rfl, rfl⟩
theorem cf_kp : ∀ (st : List EV) (c : Nat), cJ (cfS st c).1 = cJ st ∧ depS (cfS st c).1 ≤ depS st := by
  intro st
  induction st with
  | nil => intro c; exact ⟨rfl, Nat.le_refl _⟩
  | cons p st ih =>
    intro c
    by_cases q : p.1 = 6
    · rw [cf_y q]
      have h := ih p.2
      rw [cJ, depS, if_neg (by omega), if_pos (by omega)]
      exact ⟨by omega, by omega⟩
    · rw [cf_n q]
      exact ⟨rfl, Nat.le_refl _⟩
theorem am1 : ∀ c, c ≤ 3 → nI c &&& (1 : Int32) = nI (c &&& 1) := by decide
theorem am2 : ∀ c, c ≤ 3 → nI c &&& (2 : Int32) = nI (c &&& 2) := by decide
section FilR
variable {t : Nat → Int32} {n : Nat} {s : PSt}
theorem fp_0n (h : ¬ kdP t n s.1 = 11) (hf : flN t n s.1 = none) : flP t n s = none := by
  unfold flP
  rw [if_neg h, hf]
theorem fp_1n (h : kdP t n s.1 = 11) (hf : flN t n (skP t n s.1) = none) : flP t n s = none := by
  unfold flP
  rw [if_pos h, hf]
theorem fp_0y {a : Bool} {p' : Nat} (h : ¬ kdP t n s.1 = 11) (hf : flN t n s.1 = some (a, p')) : flP t n s = some ((if a = false then 2 else 1), (p', s.2)) := by
  unfold flP
  rw [if_neg h, hf]
  dsimp only
  rw [decide_eq_false h]
theorem fp_1y {a : Bool} {p' : Nat} (h : kdP t n s.1 = 11) (hf : flN t n (skP t n s.1) = some (a, p')) : flP t n s = some ((if a = true then 2 else 1), (p', s.2)) := by
  unfold flP
  rw [if_pos h, hf]
  dsimp only
  rw [decide_eq_true h]
end FilR
section StpR
variable {t : Nat → Int32} {n : Nat} {s s' : PSt} {st o : List EV} {c : Nat}
theorem sp_p8 (h : kdS t n s = 9) (hd : depS st = 8) : stp (kdS t n) (skS t n) (gpP t n) (flP t n) (false, s, st, c, o) = none := by rw [stp, if_pos h, if_pos hd]
theorem sp_py (h : kdS t n s = 9) (hd : ¬ depS st = 8) : stp (kdS t n) (skS t n) (gpP t n) (flP t n) (false, s, st, c, o) = some (false, skS t n s, (5, c) :: st, c, o) := by rw [stp, if_pos h, if_neg hd]
theorem sp_fn (h : ¬ kdS t n s = 9) (hp : dpr (kdS t n s) = true) (hf : flP t n s = none) : stp (kdS t n) (skS t n) (gpP t n) (flP t n) (false, s, st, c, o) = none := by rw [stp, if_neg h, if_pos hp, hf]
theorem sp_f8 (h : ¬ kdS t n s = 9) (hp : dpr (kdS t n s) = true) (hd : depS st = 8) : stp (kdS t n) (skS t n) (gpP t n) (flP t n) (false, s, st, c, o) = none := by
  rw [stp, if_neg h, if_pos hp]
  cases hf : flP t n s with
  | none => rfl
  | some y => dsimp only; rw [if_pos hd]
theorem sp_fy {pm : Nat} (h : ¬ kdS t n s = 9) (hp : dpr (kdS t n s) = true) (hf : flP t n s = some (pm, s')) (hd : ¬ depS st = 8) : stp (kdS t n) (skS t n) (gpP t n) (flP t n) (false, s, st, c, o) = some (false, s', (6, c) :: st, c &&& pm, o) := by
  rw [stp, if_neg h, if_pos hp, hf]
  dsimp only
  rw [if_neg hd]
theorem sp_gn (h : ¬ kdS t n s = 9) (hp : dpr (kdS t n s) = false) (hg : gpP t n c s = none) : stp (kdS t n) (skS t n) (gpP t n) (flP t n) (false, s, st, c, o) = none := by rw [stp, if_neg h, if_neg (by rw [hp]; decide), hg]
theorem sp_gy {g : Nat} (h : ¬ kdS t n s = 9) (hp : dpr (kdS t n s) = false) (hg : gpP t n c s = some (s', g)) : stp (kdS t n) (skS t n) (gpP t n) (flP t n) (false, s, st, c, o) = some (true, s', (cfS st c).1, (cfS st c).2, o ++ [(0, g)]) := by rw [stp, if_neg h, if_neg (by rw [hp]; decide), hg]
end StpR
theorem gp_len {t : Nat → Int32} {n c p p' g : Nat} {ph ph' : List PHt} {gr gr' : List GRt} (h : gpP t n c (p, ph, gr) = some ((p', ph', gr'), g)) : gr'.length = gr.length + 1 := by
  unfold gpP at h
  by_cases q : kdP t n (p, ph, gr).1 = 8
  · rw [if_pos q] at h
    cases hr : rdNear t n (skP t n (p, ph, gr).1) (p, ph, gr).2.1 with
    | none => rw [hr] at h; cases h
    | some y =>
      rw [hr] at h
      simp only [Option.some.injEq, Prod.mk.injEq] at h
      rw [← h.1.2.2, List.length_append]
      rfl
  · rw [if_neg q] at h
    cases hr : rdPh t n (p, ph, gr).2.1.length (if kdP t n (p, ph, gr).1 = 12 then skP t n (p, ph, gr).1 else (p, ph, gr).1) with
    | none => rw [hr] at h; cases h
    | some y =>
      rw [hr] at h
      simp only [Option.some.injEq, Prod.mk.injEq] at h
      rw [← h.1.2.2, List.length_append]
      rfl
theorem gp_gi {t : Nat → Int32} {n c p p' g : Nat} {ph ph' : List PHt} {gr gr' : List GRt} (h : gpP t n c (p, ph, gr) = some ((p', ph', gr'), g)) : g = gr.length := by
  unfold gpP at h
  by_cases q : kdP t n (p, ph, gr).1 = 8
  · rw [if_pos q] at h
    cases hr : rdNear t n (skP t n (p, ph, gr).1) (p, ph, gr).2.1 with
    | none => rw [hr] at h; cases h
    | some y =>
      rw [hr] at h
      simp only [Option.some.injEq, Prod.mk.injEq] at h
      exact h.2.symm
  · rw [if_neg q] at h
    cases hr : rdPh t n (p, ph, gr).2.1.length (if kdP t n (p, ph, gr).1 = 12 then skP t n (p, ph, gr).1 else (p, ph, gr).1) with
    | none => rw [hr] at h; cases h
    | some y =>
      rw [hr] at h
      simp only [Option.some.injEq, Prod.mk.injEq] at h
      exact h.2.symm
theorem ps_12 {t : Nat → Int32} {n : Nat} : ∀ {f p p' : Nat} {ph ph' : List PHt}, ph.length ≤ 12 → rdPs t n f p ph = some (p', ph') → ph'.length ≤ 12 := by
  intro f
  induction f with
  | zero =>
    intro p p' ph ph' hl h
    rw [rdPs] at h
    obtain ⟨-, rfl⟩ : p = p' ∧ ph = ph' := by simpa using h
    exact hl
  | succ f ih =>
    intro p p' ph ph' hl h
    cases q : isS (kdP t n p) with
    | false =>
      rw [ps_0 q] at h
      obtain ⟨-, rfl⟩ : p = p' ∧ ph = ph' := by simpa using h
      exact hl
    | true =>
      cases hs : rdPh t n ph.length p with
      | none => rw [ps_n q hs] at h; cases h
      | some y =>
        obtain ⟨p1, x⟩ := y
        rw [ps_y q hs] at h
        have := rdPh_12 hs
        exact ih (by rw [List.length_append, List.length_singleton]; omega) h
theorem near_12 {t : Nat → Int32} {n p p' d : Nat} {ph ph' : List PHt} (h : rdNear t n p ph = some (p', ph', d)) : ph'.length ≤ 12 := by
  unfold rdNear at h
  by_cases q : kdP t n p = 9
  · rw [if_pos q] at h
    cases hs : rdPh t n ph.length (skP t n p) with
    | none => rw [hs] at h; cases h
    | some y =>
      obtain ⟨p1, x⟩ := y
      rw [hs] at h
      dsimp only at h
      have l0 := rdPh_12 hs
      cases hp : rdPs t n 96 p1 (ph ++ [x]) with
      | none => rw [hp] at h; cases h
      | some y =>
        obtain ⟨p2, ph2⟩ := y
        rw [hp] at h
        dsimp only at h
        have l := ps_12 (by rw [List.length_append, List.length_singleton]; omega) hp
        by_cases q2 : kdP t n p2 = 13
        · rw [if_pos q2] at h
          cases hn : rdN t n (skP t n p2) with
          | none => rw [hn] at h; cases h
          | some y =>
            rw [hn] at h
            dsimp only at h
            by_cases q3 : kdP t n (skP t n (skP t n p2)) = 10
            · rw [if_pos q3] at h
              simp only [Option.some.injEq, Prod.mk.injEq] at h
              rw [← h.2.1]
              exact l
            · rw [if_neg q3] at h; cases h
        · rw [if_neg q2] at h
          by_cases q3 : kdP t n p2 = 10
          · rw [if_pos q3] at h
            simp only [Option.some.injEq, Prod.mk.injEq] at h
            rw [← h.2.1]
            exact l
          · rw [if_neg q3] at h; cases h
  · rw [if_neg q] at h; cases h
theorem gp_12 {t : Nat → Int32} {n c p p' g : Nat} {ph ph' : List PHt} {gr gr' : List GRt} (h : gpP t n c (p, ph, gr) = some ((p', ph', gr'), g)) (_ : ph.length ≤ 12) : ph'.length ≤ 12 := by
  unfold gpP at h
  by_cases q : kdP t n (p, ph, gr).1 = 8
  · rw [if_pos q] at h
    cases hr : rdNear t n (skP t n (p, ph, gr).1) (p, ph, gr).2.1 with
    | none => rw [hr] at h; cases h
    | some y =>
      obtain ⟨p1, ph1, d⟩ := y
      rw [hr] at h
      simp only [Option.some.injEq, Prod.mk.injEq] at h
      rw [← h.1.2.1]
      exact near_12 hr
  · rw [if_neg q] at h
    cases hr : rdPh t n (p, ph, gr).2.1.length (if kdP t n (p, ph, gr).1 = 12 then skP t n (p, ph, gr).1 else (p, ph, gr).1) with
    | none => rw [hr] at h; cases h
    | some y =>
      obtain ⟨p1, x⟩ := y
      rw [hr] at h
      simp only [Option.some.injEq, Prod.mk.injEq] at h
      have := rdPh_12 hr
      rw [← h.1.2.1, List.length_append, List.length_singleton]
      exact this
/-! TIER H, reference: its joints, its end -/
section JntR
variable {t : Nat → Int32} {n : Nat} {s : PSt} {st o : List EV} {c : Nat}
theorem sp_jn (h10 : ¬ kdS t n s = 10) (j4 : jnt (kdS t n s) = 4) (hb : bga (kdS t n s) = false) : stp (kdS t n) (skS t n) (gpP t n) (flP t n) (true, s, st, c, o) = none := by rw [stp, if_neg h10, if_pos ⟨j4, hb⟩]
theorem sp_js (h10 : ¬ kdS t n s = 10) (hn : ¬ (jnt (kdS t n s) = 4 ∧ bga (kdS t n s) = false)) : stp (kdS t n) (skS t n) (gpP t n) (flP t n) (true, s, st, c, o) = some (false, (if jnt (kdS t n s) = 4 then s else skS t n s), (jnt (kdS t n s), c) :: (redS (jnt (kdS t n s)) st o).1, c, (redS (jnt (kdS t n s)) st o).2) := by rw [stp, if_neg h10, if_neg hn]
theorem sp_j4 (h10 : ¬ kdS t n s = 10) (hj : jnt (kdS t n s) = 4) (hb : bga (kdS t n s) = true) : stp (kdS t n) (skS t n) (gpP t n) (flP t n) (true, s, st, c, o) = some (false, s, (4, c) :: (redS 4 st o).1, c, (redS 4 st o).2) := by
  rw [sp_js h10 (fun q => by rw [hb] at q; cases q.2), hj, if_pos rfl]
theorem sp_jo {j : Nat} (h10 : ¬ kdS t n s = 10) (hj : jnt (kdS t n s) = j) (h4 : ¬ j = 4) : stp (kdS t n) (skS t n) (gpP t n) (flP t n) (true, s, st, c, o) = some (false, skS t n s, (j, c) :: (redS j st o).1, c, (redS j st o).2) := by
  rw [sp_js h10 (fun q => h4 (hj.symm.trans q.1)), hj, if_neg h4]
theorem sp_cn (h10 : kdS t n s = 10) (hr : (redS 1 st o).1 = []) : stp (kdS t n) (skS t n) (gpP t n) (flP t n) (true, s, st, c, o) = none := by
  rw [stp, if_pos h10]
  cases hq : redS 1 st o with
  | mk a b =>
    rw [hq] at hr
    dsimp only at hr
    subst hr
    rfl
theorem sp_cy {p : EV} {st' : List EV} (h10 : kdS t n s = 10) (hr : (redS 1 st o).1 = p :: st') : stp (kdS t n) (skS t n) (gpP t n) (flP t n) (true, s, st, c, o) = some (true, skS t n s, (cfS st' p.2).1, (cfS st' p.2).2, (redS 1 st o).2) := by
  rw [stp, if_pos h10]
  cases hq : redS 1 st o with
  | mk a b =>
    rw [hq] at hr
    dsimp only at hr
    subst hr
    rfl
end JntR
theorem jn_r (k : Nat) : 1 ≤ jnt k ∧ jnt k ≤ 4 := by
  unfold jnt
  split
  · omega
  · split
    · omega
    · split <;> omega
theorem jn_k {k : Nat} (h : ¬ jnt k = 4) : ¬ k = 0 ∧ ¬ k = 1 := ⟨fun q => h (by subst q; rfl), fun q => h (by subst q; rfl)⟩
theorem StR.one {ct cm : Nat → Int32} : ∀ {st : List EV}, StR st ct cm → ∀ e ∈ st, 1 ≤ e.1 := by
  intro st
  induction st with
  | nil => intro _ e he; cases he
  | cons x st ih =>
    intro h e he
    rcases List.mem_cons.mp he with q | q
    · rw [q]; exact h.1.1
    · exact ih h.2.2.2 e q
theorem rd_top {p : EV} {st' : List EV} : ∀ {st o : List EV}, (∀ e ∈ st, 1 ≤ e.1) → (redS 1 st o).1 = p :: st' → 5 ≤ p.1 := by
  intro st
  induction st with
  | nil => intro o _ h; cases h
  | cons x st ih =>
    intro o h1 h
    by_cases q : x.1 < 5
    · rw [rd_y q (h1 x (List.mem_cons_self ..))] at h
      exact ih (fun e he => h1 e (List.mem_cons_of_mem _ he)) h
    · rw [rd_n (fun z => q z.1)] at h
      obtain ⟨rfl, -⟩ : x = p ∧ st = st' := by simpa using h
      omega
theorem og_red {l n : Nat} : ∀ {st o : List EV}, OgR o n → (∀ e ∈ st, 1 ≤ e.1) → OgR (redS l st o).2 n := by
  intro st
  induction st with
  | nil => intro o h _; exact h
  | cons x st ih =>
    intro o h h1
    by_cases q : x.1 < 5 ∧ l ≤ x.1
    · rw [rd_y q.1 q.2]
      refine ih (fun y hy h0 => ?_) (fun e he => h1 e (List.mem_cons_of_mem _ he))
      rcases List.mem_append.mp hy with z | z
      · exact h y z h0
      · rw [List.mem_singleton.mp z] at h0
        have := h1 x (List.mem_cons_self ..)
        dsimp only at h0
        omega
    · rw [rd_n q]; exact h
theorem OgR.red {l n : Nat} {st o : List EV} (h : OgR o n) (h1 : ∀ e ∈ st, 1 ≤ e.1) : OgR (redS l st o).2 n := og_red h h1
theorem StR.tl {ct cm : Nat → Int32} {p : EV} {st : List EV} (h : StR (p :: st) ct cm) : p.2 ≤ 3 ∧ cm st.length = nI p.2 ∧ StR st ct cm := ⟨h.1.2.2, h.2.2.1, h.2.2.2⟩
theorem Rto.uniq {S : Type} {kd : S → Nat} {sk : S → S} {gp : Nat → S → Option (S × Nat)} {fl : S → Option (Nat × S)} {z : CF S} {r r' : Option (S × List EV)} (h : Rto kd sk gp fl z r) (h' : Rto kd sk gp fl z r') : r = r' := by
  obtain ⟨n, a⟩ := h
  obtain ⟨m, b⟩ := h'
  rw [← a (max n m) (Nat.le_max_left _ _), b _ (Nat.le_max_right _ _)]
theorem Rto.back {S : Type} {kd : S → Nat} {sk : S → S} {gp : Nat → S → Option (S × Nat)} {fl : S → Option (Nat × S)} {z z' : CF S} {r : Option (S × List EV)} (h : stp kd sk gp fl z = some z') (hn : ¬ (z.1 = true ∧ kd z.2.1 = 0)) (k : Rto kd sk gp fl z r) : Rto kd sk gp fl z' r := by
  obtain ⟨n, a⟩ := k
  refine ⟨n, fun f hf => ?_⟩
  have := a (f + 1) (by omega)
  rw [runM, if_neg hn, h] at this
  exact this
theorem RqT.nil {fa : Nat → Int32} {asz : Nat} {c1 c2 ca cs : Nat → Int32} : RqT fa asz c1 c2 ca cs 0 0 [] [] := ⟨fun _ => Or.inl rfl, ⟨rfl, fun s w hw => absurd hw (by rw [show wds fa (spn [] ++ []) = [] from rfl]; simp)⟩, Nat.zero_le _, fun i x hx => absurd hx (by simp)⟩
theorem GrR.nil {c5 c6 c7 c8 c9 : Nat → Int32} : GrR [] c5 c6 c7 c8 c9 := fun g y hy => absurd hy (by simp)
theorem OuR.nil {co : Nat → Int32} : OuR [] co := fun j e he => absurd he (by simp)
/-- each step lessens it -/
def meaZ (n : Nat) (z : CF PSt) : Nat := 40 * lnP n z.2.1 + (if z.1 = true then 20 + depS z.2.2.1 else 8 - depS z.2.2.1)
theorem mea_le {n : Nat} {z : CF PSt} (hd : depS z.2.2.1 ≤ 8) : meaZ n z ≤ 3868 := by
  have h : lnP n z.2.1 ≤ 96 := Nat.min_le_right _ _
  unfold meaZ
  split <;> omega
theorem mea_lt {t : Nat → Int32} {n : Nat} (hn : n ≤ 96) {b : Bool} {s : PSt} {st o : List EV} {c : Nat} {z' : CF PSt} (h : stp (kdS t n) (skS t n) (gpP t n) (flP t n) (b, s, st, c, o) = some z') (hd : depS st ≤ 8) (h1 : ∀ e ∈ st, 1 ≤ e.1) : meaZ n z' < meaZ n (b, s, st, c, o) := by
  cases b with
  | false =>
    by_cases h9 : kdS t n s = 9
    · by_cases d8 : depS st = 8
      · rw [sp_p8 h9 d8] at h; cases h
      · rw [sp_py h9 d8] at h
        obtain rfl := Option.some.inj h
        have := sk_ln (t := t) (n := n) s
        show 40 * lnP n (skS t n s) + (8 - depS ((5, c) :: st)) < 40 * lnP n s + (8 - depS st)
        rw [depS, if_pos (show 5 ≤ ((5 : Nat), c).1 from Nat.le_refl 5)]
        omega
    · cases hp : dpr (kdS t n s) with
      | true =>
        cases hf : flP t n s with
        | none => rw [sp_fn h9 hp hf] at h; cases h
        | some y =>
          obtain ⟨pm, s2⟩ := y
          by_cases d8 : depS st = 8
          · rw [sp_f8 h9 hp d8] at h; cases h
          · rw [sp_fy h9 hp hf d8] at h
            obtain rfl := Option.some.inj h
            have := fl_ln hn _ _ _ hf
            show 40 * lnP n s2 + (8 - depS ((6, c) :: st)) < 40 * lnP n s + (8 - depS st)
            omega
      | false =>
        cases hg : gpP t n c s with
        | none => rw [sp_gn h9 hp hg] at h; cases h
        | some y =>
          obtain ⟨s2, g⟩ := y
          rw [sp_gy h9 hp hg] at h
          obtain rfl := Option.some.inj h
          have := gp_ln hn _ _ _ _ hg
          have := (cf_kp st c).2
          show 40 * lnP n s2 + (20 + depS (cfS st c).1) < 40 * lnP n s + (8 - depS st)
          omega
  | true =>
    by_cases h10 : kdS t n s = 10
    · cases hr : (redS 1 st o).1 with
      | nil => rw [sp_cn h10 hr] at h; cases h
      | cons p st' =>
        rw [sp_cy h10 hr] at h
        obtain rfl := Option.some.inj h
        have a1 := sk_ln (t := t) (n := n) s
        have a2 := (cf_kp st' p.2).2
        have a3 := (rd_kp (l := 1) st o).2
        have a4 := rd_top h1 hr
        rw [hr, depS, if_pos a4] at a3
        show 40 * lnP n (skS t n s) + (20 + depS (cfS st' p.2).1) < 40 * lnP n s + (20 + depS st)
        omega
    · by_cases q : jnt (kdS t n s) = 4 ∧ bga (kdS t n s) = false
      · rw [sp_jn h10 q.1 q.2] at h; cases h
      · rw [sp_js h10 q] at h
        obtain rfl := Option.some.inj h
        have a1 := sk_ln (t := t) (n := n) s
        have a2 : lnP n (if jnt (kdS t n s) = 4 then s else skS t n s) ≤ lnP n s := by
          split
          · exact Nat.le_refl _
          · exact a1
        show 40 * lnP n (if jnt (kdS t n s) = 4 then s else skS t n s) + (8 - depS ((jnt (kdS t n s), c) :: (redS (jnt (kdS t n s)) st o).1)) < 40 * lnP n s + (20 + depS st)
        omega
/-- the end of the reading -/
def fnZ (s : PSt) (q : List EV × List EV) : Option (PSt × List EV) := if q.1.length = 0 then some (s, q.2) else none
theorem Rto.endZ {t : Nat → Int32} {n : Nat} {s : PSt} {st o : List EV} {c : Nat} {r : Option (PSt × List EV)} (h : kdS t n s = 0) (k : Rto (kdS t n) (skS t n) (gpP t n) (flP t n) (true, s, st, c, o) r) : r = fnZ s (redS 1 st o) := by
  rw [k.uniq (Rto.fin _ _ _ _ h)]
  cases hq : redS 1 st o with
  | mk a b => cases a <;> rfl
theorem fnZ_n {s : PSt} {q : List EV × List EV} (h : ¬ q.1.length = 0) : fnZ s q = none := by rw [fnZ, if_neg h]
theorem fnZ_y {s : PSt} {q : List EV × List EV} (h : q.1.length = 0) : fnZ s q = some (s, q.2) := by rw [fnZ, if_pos h]
noncomputable def redQ (t : Nat → Int32) (n : Nat) : Option (PSt × List EV) := resJ (kdS t n) (jn1 (kdS t n) (skS t n) 96 (atm (kdS t n) (skS t n) (gpP t n) (flP t n) 96 9 3 0) (0, [], []))
/-! TIER H, reference: what stands where -/
def TpX (T : List (List Int32)) (k : Nat) (ft fb fl : Nat → Int32) : Prop := k = T.length ∧ ∀ (s : Nat) (x : List Int32), T[s]? = some x → ∃ a, fb s = nI a ∧ fl s = nI (a + x.length) ∧ a + x.length ≤ 2304 ∧ 1 ≤ x.length ∧ ∀ (j : Nat) (c : Int32), x[j]? = some c → lowc (ft (a + j)) = c
theorem mt_eq {w x : List Int32} {a xx i : Nat} {fa ft : Nat → Int32} (hX : ∀ (j : Nat) (c : Int32), x[j]? = some c → lowc (ft (xx + j)) = c) (hW : ∀ (j : Nat) (c : Int32), w[j]? = some c → lowc (fa (a + j)) = c) (hi : i < w.length) (hix : i < x.length) : lowc (ft (xx + i)) = lowc (fa (a + i)) ↔ w[i]? = x[i]? := by
  obtain ⟨c, hc⟩ : ∃ c, w[i]? = some c := ⟨_, List.getElem?_eq_getElem hi⟩
  obtain ⟨d, hd⟩ : ∃ d, x[i]? = some d := ⟨_, List.getElem?_eq_getElem hix⟩
  rw [hX i d hd, hW i c hc, hc, hd]
  exact ⟨fun q => by rw [q], fun q => (Option.some.inj q).symm⟩
def SdP (ws : List (List Int32)) (a n : Nat) (b : Bool) (T : List (List Int32)) (u : Nat) : Prop := 0 < n ∧ u + n ≤ T.length ∧ SdA ws a n b T u
def SbP (ws : List (List Int32)) (a n : Nat) (b : Bool) (T : List (List Int32)) (e0 b0 : Nat) : Prop := ∃ j, j < T.length ∧ j ≤ b0 ∧ e0 ≤ j + n ∧ SdP ws a n b T j
def PhA (ws : List (List Int32)) (c1 c2 : Nat → Int32) (P : Nat) (A N : Nat → Nat) (Bb : Nat → Bool) : Prop := ∀ j, j < P → c1 j = nI (A j) ∧ c1 (j + 1) = nI (A j + N j) ∧ c2 j = b01 (Bb j) ∧ A j + N j ≤ ws.length
def HnP (ws : List (List Int32)) (A N : Nat → Nat) (Bb : Nat → Bool) (T : List (List Int32)) (a i far e : Nat) : Prop := ∀ p, a ≤ p → p < a + i → SbP ws (A p) (N p) (Bb p) T e (e + far)
def HhP (ws : List (List Int32)) (A N : Nat → Nat) (Bb : Nat → Bool) (T : List (List Int32)) (kn a q far : Nat) : Prop := if kn = 1 then SdP ws (A a) (N a) (Bb a) T 0 else if kn = 0 then SbP ws (A a) (N a) (Bb a) T 0 48 else ∃ e, e ≤ T.length ∧ HnP ws A N Bb T a q far e
theorem HnP.step {ws : List (List Int32)} {A N : Nat → Nat} {Bb : Nat → Bool} {T : List (List Int32)} {a i far e : Nat} : HnP ws A N Bb T a (i + 1) far e ↔ HnP ws A N Bb T a i far e ∧ SbP ws (A (a + i)) (N (a + i)) (Bb (a + i)) T e (e + far) := by
  constructor
  · intro h
    exact ⟨fun p h1 h2 => h p h1 (by omega), h (a + i) (by omega) (by omega)⟩
  · rintro ⟨h, k⟩ p h1 h2
    by_cases q : p = a + i
    · rw [q]; exact k
    · exact h p h1 (by omega)
theorem yn_and {x y : Int32} {P R : Prop} (hx : (x = 0 ∧ ¬ P) ∨ (x = 1 ∧ P)) (hy : (y = 0 ∧ ¬ R) ∨ (y = 1 ∧ R)) : (x &&& y = 0 ∧ ¬ (P ∧ R)) ∨ (x &&& y = 1 ∧ (P ∧ R)) := by
  rcases hx with ⟨rfl, p⟩ | ⟨rfl, p⟩ <;> rcases hy with ⟨rfl, r⟩ | ⟨rfl, r⟩
  · exact Or.inl ⟨by decide, fun q => p q.1⟩
  · exact Or.inl ⟨by decide, fun q => p q.1⟩
  · exact Or.inl ⟨by decide, fun q => r q.2⟩
  · exact Or.inr ⟨by decide, p, r⟩
theorem yn_b {y : Int32} {P : Prop} (h : (y = 0 ∧ ¬ P) ∨ (y = 1 ∧ P)) : y = 0 ∨ y = 1 := h.elim (fun q => Or.inl q.1) (fun q => Or.inr q.1)
theorem yn_y {y : Int32} {P : Prop} (h : (y = 0 ∧ ¬ P) ∨ (y = 1 ∧ P)) (z : ¬ y = 0) : P := h.elim (fun q => absurd q.1 z) (fun q => q.2)
theorem yn_n {y : Int32} {P : Prop} (h : (y = 0 ∧ ¬ P) ∨ (y = 1 ∧ P)) (z : y = 0) : ¬ P := h.elim (fun q => q.2) (fun q => absurd (q.1.symm.trans z) (by decide))
theorem yn_cg {y : Int32} {P R : Prop} (h : (y = 0 ∧ ¬ P) ∨ (y = 1 ∧ P)) (e : P ↔ R) : (y = 0 ∧ ¬ R) ∨ (y = 1 ∧ R) := h.elim (fun q => Or.inl ⟨q.1, fun r => q.2 (e.mpr r)⟩) (fun q => Or.inr ⟨q.1, e.mp q.2⟩)
theorem TpX.of {ft fb fl : Nat → Int32} {b n k : Nat} (TX : TokX ft b fb fl n) (hk : k = tokN (fun j => ft (b + j)) n) (TW : TokW fb fl k b n) (hb : b + n ≤ 2304) : TpX (wdS ft b (b + n)) k ft fb fl := by
  refine ⟨by rw [wdS_len, Nat.add_sub_cancel_left]; exact hk, fun s x hx => ?_⟩
  obtain ⟨h1, h2⟩ := wdS_at hx
  rw [Nat.add_sub_cancel_left] at h1 h2
  obtain ⟨a, e1, e2, e3, e4, -, e6⟩ := TX s h1
  obtain ⟨x1, y1, d1, d2, d3, d4, d5⟩ := TW s (by omega)
  have hl : x.length = tkL (fun j => ft (b + j)) n s := by rw [h2, List.length_map, List.length_range]
  have w1 : a = x1 := (nI_eq (by omega) (by omega)).mp (e1.symm.trans d1)
  have w2 : a + tkL (fun j => ft (b + j)) n s = y1 := (nI_eq (by omega) (by omega)).mp (e2.symm.trans d2)
  refine ⟨a, e1, by rw [hl]; exact e2, by omega, by omega, fun j c hc => ?_⟩
  rw [h2] at hc
  obtain ⟨j1, j2⟩ := rg_at hc
  rw [j2]
  exact e6 j j1
/-- the words of a row's column in the reference -/
def Tw (ft fz : Nat → Int32) (r c : Nat) : List (List Int32) := wdS ft (96 * r + 48 * c) (96 * r + 48 * c + (fz (2 * r + c)).toNatClampNeg)
theorem Tw_eq {ft fz : Nat → Int32} {r c n : Nat} (h : fz (2 * r + c) = nI n) (hn : n ≤ 48) : Tw ft fz r c = wdS ft (96 * r + 48 * c) (96 * r + 48 * c + n) := by
  unfold Tw
  rw [h, nI_clamp (by omega)]
def GhP (ws : List (List Int32)) (A N : Nat → Nat) (Bb : Nat → Bool) (ft fz : Nat → Int32) (r cc kn a q far : Nat) : Prop := ∃ c, c < 2 ∧ cc.testBit c = true ∧ HhP ws A N Bb (Tw ft fz r c) kn a q far
/-! TIER H, reference: its stack of truths -/
def dpE : List EV → Nat → Prop
  | [], _ => True
  | p :: es, n => if p.1 = 0 then dpE es (n + 1) else 2 ≤ n ∧ dpE es (n - 1)
theorem dp_ok : ∀ (e : List EV) (n : Nat) (s0 : List Nat), (∀ st, lks e n (s0 ++ st) = lks e n s0) → dpE e s0.length := by
  intro e
  induction e with
  | nil => intro n s0 _; trivial
  | cons p e ih =>
    intro n s0 h
    have hn : ∀ st, ndS p (s0 ++ st) = ndS p s0 := fun st => by
      have := h st
      rw [lks, lks] at this
      exact (List.cons.inj this).1
    have ht : ∀ st, lks e (n + 1) (ixS p n (s0 ++ st)) = lks e (n + 1) (ixS p n s0) := fun st => by
      have := h st
      rw [lks, lks] at this
      exact (List.cons.inj this).2
    rw [dpE]
    by_cases q : p.1 = 0
    · rw [if_pos q]
      refine ih (n + 1) (n :: s0) (fun st => ?_)
      have := ht st
      unfold ixS at this
      rw [if_pos q, if_pos q] at this
      exact this
    · rw [if_neg q]
      match s0, hn, ht with
      | [], hn, _ =>
        have := hn [0, 1]
        unfold ndS at this
        rw [if_neg q, if_neg q] at this
        simp at this
      | [a], hn, _ =>
        have := hn [1]
        unfold ndS at this
        rw [if_neg q, if_neg q] at this
        simp at this
      | b :: a :: s1, _, ht =>
        refine ⟨by simp only [List.length_cons]; omega, ?_⟩
        have := ih (n + 1) (n :: s1) (fun st => by
          have := ht st
          unfold ixS at this
          rw [if_neg q, if_neg q] at this
          exact this)
        exact this
def TrR : List Bool → (Nat → Int32) → Prop
  | [], _ => True
  | b :: st, c => c st.length = b01 b ∧ TrR st c
theorem TrR.up {c : Nat → Int32} {x : Int32} : ∀ {st : List Bool} {k : Nat}, TrR st c → st.length ≤ k → TrR st (upd c k x) := by
  intro st
  induction st with
  | nil => intro k _ _; trivial
  | cons b st ih =>
    intro k h hk
    rw [List.length_cons] at hk
    exact ⟨by rw [pk_un (by omega)]; exact h.1, ih h.2 (by omega)⟩
theorem TrR.push {c : Nat → Int32} {x : Int32} {st : List Bool} {b : Bool} (h : TrR st c) (hx : x = b01 b) : TrR (b :: st) (upd c st.length x) := ⟨by rw [pk_us]; exact hx, h.up (Nat.le_refl _)⟩
theorem drop_c {e : List EV} {i : Nat} (h : i < e.length) : ∃ p, e[i]? = some p ∧ e.drop i = p :: e.drop (i + 1) := ⟨e[i], List.getElem?_eq_getElem h, List.drop_eq_getElem_cons h⟩
theorem neg_j : ∀ r, 1 ≤ r → r ≤ 4 → -(nI r) < 0 := fun r h1 h2 => by
  have : r = 1 ∨ r = 2 ∨ r = 3 ∨ r = 4 := by omega
  rcases this with rfl | rfl | rfl | rfl <;> decide
theorem neg_1 : ∀ r, 1 ≤ r → r ≤ 4 → (-(nI r) = -1 ↔ r = 1) := fun r h1 h2 => by
  have : r = 1 ∨ r = 2 ∨ r = 3 ∨ r = 4 := by omega
  rcases this with rfl | rfl | rfl | rfl <;> decide
theorem neg_3 : ∀ r, 1 ≤ r → r ≤ 4 → (-(nI r) = -3 ↔ r = 3) := fun r h1 h2 => by
  have : r = 1 ∨ r = 2 ∨ r = 3 ∨ r = 4 := by omega
  rcases this with rfl | rfl | rfl | rfl <;> decide
theorem vn_b (b : Bool) : vp_nar .boolean (b01 b) = b01 b := by cases b <;> rfl
theorem yn_01 {y : Int32} {P : Prop} {b : Bool} (h : (y = 0 ∧ ¬ P) ∨ (y = 1 ∧ P)) (hb : b = true ↔ P) : y = b01 b := by
  rcases h with ⟨rfl, p⟩ | ⟨rfl, p⟩
  · cases b
    · rfl
    · exact absurd (hb.mp rfl) p
  · cases b
    · exact absurd (hb.mpr p) (by decide)
    · rfl
/-- a group of the reference holds in a row -/
def GrP (ws : List (List Int32)) (A N : Nat → Nat) (Bb : Nat → Bool) (ft fz : Nat → Int32) (gr : List GRt) (r g : Nat) : Prop := ∃ y : GRt, gr[g]? = some y ∧ GhP ws A N Bb ft fz r y.2.2.2.1 y.1 y.2.1 (y.2.2.1 - y.2.1) y.2.2.2.2
noncomputable def grB (ws : List (List Int32)) (A N : Nat → Nat) (Bb : Nat → Bool) (ft fz : Nat → Int32) (gr : List GRt) (r g : Nat) : Bool := (Classical.propDecidable (GrP ws A N Bb ft fz gr r g)).decide
theorem grB_iff {ws : List (List Int32)} {A N : Nat → Nat} {Bb : Nat → Bool} {ft fz : Nat → Int32} {gr : List GRt} {r g : Nat} : grB ws A N Bb ft fz gr r g = true ↔ GrP ws A N Bb ft fz gr r g := by
  unfold grB
  exact @decide_eq_true_iff _ (Classical.propDecidable _)
theorem grB_at {ws : List (List Int32)} {A N : Nat → Nat} {Bb : Nat → Bool} {ft fz : Nat → Int32} {gr : List GRt} {r g : Nat} {y : GRt} (hy : gr[g]? = some y) : grB ws A N Bb ft fz gr r g = true ↔ GhP ws A N Bb ft fz r y.2.2.2.1 y.1 y.2.1 (y.2.2.1 - y.2.1) y.2.2.2.2 := by
  rw [grB_iff]
  constructor
  · rintro ⟨z, hz, h⟩
    obtain rfl := Option.some.inj (hy.symm.trans hz)
    exact h
  · intro h
    exact ⟨y, hy, h⟩
theorem ev_g {G : Nat → Bool} {p : EV} {es : List EV} {st : List Bool} (h : p.1 = 0) : evE G (p :: es) st = evE G es (G p.2 :: st) := by rw [evE, if_pos h]
theorem ev_j {G : Nat → Bool} {p : EV} {es : List EV} {a b : Bool} {st : List Bool} (h : ¬ p.1 = 0) : evE G (p :: es) (b :: a :: st) = evE G es (opB p.1 a b :: st) := by rw [evE, if_neg h]; rfl
theorem dp_g {p : EV} {es : List EV} {n : Nat} (h : p.1 = 0) (d : dpE (p :: es) n) : dpE es (n + 1) := by rw [dpE, if_pos h] at d; exact d
theorem dp_j {p : EV} {es : List EV} {n : Nat} (h : ¬ p.1 = 0) (d : dpE (p :: es) n) : 2 ≤ n ∧ dpE es (n - 1) := by rw [dpE, if_neg h] at d; exact d
/-! TIER H: letters behind the end of a question say nothing -/
section CutH
variable {t u : Nat → Int32} {n : Nat}
theorem blk_cg (h : ∀ j, j < n → t j = u j) : ∀ f p, blkE t n f p = blkE u n f p := by
  intro f
  induction f with
  | zero => intro p; rfl
  | succ f ih =>
    intro p
    rw [blkE, blkE]
    by_cases q : p < n
    · rw [h p q, ih]
    · rw [if_neg (fun z => q z.1), if_neg (fun z => q z.1)]
theorem wrd_cg (h : ∀ j, j < n → t j = u j) : ∀ f p, wrdE t n f p = wrdE u n f p := by
  intro f
  induction f with
  | zero => intro p; rfl
  | succ f ih =>
    intro p
    rw [wrdE, wrdE]
    by_cases q : p < n
    · rw [h p q, ih]
    · rw [if_neg (fun z => q z.1), if_neg (fun z => q z.1)]
theorem quo_cg (h : ∀ j, j < n → t j = u j) : ∀ f p, quoE t n f p = quoE u n f p := by
  intro f
  induction f with
  | zero => intro p; rfl
  | succ f ih =>
    intro p
    rw [quoE, quoE]
    by_cases q : p < n
    · rw [h p q, ih]
    · rw [if_neg (fun z => q z.1), if_neg (fun z => q z.1)]
theorem isN_cg (h : ∀ j, j < n → t j = u j) {s e : Nat} {w : List Int32} (he : e ≤ n) : isN t s e w ↔ isN u s e w := by
  unfold isN
  constructor
  · rintro ⟨a, b⟩
    refine ⟨a, fun i x hx => ?_⟩
    have hi : i < w.length := (List.getElem?_eq_some_iff.mp hx).1
    rw [← h (s + i) (by omega)]
    exact b i x hx
  · rintro ⟨a, b⟩
    refine ⟨a, fun i x hx => ?_⟩
    have hi : i < w.length := (List.getElem?_eq_some_iff.mp hx).1
    rw [h (s + i) (by omega)]
    exact b i x hx
theorem wkd_cg (h : ∀ j, j < n → t j = u j) {s e : Nat} (he : e ≤ n) : wkd t n s e = wkd u n s e := by
  by_cases q1 : isN u s e [79, 82]
  · rw [wkd_5 ((isN_cg h he).mpr q1), wkd_5 q1]
  · have p1 : ¬ isN t s e [79, 82] := fun z => q1 ((isN_cg h he).mp z)
    by_cases q2 : isN u s e [65, 78, 68]
    · rw [wkd_6 p1 ((isN_cg h he).mpr q2), wkd_6 q1 q2]
    · have p2 : ¬ isN t s e [65, 78, 68] := fun z => q2 ((isN_cg h he).mp z)
      by_cases q3 : isN u s e [78, 79, 84]
      · rw [wkd_7 p1 p2 ((isN_cg h he).mpr q3), wkd_7 q1 q2 q3]
      · have p3 : ¬ isN t s e [78, 79, 84] := fun z => q3 ((isN_cg h he).mp z)
        by_cases q4 : isN u s e [78, 69, 65, 82]
        · rw [wkd_8 p1 p2 p3 ((isN_cg h he).mpr q4), wkd_8 q1 q2 q3 q4]
        · have p4 : ¬ isN t s e [78, 69, 65, 82] := fun z => q4 ((isN_cg h he).mp z)
          rw [wkd_n p1 p2 p3 p4, wkd_n q1 q2 q3 q4]
          by_cases q5 : e < n
          · rw [h e q5]
          · rw [if_neg (fun z => q5 z.1), if_neg (fun z => q5 z.1)]
theorem lex_cg (h : ∀ j, j < n → t j = u j) (s : Nat) : lexK t n s = lexK u n s := by
  unfold lexK
  by_cases q : n ≤ s
  · rw [if_pos q, if_pos q]
  · rw [if_neg q, if_neg q, h s (by omega), wrd_cg h (n - s) s, quo_cg h (n - (s + 1)) (s + 1), wkd_cg h (s := s) (e := wrdE u n (n - s) s) (by have := wrdE_ge u n (n - s) s; omega)]
theorem bl_cg (h : ∀ j, j < n → t j = u j) : bl t n = bl u n := funext (fun p => blk_cg h (n - p) p)
theorem kdP_cg (h : ∀ j, j < n → t j = u j) : kdP t n = kdP u n := funext (fun p => by
  unfold kdP
  rw [bl_cg h, lex_cg h])
theorem skP_cg (h : ∀ j, j < n → t j = u j) : skP t n = skP u n := funext (fun p => by
  unfold skP
  rw [bl_cg h, lex_cg h])
theorem rdS_cg (h : ∀ j, j < n → t j = u j) : rdS t n = rdS u n := funext (fun p => by
  unfold rdS
  rw [bl_cg h, kdP_cg h, skP_cg h])
theorem rdP_cg (h : ∀ j, j < n → t j = u j) : rdP t n = rdP u n := by
  funext f
  induction f with
  | zero => funext p sp; rfl
  | succ f ih =>
    funext p sp
    rw [rdP, rdP, kdP_cg h, skP_cg h, rdS_cg h, ih]
theorem rdPh_cg (h : ∀ j, j < n → t j = u j) : rdPh t n = rdPh u n := funext (fun k => funext (fun p => by
  unfold rdPh
  rw [rdS_cg h, rdP_cg h, kdP_cg h, skP_cg h]))
theorem rdPs_cg (h : ∀ j, j < n → t j = u j) : rdPs t n = rdPs u n := by
  funext f
  induction f with
  | zero => funext p ph; rfl
  | succ f ih =>
    funext p ph
    rw [rdPs, rdPs, kdP_cg h, rdPh_cg h, ih]
theorem rdN_cg (h : ∀ j, j < n → t j = u j) : rdN t n = rdN u n := funext (fun p => by
  unfold rdN
  rw [kdP_cg h, skP_cg h, bl_cg h]
  by_cases q : kdP u n p = 2 ∨ kdP u n p = 3
  · obtain ⟨g1, g2, -⟩ := kd_w q
    have e1 : t (bl u n p) = u (bl u n p) := h _ (by omega)
    rw [e1]
    by_cases q1 : skP u n p = bl u n p + 1
    · by_cases q3 : dig (u (bl u n p)) = true
      · have c1 : (kdP u n p = 2 ∨ kdP u n p = 3) ∧ dig (u (bl u n p)) = true ∧ (skP u n p = bl u n p + 1 ∨ (skP u n p = bl u n p + 2 ∧ dig (t (bl u n p + 1)) = true)) := ⟨q, q3, Or.inl q1⟩
        have c2 : (kdP u n p = 2 ∨ kdP u n p = 3) ∧ dig (u (bl u n p)) = true ∧ (skP u n p = bl u n p + 1 ∨ (skP u n p = bl u n p + 2 ∧ dig (u (bl u n p + 1)) = true)) := ⟨q, q3, Or.inl q1⟩
        rw [if_pos c1, if_pos c2, if_pos q1, if_pos q1]
      · rw [if_neg (fun z => q3 z.2.1), if_neg (fun z => q3 z.2.1)]
    · by_cases q2 : skP u n p = bl u n p + 2
      · have e2 : t (bl u n p + 1) = u (bl u n p + 1) := h _ (by omega)
        rw [e2]
      · rw [if_neg (fun z => z.2.2.elim q1 (fun y => q2 y.1)), if_neg (fun z => z.2.2.elim q1 (fun y => q2 y.1))]
  · rw [if_neg (fun z => q z.1), if_neg (fun z => q z.1)])
theorem rdNear_cg (h : ∀ j, j < n → t j = u j) : rdNear t n = rdNear u n := funext (fun p => funext (fun ph => by
  unfold rdNear
  rw [rdPh_cg h, rdPs_cg h, rdN_cg h, kdP_cg h, skP_cg h]))
theorem gpP_cg (h : ∀ j, j < n → t j = u j) : gpP t n = gpP u n := funext (fun c => funext (fun s => by
  unfold gpP
  rw [rdNear_cg h, rdPh_cg h, kdP_cg h, skP_cg h]))
theorem flN_cg (h : ∀ j, j < n → t j = u j) : flN t n = flN u n := funext (fun p => by
  unfold flN
  rw [kdP_cg h, skP_cg h, bl_cg h]
  by_cases q : kdP u n p = 3
  · obtain ⟨g1, g2, -⟩ := kd_w (Or.inr q)
    rw [h (bl u n p) (by omega)]
  · rw [if_neg (fun z => q z.1), if_neg (fun z => q z.1)])
theorem flP_cg (h : ∀ j, j < n → t j = u j) : flP t n = flP u n := funext (fun s => by
  unfold flP
  rw [flN_cg h, kdP_cg h, skP_cg h])
theorem kdS_cg (h : ∀ j, j < n → t j = u j) : kdS t n = kdS u n := funext (fun s => by
  unfold kdS
  rw [kdP_cg h])
theorem skS_cg (h : ∀ j, j < n → t j = u j) : skS t n = skS u n := funext (fun s => by
  unfold skS
  rw [skP_cg h])
theorem redQ_cg (h : ∀ j, j < n → t j = u j) : redQ t n = redQ u n := by
  unfold redQ
  rw [kdS_cg h, skS_cg h, gpP_cg h, flP_cg h]
theorem wdS_cg (h : ∀ j, j < n → t j = u j) {a b : Nat} (hb : b ≤ n) : wdS t a b = wdS u a b := by
  have hl : ∀ j, j < b - a → (fun j => t (a + j)) j = (fun j => u (a + j)) j := fun j hj => h _ (by omega)
  have e1 : (fun s => (List.range (tkL (fun j => t (a + j)) (b - a) s)).map (tkC (fun j => t (a + j)) (b - a) s)) = (fun s => (List.range (tkL (fun j => u (a + j)) (b - a) s)).map (tkC (fun j => u (a + j)) (b - a) s)) := funext (fun s => by
    rw [tkL_eq hl s, show tkC (fun j => t (a + j)) (b - a) s = tkC (fun j => u (a + j)) (b - a) s from funext (tkC_eq hl s)])
  unfold wdS
  rw [tokN_eq hl, e1]
theorem wds_cg (h : ∀ j, j < n → t j = u j) : ∀ sp : List (Nat × Nat), (∀ x ∈ sp, x.2 ≤ n) → wds t sp = wds u sp := by
  intro sp
  induction sp with
  | nil => intro _; rfl
  | cons x sp ih =>
    intro hx
    rw [wds, wds, wdS_cg h (hx x List.mem_cons_self), ih (fun y hy => hx y (List.mem_cons_of_mem _ hy))]
end CutH
/-! what holds all along -/
section IvG
variable {S : Type} {kd : S → Nat} {sk : S → S} {gp : Nat → S → Option (S × Nat)} {fl : S → Option (Nat × S)} {I : S → Prop}
def IVG (I : S → Prop) (x : S → Option (S × List EV)) : Prop := ∀ s s' e, I s → x s = some (s', e) → I s'
theorem lp_IG (hs : ∀ s, I s → I (sk s)) {x : S → Option (S × List EV)} {r : Nat} (hx : IVG I x) : ∀ (f : Nat) (s : S) (e : List EV) (s' : S) (e' : List EV), I s → lpJ kd sk x r f s e = some (s', e') → I s' := by
  intro f
  induction f with
  | zero =>
    intro s e s' e' hi h
    rw [lpJ] at h
    obtain ⟨rfl, -⟩ : s = s' ∧ e = e' := by simpa using h
    exact hi
  | succ f ih =>
    intro s e s' e' hi h
    rw [lpJ] at h
    by_cases q : goes r (kd s) = true
    · rw [if_pos q] at h
      have hs2 : I (if r = 4 then s else sk s) := by
        split
        · exact hi
        · exact hs s hi
      cases hxs : x (if r = 4 then s else sk s) with
      | none => rw [hxs] at h; simp at h
      | some y =>
        obtain ⟨s2, e2⟩ := y
        rw [hxs] at h
        exact ih s2 _ s' e' (hx _ _ _ hs2 hxs) h
    · rw [if_neg q] at h
      obtain ⟨rfl, -⟩ : s = s' ∧ e = e' := by simpa using h
      exact hi
theorem jn_IG (hs : ∀ s, I s → I (sk s)) {x : S → Option (S × List EV)} {r f : Nat} (hx : IVG I x) : IVG I (jnX kd sk x r f) := fun s s' e hi h => by
  rw [jnX] at h
  cases hxs : x s with
  | none => rw [hxs] at h; simp at h
  | some y =>
    obtain ⟨s2, e2⟩ := y
    rw [hxs] at h
    exact lp_IG hs hx f s2 e2 s' e (hx _ _ _ hi hxs) h
theorem jn1_IG (hs : ∀ s, I s → I (sk s)) {x : S → Option (S × List EV)} {b : Nat} (hx : IVG I x) : IVG I (jn1 kd sk b x) := jn_IG hs (jn_IG hs (jn_IG hs (jn_IG hs hx)))
theorem atm_IG (hs : ∀ s, I s → I (sk s)) (hg : ∀ c s s' g, I s → gp c s = some (s', g) → I s') (hf : ∀ s pm s', I s → fl s = some (pm, s') → I s') {b : Nat} : ∀ (f c d : Nat), IVG I (atm kd sk gp fl b f c d) := by
  intro f
  induction f with
  | zero => intro c d s s' e _ h; rw [atm] at h; cases h
  | succ f ih =>
    intro c d s s' e hi h
    rw [atm] at h
    by_cases hp : dpr (kd s) = true
    · rw [if_pos hp] at h
      by_cases h8 : 8 ≤ d
      · rw [if_pos h8] at h; cases h
      · rw [if_neg h8] at h
        by_cases h9 : kd s = 9
        · rw [if_pos h9] at h
          cases hj : jn1 kd sk b (atm kd sk gp fl b f c (d + 1)) (sk s) with
          | none => rw [hj] at h; cases h
          | some y =>
            obtain ⟨s2, e2⟩ := y
            rw [hj] at h
            dsimp only at h
            have k2 : I s2 := jn1_IG hs (ih c (d + 1)) (sk s) s2 e2 (hs s hi) hj
            by_cases h10 : kd s2 = 10
            · rw [if_pos h10] at h
              obtain ⟨rfl, -⟩ : sk s2 = s' ∧ e2 = e := by simpa using h
              exact hs s2 k2
            · rw [if_neg h10] at h; cases h
        · rw [if_neg h9] at h
          cases hf2 : fl s with
          | none => rw [hf2] at h; cases h
          | some y =>
            obtain ⟨pm, s2⟩ := y
            rw [hf2] at h
            exact ih _ _ _ _ _ (hf _ _ _ hi hf2) h
    · rw [if_neg hp] at h
      cases hgs : gp c s with
      | none => rw [hgs] at h; cases h
      | some y =>
        obtain ⟨s2, g⟩ := y
        rw [hgs] at h
        obtain ⟨rfl, -⟩ : s2 = s' ∧ [(0, g)] = e := by simpa using h
        exact hg _ _ _ _ hi hgs
end IvG
section SpH
variable {t : Nat → Int32} {n : Nat}
theorem sk_le {p : Nat} (h : p ≤ n) : skP t n p ≤ n := by
  have hb := (bl_ge t n p).2 h
  unfold skP
  unfold lexK
  split
  · exact hb
  · split
    · have := wrdE_ge t n (n - bl t n p) (bl t n p)
      show wrdE t n (n - bl t n p) (bl t n p) ≤ n
      omega
    · split
      · split
        · rename_i q
          show quoE t n (n - (bl t n p + 1)) (bl t n p + 1) + 1 ≤ n
          omega
        · exact hb
      · show bl t n p + 1 ≤ n
        omega
def spB (n : Nat) (sp : List (Nat × Nat)) : Prop := ∀ x ∈ sp, x.2 ≤ n
theorem spB.app {a b : List (Nat × Nat)} (h : spB n a) (k : spB n b) : spB n (a ++ b) := fun x hx => (List.mem_append.mp hx).elim (h x) (k x)
theorem spB.one {x : Nat × Nat} (h : x.2 ≤ n) : spB n [x] := fun y hy => by rw [List.mem_singleton.mp hy]; exact h
theorem rdS_sp {p p' : Nat} {x : Nat × Nat} (h : rdS t n p = some (x, p')) : x.2 ≤ n ∧ p' ≤ n := by
  unfold rdS at h
  by_cases q : isS (kdP t n p) = true
  · rw [if_pos q] at h
    have k2 := isS_k q
    have g := (sk_gt k2.1 k2.2).2.2
    simp only [Option.some.injEq, Prod.mk.injEq] at h
    rw [← h.1, ← h.2]
    exact ⟨g, g⟩
  · rw [if_neg q] at h; cases h
theorem rdP_sp : ∀ (f p : Nat) (sp : List (Nat × Nat)) (p' : Nat) (sp' : List (Nat × Nat)), p ≤ n → spB n sp → rdP t n f p sp = some (p', sp') → p' ≤ n ∧ spB n sp' := by
  intro f
  induction f with
  | zero =>
    intro p sp p' sp' hp hs h
    rw [rdP] at h
    simp only [Option.some.injEq, Prod.mk.injEq] at h
    rw [← h.1, ← h.2]
    exact ⟨hp, hs⟩
  | succ f ih =>
    intro p sp p' sp' hp hs h
    rw [rdP] at h
    by_cases q : kdP t n p = 14
    · rw [if_pos q] at h
      cases hr : rdS t n (skP t n p) with
      | none => rw [hr] at h; cases h
      | some y =>
        obtain ⟨x, p1⟩ := y
        rw [hr] at h
        obtain ⟨g1, g2⟩ := rdS_sp hr
        exact ih p1 _ p' sp' g2 (hs.app (spB.one g1)) h
    · rw [if_neg q] at h
      simp only [Option.some.injEq, Prod.mk.injEq] at h
      rw [← h.1, ← h.2]
      exact ⟨hp, hs⟩
theorem rdPh_sp {k p p' : Nat} {x : PHt} (h : rdPh t n k p = some (p', x)) : p' ≤ n ∧ spB n x.1 := by
  unfold rdPh at h
  by_cases q : 12 ≤ k
  · rw [if_pos q] at h; cases h
  · rw [if_neg q] at h
    cases hr : rdS t n p with
    | none => rw [hr] at h; cases h
    | some y =>
      obtain ⟨y, p1⟩ := y
      rw [hr] at h
      dsimp only at h
      obtain ⟨g1, g2⟩ := rdS_sp hr
      cases hp : rdP t n 96 p1 [y] with
      | none => rw [hp] at h; cases h
      | some z =>
        obtain ⟨p2, sp⟩ := z
        rw [hp] at h
        dsimp only at h
        obtain ⟨k1, k2⟩ := rdP_sp 96 p1 [y] p2 sp g2 (spB.one g1) hp
        by_cases q2 : kdP t n p2 = 15
        · rw [if_pos q2] at h
          simp only [Option.some.injEq, Prod.mk.injEq] at h
          rw [← h.1, ← h.2]
          exact ⟨sk_le k1, k2⟩
        · rw [if_neg q2] at h
          simp only [Option.some.injEq, Prod.mk.injEq] at h
          rw [← h.1, ← h.2]
          exact ⟨k1, k2⟩
theorem spn_add {ph : List PHt} {x : PHt} (h : spB n (spn ph)) (k : spB n x.1) : spB n (spn (ph ++ [x])) := by
  rw [spn_app, spn_one]
  exact h.app k
theorem rdPs_sp : ∀ (f p : Nat) (ph : List PHt) (p' : Nat) (ph' : List PHt), p ≤ n → spB n (spn ph) → rdPs t n f p ph = some (p', ph') → p' ≤ n ∧ spB n (spn ph') := by
  intro f
  induction f with
  | zero =>
    intro p ph p' ph' hp hs h
    rw [rdPs] at h
    simp only [Option.some.injEq, Prod.mk.injEq] at h
    rw [← h.1, ← h.2]
    exact ⟨hp, hs⟩
  | succ f ih =>
    intro p ph p' ph' hp hs h
    rw [rdPs] at h
    by_cases q : isS (kdP t n p) = true
    · rw [if_pos q] at h
      cases hr : rdPh t n ph.length p with
      | none => rw [hr] at h; cases h
      | some y =>
        obtain ⟨p1, x⟩ := y
        rw [hr] at h
        obtain ⟨g1, g2⟩ := rdPh_sp hr
        exact ih p1 _ p' ph' g1 (spn_add hs g2) h
    · rw [if_neg q] at h
      simp only [Option.some.injEq, Prod.mk.injEq] at h
      rw [← h.1, ← h.2]
      exact ⟨hp, hs⟩
theorem rdNear_sp {p p' d : Nat} {ph ph' : List PHt} (hs : spB n (spn ph)) (h : rdNear t n p ph = some (p', ph', d)) : p' ≤ n ∧ spB n (spn ph') := by
  unfold rdNear at h
  by_cases q : kdP t n p = 9
  · rw [if_pos q] at h
    cases hr : rdPh t n ph.length (skP t n p) with
    | none => rw [hr] at h; cases h
    | some y =>
      obtain ⟨p1, x⟩ := y
      rw [hr] at h
      dsimp only at h
      obtain ⟨g1, g2⟩ := rdPh_sp hr
      cases hp : rdPs t n 96 p1 (ph ++ [x]) with
      | none => rw [hp] at h; cases h
      | some y =>
        obtain ⟨p2, ph2⟩ := y
        rw [hp] at h
        dsimp only at h
        obtain ⟨k1, k2⟩ := rdPs_sp 96 p1 _ p2 ph2 g1 (spn_add hs g2) hp
        by_cases q2 : kdP t n p2 = 13
        · rw [if_pos q2] at h
          cases hn : rdN t n (skP t n p2) with
          | none => rw [hn] at h; cases h
          | some y =>
            rw [hn] at h
            dsimp only at h
            by_cases q3 : kdP t n (skP t n (skP t n p2)) = 10
            · rw [if_pos q3] at h
              simp only [Option.some.injEq, Prod.mk.injEq] at h
              obtain ⟨rfl, rfl, -⟩ := h
              exact ⟨sk_le (sk_le (sk_le k1)), k2⟩
            · rw [if_neg q3] at h; cases h
        · rw [if_neg q2] at h
          by_cases q3 : kdP t n p2 = 10
          · rw [if_pos q3] at h
            simp only [Option.some.injEq, Prod.mk.injEq] at h
            obtain ⟨rfl, rfl, -⟩ := h
            exact ⟨sk_le k1, k2⟩
          · rw [if_neg q3] at h; cases h
  · rw [if_neg q] at h; cases h
/-- the place and the strings lie in the question -/
def InS (n : Nat) (s : PSt) : Prop := s.1 ≤ n ∧ spB n (spn s.2.1)
theorem gp_in {c g : Nat} {s s' : PSt} (hs : InS n s) (h : gpP t n c s = some (s', g)) : InS n s' := by
  obtain ⟨p, ph, gr⟩ := s
  unfold gpP at h
  by_cases q : kdP t n p = 8
  · rw [if_pos (show kdP t n (p, ph, gr).1 = 8 from q)] at h
    cases hr : rdNear t n (skP t n (p, ph, gr).1) (p, ph, gr).2.1 with
    | none => rw [hr] at h; cases h
    | some y =>
      obtain ⟨p1, ph1, d⟩ := y
      rw [hr] at h
      have k := rdNear_sp hs.2 hr
      simp only [Option.some.injEq, Prod.mk.injEq] at h
      rw [← h.1]
      exact k
  · rw [if_neg (show ¬ kdP t n (p, ph, gr).1 = 8 from q)] at h
    cases hr : rdPh t n (p, ph, gr).2.1.length (if kdP t n (p, ph, gr).1 = 12 then skP t n (p, ph, gr).1 else (p, ph, gr).1) with
    | none => rw [hr] at h; cases h
    | some y =>
      obtain ⟨p1, x⟩ := y
      rw [hr] at h
      obtain ⟨k1, k2⟩ := rdPh_sp hr
      simp only [Option.some.injEq, Prod.mk.injEq] at h
      rw [← h.1]
      exact ⟨k1, spn_add hs.2 k2⟩
theorem flN_le {p p' : Nat} {a : Bool} (hp : p ≤ n) (h : flN t n p = some (a, p')) : p' ≤ n := by
  unfold flN at h
  by_cases q : kdP t n p = 3 ∧ skP t n p = bl t n p + 1 ∧ (t (bl t n p) = 97 ∨ t (bl t n p) = 98)
  · rw [if_pos q] at h
    simp only [Option.some.injEq, Prod.mk.injEq] at h
    rw [← h.2]
    exact sk_le (sk_le hp)
  · rw [if_neg q] at h; cases h
theorem fl_in {pm : Nat} {s s' : PSt} (hs : InS n s) (h : flP t n s = some (pm, s')) : InS n s' := by
  have hl : (if kdP t n s.1 = 11 then skP t n s.1 else s.1) ≤ n := by
    split
    · exact sk_le hs.1
    · exact hs.1
  unfold flP at h
  cases hr : flN t n (if kdP t n s.1 = 11 then skP t n s.1 else s.1) with
  | none => rw [hr] at h; cases h
  | some y =>
    obtain ⟨a, p'⟩ := y
    rw [hr] at h
    simp only [Option.some.injEq, Prod.mk.injEq] at h
    rw [← h.2]
    refine ⟨?_, hs.2⟩
    exact flN_le hl hr
theorem sk_in (s : PSt) (hs : InS n s) : InS n (skS t n s) := by
  unfold skS
  exact ⟨sk_le hs.1, hs.2⟩
theorem read_in {s' : PSt} {e : List EV} (h : j1T t n 9 3 0 (0, [], []) = some (s', e)) : InS n s' := by
  have A : IVG (InS n) (atm (kdS t n) (skS t n) (gpP t n) (flP t n) 96 9 3 0) := atm_IG (kd := kdS t n) (sk := skS t n) (gp := gpP t n) (fl := flP t n) (I := InS n) sk_in (fun _ _ _ _ hs h => gp_in hs h) (fun _ _ _ hs h => fl_in hs h) (b := 96) 9 3 0
  have B : IVG (InS n) (jn1 (kdS t n) (skS t n) 96 (atm (kdS t n) (skS t n) (gpP t n) (flP t n) 96 9 3 0)) := jn1_IG (kd := kdS t n) (sk := skS t n) (I := InS n) sk_in A
  have c0 : InS n (0, [], []) := ⟨Nat.zero_le _, fun x hx => by cases hx⟩
  exact B (0, [], []) s' e c0 h
end SpH
/-! TIER H: a group holds in a row: the class's way is the reference's -/
def phA (t : Nat → Int32) (ph : List PHt) (p : Nat) : Nat := (wds t (spn (ph.take p))).length
def phB (ph : List PHt) (p : Nat) : Bool := match ph[p]? with
  | some x => x.2
  | none => false
theorem phB_at {ph : List PHt} {p : Nat} {x : PHt} (h : ph[p]? = some x) : phB ph p = x.2 := by
  unfold phB
  rw [h]
abbrev TwR (ft fz : Nat → Int32) (r c : Nat) : List (List Int32) := Tw ft fz (r - 1) c
theorem QP_iff {t : Nat → Int32} {ph : List PHt} {TW : Nat → Nat → List (List Int32)} {er : Nat → Option Nat} {p r c i : Nat} (he : er r ≠ none) (hp : p < ph.length) : QP t ph TW er p r c i ↔ SdP (wds t (spn ph)) (phA t ph p) (lqW t ph p) (phB ph p) (TW r c) i := by
  obtain ⟨x, hx⟩ : ∃ x, ph[p]? = some x := ⟨_, List.getElem?_eq_getElem hp⟩
  unfold SdP
  rw [lqW_at hx, phB_at hx]
  constructor
  · rintro ⟨-, x', hx', q⟩
    obtain rfl := Option.some.inj (hx.symm.trans hx')
    exact q
  · intro q
    exact ⟨he, x, hx, q⟩
theorem QP_in {t : Nat → Int32} {ph : List PHt} {TW : Nat → Nat → List (List Int32)} {er : Nat → Option Nat} {p r c i : Nat} (h : QP t ph TW er p r c i) : 0 < lqW t ph p ∧ i + lqW t ph p ≤ (TW r c).length := by
  obtain ⟨-, x, hx, h1, h2, -⟩ := h
  rw [lqW_at hx]
  exact ⟨h1, h2⟩
theorem HO_iff {t : Nat → Int32} {ph : List PHt} {TW : Nat → Nat → List (List Int32)} {er : Nat → Option Nat} {r c : Nat} {y : GRt} (he : er r ≠ none) (h24 : (TW r c).length ≤ 24) (ok : OKg y ph.length) :
    HOp (QP t ph TW er) (lqW t ph) y.2.1 y.2.2.1 (if y.1 = 2 then y.2.2.2.2 else 0) (PLy y) r c ↔ HhP (wds t (spn ph)) (phA t ph) (lqW t ph) (phB ph) (TW r c) y.1 y.2.1 (y.2.2.1 - y.2.1) y.2.2.2.2 := by
  obtain ⟨k1, k2, k3, k4, k5⟩ := ok
  have iff := fun (p i : Nat) (hp : p < ph.length) => QP_iff (t := t) (TW := TW) (c := c) (i := i) he hp
  have hB : ∀ p i, QP t ph TW er p r c i → 0 < lqW t ph p ∧ i + lqW t ph p ≤ (TW r c).length := fun p i q => QP_in q
  unfold HOp HhP
  by_cases q1 : y.1 = 1
  · have hu : y.2.2.1 = y.2.1 + 1 := by
      rcases k5 with k5 | k5
      · omega
      · exact k5.2
    rw [if_pos q1]
    constructor
    · rintro ⟨a, -⟩
      obtain ⟨j, -, b1, b2⟩ := a y.2.1 (Nat.le_refl _) k1
      rw [b2 q1] at b1
      exact (iff _ _ (by omega)).mp b1
    · intro a
      refine ⟨fun p p1 p2 => ?_, Or.inl hu⟩
      obtain rfl : p = y.2.1 := by omega
      exact ⟨0, by decide, (iff _ _ (by omega)).mpr a, fun _ => rfl⟩
  · rw [if_neg q1]
    by_cases q0 : y.1 = 0
    · have hu : y.2.2.1 = y.2.1 + 1 := by
        rcases k5 with k5 | k5
        · omega
        · exact k5.2
      rw [if_pos q0]
      constructor
      · rintro ⟨a, -⟩
        obtain ⟨j, -, b1, -⟩ := a y.2.1 (Nat.le_refl _) k1
        have g := hB _ _ b1
        exact ⟨j, by omega, by omega, Nat.zero_le _, (iff _ _ (by omega)).mp b1⟩
      · rintro ⟨j, j1, j2, -, a⟩
        refine ⟨fun p p1 p2 => ?_, Or.inl hu⟩
        obtain rfl : p = y.2.1 := by omega
        exact ⟨j, by omega, (iff _ _ (by omega)).mpr a, fun z => absurd z q1⟩
    · rw [if_neg q0]
      have q2 : y.1 = 2 := by
        rcases k5 with k5 | k5
        · exact k5
        · omega
      rw [if_pos q2]
      have ne := near_eq (B := fun p i => QP t ph TW er p r c i) (len := lqW t ph) (a := y.2.1) (b := y.2.2.1) (col := (TW r c).length) (far := y.2.2.2.2) k1 h24 hB
      have e1 : (∃ e, e ≤ (TW r c).length ∧ HnP (wds t (spn ph)) (phA t ph) (lqW t ph) (phB ph) (TW r c) y.2.1 (y.2.2.1 - y.2.1) y.2.2.2.2 e) ↔ (∃ e, e ≤ (TW r c).length ∧ ∀ p, y.2.1 ≤ p → p < y.2.2.1 → ∃ i, i < (TW r c).length ∧ i ≤ e + y.2.2.2.2 ∧ e ≤ i + lqW t ph p ∧ QP t ph TW er p r c i) := by
        constructor
        · rintro ⟨e, h1, h2⟩
          refine ⟨e, h1, fun p p1 p2 => ?_⟩
          obtain ⟨j, a1, a2, a3, a4⟩ := h2 p p1 (by omega)
          exact ⟨j, a1, a2, a3, (iff _ _ (by omega)).mpr a4⟩
        · rintro ⟨e, h1, h2⟩
          refine ⟨e, h1, fun p p1 p2 => ?_⟩
          obtain ⟨j, a1, a2, a3, a4⟩ := h2 p p1 (by omega)
          exact ⟨j, a1, a2, a3, (iff _ _ (by omega)).mp a4⟩
      rw [e1, ne]
      constructor
      · rintro ⟨a, b⟩
        exact ⟨fun p p1 p2 => by obtain ⟨j, -, b1, -⟩ := a p p1 p2; exact ⟨j, b1⟩, b⟩
      · rintro ⟨a, b⟩
        exact ⟨fun p p1 p2 => by obtain ⟨j, b1⟩ := a p p1 p2; have g := hB _ _ b1; exact ⟨j, by omega, b1, fun z => absurd z q1⟩, b⟩
theorem gB_grB {t : Nat → Int32} {ph : List PHt} {gr : List GRt} {ft fz : Nat → Int32} {er : Nat → Option Nat} {r : Nat} (he : er r ≠ none) (h24 : ∀ c, c < 2 → (TwR ft fz r c).length ≤ 24) (ok : ∀ (g : Nat) (y : GRt), gr[g]? = some y → OKg y ph.length) :
    gB (QP t ph (TwR ft fz) er) (lqW t ph) gr r = grB (wds t (spn ph)) (phA t ph) (lqW t ph) (phB ph) ft fz gr (r - 1) := funext (fun g => by
  rw [Bool.eq_iff_iff, gB_iff, grB_iff]
  unfold GGp GrP
  constructor
  · rintro ⟨y, hy, c, c1, c2, a⟩
    exact ⟨y, hy, c, c1, c2, (HO_iff he (h24 c c1) (ok g y hy)).mp a⟩
  · rintro ⟨y, hy, c, c1, c2, a⟩
    exact ⟨y, hy, c, c1, c2, (HO_iff (TW := TwR ft fz) he (h24 c c1) (ok g y hy)).mpr a⟩)
/-- what the row r (from 0) is to the reference's question -/
noncomputable def rfB (ws : List (List Int32)) (A N : Nat → Nat) (Bb : Nat → Bool) (ft fz : Nat → Int32) (gr : List GRt) (e : List EV) (r : Nat) : Bool := vAt (vlN (grB ws A N Bb ft fz gr r) (lks e 0 []) []) (e.length - 1)
def RfP (ws : List (List Int32)) (A N : Nat → Nat) (Bb : Nat → Bool) (ft fz fv : Nat → Int32) (gr : List GRt) (e : List EV) (r : Nat) : Prop := ¬ fv (r - 1) < 0 ∧ rfB ws A N Bb ft fz gr e (r - 1) = true
theorem rf_ev {ws : List (List Int32)} {A N : Nat → Nat} {Bb : Nat → Bool} {ft fz : Nat → Int32} {gr : List GRt} {e : List EV} (h : LkE e) (r : Nat) : evE (grB ws A N Bb ft fz gr r) e [] = [rfB ws A N Bb ft fz gr e r] := ev_last _ h.1
theorem rf_dp {e : List EV} (h : LkE e) : dpE e 0 := dp_ok e 0 [] (fun st => h.2.1 0 _)
/-- both find the same rows -/
theorem fd_rf {fd fa ft fz fv : Nat → Int32} {n : Nat} {sg : PSt} {e : List EV} {er : Nat → Option Nat} (hq : ∀ j, j < n → fa j = fd j) (hj : j1T fd n 9 3 0 (0, [], []) = some (sg, e)) (h24 : ∀ r c, r < 24 → c < 2 → (Tw ft fz r c).length ≤ 24) (oc : ∀ r, 1 ≤ r → r ≤ 24 → (er r = none ↔ fv (r - 1) < 0)) :
    fL (FdP fd sg e (TwR ft fz) er) 24 = fL (RfP (wds fa (spn sg.2.1)) (phA fa sg.2.1) (lqW fa sg.2.1) (phB sg.2.1) ft fz fv sg.2.2 e) 24 := by
  have hin := read_in hj
  have hok := read_ok hj
  have sub : ∀ k, spB n (spn (sg.2.1.take k)) := fun k x hx => hin.2 x (by
    have e1 : spn sg.2.1 = spn (sg.2.1.take k) ++ spn (sg.2.1.drop k) := by rw [← spn_app, List.take_append_drop]
    rw [e1]
    exact List.mem_append_left _ hx)
  have e1 : wds fa (spn sg.2.1) = wds fd (spn sg.2.1) := wds_cg hq _ hin.2
  have e2 : phA fa sg.2.1 = phA fd sg.2.1 := funext (fun p => by
    unfold phA
    rw [wds_cg hq _ (sub p)])
  have e3 : lqW fa sg.2.1 = lqW fd sg.2.1 := funext (fun p => by
    unfold lqW
    cases hx : sg.2.1[p]? with
    | none => rfl
    | some x =>
      dsimp only
      have hs : spB n x.1 := fun y hy => hin.2 y (by
        obtain ⟨a1, a2⟩ := List.getElem?_eq_some_iff.mp hx
        have e9 : sg.2.1 = sg.2.1.take p ++ x :: sg.2.1.drop (p + 1) := by rw [← a2, List.getElem_cons_drop, List.take_append_drop]
        rw [e9, spn_app]
        exact List.mem_append_right _ (by show y ∈ x.1 ++ spn (sg.2.1.drop (p + 1)); exact List.mem_append_left _ hy))
      rw [wds_cg hq _ hs])
  rw [e1, e2, e3]
  refine fL_congr 24 (fun r h1 h2 => ?_)
  unfold FdP RfP
  by_cases he : er r = none
  · exact ⟨fun z => absurd he z.1, fun z => absurd ((oc r h1 h2).mp he) z.1⟩
  · have hg := gB_grB (t := fd) (ph := sg.2.1) (gr := sg.2.2) (ft := ft) (fz := fz) he (fun c hc => h24 (r - 1) c (by omega) hc) hok
    rw [hg]
    exact ⟨fun z => ⟨fun y => he ((oc r h1 h2).mpr y), z.2⟩, fun z => ⟨he, z.2⟩⟩
/-- the answers of the reference -/
def FnA (P : Nat → Prop) (k fn : Nat) (fan : Nat → Int32) : Prop := fn = (fL P k).length ∧ ∀ j r : Nat, (fL P k)[j]? = some r → fan j = nI r
theorem FnA.zero {P : Nat → Prop} {fan : Nat → Int32} : FnA P 0 0 fan := ⟨rfl, fun j r h => by rw [show fL P 0 = [] from rfl] at h; cases h⟩
theorem FnA.no {P : Nat → Prop} {k fn : Nat} {fan : Nat → Int32} (h : FnA P k fn fan) (hp : ¬ P (k + 1)) : FnA P (k + 1) fn fan := by
  unfold FnA
  rw [fL_n hp]
  exact h
theorem FnA.yes {P : Nat → Prop} {k fn : Nat} {fan : Nat → Int32} (h : FnA P k fn fan) (hp : P (k + 1)) : FnA P (k + 1) (fn + 1) (upd fan fn (nI (k + 1))) := by
  unfold FnA
  rw [fL_y hp]
  refine ⟨by rw [List.length_append, List.length_singleton, ← h.1], fun j r hr => ?_⟩
  by_cases q : j = fn
  · subst q
    rw [h.1, List.getElem?_append_right (Nat.le_refl _), Nat.sub_self] at hr
    obtain rfl : k + 1 = r := by simpa using hr
    rw [pk_us]
  · have hj : j < (fL P k).length := by
      have := (List.getElem?_eq_some_iff.mp hr).1
      rw [List.length_append, List.length_singleton, ← h.1] at this
      rw [← h.1]
      omega
    rw [List.getElem?_append_left hj] at hr
    rw [pk_un q]
    exact h.2 j r hr
theorem PhR.pa {fa c1 c2 : Nat → Int32} {ph : List PHt} (h : PhR fa c1 c2 ph) : PhA (wds fa (spn ph)) c1 c2 ph.length (phA fa ph) (lqW fa ph) (phB ph) := fun j hj => by
  obtain ⟨x, hx⟩ : ∃ x, ph[j]? = some x := ⟨_, List.getElem?_eq_getElem hj⟩
  obtain ⟨a1, a2, a3⟩ := h j x hx
  rw [lqW_at hx, phB_at hx]
  exact ⟨a1, a2, a3, spn_take hx⟩
theorem PhA.po {ws : List (List Int32)} {c1 c2 : Nat → Int32} {P : Nat} {A N : Nat → Nat} {Bb : Nat → Bool} (h : PhA ws c1 c2 P A N Bb) {t : Nat} (ht : t = ws.length) : PhO c1 P t := fun j hj => by
  obtain ⟨a1, a2, a3, a4⟩ := h j hj
  exact ⟨A j, A j + N j, a1, a2, by omega, by omega⟩
theorem TkR.to {ws : List (List Int32)} {t : Nat} {ca cs fa : Nat → Int32} (h : TkR ws t ca cs fa) : TkO ca cs t 97 := fun j hj => by
  obtain ⟨w, hw⟩ : ∃ w, ws[j]? = some w := ⟨_, List.getElem?_eq_getElem (by rw [← h.1]; exact hj)⟩
  obtain ⟨a, a1, a2, a3, -⟩ := h.2 j w hw
  exact ⟨a, w.length, a1, a2, by omega, a3⟩
/-- the words of a row's column: no more than 24 -/
theorem Tw_24 {ft fz : Nat → Int32} (hz : SZo fz 48) (r c : Nat) (hr : r < 24) (hc : c < 2) : (Tw ft fz r c).length ≤ 24 := by
  obtain ⟨n, hn, hn2⟩ := hz (2 * r + c) (by omega)
  rw [Tw_eq hn hn2, wdS_len]
  have := (tokN_half (fun j => ft (96 * r + 48 * c + j)) (96 * r + 48 * c + n - (96 * r + 48 * c))).1
  omega
theorem redQ_j {t : Nat → Int32} {n : Nat} {y : PSt × List EV} (h : redQ t n = some y) : j1T t n 9 3 0 (0, [], []) = some y := by
  have h2 : resJ (kdS t n) (j1T t n 9 3 0 (0, [], [])) = some y := h
  cases hx : j1T t n 9 3 0 (0, [], []) with
  | none => rw [hx] at h2; cases h2
  | some z =>
    rw [hx, resJ] at h2
    by_cases q : kdS t n z.1 = 0
    · rw [if_pos q] at h2; exact h2
    · rw [if_neg q] at h2; cases h2
theorem RqT.t48 {fa : Nat → Int32} {asz : Nat} {c1 c2 ca cs : Nat → Int32} {t p : Nat} {ph : List PHt} {sp : List (Nat × Nat)} (h : RqT fa asz c1 c2 ca cs t p ph sp) (hp : p ≤ 96) : t ≤ 48 := by
  have h1 := h.2.2.1
  have h2 := (tokN_half fa p).1
  omega
/-! TIER H: the words of a text that is set -/
theorem TkW.nil {f g : Nat → Int32} (h : g 0 = nI 0) : TkW [] 0 0 f g := ⟨rfl, fun _ => 0, rfl, fun s hs => by obtain rfl : s = 0 := Nat.le_zero.mp hs; exact h, fun s hs => absurd hs (Nat.not_lt_zero _), rfl, fun s w hw => absurd hw (by simp)⟩
theorem TkW.of {fq f0 g0 f g : Nat → Int32} {e k m n : Nat} (X : GaX fq 0 e k m 0 0 f0 g0 e n f g) (h0 : g0 0 = nI 0) (hk : tokN fq e < k) (hm : e ≤ m) (m96 : m ≤ 96) (h128 : ∀ j, j < e → ∃ c, c < 128 ∧ fq j = nI c) (hn : n = tokN fq e) : TkW (wdS fq 0 e) n (wN fq e) f g ∧ wN fq e ≤ 96 := by
  have e9 : (fun j => fq (0 + j)) = fq := funext (fun j => by rw [Nat.zero_add])
  have hw := wN_le fq e
  have r := (TkW.nil (f := f0) h0).app (Nat.zero_le _) m96 (Nat.zero_le _) h0 X (by rw [e9, Nat.sub_zero]; omega) (by rw [e9, Nat.sub_zero]; omega) (fun j _ hj => h128 j hj) (by rw [e9, Nat.sub_zero]; omega)
  rw [List.nil_append, e9, Nat.sub_zero, Nat.zero_add] at r
  exact ⟨r, by omega⟩
theorem wdS_24 {t : Nat → Int32} {n : Nat} (h : n ≤ 48) : (wdS t 0 n).length ≤ 24 := by
  rw [wdS_len]
  have := (tokN_half (fun j => t (0 + j)) (n - 0)).1
  omega
theorem wdS_eq {t u : Nat → Int32} {a b n : Nat} (h : ∀ j, j < n → t (a + j) = u (b + j)) : wdS t a (a + n) = wdS u b (b + n) := by
  have hl : ∀ j, j < n → (fun j => t (a + j)) j = (fun j => u (b + j)) j := h
  have e1 : (fun s => (List.range (tkL (fun j => t (a + j)) n s)).map (tkC (fun j => t (a + j)) n s)) = (fun s => (List.range (tkL (fun j => u (b + j)) n s)).map (tkC (fun j => u (b + j)) n s)) := funext (fun s => by
    rw [tkL_eq hl s, show tkC (fun j => t (a + j)) n s = tkC (fun j => u (b + j)) n s from funext (tkC_eq hl s)])
  unfold wdS
  rw [Nat.add_sub_cancel_left, Nat.add_sub_cancel_left, tokN_eq hl, e1]
/-- the words of a prepared text -/
def pkw (fp fq : Nat → Int32) (c : Nat) : List (List Int32) := wdS fp (48 * c) (48 * c + (fq c).toNatClampNeg)
theorem pkw_0 {c : Nat} : pkw (fun _ => 0) (fun _ => 0) c = [] := by
  show wdS (fun _ => 0) (48 * c) (48 * c + (0 : Int32).toNatClampNeg) = []
  rw [show (0 : Int32).toNatClampNeg = 0 from by decide]
  unfold wdS
  rw [Nat.add_sub_cancel_left]
  rfl
theorem pkw_len {fp fq : Nat → Int32} {c : Nat} : (pkw fp fq c).length = tokN (fun i => fp (48 * c + i)) (fq c).toNatClampNeg := by
  unfold pkw
  rw [wdS_len, Nat.add_sub_cancel_left]
theorem Tw_len {ft fz : Nat → Int32} {r c : Nat} : (Tw ft fz r c).length = tokN (fun i => ft (96 * r + 48 * c + i)) (fz (2 * r + c)).toNatClampNeg := by
  unfold Tw
  rw [wdS_len, Nat.add_sub_cancel_left]
set_option maxHeartbeats 4000000 in
theorem g_setH_0 {G : xw_G} {F L : Nat} {h : xw_A} {A : List Nat} {fx : Nat → Option Nat} {fd : Nat → Int32} {x d tx w st sv qo so ao dl : Nat} {mo li op wp gp : Int32} (e_x : h x = some (.inr (0, [.ref d, .ref tx, .ref w, .ref st, .ref sv, .ref qo, .ref so, .ref ao, .int (nI dl), .int mo, .int li, .int op, .int wp, .int gp]))) (e_tx : h tx = some (oa 2 9 fx)) (e_d : h d = some (.inl (1, 96, .inl fd))) (hAO : AOK A h) (hdl : dl ≤ 48) (hF : 3 ≤ F) (hL : 120 ≤ L) :
    xw_Met G m_Shelf_set F L 3 76 [.ref x, .int 0] h (fun v h' => v = some (.int (nI (tokN fd dl))) ∧ h' x = some (.inr (0, [.ref d, .ref tx, .ref w, .ref st, .ref sv, .ref qo, .ref so, .ref ao, .int (0), .int mo, .int li, .int op, .int wp, .int gp])) ∧ (∃ p : Nat, h' tx = some (oa 2 9 (va_up fx 0 (some p))) ∧ ((x ∈ A ∧ tx ∈ A) → TokOK A h' p) ∧ (∃ l z : Nat, h' p = some (.inr (9, [.ref l, .ref z, .int (nI (tokN fd dl))]))) ∧ ((∀ j, j < dl → ∃ c, c < 128 ∧ fd j = nI c) → DiA A h' p (tkD fd dl (tokN fd dl)) ∧ TkX A h' p (wdS fd 0 dl))) ∧ FrO [x, tx] h h') (fun _ _ => False) := by
  refine xw_Met.of rfl (by decide) (Nat.le_of_ble_eq_true rfl) ?_
  refine s_Shelf_set_0 ?_
  refine x_callS (As := [.int 0]) (rest := []) (F1 := 1) (L1 := 20) (mc := 0) (ms := 0) d_Shelf_set_1 cS_Shelf_90 (fc_isCol_0 (by omega) (by omega)) ⟨by omega, by show 8 + (1 + 11) + 20 ≤ _; omega⟩ ⟨by omega, by omega⟩ (Nat.le_of_ble_eq_true rfl) (fun v h1 p => ?_)
  obtain ⟨rfl, fr1⟩ := p
  have a_x := fr1 x _ (by simp) e_x
  have a_tx := fr1 tx _ (by simp) e_tx
  have a_d := fr1 d _ (by simp) e_d
  refine s_Shelf_set_4 (fun _ => ?_) (fun z => absurd z (by decide))
  refine s_Shelf_set_17 (draft_a0 := some d) (texts_a0 := some tx) (weights_a0 := some w) (store_a0 := some st) (saved_a0 := some sv) (question_a0 := some qo) (standing_a0 := some so) (answers_a0 := some ao) a_x (fun _ => ?_) (fun z => absurd (nI_le (b := 48) hdl (by decide)) z)
  refine s_Shelf_set_36 (draft_a0 := some d) (texts_a0 := some tx) (weights_a0 := some w) (store_a0 := some st) (saved_a0 := some sv) (question_a0 := some qo) (standing_a0 := some so) (answers_a0 := some ao) ⟨by omega, by omega⟩ a_x (fun q hq => ?_)
  refine x_callI (As := [.int (nI dl)]) (b := q) (rest := [.ref q]) (F1 := 1) (L1 := 20) (mc := 2) (ms := dl + ((dl + 1) / 2 + 1)) d_Shelf_set_44 cI_Shelf_54 (g_tokInit (by omega) (xw_up_s _ _ _) (by omega) (by omega)) ⟨by omega, by show 8 + (2 + 11) + 20 ≤ _; omega⟩ ⟨by omega, by omega⟩ (Nat.le_of_ble_eq_true rfl) (fun v h2 p => ?_)
  obtain ⟨rfl, l, z, K2, yl, yz, fr2⟩ := p
  obtain ⟨nlq, yl⟩ := xw_upN yl
  obtain ⟨nzq, yz⟩ := xw_upN yz
  have F2 : FrO [] h1 h2 := fun p e _ he => fr2 p e (by simp only [List.mem_cons, List.not_mem_nil, or_false]; exact xw_neN he hq) ((xw_up_n _ _ (xw_neN he hq)).trans he)
  have b_x := F2 x _ (by simp) a_x
  have b_tx := F2 tx _ (by simp) a_tx
  have b_d := F2 d _ (by simp) a_d
  refine s_Shelf_set_47 (draft_a0 := some d) (texts_a0 := some tx) (weights_a0 := some w) (store_a0 := some st) (saved_a0 := some sv) (question_a0 := some qo) (standing_a0 := some so) (answers_a0 := some ao) b_x ?_
  have nld : l ≠ d := Ne.symm (xw_neN a_d yl)
  refine x_callV (As := [.ref d, .int (nI 0), .int (nI dl)]) (b := q) (rest := []) (F1 := 2) (L1 := 42) (mc := 0) (ms := 0) d_Shelf_set_58 cV_Shelf_98 (g_gather K2 b_d nld (Nat.zero_le _) (show dl ≤ 96 by omega) (by decide) (by omega) (by omega)) K2.1 ⟨by decide, rfl⟩ ⟨by omega, by show 8 + (7 + 11) + 42 ≤ _; omega⟩ ⟨by omega, by omega⟩ (Nat.le_of_ble_eq_true rfl) (fun v h3 p => ?_)
  obtain ⟨rfl, ⟨n3, f3, g3, -, hT3, ⟨w3, hw3, hw0, hX3⟩, K3⟩, fr3⟩ := p
  obtain rfl : 0 = w3 := (nI_eq (by decide) (by omega)).mp (show nI 0 = nI w3 from hw0)
  obtain rfl : n3 = tokN fd dl := by
    have q9 := (tokN_half fd dl).1
    have e9 : (fun j => fd (0 + j)) = fd := funext (fun j => by rw [Nat.zero_add])
    rw [e9, Nat.sub_zero, Nat.zero_add] at hT3
    exact hT3 (by omega)
  have hk3 : tokN fd dl < (dl + 1) / 2 + 1 := by have q9 := (tokN_half fd dl).1; omega
  have new3 : ∀ p e, h1 p = some e → h3 p = some e := fun p e he => fr3 p e (by simp only [List.mem_cons, List.not_mem_nil, or_false, not_or]; exact ⟨xw_neN he hq, xw_neN he yl, xw_neN he yz⟩) (F2 p e (by simp) he)
  have c_x := new3 _ _ a_x
  have c_tx := new3 _ _ a_tx
  have ntx : tx ≠ x := xw_neC a_tx a_x (by simp)
  refine s_Shelf_set_61 (draft_a0 := some d) (weights_a0 := some w) (store_a0 := some st) (saved_a0 := some sv) (question_a0 := some qo) (standing_a0 := some so) (answers_a0 := some ao) (letters_a2 := some l) (starts_a2 := some z) c_x c_tx (by unfold vp_in; decide) K3.1 ?_
  have FA : ∀ {c e : xw_C}, FrO [x, tx] h (xw_up (xw_up h3 tx c) x e) := fun p e hp he => by
    simp only [List.mem_cons, List.not_mem_nil, or_false, not_or] at hp
    rw [xw_up_n _ _ hp.1, xw_up_n _ _ hp.2]
    exact new3 _ _ (fr1 p e (by simp) he)
  have un : ∀ p, h1 p = none → h p = none := fun p hp => by
    cases he : h p with
    | none => rfl
    | some e => rw [fr1 p e (by simp) he] at hp; cases hp
  have up : ∀ {p : Nat}, h1 p = none → ∀ {c e : xw_C}, xw_up (xw_up h3 tx c) x e p = h3 p := fun hp => by
    intro c e
    rw [xw_up_n _ _ (Ne.symm (xw_neN a_x hp)), xw_up_n _ _ (Ne.symm (xw_neN a_tx hp))]
  refine ⟨rfl, xw_up_s _ _ _, ⟨q, ?_, fun _ => ⟨hAO.new (un _ hq), l, z, _, _, _, f3, g3, hAO.new (un _ yl), hAO.new (un _ yz), ?_, ?_, ?_, K3.2.2.2⟩, ⟨l, z, ?_⟩, fun hl9 => ⟨⟨hAO.new (un _ hq), l, z, _, _, _, f3, g3, hAO.new (un _ yl), hAO.new (un _ yz), ⟨?_, ?_, ?_, K3.2.2.2⟩, hX3.dif rfl hk3 (Nat.le_refl _) (by omega) hl9⟩, hAO.new (un _ hq), wdS_24 hdl, l, z, _, _, _, _, f3, g3, hAO.new (un _ yl), hAO.new (un _ yz), ⟨?_, ?_, ?_, K3.2.2.2⟩, (TkW.of hX3 hw0 hk3 (Nat.le_refl _) (by omega) hl9 rfl).1, (TkW.of hX3 hw0 hk3 (Nat.le_refl _) (by omega) hl9 rfl).2⟩⟩, FA⟩
  · rw [xw_up_n _ _ ntx]
    exact xw_up_s _ _ _
  · rw [up hq]; exact K3.1
  · rw [up yl]; exact K3.2.1
  · rw [up yz]; exact K3.2.2.1
  · rw [up hq]; exact K3.1
  · rw [up hq]; exact K3.1
  · rw [up yl]; exact K3.2.1
  · rw [up yz]; exact K3.2.2.1
  · rw [up hq]; exact K3.1
  · rw [up yl]; exact K3.2.1
  · rw [up yz]; exact K3.2.2.1
set_option maxHeartbeats 4000000 in
theorem g_setH_1 {G : xw_G} {F L : Nat} {h : xw_A} {A : List Nat} {fx : Nat → Option Nat} {fd : Nat → Int32} {x d tx w st sv qo so ao dl : Nat} {mo li op wp gp : Int32} (e_x : h x = some (.inr (0, [.ref d, .ref tx, .ref w, .ref st, .ref sv, .ref qo, .ref so, .ref ao, .int (nI dl), .int mo, .int li, .int op, .int wp, .int gp]))) (e_tx : h tx = some (oa 2 9 fx)) (e_d : h d = some (.inl (1, 96, .inl fd))) (hAO : AOK A h) (hdl : dl ≤ 48) (hF : 3 ≤ F) (hL : 120 ≤ L) :
    xw_Met G m_Shelf_set F L 3 76 [.ref x, .int 1] h (fun v h' => v = some (.int (nI (tokN fd dl))) ∧ h' x = some (.inr (0, [.ref d, .ref tx, .ref w, .ref st, .ref sv, .ref qo, .ref so, .ref ao, .int (0), .int mo, .int li, .int op, .int wp, .int gp])) ∧ (∃ p : Nat, h' tx = some (oa 2 9 (va_up fx 1 (some p))) ∧ ((x ∈ A ∧ tx ∈ A) → TokOK A h' p) ∧ (∃ l z : Nat, h' p = some (.inr (9, [.ref l, .ref z, .int (nI (tokN fd dl))]))) ∧ ((∀ j, j < dl → ∃ c, c < 128 ∧ fd j = nI c) → DiA A h' p (tkD fd dl (tokN fd dl)) ∧ TkX A h' p (wdS fd 0 dl))) ∧ FrO [x, tx] h h') (fun _ _ => False) := by
  refine xw_Met.of rfl (by decide) (Nat.le_of_ble_eq_true rfl) ?_
  refine s_Shelf_set_0 ?_
  refine x_callS (As := [.int 1]) (rest := []) (F1 := 1) (L1 := 20) (mc := 0) (ms := 0) d_Shelf_set_1 cS_Shelf_90 (fc_isCol_1 (by omega) (by omega)) ⟨by omega, by show 8 + (1 + 11) + 20 ≤ _; omega⟩ ⟨by omega, by omega⟩ (Nat.le_of_ble_eq_true rfl) (fun v h1 p => ?_)
  obtain ⟨rfl, fr1⟩ := p
  have a_x := fr1 x _ (by simp) e_x
  have a_tx := fr1 tx _ (by simp) e_tx
  have a_d := fr1 d _ (by simp) e_d
  refine s_Shelf_set_4 (fun _ => ?_) (fun z => absurd z (by decide))
  refine s_Shelf_set_17 (draft_a0 := some d) (texts_a0 := some tx) (weights_a0 := some w) (store_a0 := some st) (saved_a0 := some sv) (question_a0 := some qo) (standing_a0 := some so) (answers_a0 := some ao) a_x (fun _ => ?_) (fun z => absurd (nI_le (b := 48) hdl (by decide)) z)
  refine s_Shelf_set_36 (draft_a0 := some d) (texts_a0 := some tx) (weights_a0 := some w) (store_a0 := some st) (saved_a0 := some sv) (question_a0 := some qo) (standing_a0 := some so) (answers_a0 := some ao) ⟨by omega, by omega⟩ a_x (fun q hq => ?_)
  refine x_callI (As := [.int (nI dl)]) (b := q) (rest := [.ref q]) (F1 := 1) (L1 := 20) (mc := 2) (ms := dl + ((dl + 1) / 2 + 1)) d_Shelf_set_44 cI_Shelf_54 (g_tokInit (by omega) (xw_up_s _ _ _) (by omega) (by omega)) ⟨by omega, by show 8 + (2 + 11) + 20 ≤ _; omega⟩ ⟨by omega, by omega⟩ (Nat.le_of_ble_eq_true rfl) (fun v h2 p => ?_)
  obtain ⟨rfl, l, z, K2, yl, yz, fr2⟩ := p
  obtain ⟨nlq, yl⟩ := xw_upN yl
  obtain ⟨nzq, yz⟩ := xw_upN yz
  have F2 : FrO [] h1 h2 := fun p e _ he => fr2 p e (by simp only [List.mem_cons, List.not_mem_nil, or_false]; exact xw_neN he hq) ((xw_up_n _ _ (xw_neN he hq)).trans he)
  have b_x := F2 x _ (by simp) a_x
  have b_tx := F2 tx _ (by simp) a_tx
  have b_d := F2 d _ (by simp) a_d
  refine s_Shelf_set_47 (draft_a0 := some d) (texts_a0 := some tx) (weights_a0 := some w) (store_a0 := some st) (saved_a0 := some sv) (question_a0 := some qo) (standing_a0 := some so) (answers_a0 := some ao) b_x ?_
  have nld : l ≠ d := Ne.symm (xw_neN a_d yl)
  refine x_callV (As := [.ref d, .int (nI 0), .int (nI dl)]) (b := q) (rest := []) (F1 := 2) (L1 := 42) (mc := 0) (ms := 0) d_Shelf_set_58 cV_Shelf_98 (g_gather K2 b_d nld (Nat.zero_le _) (show dl ≤ 96 by omega) (by decide) (by omega) (by omega)) K2.1 ⟨by decide, rfl⟩ ⟨by omega, by show 8 + (7 + 11) + 42 ≤ _; omega⟩ ⟨by omega, by omega⟩ (Nat.le_of_ble_eq_true rfl) (fun v h3 p => ?_)
  obtain ⟨rfl, ⟨n3, f3, g3, -, hT3, ⟨w3, hw3, hw0, hX3⟩, K3⟩, fr3⟩ := p
  obtain rfl : 0 = w3 := (nI_eq (by decide) (by omega)).mp (show nI 0 = nI w3 from hw0)
  obtain rfl : n3 = tokN fd dl := by
    have q9 := (tokN_half fd dl).1
    have e9 : (fun j => fd (0 + j)) = fd := funext (fun j => by rw [Nat.zero_add])
    rw [e9, Nat.sub_zero, Nat.zero_add] at hT3
    exact hT3 (by omega)
  have hk3 : tokN fd dl < (dl + 1) / 2 + 1 := by have q9 := (tokN_half fd dl).1; omega
  have new3 : ∀ p e, h1 p = some e → h3 p = some e := fun p e he => fr3 p e (by simp only [List.mem_cons, List.not_mem_nil, or_false, not_or]; exact ⟨xw_neN he hq, xw_neN he yl, xw_neN he yz⟩) (F2 p e (by simp) he)
  have c_x := new3 _ _ a_x
  have c_tx := new3 _ _ a_tx
  have ntx : tx ≠ x := xw_neC a_tx a_x (by simp)
  refine s_Shelf_set_61 (draft_a0 := some d) (weights_a0 := some w) (store_a0 := some st) (saved_a0 := some sv) (question_a0 := some qo) (standing_a0 := some so) (answers_a0 := some ao) (letters_a2 := some l) (starts_a2 := some z) c_x c_tx (by unfold vp_in; decide) K3.1 ?_
  have FA : ∀ {c e : xw_C}, FrO [x, tx] h (xw_up (xw_up h3 tx c) x e) := fun p e hp he => by
    simp only [List.mem_cons, List.not_mem_nil, or_false, not_or] at hp
    rw [xw_up_n _ _ hp.1, xw_up_n _ _ hp.2]
    exact new3 _ _ (fr1 p e (by simp) he)
  have un : ∀ p, h1 p = none → h p = none := fun p hp => by
    cases he : h p with
    | none => rfl
    | some e => rw [fr1 p e (by simp) he] at hp; cases hp
  have up : ∀ {p : Nat}, h1 p = none → ∀ {c e : xw_C}, xw_up (xw_up h3 tx c) x e p = h3 p := fun hp => by
    intro c e
    rw [xw_up_n _ _ (Ne.symm (xw_neN a_x hp)), xw_up_n _ _ (Ne.symm (xw_neN a_tx hp))]
  refine ⟨rfl, xw_up_s _ _ _, ⟨q, ?_, fun _ => ⟨hAO.new (un _ hq), l, z, _, _, _, f3, g3, hAO.new (un _ yl), hAO.new (un _ yz), ?_, ?_, ?_, K3.2.2.2⟩, ⟨l, z, ?_⟩, fun hl9 => ⟨⟨hAO.new (un _ hq), l, z, _, _, _, f3, g3, hAO.new (un _ yl), hAO.new (un _ yz), ⟨?_, ?_, ?_, K3.2.2.2⟩, hX3.dif rfl hk3 (Nat.le_refl _) (by omega) hl9⟩, hAO.new (un _ hq), wdS_24 hdl, l, z, _, _, _, _, f3, g3, hAO.new (un _ yl), hAO.new (un _ yz), ⟨?_, ?_, ?_, K3.2.2.2⟩, (TkW.of hX3 hw0 hk3 (Nat.le_refl _) (by omega) hl9 rfl).1, (TkW.of hX3 hw0 hk3 (Nat.le_refl _) (by omega) hl9 rfl).2⟩⟩, FA⟩
  · rw [xw_up_n _ _ ntx]
    exact xw_up_s _ _ _
  · rw [up hq]; exact K3.1
  · rw [up yl]; exact K3.2.1
  · rw [up yz]; exact K3.2.2.1
  · rw [up hq]; exact K3.1
  · rw [up hq]; exact K3.1
  · rw [up yl]; exact K3.2.1
  · rw [up yz]; exact K3.2.2.1
  · rw [up hq]; exact K3.1
  · rw [up yl]; exact K3.2.1
  · rw [up yz]; exact K3.2.2.1
set_option maxHeartbeats 400000 in
theorem g_countH_0 {G : xw_G} {F L : Nat} {h : xw_A} {x d tx w st sv qo so ao dl : Nat} {mo li op wp gp : Int32} (e_x : h x = some (.inr (0, [.ref d, .ref tx, .ref w, .ref st, .ref sv, .ref qo, .ref so, .ref ao, .int (nI dl), .int mo, .int li, .int op, .int wp, .int gp]))) {A : List Nat} {s1 s2 s3 s4 : Nat} {fr fp fs fl : Nat → Option Nat} {pc sc lc : Nat} {pe vm sm : Int32} (K : StoC A st s1 s2 s3 s4 fr fp fs fl pc sc lc pe vm sm h) {o1 o2 o3 o4 sz : Nat} {f1 f3 f4 : Nat → Int32} {f2 : Nat → UInt64} (N : AnsC ao o1 o2 o3 o4 sz f1 f2 f3 f4 h) (hF : 2 ≤ F) (hL : 42 ≤ L) :
    xw_Met G m_Shelf_count F L 0 0 [.ref x, .int 0] h (fun v h' => v = some (.int (nI (cntS fr 24))) ∧ h = h') (fun _ _ => False) := by
  refine xw_Met.of rfl (by decide) (Nat.le_of_ble_eq_true rfl) ?_
  have K0 := K
  obtain ⟨e_st, e_s1, e_s2, e_s3, e_s4, hpc, hsc, hlc, hR, hP, hS, hV, hAO⟩ := K
  obtain ⟨e_ao, e_o1, e_o2, e_o3, e_o4, hsz, hord⟩ := N
  refine s_Shelf_count_0 ?_
  refine x_tableAt (tgt := 52) d_Shelf_count_1 (by decide) (by decide) (show _ = some 51 by decide) (by decide) ⟨123, by decide⟩ ?_
  refine x_le (xw_le_s (xw_le_n xw_le_e)) ?_
  refine s_Shelf_count_52 (draft_a0 := some d) (texts_a0 := some tx) (weights_a0 := some w) (store_a0 := some st) (saved_a0 := some sv) (question_a0 := some qo) (standing_a0 := some so) (answers_a0 := some ao) e_x ?_
  refine x_callV (As := []) (b := st) (rest := []) (F1 := 1) (L1 := 20) (mc := 0) (ms := 0) d_Shelf_count_56 cV_Shelf_153 (g_rowCount K0 (by omega) (by omega)) e_st ⟨by decide, rfl⟩ ⟨by omega, by show 8 + (3 + 11) + 20 ≤ _; omega⟩ ⟨by omega, by omega⟩ (Nat.le_of_ble_eq_true rfl) (fun v_5 h_4 p_6 => ?_)
  obtain ⟨⟨c_1, rfl, hc_2, hn_3⟩, rfl⟩ := p_6
  refine x_le (xw_le_n (xw_le_n xw_le_e)) ?_
  refine s_Shelf_count_59 ?_
  exact ⟨congrArg (fun z => some (Value.int (nI z))) hn_3, rfl⟩
set_option maxHeartbeats 400000 in
theorem g_countH_1 {G : xw_G} {F L : Nat} {h : xw_A} {x d tx w st sv qo so ao dl : Nat} {mo li op wp gp : Int32} (e_x : h x = some (.inr (0, [.ref d, .ref tx, .ref w, .ref st, .ref sv, .ref qo, .ref so, .ref ao, .int (nI dl), .int mo, .int li, .int op, .int wp, .int gp]))) {A : List Nat} {s1 s2 s3 s4 : Nat} {fr fp fs fl : Nat → Option Nat} {pc sc lc : Nat} {pe vm sm : Int32} (K : StoC A st s1 s2 s3 s4 fr fp fs fl pc sc lc pe vm sm h) {o1 o2 o3 o4 sz : Nat} {f1 f3 f4 : Nat → Int32} {f2 : Nat → UInt64} (N : AnsC ao o1 o2 o3 o4 sz f1 f2 f3 f4 h) (hF : 1 ≤ F) (hL : 20 ≤ L) :
    xw_Met G m_Shelf_count F L 0 0 [.ref x, .int 1] h (fun v h' => v = some (.int (nI sc)) ∧ h = h') (fun _ _ => False) := by
  refine xw_Met.of rfl (by decide) (Nat.le_of_ble_eq_true rfl) ?_
  have K0 := K
  obtain ⟨e_st, e_s1, e_s2, e_s3, e_s4, hpc, hsc, hlc, hR, hP, hS, hV, hAO⟩ := K
  obtain ⟨e_ao, e_o1, e_o2, e_o3, e_o4, hsz, hord⟩ := N
  refine s_Shelf_count_0 ?_
  refine x_tableAt (tgt := 60) d_Shelf_count_1 (by decide) (by decide) (show _ = some 59 by decide) (by decide) ⟨123, by decide⟩ ?_
  refine x_le (xw_le_s (xw_le_n xw_le_e)) ?_
  refine s_Shelf_count_60 (draft_a0 := some d) (texts_a0 := some tx) (weights_a0 := some w) (saved_a0 := some sv) (question_a0 := some qo) (standing_a0 := some so) (answers_a0 := some ao) (rows_store_a0 := some s1) (pending_store_a0 := some s2) (segments_store_a0 := some s3) (live_store_a0 := some s4) e_x e_st ?_
  exact ⟨rfl, rfl⟩
set_option maxHeartbeats 400000 in
theorem g_countH_2 {G : xw_G} {F L : Nat} {h : xw_A} {x d tx w st sv qo so ao dl : Nat} {mo li op wp gp : Int32} (e_x : h x = some (.inr (0, [.ref d, .ref tx, .ref w, .ref st, .ref sv, .ref qo, .ref so, .ref ao, .int (nI dl), .int mo, .int li, .int op, .int wp, .int gp]))) {A : List Nat} {s1 s2 s3 s4 : Nat} {fr fp fs fl : Nat → Option Nat} {pc sc lc : Nat} {pe vm sm : Int32} (K : StoC A st s1 s2 s3 s4 fr fp fs fl pc sc lc pe vm sm h) {o1 o2 o3 o4 sz : Nat} {f1 f3 f4 : Nat → Int32} {f2 : Nat → UInt64} (N : AnsC ao o1 o2 o3 o4 sz f1 f2 f3 f4 h) (hF : 1 ≤ F) (hL : 20 ≤ L) :
    xw_Met G m_Shelf_count F L 0 0 [.ref x, .int 2] h (fun v h' => v = some (.int (pe)) ∧ h = h') (fun _ _ => False) := by
  refine xw_Met.of rfl (by decide) (Nat.le_of_ble_eq_true rfl) ?_
  have K0 := K
  obtain ⟨e_st, e_s1, e_s2, e_s3, e_s4, hpc, hsc, hlc, hR, hP, hS, hV, hAO⟩ := K
  obtain ⟨e_ao, e_o1, e_o2, e_o3, e_o4, hsz, hord⟩ := N
  refine s_Shelf_count_0 ?_
  refine x_tableAt (tgt := 68) d_Shelf_count_1 (by decide) (by decide) (show _ = some 67 by decide) (by decide) ⟨123, by decide⟩ ?_
  refine x_le (xw_le_s (xw_le_n xw_le_e)) ?_
  refine s_Shelf_count_68 (draft_a0 := some d) (texts_a0 := some tx) (weights_a0 := some w) (saved_a0 := some sv) (question_a0 := some qo) (standing_a0 := some so) (answers_a0 := some ao) (rows_store_a0 := some s1) (pending_store_a0 := some s2) (segments_store_a0 := some s3) (live_store_a0 := some s4) e_x e_st ?_
  exact ⟨rfl, rfl⟩
set_option maxHeartbeats 400000 in
theorem g_countH_3 {G : xw_G} {F L : Nat} {h : xw_A} {x d tx w st sv qo so ao dl : Nat} {mo li op wp gp : Int32} (e_x : h x = some (.inr (0, [.ref d, .ref tx, .ref w, .ref st, .ref sv, .ref qo, .ref so, .ref ao, .int (nI dl), .int mo, .int li, .int op, .int wp, .int gp]))) {A : List Nat} {s1 s2 s3 s4 : Nat} {fr fp fs fl : Nat → Option Nat} {pc sc lc : Nat} {pe vm sm : Int32} (K : StoC A st s1 s2 s3 s4 fr fp fs fl pc sc lc pe vm sm h) {o1 o2 o3 o4 sz : Nat} {f1 f3 f4 : Nat → Int32} {f2 : Nat → UInt64} (N : AnsC ao o1 o2 o3 o4 sz f1 f2 f3 f4 h) (hF : 1 ≤ F) (hL : 20 ≤ L) :
    xw_Met G m_Shelf_count F L 0 0 [.ref x, .int 3] h (fun v h' => v = some (.int (vm)) ∧ h = h') (fun _ _ => False) := by
  refine xw_Met.of rfl (by decide) (Nat.le_of_ble_eq_true rfl) ?_
  have K0 := K
  obtain ⟨e_st, e_s1, e_s2, e_s3, e_s4, hpc, hsc, hlc, hR, hP, hS, hV, hAO⟩ := K
  obtain ⟨e_ao, e_o1, e_o2, e_o3, e_o4, hsz, hord⟩ := N
  refine s_Shelf_count_0 ?_
  refine x_tableAt (tgt := 76) d_Shelf_count_1 (by decide) (by decide) (show _ = some 75 by decide) (by decide) ⟨123, by decide⟩ ?_
  refine x_le (xw_le_s (xw_le_n xw_le_e)) ?_
  refine s_Shelf_count_76 (draft_a0 := some d) (texts_a0 := some tx) (weights_a0 := some w) (saved_a0 := some sv) (question_a0 := some qo) (standing_a0 := some so) (answers_a0 := some ao) (rows_store_a0 := some s1) (pending_store_a0 := some s2) (segments_store_a0 := some s3) (live_store_a0 := some s4) e_x e_st ?_
  exact ⟨rfl, rfl⟩
set_option maxHeartbeats 400000 in
theorem g_countH_4 {G : xw_G} {F L : Nat} {h : xw_A} {x d tx w st sv qo so ao dl : Nat} {mo li op wp gp : Int32} (e_x : h x = some (.inr (0, [.ref d, .ref tx, .ref w, .ref st, .ref sv, .ref qo, .ref so, .ref ao, .int (nI dl), .int mo, .int li, .int op, .int wp, .int gp]))) {A : List Nat} {s1 s2 s3 s4 : Nat} {fr fp fs fl : Nat → Option Nat} {pc sc lc : Nat} {pe vm sm : Int32} (K : StoC A st s1 s2 s3 s4 fr fp fs fl pc sc lc pe vm sm h) {o1 o2 o3 o4 sz : Nat} {f1 f3 f4 : Nat → Int32} {f2 : Nat → UInt64} (N : AnsC ao o1 o2 o3 o4 sz f1 f2 f3 f4 h) (hF : 1 ≤ F) (hL : 20 ≤ L) :
    xw_Met G m_Shelf_count F L 0 0 [.ref x, .int 4] h (fun v h' => v = some (.int (sm)) ∧ h = h') (fun _ _ => False) := by
  refine xw_Met.of rfl (by decide) (Nat.le_of_ble_eq_true rfl) ?_
  have K0 := K
  obtain ⟨e_st, e_s1, e_s2, e_s3, e_s4, hpc, hsc, hlc, hR, hP, hS, hV, hAO⟩ := K
  obtain ⟨e_ao, e_o1, e_o2, e_o3, e_o4, hsz, hord⟩ := N
  refine s_Shelf_count_0 ?_
  refine x_tableAt (tgt := 84) d_Shelf_count_1 (by decide) (by decide) (show _ = some 83 by decide) (by decide) ⟨123, by decide⟩ ?_
  refine x_le (xw_le_s (xw_le_n xw_le_e)) ?_
  refine s_Shelf_count_84 (draft_a0 := some d) (texts_a0 := some tx) (weights_a0 := some w) (saved_a0 := some sv) (question_a0 := some qo) (standing_a0 := some so) (answers_a0 := some ao) (rows_store_a0 := some s1) (pending_store_a0 := some s2) (segments_store_a0 := some s3) (live_store_a0 := some s4) e_x e_st ?_
  exact ⟨rfl, rfl⟩
set_option maxHeartbeats 400000 in
theorem g_countH_5 {G : xw_G} {F L : Nat} {h : xw_A} {x d tx w st sv qo so ao dl : Nat} {mo li op wp gp : Int32} (e_x : h x = some (.inr (0, [.ref d, .ref tx, .ref w, .ref st, .ref sv, .ref qo, .ref so, .ref ao, .int (nI dl), .int mo, .int li, .int op, .int wp, .int gp]))) {A : List Nat} {s1 s2 s3 s4 : Nat} {fr fp fs fl : Nat → Option Nat} {pc sc lc : Nat} {pe vm sm : Int32} (K : StoC A st s1 s2 s3 s4 fr fp fs fl pc sc lc pe vm sm h) {o1 o2 o3 o4 sz : Nat} {f1 f3 f4 : Nat → Int32} {f2 : Nat → UInt64} (N : AnsC ao o1 o2 o3 o4 sz f1 f2 f3 f4 h) (hF : 1 ≤ F) (hL : 20 ≤ L) :
    xw_Met G m_Shelf_count F L 0 0 [.ref x, .int 5] h (fun v h' => v = some (.int (nI sz)) ∧ h = h') (fun _ _ => False) := by
  refine xw_Met.of rfl (by decide) (Nat.le_of_ble_eq_true rfl) ?_
  have K0 := K
  obtain ⟨e_st, e_s1, e_s2, e_s3, e_s4, hpc, hsc, hlc, hR, hP, hS, hV, hAO⟩ := K
  obtain ⟨e_ao, e_o1, e_o2, e_o3, e_o4, hsz, hord⟩ := N
  refine s_Shelf_count_0 ?_
  refine x_tableAt (tgt := 92) d_Shelf_count_1 (by decide) (by decide) (show _ = some 91 by decide) (by decide) ⟨123, by decide⟩ ?_
  refine x_le (xw_le_s (xw_le_n xw_le_e)) ?_
  refine s_Shelf_count_92 (draft_a0 := some d) (texts_a0 := some tx) (weights_a0 := some w) (store_a0 := some st) (saved_a0 := some sv) (question_a0 := some qo) (standing_a0 := some so) (rows_answers_a0 := some o1) (scores_answers_a0 := some o2) (lengths_answers_a0 := some o3) (order_answers_a0 := some o4) e_x e_ao ?_
  exact ⟨rfl, rfl⟩
set_option maxHeartbeats 400000 in
theorem g_countH_6 {G : xw_G} {F L : Nat} {h : xw_A} {x d tx w st sv qo so ao dl : Nat} {mo li op wp gp : Int32} (e_x : h x = some (.inr (0, [.ref d, .ref tx, .ref w, .ref st, .ref sv, .ref qo, .ref so, .ref ao, .int (nI dl), .int mo, .int li, .int op, .int wp, .int gp]))) {A : List Nat} {s1 s2 s3 s4 : Nat} {fr fp fs fl : Nat → Option Nat} {pc sc lc : Nat} {pe vm sm : Int32} (K : StoC A st s1 s2 s3 s4 fr fp fs fl pc sc lc pe vm sm h) {o1 o2 o3 o4 sz : Nat} {f1 f3 f4 : Nat → Int32} {f2 : Nat → UInt64} (N : AnsC ao o1 o2 o3 o4 sz f1 f2 f3 f4 h) (hF : 1 ≤ F) (hL : 20 ≤ L) :
    xw_Met G m_Shelf_count F L 0 0 [.ref x, .int 6] h (fun v h' => v = some (.int (gp)) ∧ h = h') (fun _ _ => False) := by
  refine xw_Met.of rfl (by decide) (Nat.le_of_ble_eq_true rfl) ?_
  have K0 := K
  obtain ⟨e_st, e_s1, e_s2, e_s3, e_s4, hpc, hsc, hlc, hR, hP, hS, hV, hAO⟩ := K
  obtain ⟨e_ao, e_o1, e_o2, e_o3, e_o4, hsz, hord⟩ := N
  refine s_Shelf_count_0 ?_
  refine x_tableAt (tgt := 100) d_Shelf_count_1 (by decide) (by decide) (show _ = some 99 by decide) (by decide) ⟨123, by decide⟩ ?_
  refine x_le (xw_le_s (xw_le_n xw_le_e)) ?_
  refine s_Shelf_count_100 (draft_a0 := some d) (texts_a0 := some tx) (weights_a0 := some w) (store_a0 := some st) (saved_a0 := some sv) (question_a0 := some qo) (standing_a0 := some so) (answers_a0 := some ao) e_x ?_
  exact ⟨rfl, rfl⟩
set_option maxHeartbeats 400000 in
theorem g_countH_7 {G : xw_G} {F L : Nat} {h : xw_A} {x d tx w st sv qo so ao dl : Nat} {mo li op wp gp : Int32} (e_x : h x = some (.inr (0, [.ref d, .ref tx, .ref w, .ref st, .ref sv, .ref qo, .ref so, .ref ao, .int (nI dl), .int mo, .int li, .int op, .int wp, .int gp]))) {A : List Nat} {s1 s2 s3 s4 : Nat} {fr fp fs fl : Nat → Option Nat} {pc sc lc : Nat} {pe vm sm : Int32} (K : StoC A st s1 s2 s3 s4 fr fp fs fl pc sc lc pe vm sm h) {o1 o2 o3 o4 sz : Nat} {f1 f3 f4 : Nat → Int32} {f2 : Nat → UInt64} (N : AnsC ao o1 o2 o3 o4 sz f1 f2 f3 f4 h) (hF : 1 ≤ F) (hL : 20 ≤ L) :
    xw_Met G m_Shelf_count F L 0 0 [.ref x, .int 7] h (fun v h' => v = some (.int ((if op = 0 then 0 else 1))) ∧ h = h') (fun _ _ => False) := by
  refine xw_Met.of rfl (by decide) (Nat.le_of_ble_eq_true rfl) ?_
  have K0 := K
  obtain ⟨e_st, e_s1, e_s2, e_s3, e_s4, hpc, hsc, hlc, hR, hP, hS, hV, hAO⟩ := K
  obtain ⟨e_ao, e_o1, e_o2, e_o3, e_o4, hsz, hord⟩ := N
  refine s_Shelf_count_0 ?_
  refine x_tableAt (tgt := 105) d_Shelf_count_1 (by decide) (by decide) (show _ = some 104 by decide) (by decide) ⟨123, by decide⟩ ?_
  refine x_le (xw_le_s (xw_le_n xw_le_e)) ?_
  refine s_Shelf_count_105 (draft_a0 := some d) (texts_a0 := some tx) (weights_a0 := some w) (store_a0 := some st) (saved_a0 := some sv) (question_a0 := some qo) (standing_a0 := some so) (answers_a0 := some ao) e_x (fun z_1 => ?_) (fun z_2 => ?_)
  · skip
    refine s_Shelf_count_116 ?_
    refine s_Shelf_count_117 ?_
    exact ⟨by rw [if_pos z_1], rfl⟩
  · skip
    refine s_Shelf_count_112 ?_
    refine s_Shelf_count_117 ?_
    exact ⟨by rw [if_neg z_2], rfl⟩
set_option maxHeartbeats 400000 in
theorem g_countH_8 {G : xw_G} {F L : Nat} {h : xw_A} {x d tx w st sv qo so ao dl : Nat} {mo li op wp gp : Int32} (e_x : h x = some (.inr (0, [.ref d, .ref tx, .ref w, .ref st, .ref sv, .ref qo, .ref so, .ref ao, .int (nI dl), .int mo, .int li, .int op, .int wp, .int gp]))) {A : List Nat} {s1 s2 s3 s4 : Nat} {fr fp fs fl : Nat → Option Nat} {pc sc lc : Nat} {pe vm sm : Int32} (K : StoC A st s1 s2 s3 s4 fr fp fs fl pc sc lc pe vm sm h) {o1 o2 o3 o4 sz : Nat} {f1 f3 f4 : Nat → Int32} {f2 : Nat → UInt64} (N : AnsC ao o1 o2 o3 o4 sz f1 f2 f3 f4 h) (hF : 1 ≤ F) (hL : 20 ≤ L) :
    xw_Met G m_Shelf_count F L 0 0 [.ref x, .int 8] h (fun v h' => v = some (.int (nI dl)) ∧ h = h') (fun _ _ => False) := by
  refine xw_Met.of rfl (by decide) (Nat.le_of_ble_eq_true rfl) ?_
  have K0 := K
  obtain ⟨e_st, e_s1, e_s2, e_s3, e_s4, hpc, hsc, hlc, hR, hP, hS, hV, hAO⟩ := K
  obtain ⟨e_ao, e_o1, e_o2, e_o3, e_o4, hsz, hord⟩ := N
  refine s_Shelf_count_0 ?_
  refine x_tableAt (tgt := 118) d_Shelf_count_1 (by decide) (by decide) (show _ = some 117 by decide) (by decide) ⟨123, by decide⟩ ?_
  refine x_le (xw_le_s (xw_le_n xw_le_e)) ?_
  refine s_Shelf_count_118 (draft_a0 := some d) (texts_a0 := some tx) (weights_a0 := some w) (store_a0 := some st) (saved_a0 := some sv) (question_a0 := some qo) (standing_a0 := some so) (answers_a0 := some ao) e_x ?_
  exact ⟨rfl, rfl⟩
