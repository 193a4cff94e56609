/-! TIER G, without heaps: the class's lists and the reference's arrays -/
def Pr2 (p : Int32 → SG → Prop) : List Int32 → List SG → Prop
  | [], [] => True
  | x :: xs, s :: ss => p x s ∧ Pr2 p xs ss
  | [], _ :: _ => False
  | _ :: _, [] => False
theorem Pr2.len {p : Int32 → SG → Prop} : ∀ {xs : List Int32} {ss : List SG}, Pr2 p xs ss → xs.length = ss.length
  | [], [], _ => rfl
  | _ :: _, _ :: _, h => by simp [Pr2.len h.2]
theorem Pr2.mono {p q : Int32 → SG → Prop} : ∀ {xs : List Int32} {ss : List SG}, Pr2 p xs ss → (∀ x s, x ∈ xs → s ∈ ss → p x s → q x s) → Pr2 q xs ss
  | [], [], _, _ => trivial
  | _ :: _, _ :: _, h, m => ⟨m _ _ List.mem_cons_self List.mem_cons_self h.1, Pr2.mono h.2 (fun x s hx hs => m x s (List.mem_cons_of_mem _ hx) (List.mem_cons_of_mem _ hs))⟩
theorem Pr2.app {p : Int32 → SG → Prop} : ∀ {xs : List Int32} {ss : List SG} {ys : List Int32} {tt : List SG}, Pr2 p xs ss → Pr2 p ys tt → Pr2 p (xs ++ ys) (ss ++ tt)
  | [], [], _, _, _, k => k
  | _ :: _, _ :: _, _, _, h, k => ⟨h.1, Pr2.app h.2 k⟩
theorem Pr2.filter {p : Int32 → SG → Prop} {a : Int32 → Bool} {b : SG → Bool} : ∀ {xs : List Int32} {ss : List SG}, Pr2 p xs ss → (∀ x s, p x s → a x = b s) → Pr2 p (xs.filter a) (ss.filter b)
  | [], [], _, _ => trivial
  | x :: xs, s :: ss, h, m => by
    have e := m x s h.1
    by_cases q : a x = true
    · rw [List.filter_cons_of_pos q, List.filter_cons_of_pos (by rw [← e]; exact q)]
      exact ⟨h.1, Pr2.filter h.2 m⟩
    · rw [List.filter_cons_of_neg q, List.filter_cons_of_neg (by rw [← e]; exact q)]
      exact Pr2.filter h.2 m
theorem Pr2.at {p : Int32 → SG → Prop} : ∀ {xs : List Int32} {ss : List SG} {k : Nat} {x : Int32} {s : SG}, Pr2 p xs ss → xs[k]? = some x → ss[k]? = some s → p x s
  | [], _, _, _, _, _, h1, _ => by simp at h1
  | _ :: _, [], _, _, _, h, _, _ => h.elim
  | x :: xs, s :: ss, 0, _, _, h, h1, h2 => by
    simp only [List.getElem?_cons_zero, Option.some.injEq] at h1 h2
    rw [← h1, ← h2]
    exact h.1
  | x :: xs, s :: ss, k + 1, _, _, h, h1, h2 => Pr2.at h.2 (by simpa using h1) (by simpa using h2)
theorem Pr2.memR {p : Int32 → SG → Prop} : ∀ {xs : List Int32} {ss : List SG} {s : SG}, Pr2 p xs ss → s ∈ ss → ∃ x, x ∈ xs ∧ p x s
  | [], [], _, _, hs => by simp at hs
  | [], _ :: _, _, h, _ => h.elim
  | _ :: _, [], _, h, _ => h.elim
  | x :: xs, t :: ss, s, h, hs => by
    rcases List.mem_cons.mp hs with rfl | hs
    · exact ⟨x, List.mem_cons_self, h.1⟩
    · obtain ⟨y, h1, h2⟩ := Pr2.memR h.2 hs
      exact ⟨y, List.mem_cons_of_mem _ h1, h2⟩
theorem Pr2.memL {p : Int32 → SG → Prop} : ∀ {xs : List Int32} {ss : List SG} {x : Int32}, Pr2 p xs ss → x ∈ xs → ∃ s, s ∈ ss ∧ p x s
  | [], [], _, _, hx => by simp at hx
  | [], _ :: _, _, h, _ => h.elim
  | _ :: _, [], _, h, _ => h.elim
  | y :: xs, t :: ss, x, h, hx => by
    rcases List.mem_cons.mp hx with rfl | hx
    · exact ⟨t, List.mem_cons_self, h.1⟩
    · obtain ⟨s, h1, h2⟩ := Pr2.memL h.2 hx
      exact ⟨s, List.mem_cons_of_mem _ h1, h2⟩
theorem nodup_le : ∀ (n : Nat) (L : List Nat), L.Nodup → (∀ x ∈ L, x < n) → L.length ≤ n := by
  intro n
  induction n with
  | zero =>
    intro L _ h
    cases L with
    | nil => exact Nat.le_refl _
    | cons a L => exact absurd (h a List.mem_cons_self) (Nat.not_lt_zero _)
  | succ n ih =>
    intro L hn h
    have h1 := ih (L.filter (fun x => decide (x < n))) (hn.filter _) (fun x hx => of_decide_eq_true (List.mem_filter.mp hx).2)
    have h2 : L.length ≤ (L.filter (fun x => decide (x < n))).length + 1 := by
      clear ih h1
      induction L with
      | nil => exact Nat.zero_le _
      | cons a L ih =>
        rw [List.nodup_cons] at hn
        by_cases q : a < n
        · rw [List.filter_cons_of_pos (p := fun x => decide (x < n)) (decide_eq_true q), List.length_cons, List.length_cons]
          have := ih hn.2 (fun x hx => h x (List.mem_cons_of_mem _ hx))
          omega
        · rw [List.filter_cons_of_neg (p := fun x => decide (x < n)) (fun z => q (of_decide_eq_true z)), List.length_cons]
          have e : L.filter (fun x => decide (x < n)) = L := List.filter_eq_self.mpr (fun x hx => decide_eq_true (by
            have h3 := h x (List.mem_cons_of_mem _ hx)
            have h4 := h a List.mem_cons_self
            have h5 : x ≠ a := fun z => hn.1 (by rw [← z]; exact hx)
            omega))
          rw [e]
          exact Nat.le_refl _
    omega
/-- gathering with no end -/
theorem gats_fil {R : Nat → Option VT} : ∀ (ts L : List VT), (L ++ ts.filter (alv R)).length ≤ 24 → gats R L ts = L ++ ts.filter (alv R) := by
  intro ts
  induction ts with
  | nil => intro L _; simp [gats]
  | cons t ts ih =>
    intro L h
    show gats R (gat R L t) ts = _
    by_cases q : alv R t = true
    · rw [List.filter_cons_of_pos q] at h ⊢
      have hl : L.length < 24 := by simp only [List.length_append, List.length_cons] at h; omega
      rw [gat, if_pos ⟨q, hl⟩, ih (L ++ [t]) (by simpa using h)]
      simp
    · rw [List.filter_cons_of_neg q] at h ⊢
      rw [gat, if_neg (fun z => q z.1)]
      exact ih L h
theorem gats_app {R : Nat → Option VT} (L a b : List VT) : gats R (gats R L a) b = gats R L (a ++ b) := by simp [gats, List.foldl_append]
def inr (lo hi : Nat) (s : SG) : Bool := decide (¬ (s.1 < lo ∨ hi < s.1))
theorem mgl_eq {R : Nat → Option VT} {lo hi : Nat} : ∀ (S : List SG) (a : List SG) (L : List VT), S.foldl (mgs R lo hi) (a, L) = (a ++ S.filter (fun s => !(inr lo hi s)), gats R L ((S.filter (inr lo hi)).flatMap (fun s => s.2))) := by
  intro S
  induction S with
  | nil => intro a L; simp [gats]
  | cons s S ih =>
    intro a L
    rw [List.foldl_cons, mgs]
    by_cases q : s.1 < lo ∨ hi < s.1
    · have hb : inr lo hi s = false := decide_eq_false (fun z => z q)
      rw [if_pos q, ih, List.filter_cons_of_pos (by simp [hb]), List.filter_cons_of_neg (by simp [hb])]
      simp
    · have hb : inr lo hi s = true := decide_eq_true q
      rw [if_neg q, ih, List.filter_cons_of_neg (by simp [hb]), List.filter_cons_of_pos hb, List.flatMap_cons]
      simp only [gats_app]
/-- the versions' table -/
def RgV (nv : Nat) (fe : Nat → Int32) (W : Nat → VT) : Prop := ∀ v, v < nv → (W v).1 = v ∧ 1 ≤ (W v).2.1 ∧ (W v).2.1 ≤ 24 ∧ (W v).2.2 < 1000 ∧ fe v = nI (W v).2.2
def RgR (nv : Nat) (W : Nat → VT) (fv : Nat → Int32) (R : Nat → Option VT) : Prop := ∀ r, r < 24 → (fv r < 0 ∧ R (r + 1) = none) ∨ ∃ v, v < nv ∧ fv r = nI v ∧ R (r + 1) = some (W v) ∧ (W v).2.1 = r + 1
def RgL (nv : Nat) (W : Nat → VT) (fi : Nat → Int32) (x : Int32) (L : List VT) : Prop := L.Nodup ∧ ∀ t, t ∈ L ↔ ∃ v, v < nv ∧ t = W v ∧ fi v = x ∧ 0 < (W v).2.2
def RgS (nv : Nat) (W : Nat → VT) (fi fL : Nat → Int32) (Rs : List Int32) (S : List SG) : Prop := Pr2 (fun x s => fL x.toNatClampNeg = nI s.1 ∧ s.1 ≤ 5 ∧ RgL nv W fi x s.2) Rs S
def RgI (nv md : Nat) (W : Nat → VT) (fi : Nat → Int32) (Rs : List Int32) : Prop := Rs.Nodup ∧ (∀ x ∈ Rs, ∃ s, s < md ∧ x = nI s) ∧ ∀ v, v < nv → fi v < 0 ∨ (fi v ∈ Rs ∧ 0 < (W v).2.2)
theorem W_inj {nv : Nat} {fe : Nat → Int32} {W : Nat → VT} (k : RgV nv fe W) {v u : Nat} (hv : v < nv) (hu : u < nv) (e : W v = W u) : v = u := by rw [← (k v hv).1, ← (k u hu).1, e]
theorem alive_iff {nv : Nat} {fe fv : Nat → Int32} {W : Nat → VT} {R : Nat → Option VT} (kv : RgV nv fe W) (kr : RgR nv W fv R) (hn : nv < 2 ^ 31) {v : Nat} (hv : v < nv) : liv fv (nI v) ↔ alv R (W v) = true := by
  constructor
  · rintro ⟨r, hr, e⟩
    rcases kr r hr with ⟨q, -⟩ | ⟨u, hu, e1, e2, e3⟩
    · rw [e] at q; exact absurd q (nI_pos (by omega))
    · obtain rfl : v = u := (nI_eq (by omega) (by omega)).mp (e.symm.trans e1)
      rw [alv_some (u := W v) (by rw [e3]; exact e2)]
      simp
  · intro h
    obtain ⟨h1, h2, h3, -, -⟩ := kv v hv
    obtain ⟨r, hr, e⟩ : ∃ r, r < 24 ∧ (W v).2.1 = r + 1 := ⟨(W v).2.1 - 1, by omega, by omega⟩
    rcases kr r hr with ⟨-, q⟩ | ⟨u, hu, e1, e2, e3⟩
    · rw [alv_none (by rw [e]; exact q)] at h; cases h
    · rw [alv_some (u := W u) (by rw [e]; exact e2)] at h
      have h4 : (W u).1 = (W v).1 := by simpa using h
      rw [h1, (kv u hu).1] at h4
      exact ⟨r, hr, by rw [e1, h4]⟩
theorem stq_iff {nv : Nat} {fe fv : Nat → Int32} {W : Nat → VT} {R : Nat → Option VT} (kv : RgV nv fe W) (kr : RgR nv W fv R) (hn : nv < 2 ^ 31) {v : Nat} (hv : v < nv) : stq fe fv v ↔ (alv R (W v) = true ∧ 0 < (W v).2.2) := by
  unfold stq
  rw [alive_iff kv kr hn hv]
  obtain ⟨-, -, -, h4, h5⟩ := kv v hv
  rw [h5]
  constructor
  · rintro ⟨h1, h2⟩
    exact ⟨h1, Nat.pos_of_ne_zero (fun z => h2 (by rw [z]; decide))⟩
  · rintro ⟨h1, h2⟩
    exact ⟨h1, nI_nle h2 (by omega)⟩
/-- live versions: at most 24 -/
theorem live_le {nv : Nat} {fe fv : Nat → Int32} {W : Nat → VT} {R : Nat → Option VT} (kv : RgV nv fe W) (kr : RgR nv W fv R) {M : List VT} (hM : M.Nodup) (hm : ∀ t ∈ M, (∃ v, v < nv ∧ t = W v) ∧ alv R t = true) : M.length ≤ 24 := by
  have inj : ∀ t ∈ M, ∀ u ∈ M, t.2.1 = u.2.1 → t = u := fun t ht u hu e => by
    obtain ⟨⟨v, hv, rfl⟩, a1⟩ := hm t ht
    obtain ⟨⟨w, hw, rfl⟩, a2⟩ := hm u hu
    cases q : R (W v).2.1 with
    | none => rw [alv_none q] at a1; cases a1
    | some z =>
      rw [alv_some q] at a1
      rw [alv_some (u := z) (by rw [← e]; exact q)] at a2
      have b1 : z.1 = (W v).1 := by simpa using a1
      have b2 : z.1 = (W w).1 := by simpa using a2
      rw [(kv v hv).1] at b1
      rw [(kv w hw).1] at b2
      rw [← b1, ← b2]
  have hp : ∀ t ∈ M, 1 ≤ t.2.1 := fun t ht => by
    obtain ⟨⟨v, hv, rfl⟩, -⟩ := hm t ht
    exact (kv v hv).2.1
  have h1 : (M.map (fun t => t.2.1 - 1)).Nodup := by
    have : ∀ N : List VT, (∀ t ∈ N, t ∈ M) → N.Nodup → (∀ t ∈ N, 1 ≤ t.2.1) → (N.map (fun t => t.2.1 - 1)).Nodup := by
      intro N
      induction N with
      | nil => intro _ _ _; exact List.nodup_nil
      | cons t N ih =>
        intro hs hn hp
        rw [List.nodup_cons] at hn
        rw [List.map_cons, List.nodup_cons]
        refine ⟨fun z => ?_, ih (fun u hu => hs u (List.mem_cons_of_mem _ hu)) hn.2 (fun u hu => hp u (List.mem_cons_of_mem _ hu))⟩
        obtain ⟨u, hu, e⟩ := List.mem_map.mp z
        have p1 := hp t List.mem_cons_self
        have p2 := hp u (List.mem_cons_of_mem _ hu)
        exact hn.1 (by rw [inj t (hs t List.mem_cons_self) u (hs u (List.mem_cons_of_mem _ hu)) (by omega)]; exact hu)
    exact this M (fun t ht => ht) hM hp
  have h2 := nodup_le 24 _ h1 (fun x hx => by
    obtain ⟨t, ht, rfl⟩ := List.mem_map.mp hx
    obtain ⟨⟨v, hv, rfl⟩, -⟩ := hm t ht
    have := (kv v hv).2.2.1
    have := (kv v hv).2.1
    omega)
  simpa using h2
/-- what is related: the table, the rows, pending, the segments -/
def RG (nv md : Nat) (W : Nat → VT) (fe fv fi fr fL : Nat → Int32) (sg : Nat) (R : Nat → Option VT) (P : List VT) (S : List SG) : Prop := RgV nv fe W ∧ RgR nv W fv R ∧ RgL nv W fi (-2) P ∧ RgS nv W fi fL (tb fr sg) S ∧ RgI nv md W fi (tb fr sg)
theorem nI_neg {n : Nat} (h : n < 2 ^ 31) : ¬ nI n = -1 ∧ ¬ nI n = -2 := ⟨fun q => nI_pos h (by rw [q]; decide), fun q => nI_pos h (by rw [q]; decide)⟩
theorem ga_rel {nv md sg dl lf toN : Nat} {W : Nat → VT} {fe fv fi fr fL fi' fr' fL' : Nat → Int32} {wh : Int32} {R : Nat → Option VT} {P P' : List VT} {S : List SG} {sel : SG → Bool} {L0 : List VT} (G : RG nv md W fe fv fi fr fL sg R P S) (hn : nv < 2 ^ 31) (hm : md + 1 < 2 ^ 31) (hdl : dl ≤ 1) (g : GaV fe fv fi fr fL wh (nI toN) nv md sg fi' fr' fL' dl lf) (ht : toN ≤ 5)
    (hsel : ∀ x s, x ∈ tb fr sg → fL x.toNatClampNeg = nI s.1 → s.1 ≤ 5 → kpB wh fL x = !(sel s))
    (h0n : L0.Nodup) (h0 : ∀ t, t ∈ L0 ↔ ∃ v, v < nv ∧ t = W v ∧ hre wh fL fi v ∧ 0 < (W v).2.2)
    (hkeep : ∀ v, v < nv → hre wh fL fi v → ¬ fi v < 0 → kpB wh fL (fi v) = false) (hall : ∀ v, v < nv → ¬ fi v < 0 → kpB wh fL (fi v) = false → hre wh fL fi v)
    (hP : (wh = -2 ∧ P' = []) ∨ (¬ wh = -2 ∧ P' = P)) :
    (dl = if 0 < (L0.filter (alv R)).length then 1 else 0) ∧ gats R [] L0 = L0.filter (alv R) ∧ RG nv (md + dl) W fe fv fi' fr' fL' (lf + dl) R P' (S.filter (fun s => !(sel s)) ++ (if 0 < (L0.filter (alv R)).length then [(toN, L0.filter (alv R))] else [])) := by
  obtain ⟨kv, kr, kp, ks, ⟨i1, i2, i3⟩⟩ := G
  obtain ⟨⟨g1, g2, g3⟩, g4, g5⟩ := g
  have hmem : ∀ t, t ∈ L0.filter (alv R) ↔ ∃ v, v < nv ∧ t = W v ∧ hre wh fL fi v ∧ stq fe fv v := fun t => by
    rw [List.mem_filter, h0]
    constructor
    · rintro ⟨⟨v, hv, rfl, h1, h2⟩, h3⟩
      exact ⟨v, hv, rfl, h1, (stq_iff kv kr hn hv).mpr ⟨h3, h2⟩⟩
    · rintro ⟨v, hv, rfl, h1, h2⟩
      obtain ⟨h3, h4⟩ := (stq_iff kv kr hn hv).mp h2
      exact ⟨⟨v, hv, rfl, h1, h4⟩, h3⟩
  have hLn : (L0.filter (alv R)).Nodup := h0n.filter _
  have hL24 : (L0.filter (alv R)).length ≤ 24 := live_le kv kr hLn (fun t ht => by
    obtain ⟨v, hv, e, -⟩ := (hmem t).mp ht
    exact ⟨⟨v, hv, e⟩, (List.mem_filter.mp ht).2⟩)
  have hga : gats R [] L0 = L0.filter (alv R) := by
    have := gats_fil (R := R) L0 [] (by simpa using hL24)
    simpa using this
  have hdl2 : dl = if 0 < (L0.filter (alv R)).length then 1 else 0 := by
    by_cases q : 0 < (L0.filter (alv R)).length
    · rw [if_pos q]
      rcases Nat.eq_zero_or_pos dl with z | z
      · obtain ⟨t, htm⟩ := List.exists_mem_of_length_pos q
        obtain ⟨v, hv, -, h1, h2⟩ := (hmem t).mp htm
        exact absurd ⟨h1, h2⟩ (g3.mp z v hv)
      · omega
    · rw [if_neg q]
      refine g3.mpr (fun v hv z => q ?_)
      exact List.length_pos_of_mem ((hmem (W v)).mpr ⟨v, hv, rfl, z.1, z.2⟩)
  have old : ∀ v, v < nv → ¬ fi v = nI md := fun v hv q => by
    rcases i3 v hv with z | ⟨z, -⟩
    · rw [q] at z; exact absurd z (nI_pos (by omega))
    · obtain ⟨s, hs, e⟩ := i2 _ z
      rw [q] at e
      have := (nI_eq (by omega) (by omega)).mp e
      omega
  have keepL : ∀ x, x ∈ tb fr sg → kpB wh fL x = true → ∀ v, v < nv → (fi' v = x ↔ fi v = x) := fun x hx hk v hv => by
    obtain ⟨s, hs, e⟩ := i2 x hx
    have hpos : ¬ x < 0 := by rw [e]; exact nI_pos (by omega)
    rcases g2 v hv with ⟨-, q⟩ | ⟨q1, q2, q3⟩ | ⟨q1, q2, q3⟩
    · rw [q]
    · constructor
      · intro z
        rw [q3, e] at z
        have := (nI_eq (by omega) (by omega)).mp z
        omega
      · intro z
        have h9 := hkeep v hv q1 (by rw [z]; exact hpos)
        rw [z, hk] at h9
        cases h9
    · constructor
      · intro z
        rw [q3] at z
        exact absurd (by rw [← z]; decide) hpos
      · intro z
        have h9 := hkeep v hv q1 (by rw [z]; exact hpos)
        rw [z, hk] at h9
        cases h9
  have kpx_old : ∀ x, x ∈ tb fr sg → fL' x.toNatClampNeg = fL x.toNatClampNeg := fun x hx => by
    obtain ⟨s, hs, e⟩ := i2 x hx
    rw [g5]
    split
    · rw [e, nI_clamp (by omega)]
      exact pk_un (by omega)
    · rfl
  have hseg : Pr2 (fun x s => fL' x.toNatClampNeg = nI s.1 ∧ s.1 ≤ 5 ∧ RgL nv W fi' x s.2) ((tb fr sg).filter (kpB wh fL)) (S.filter (fun s => !(sel s))) := by
    have h1 : Pr2 (fun x s => x ∈ tb fr sg ∧ fL x.toNatClampNeg = nI s.1 ∧ s.1 ≤ 5 ∧ RgL nv W fi x s.2) (tb fr sg) S := Pr2.mono ks (fun x s hx _ h => ⟨hx, h⟩)
    have h2 := h1.filter (a := kpB wh fL) (b := fun s => !(sel s)) (fun x s h => hsel x s h.1 h.2.1 h.2.2.1)
    refine Pr2.mono h2 (fun x s hx hs h => ?_)
    have hx2 := List.mem_filter.mp hx
    refine ⟨by rw [kpx_old x hx2.1]; exact h.2.1, h.2.2.1, h.2.2.2.1, fun t => ?_⟩
    rw [h.2.2.2.2 t]
    constructor
    · rintro ⟨v, hv, e, h3, h4⟩
      exact ⟨v, hv, e, (keepL x hx2.1 hx2.2 v hv).mpr h3, h4⟩
    · rintro ⟨v, hv, e, h3, h4⟩
      exact ⟨v, hv, e, (keepL x hx2.1 hx2.2 v hv).mp h3, h4⟩
  have hnew : RgL nv W fi' (nI md) (L0.filter (alv R)) := ⟨hLn, fun t => by
    rw [hmem]
    constructor
    · rintro ⟨v, hv, e, h1, h2⟩
      refine ⟨v, hv, e, ?_, ((stq_iff kv kr hn hv).mp h2).2⟩
      rcases g2 v hv with ⟨q, -⟩ | ⟨-, -, q⟩ | ⟨-, q, -⟩
      · exact absurd h1 q
      · exact q
      · exact absurd h2 q
    · rintro ⟨v, hv, e, h1, h2⟩
      rcases g2 v hv with ⟨-, q⟩ | ⟨q1, q2, -⟩ | ⟨-, -, q⟩
      · rw [q] at h1; exact absurd h1 (old v hv)
      · exact ⟨v, hv, e, q1, q2⟩
      · rw [q] at h1; exact absurd h1.symm (nI_neg (by omega)).1⟩
  refine ⟨hdl2, hga, kv, kr, ?_, ?_, ?_⟩
  · rcases hP with ⟨hw, rfl⟩ | ⟨hw, rfl⟩
    · refine ⟨List.nodup_nil, fun t => ⟨(fun z => nomatch z), ?_⟩⟩
      rintro ⟨v, hv, -, h1, -⟩
      rcases g2 v hv with ⟨q1, q⟩ | ⟨-, -, q⟩ | ⟨-, -, q⟩
      · exact absurd (Or.inl ⟨hw, by rw [← q]; exact h1⟩) q1
      · rw [q] at h1; exact absurd h1 (nI_neg (by omega)).2
      · rw [q] at h1; exact absurd h1 (by decide)
    · refine ⟨kp.1, fun t => ?_⟩
      rw [kp.2]
      have hfi : ∀ v, v < nv → (fi' v = -2 ↔ fi v = -2) := fun v hv => by
        rcases g2 v hv with ⟨-, q⟩ | ⟨q1, q2, q3⟩ | ⟨q1, q2, q3⟩
        · rw [q]
        · refine ⟨fun z => absurd (q3.symm.trans z) (nI_neg (by omega)).2, fun z => ?_⟩
          rcases q1 with u | u
          · exact absurd u.1 hw
          · exact absurd (by rw [z]; decide) u.2.1
        · refine ⟨fun z => absurd (q3.symm.trans z) (by decide), fun z => ?_⟩
          rcases q1 with u | u
          · exact absurd u.1 hw
          · exact absurd (by rw [z]; decide) u.2.1
      constructor
      · rintro ⟨v, hv, e, h1, h2⟩
        exact ⟨v, hv, e, (hfi v hv).mpr h1, h2⟩
      · rintro ⟨v, hv, e, h1, h2⟩
        exact ⟨v, hv, e, (hfi v hv).mp h1, h2⟩
  · show Pr2 _ (tb fr' (lf + dl)) _
    rw [g4]
    refine hseg.app ?_
    by_cases q : 0 < (L0.filter (alv R)).length
    · rw [if_pos q] at hdl2
      rw [if_pos hdl2, if_pos q]
      exact ⟨⟨by rw [g5, if_pos hdl2, nI_clamp (by omega)]; exact pk_us, ht, hnew⟩, trivial⟩
    · rw [if_neg q] at hdl2
      rw [if_neg (by omega), if_neg q]
      trivial
  · rw [g4]
    refine ⟨?_, fun x hx => ?_, fun v hv => ?_⟩
    · rw [List.nodup_append]
      refine ⟨i1.filter _, ?_, fun x hx y hy => ?_⟩
      · split
        · exact List.nodup_cons.mpr ⟨(by simp), List.nodup_nil⟩
        · exact List.nodup_nil
      · split at hy
        · rw [List.mem_singleton.mp hy]
          obtain ⟨s, hs, e⟩ := i2 x (List.mem_filter.mp hx).1
          rw [e]
          exact fun z => absurd ((nI_eq (by omega) (by omega)).mp z) (by omega)
        · cases hy
    · rcases List.mem_append.mp hx with hx | hx
      · obtain ⟨s, hs, e⟩ := i2 x (List.mem_filter.mp hx).1
        exact ⟨s, by omega, e⟩
      · split at hx
        · next h1 => exact ⟨md, by omega, List.mem_singleton.mp hx⟩
        · cases hx
    · rcases g2 v hv with ⟨q1, q⟩ | ⟨q1, q2, q3⟩ | ⟨-, -, q⟩
      · rw [q]
        rcases i3 v hv with z | ⟨z1, z2⟩
        · exact Or.inl z
        · refine Or.inr ⟨List.mem_append_left _ (List.mem_filter.mpr ⟨z1, ?_⟩), z2⟩
          cases hk : kpB wh fL (fi v) with
          | true => rfl
          | false =>
            obtain ⟨s, hs, e⟩ := i2 _ z1
            exact absurd (hall v hv (by rw [e]; exact nI_pos (by omega)) hk) q1
      · have hpos : 0 < (L0.filter (alv R)).length := List.length_pos_of_mem ((hmem (W v)).mpr ⟨v, hv, rfl, q1, q2⟩)
        rw [if_pos hpos] at hdl2
        rw [q3, if_pos hdl2]
        exact Or.inr ⟨List.mem_append_right _ (by simp), ((stq_iff kv kr hn hv).mp q2).2⟩
      · rw [q]
        exact Or.inl (by decide)
theorem kpB_2 {fL : Nat → Int32} {x : Int32} : kpB (-2) fL x = true := decide_eq_true (Or.inl rfl)
theorem kpB_1 {fL : Nat → Int32} {x : Int32} : kpB (-1) fL x = false := decide_eq_false (fun z => z.elim (fun u => absurd u (by decide)) (fun u => u.1 (by decide)))
theorem kpB_l {fL : Nat → Int32} {x : Int32} {l : Nat} (hl : l ≤ 5) : kpB (nI l) fL x = true ↔ ¬ fL x.toNatClampNeg = nI l := by
  unfold kpB
  rw [decide_eq_true_iff]
  exact ⟨fun z => z.elim (fun u => absurd u (nI_neg (by omega)).2) (fun u => u.2), fun z => Or.inr ⟨nI_pos (by omega), z⟩⟩
theorem hre_2 {fL fi : Nat → Int32} {v : Nat} : hre (-2) fL fi v ↔ fi v = -2 := ⟨fun z => z.elim (fun u => u.2) (fun u => absurd rfl u.1), fun z => Or.inl ⟨rfl, z⟩⟩
theorem hre_1 {fL fi : Nat → Int32} {v : Nat} : hre (-1) fL fi v ↔ ¬ fi v < 0 := ⟨fun z => z.elim (fun u => absurd u.1 (by decide)) (fun u => u.2.1), fun z => Or.inr ⟨by decide, z, Or.inl (by decide)⟩⟩
theorem hre_l {fL fi : Nat → Int32} {v l : Nat} (hl : l ≤ 5) : hre (nI l) fL fi v ↔ (¬ fi v < 0 ∧ fL (fi v).toNatClampNeg = nI l) := ⟨fun z => z.elim (fun u => absurd u.1 (nI_neg (by omega)).2) (fun u => ⟨u.2.1, u.2.2.elim (fun q => absurd q (nI_pos (by omega))) id⟩), fun z => Or.inr ⟨(nI_neg (by omega)).2, z.1, Or.inr z.2⟩⟩
theorem addS_eq {lv : Nat} {L : List VT} {S : List SG} (h : S.length < 512) : addS lv L S = S ++ (if 0 < L.length then [(lv, L)] else []) := by
  rw [addS]
  by_cases q : 0 < L.length
  · rw [if_pos ⟨q, h⟩, if_pos q]
  · rw [if_neg (fun z => q z.1), if_neg q, List.append_nil]
theorem addN_eq {L : List VT} {S : List SG} {n : Nat} (h : S.length < 512) : addN L S n = n + (if 0 < L.length then 1 else 0) := by
  rw [addN]
  by_cases q : 0 < L.length
  · rw [if_pos ⟨q, h⟩, if_pos q]
  · rw [if_neg (fun z => q z.1), if_neg q, Nat.add_zero]
theorem addS_len {lv : Nat} {L : List VT} {S : List SG} : (addS lv L S).length ≤ S.length + 1 := by
  rw [addS]
  split
  · simp
  · omega
/-- what is pending is gathered -/
theorem ga_pend {nv md sg dl lf : Nat} {W : Nat → VT} {fe fv fi fr fL fi' fr' fL' : Nat → Int32} {R : Nat → Option VT} {P : List VT} {S : List SG} (G : RG nv md W fe fv fi fr fL sg R P S) (hn : nv < 2 ^ 31) (hm : md + 1 < 2 ^ 31) (hdl : dl ≤ 1) (g : GaV fe fv fi fr fL (-2) 0 nv md sg fi' fr' fL' dl lf) (hS : S.length < 512) :
    md + dl = addN (gats R [] P) S md ∧ RG nv (md + dl) W fe fv fi' fr' fL' (lf + dl) R [] (addS 0 (gats R [] P) S) := by
  obtain ⟨h1, h2, h3⟩ := ga_rel (toN := 0) (sel := fun _ => false) (L0 := P) (P' := []) G hn hm hdl g (Nat.zero_le _) (fun x s _ _ _ => kpB_2) G.2.2.1.1
    (fun t => by rw [G.2.2.1.2 t]; exact ⟨fun ⟨v, a, b, c, d⟩ => ⟨v, a, b, hre_2.mpr c, d⟩, fun ⟨v, a, b, c, d⟩ => ⟨v, a, b, hre_2.mp c, d⟩⟩)
    (fun v _ h q => absurd (by rw [hre_2.mp h]; decide) q) (fun v _ _ q => absurd (q.symm.trans kpB_2) (by decide)) (Or.inl ⟨rfl, rfl⟩)
  rw [h2, addN_eq hS, addS_eq hS, ← h1]
  have e : S.filter (fun _ => !false) = S := List.filter_eq_self.mpr (fun _ _ => rfl)
  rw [e] at h3
  exact ⟨rfl, h3⟩
theorem flat_nodup {fi : Nat → Int32} {b : SG → Bool} : ∀ {xs : List Int32} {ss : List SG}, Pr2 (fun x s => s.2.Nodup ∧ ∀ t ∈ s.2, fi t.1 = x) xs ss → xs.Nodup → ((ss.filter b).flatMap (fun s => s.2)).Nodup ∧ ∀ t ∈ (ss.filter b).flatMap (fun s => s.2), fi t.1 ∈ xs
  | [], [], _, _ => ⟨by simp, fun t ht => by simp at ht⟩
  | x :: xs, s :: ss, h, hn => by
    rw [List.nodup_cons] at hn
    obtain ⟨k1, k2⟩ := flat_nodup (b := b) h.2 hn.2
    by_cases q : b s = true
    · rw [List.filter_cons_of_pos q, List.flatMap_cons]
      refine ⟨List.nodup_append.mpr ⟨h.1.1, k1, fun t ht u hu e => ?_⟩, fun t ht => ?_⟩
      · subst e
        have h3 := k2 t hu
        rw [h.1.2 t ht] at h3
        exact hn.1 h3
      · rcases List.mem_append.mp ht with ht | ht
        · rw [h.1.2 t ht]; exact List.mem_cons_self
        · exact List.mem_cons_of_mem _ (k2 t ht)
    · rw [List.filter_cons_of_neg q]
      exact ⟨k1, fun t ht => List.mem_cons_of_mem _ (k2 t ht)⟩
/-- what lies in the segments that are chosen -/
theorem seg_mem {nv md sg : Nat} {W : Nat → VT} {fe fv fi fr fL : Nat → Int32} {R : Nat → Option VT} {P : List VT} {S : List SG} {wh : Int32} {b : SG → Bool} (G : RG nv md W fe fv fi fr fL sg R P S) (hm : md < 2 ^ 31)
    (hb : ∀ x s, x ∈ tb fr sg → fL x.toNatClampNeg = nI s.1 → s.1 ≤ 5 → (b s = true ↔ kpB wh fL x = false)) (hh : ∀ v, v < nv → (hre wh fL fi v ↔ (¬ fi v < 0 ∧ kpB wh fL (fi v) = false))) :
    ((S.filter b).flatMap (fun s => s.2)).Nodup ∧ ∀ t, t ∈ (S.filter b).flatMap (fun s => s.2) ↔ ∃ v, v < nv ∧ t = W v ∧ hre wh fL fi v ∧ 0 < (W v).2.2 := by
  obtain ⟨kv, kr, kp, ks, ⟨i1, i2, i3⟩⟩ := G
  refine ⟨(flat_nodup (fi := fi) (b := b) (Pr2.mono ks (fun x s _ _ h => ⟨h.2.2.1, fun t ht => ?_⟩)) i1).1, fun t => ?_⟩
  · obtain ⟨v, hv, rfl, e, -⟩ := (h.2.2.2 t).mp ht
    rw [(kv v hv).1]
    exact e
  · rw [List.mem_flatMap]
    constructor
    · rintro ⟨s, hs, ht⟩
      obtain ⟨hs1, hs2⟩ := List.mem_filter.mp hs
      obtain ⟨x, hx, h1, h2, h3⟩ := Pr2.memR ks hs1
      obtain ⟨v, hv, e, e2, h4⟩ := (h3.2 t).mp ht
      obtain ⟨sN, hsN, ex⟩ := i2 x hx
      refine ⟨v, hv, e, (hh v hv).mpr ?_, h4⟩
      rw [e2]
      exact ⟨by rw [ex]; exact nI_pos (by omega), (hb x s hx h1 h2).mp hs2⟩
    · rintro ⟨v, hv, e, h1, h2⟩
      obtain ⟨h3, h4⟩ := (hh v hv).mp h1
      obtain ⟨h5, -⟩ := (i3 v hv).resolve_left h3
      obtain ⟨s, hs, e1, e2, e3⟩ := Pr2.memL ks h5
      exact ⟨s, List.mem_filter.mpr ⟨hs, (hb _ s h5 e1 e2).mpr h4⟩, (e3.2 t).mpr ⟨v, hv, e, rfl, h2⟩⟩
theorem ga_seg {nv md sg dl lf toN lo hi : Nat} {W : Nat → VT} {fe fv fi fr fL fi' fr' fL' : Nat → Int32} {wh : Int32} {R : Nat → Option VT} {P : List VT} {S : List SG} (G : RG nv md W fe fv fi fr fL sg R P S) (hn : nv < 2 ^ 31) (hm : md + 1 < 2 ^ 31) (hdl : dl ≤ 1) (hw : ¬ wh = -2) (ht : toN ≤ 5)
    (hb : ∀ x s, x ∈ tb fr sg → fL x.toNatClampNeg = nI s.1 → s.1 ≤ 5 → (inr lo hi s = true ↔ kpB wh fL x = false)) (hh : ∀ v, v < nv → (hre wh fL fi v ↔ (¬ fi v < 0 ∧ kpB wh fL (fi v) = false)))
    (g : GaV fe fv fi fr fL wh (nI toN) nv md sg fi' fr' fL' dl lf) (hS : (S.filter (fun s => !(inr lo hi s))).length < 512) :
    md + dl = mrgN R lo hi S md ∧ RG nv (md + dl) W fe fv fi' fr' fL' (lf + dl) R P (mrgS R lo hi toN S) := by
  obtain ⟨m1, m2⟩ := seg_mem (b := inr lo hi) G (by omega) hb hh
  obtain ⟨h1, h2, h3⟩ := ga_rel (toN := toN) (sel := inr lo hi) (P' := P) G hn hm hdl g ht (fun x s hx e1 e2 => by
      have h := hb x s hx e1 e2
      cases q : inr lo hi s with
      | true => rw [h.mp q]; rfl
      | false =>
        cases q2 : kpB wh fL x with
        | true => rfl
        | false => rw [h.mpr q2] at q; cases q) m1 m2
    (fun v hv h _ => ((hh v hv).mp h).2) (fun v hv a b => (hh v hv).mpr ⟨a, b⟩) (Or.inr ⟨hw, rfl⟩)
  have e : mgl R lo hi S = (S.filter (fun s => !(inr lo hi s)), gats R [] ((S.filter (inr lo hi)).flatMap (fun s => s.2))) := by
    have := mgl_eq (R := R) (lo := lo) (hi := hi) S [] []
    simpa [mgl] using this
  rw [mrgN, mrgS, e]
  dsimp only
  rw [h2, addN_eq hS, addS_eq hS, ← h1]
  exact ⟨rfl, h3⟩
theorem inr_l {l : Nat} {s : SG} : inr l l s = true ↔ s.1 = l := by
  unfold inr
  rw [decide_eq_true_iff]
  omega
theorem ga_lev {nv md sg dl lf l : Nat} {W : Nat → VT} {fe fv fi fr fL fi' fr' fL' : Nat → Int32} {R : Nat → Option VT} {P : List VT} {S : List SG} (G : RG nv md W fe fv fi fr fL sg R P S) (hn : nv < 2 ^ 31) (hm : md + 1 < 2 ^ 31) (hdl : dl ≤ 1) (hl : l < 5) (g : GaV fe fv fi fr fL (nI l) (nI (l + 1)) nv md sg fi' fr' fL' dl lf) (hS : (S.filter (fun s => !(inr l l s))).length < 512) :
    md + dl = mrgN R l l S md ∧ RG nv (md + dl) W fe fv fi' fr' fL' (lf + dl) R P (mrgS R l l (l + 1) S) := by
  refine ga_seg G hn hm hdl (nI_neg (by omega)).2 (by omega) (fun x s _ e1 e2 => ?_) (fun v hv => ?_) g hS
  · rw [inr_l, ← Bool.not_eq_true, kpB_l (by omega), Decidable.not_not, e1]
    exact ⟨fun q => by rw [q], fun q => (nI_eq (by omega) (by omega)).mp q⟩
  · rw [hre_l (by omega), ← Bool.not_eq_true, kpB_l (by omega), Decidable.not_not]
theorem ga_all {nv md sg dl lf toN : Nat} {W : Nat → VT} {fe fv fi fr fL fi' fr' fL' : Nat → Int32} {R : Nat → Option VT} {P : List VT} {S : List SG} (G : RG nv md W fe fv fi fr fL sg R P S) (hn : nv < 2 ^ 31) (hm : md + 1 < 2 ^ 31) (hdl : dl ≤ 1) (ht : toN ≤ 5) (g : GaV fe fv fi fr fL (-1) (nI toN) nv md sg fi' fr' fL' dl lf) :
    md + dl = mrgN R 0 5 S md ∧ RG nv (md + dl) W fe fv fi' fr' fL' (lf + dl) R P (mrgS R 0 5 toN S) := by
  have h5 : ∀ s ∈ S, inr 0 5 s = true := fun s hs => by
    obtain ⟨x, -, -, h, -⟩ := Pr2.memR G.2.2.2.1 hs
    exact decide_eq_true (by omega)
  refine ga_seg G hn hm hdl (by decide) ht (fun x s _ _ e2 => ⟨fun _ => kpB_1, fun _ => decide_eq_true (by omega)⟩) (fun v hv => ?_) g ?_
  · rw [hre_1]
    exact ⟨fun q => ⟨q, kpB_1⟩, fun q => q.1⟩
  · have e : S.filter (fun s => !(inr 0 5 s)) = [] := List.filter_eq_nil_iff.mpr (fun s hs => by rw [h5 s hs]; decide)
    rw [e]
    decide
/-- levels are counted alike -/
theorem cnt_tb {fL fr : Nat → Int32} {x : Int32} : ∀ n, cntE (lev fL fr) n x = ((tb fr n).filter (fun y => decide (fL y.toNatClampNeg = x))).length := by
  intro n
  induction n with
  | zero => rfl
  | succ n ih =>
    rw [cntE, tb, List.filter_append, List.length_append, ih]
    by_cases q : lev fL fr n = x
    · rw [if_pos q, List.filter_cons_of_pos (p := fun (y : Int32) => decide (fL y.toNatClampNeg = x)) (decide_eq_true (show fL (fr n).toNatClampNeg = x from q))]
      rfl
    · rw [if_neg q, List.filter_cons_of_neg (p := fun (y : Int32) => decide (fL y.toNatClampNeg = x)) (fun z => q (of_decide_eq_true z))]
      rfl
theorem cnt_eq {p : Int32 → SG → Prop} {fL : Nat → Int32} {l : Nat} (hl : l ≤ 5) : ∀ {xs : List Int32} {ss : List SG}, Pr2 p xs ss → (∀ x s, p x s → fL x.toNatClampNeg = nI s.1 ∧ s.1 ≤ 5) → (xs.filter (fun y => decide (fL y.toNatClampNeg = nI l))).length = cntG l ss
  | [], [], _, _ => rfl
  | x :: xs, s :: ss, h, m => by
    obtain ⟨e1, e2⟩ := m x s h.1
    have ih := cnt_eq hl h.2 m
    rw [cntG]
    by_cases q : s.1 = l
    · rw [if_pos q, List.filter_cons_of_pos (p := fun (y : Int32) => decide (fL y.toNatClampNeg = nI l)) (decide_eq_true (by rw [e1, q])), List.length_cons, ih]
      omega
    · rw [if_neg q, List.filter_cons_of_neg (p := fun (y : Int32) => decide (fL y.toNatClampNeg = nI l)) (fun z => q ((nI_eq (by omega) (by omega)).mp (e1.symm.trans (of_decide_eq_true z)))), ih]
      omega
theorem cnt_rel {nv md sg l : Nat} {W : Nat → VT} {fe fv fi fr fL : Nat → Int32} {R : Nat → Option VT} {P : List VT} {S : List SG} (G : RG nv md W fe fv fi fr fL sg R P S) (hl : l ≤ 5) : cntE (lev fL fr) sg (nI l) = cntG l S := by
  rw [cnt_tb]
  exact cnt_eq hl G.2.2.2.1 (fun x s h => ⟨h.1, h.2.1⟩)
theorem fil_cnt (l : Nat) : ∀ S : List SG, (S.filter (fun s => !(inr l l s))).length + cntG l S = S.length := by
  intro S
  induction S with
  | nil => rfl
  | cons s S ih =>
    rw [cntG, List.length_cons]
    by_cases q : s.1 = l
    · rw [if_pos q, List.filter_cons_of_neg (by rw [inr_l.mpr q]; decide)]
      omega
    · have hb : inr l l s = false := by rw [← Bool.not_eq_true, inr_l]; exact q
      rw [if_neg q, List.filter_cons_of_pos (by rw [hb]; rfl), List.length_cons]
      omega
/-- the levels of a flush -/
theorem fls_rel {nv mo : Nat} {W : Nat → VT} {fe fv : Nat → Int32} {R : Nat → Option VT} {P : List VT} (hn : nv < 2 ^ 31) : ∀ (d l : Nat) (X Z : RSt) (S : List SG), l + d ≤ 5 → RG nv X.2.2.2.1 W fe fv X.1 X.2.1 X.2.2.1 X.2.2.2.2 R P S → X.2.2.2.1 + d + 1 < 2 ^ 31 → S.length ≤ 512 → FlS fe fv nv mo d l X Z →
    Z.2.2.2.1 = (fls R mo d l (S, X.2.2.2.1)).2 ∧ RG nv Z.2.2.2.1 W fe fv Z.1 Z.2.1 Z.2.2.1 Z.2.2.2.2 R P (fls R mo d l (S, X.2.2.2.1)).1 ∧ (fls R mo d l (S, X.2.2.2.1)).1.length ≤ 512 := by
  intro d
  induction d with
  | zero =>
    intro l X Z S _ G _ hS h
    obtain rfl : X = Z := h
    exact ⟨rfl, G, hS⟩
  | succ d ih =>
    intro l X Z S hl G hm hS h
    obtain ⟨Y, h1, h2⟩ := h
    have hc := cnt_rel (l := l) G (by omega)
    rw [fls]
    dsimp only
    rcases h1 with ⟨q, dl, lf, hdl, e1, e2, g⟩ | ⟨q, rfl⟩
    · rw [hc] at q
      rw [if_pos q]
      have hf := fil_cnt l S
      obtain ⟨a1, a2⟩ := ga_lev G hn (by omega) hdl (by omega) g (by omega)
      have e3 : Y.2.2.2.1 = mrgN R l l S X.2.2.2.1 := e1.trans a1
      have hl2 : (mrgS R l l (l + 1) S).length ≤ 512 := by
        have b1 : (mgl R l l S).1 = S.filter (fun s => !(inr l l s)) := by
          have := mgl_eq (R := R) (lo := l) (hi := l) S [] []
          rw [mgl, this]
          simp
        have b2 := addS_len (lv := l + 1) (L := (mgl R l l S).2) (S := (mgl R l l S).1)
        rw [mrgS]
        rw [b1] at b2 ⊢
        omega
      rw [← e1, ← e2] at a2
      have := ih (l + 1) Y Z _ (by omega) a2 (by omega) hl2 h2
      rw [e3] at this
      exact this
    · rw [hc] at q
      rw [if_neg q]
      exact ih (l + 1) X Z S (by omega) G (by omega) hS h2
theorem flu_rel {nv mo : Nat} {W : Nat → VT} {fe fv : Nat → Int32} {R : Nat → Option VT} {P : List VT} {X Z : RSt} {S : List SG} (hn : nv < 2 ^ 31) (G : RG nv X.2.2.2.1 W fe fv X.1 X.2.1 X.2.2.1 X.2.2.2.2 R P S) (hm : X.2.2.2.1 + 8 < 2 ^ 31) (hS : S.length < 512) (h : FluS fe fv nv mo X Z) :
    Z.2.2.2.1 = (fluS R mo P S X.2.2.2.1).2 ∧ RG nv Z.2.2.2.1 W fe fv Z.1 Z.2.1 Z.2.2.1 Z.2.2.2.2 R [] (fluS R mo P S X.2.2.2.1).1 ∧ (fluS R mo P S X.2.2.2.1).1.length ≤ 512 := by
  obtain ⟨Y, ⟨dl, lf, hdl, e1, e2, g⟩, h2⟩ := h
  obtain ⟨a1, a2⟩ := ga_pend G hn (by omega) hdl g hS
  rw [← e1, ← e2] at a2
  have e3 : Y.2.2.2.1 = addN (gats R [] P) S X.2.2.2.1 := e1.trans a1
  have := fls_rel (mo := mo) hn 5 0 Y Z _ (by omega) a2 (by omega) (by have := addS_len (lv := 0) (L := gats R [] P) (S := S); omega) h2
  rw [e3] at this
  rw [fluS]
  exact this
/-- two lists of the same versions -/
theorem same_sum : ∀ (L M : List VT), L.Nodup → M.Nodup → (∀ t, t ∈ L ↔ t ∈ M) → L.length = M.length ∧ sumE L = sumE M := by
  intro L
  induction L with
  | nil =>
    intro M _ _ h
    cases M with
    | nil => exact ⟨rfl, rfl⟩
    | cons a M => exact absurd ((h a).mpr List.mem_cons_self) (by simp)
  | cons a L ih =>
    intro M hL hM h
    rw [List.nodup_cons] at hL
    obtain ⟨M1, M2, rfl⟩ := List.append_of_mem ((h a).mp List.mem_cons_self)
    rw [List.nodup_append] at hM
    obtain ⟨m1, m2, m3⟩ := hM
    rw [List.nodup_cons] at m2
    have hN : (M1 ++ M2).Nodup := List.nodup_append.mpr ⟨m1, m2.2, fun x hx y hy => m3 x hx y (List.mem_cons_of_mem _ hy)⟩
    have hm : ∀ t, t ∈ L ↔ t ∈ M1 ++ M2 := fun t => by
      constructor
      · intro ht
        have h1 := (h t).mp (List.mem_cons_of_mem _ ht)
        rcases List.mem_append.mp h1 with q | q
        · exact List.mem_append_left _ q
        · rcases List.mem_cons.mp q with q | q
          · exact absurd (by rw [← q]; exact ht) hL.1
          · exact List.mem_append_right _ q
      · intro ht
        have h1 : t ∈ a :: L := (h t).mpr (by
          rcases List.mem_append.mp ht with q | q
          · exact List.mem_append_left _ q
          · exact List.mem_append_right _ (List.mem_cons_of_mem _ q))
        rcases List.mem_cons.mp h1 with q | q
        · rw [q] at ht
          rcases List.mem_append.mp ht with z | z
          · exact absurd rfl (m3 a z a List.mem_cons_self)
          · exact absurd z m2.1
        · exact q
    obtain ⟨e1, e2⟩ := ih (M1 ++ M2) hL.2 hN hm
    rw [sumE_app] at e2
    rw [sumE_app]
    simp only [List.length_append, List.length_cons, sumE] at e1 e2 ⊢
    omega
/-- the versions that lie at x, in their order -/
def can (W : Nat → VT) (fi : Nat → Int32) (x : Int32) : Nat → List VT
  | 0 => []
  | n + 1 => if fi n = x ∧ 0 < (W n).2.2 then can W fi x n ++ [W n] else can W fi x n
theorem can_mem {W : Nat → VT} {fi : Nat → Int32} {x : Int32} : ∀ n t, t ∈ can W fi x n ↔ ∃ v, v < n ∧ t = W v ∧ fi v = x ∧ 0 < (W v).2.2 := by
  intro n
  induction n with
  | zero => intro t; exact ⟨fun z => by simp [can] at z, fun ⟨v, hv, _⟩ => absurd hv (Nat.not_lt_zero _)⟩
  | succ n ih =>
    intro t
    rw [can]
    by_cases q : fi n = x ∧ 0 < (W n).2.2
    · rw [if_pos q, List.mem_append, ih t, List.mem_singleton]
      constructor
      · rintro (⟨v, hv, h⟩ | rfl)
        · exact ⟨v, by omega, h⟩
        · exact ⟨n, by omega, rfl, q⟩
      · rintro ⟨v, hv, h1, h2⟩
        by_cases e : v = n
        · subst e; exact Or.inr h1
        · exact Or.inl ⟨v, by omega, h1, h2⟩
    · rw [if_neg q, ih t]
      constructor
      · rintro ⟨v, hv, h⟩
        exact ⟨v, by omega, h⟩
      · rintro ⟨v, hv, h1, h2⟩
        by_cases e : v = n
        · subst e; exact absurd h2 q
        · exact ⟨v, by omega, h1, h2⟩
theorem can_nodup {nv : Nat} {fe : Nat → Int32} {W : Nat → VT} {fi : Nat → Int32} {x : Int32} (k : RgV nv fe W) : ∀ n, n ≤ nv → (can W fi x n).Nodup := by
  intro n
  induction n with
  | zero => intro _; exact List.nodup_nil
  | succ n ih =>
    intro h
    rw [can]
    split
    · refine List.nodup_append.mpr ⟨ih (by omega), List.nodup_cons.mpr ⟨by simp, List.nodup_nil⟩, fun t ht u hu e => ?_⟩
      rw [List.mem_singleton.mp hu] at e
      obtain ⟨v, hv, e2, -⟩ := (can_mem n t).mp ht
      have := W_inj k (v := v) (u := n) (by omega) (by omega) (e2.symm.trans e)
      omega
    · exact ih (by omega)
theorem rgl_sum {nv : Nat} {fe : Nat → Int32} {W : Nat → VT} {fi : Nat → Int32} {x : Int32} {L : List VT} (k : RgV nv fe W) (h : RgL nv W fi x L) : L.length = (can W fi x nv).length ∧ sumE L = sumE (can W fi x nv) := same_sum _ _ h.1 (can_nodup k nv (Nat.le_refl _)) (fun t => by rw [h.2, can_mem])
theorem pnd_can {nv : Nat} {fe : Nat → Int32} {W : Nat → VT} {fi : Nat → Int32} (k : RgV nv fe W) : ∀ n, n ≤ nv → pnd fi fe n = nI (sumE (can W fi (-2) n)) := by
  intro n
  induction n with
  | zero => intro _; rfl
  | succ n ih =>
    intro h
    have e := (k n (by omega)).2.2.2.2
    rw [pnd, can]
    by_cases q : fi n = -2
    · rw [if_pos q, ih (by omega), e, nI_add]
      by_cases q2 : 0 < (W n).2.2
      · rw [if_pos ⟨q, q2⟩, sumE_app]
        simp [sumE]
      · rw [if_neg (fun z => q2 z.2)]
        congr 1
        omega
    · rw [if_neg q, if_neg (fun z => q z.1), ih (by omega)]
theorem pnd_rel {nv : Nat} {fe : Nat → Int32} {W : Nat → VT} {fi : Nat → Int32} {P : List VT} (k : RgV nv fe W) (h : RgL nv W fi (-2) P) : pnd fi fe nv = nI (sumE P) := by rw [pnd_can k nv (Nat.le_refl _), (rgl_sum k h).2]
theorem tb_len (f : Nat → Int32) : ∀ n, (tb f n).length = n := by
  intro n
  induction n with
  | zero => rfl
  | succ n ih => rw [tb, List.length_append, ih]; rfl
theorem tb_at (f : Nat → Int32) : ∀ n j, j < n → (tb f n)[j]? = some (f j) := by
  intro n
  induction n with
  | zero => intro j hj; exact absurd hj (Nat.not_lt_zero _)
  | succ n ih =>
    intro j hj
    rw [tb]
    by_cases e : j = n
    · rw [List.getElem?_append_right (by rw [tb_len]; omega), tb_len, e]
      simp
    · rw [List.getElem?_append_left (by rw [tb_len]; omega)]
      exact ih j (by omega)
theorem hiE_rel {nv md sg : Nat} {W : Nat → VT} {fe fv fi fr fL : Nat → Int32} {R : Nat → Option VT} {P : List VT} {S : List SG} (G : RG nv md W fe fv fi fr fL sg R P S) : ∀ n, n ≤ sg → hiE fL fr n = nI (hiL (S.take n) 0) ∧ hiL (S.take n) 0 ≤ 5 := by
  have hl : S.length = sg := by rw [← Pr2.len G.2.2.2.1, tb_len]
  intro n
  induction n with
  | zero => intro _; exact ⟨rfl, Nat.zero_le _⟩
  | succ n ih =>
    intro h
    obtain ⟨e, h5⟩ := ih (by omega)
    obtain ⟨s, hs⟩ : ∃ s, S[n]? = some s := ⟨_, List.getElem?_eq_getElem (by omega)⟩
    obtain ⟨h1, h2, -⟩ := Pr2.at G.2.2.2.1 (tb_at fr sg n (by omega)) hs
    have h1' : lev fL fr n = nI s.1 := h1
    rw [hiE, hiL_take hs, e, h1']
    refine ⟨?_, Nat.max_le.mpr ⟨h5, h2⟩⟩
    by_cases q : hiL (S.take n) 0 < s.1
    · rw [if_pos (nI_lt q (by omega)), Nat.max_eq_right (by omega)]
    · rw [if_neg (nI_nlt (by omega) (by omega)), Nat.max_eq_left (by omega)]
/-- a new version -/
theorem put_rel {nv md sg r y : Nat} {W : Nat → VT} {fe fv fi fr fL : Nat → Int32} {R : Nat → Option VT} {P : List VT} {S : List SG} (G : RG nv md W fe fv fi fr fL sg R P S) (hn : nv < 999) (hm : md < 2 ^ 31) (hr : r < 24) (hy : y < 1000) (hP : P.length < 201) :
    RG (nv + 1) md (fun v => if v = nv then (nv, r + 1, y) else W v) (upd fe nv (nI y)) (upd fv r (nI nv)) (upd fi nv (-2)) fr fL sg (va_up R (r + 1) (some (nv, r + 1, y))) (putP P (nv, r + 1, y)) S := by
  obtain ⟨kv, kr, kp, ks, ⟨i1, i2, i3⟩⟩ := G
  have wo : ∀ v, v < nv → (if v = nv then ((nv, r + 1, y) : VT) else W v) = W v := fun v hv => if_neg (by omega)
  have wn : (if nv = nv then ((nv, r + 1, y) : VT) else W nv) = (nv, r + 1, y) := if_pos rfl
  refine ⟨fun v hv => ?_, fun j hj => ?_, ?_, ?_, i1, i2, fun v hv => ?_⟩
  · dsimp only
    by_cases e : v = nv
    · subst e
      rw [if_pos rfl, pk_us]
      exact ⟨rfl, by dsimp only; omega, by dsimp only; omega, hy, rfl⟩
    · rw [if_neg e, pk_un e]
      exact kv v (by omega)
  · dsimp only
    by_cases e : j = r
    · subst e
      exact Or.inr ⟨nv, by omega, pk_us, by rw [va_up_self, if_pos rfl], by rw [if_pos rfl]⟩
    · rw [pk_un e, va_up_ne _ _ (by omega)]
      rcases kr j hj with q | ⟨v, hv, e1, e2, e3⟩
      · exact Or.inl q
      · exact Or.inr ⟨v, by omega, e1, by rw [if_neg (by omega)]; exact e2, by rw [if_neg (by omega)]; exact e3⟩
  · have mem : ∀ t, (∃ v, v < nv + 1 ∧ t = (if v = nv then ((nv, r + 1, y) : VT) else W v) ∧ upd fi nv (-2) v = -2 ∧ 0 < (if v = nv then ((nv, r + 1, y) : VT) else W v).2.2) ↔ (t ∈ P ∨ (t = (nv, r + 1, y) ∧ 0 < y)) := fun t => by
      constructor
      · rintro ⟨v, hv, h1, h2, h3⟩
        by_cases e : v = nv
        · subst e
          rw [if_pos rfl] at h1 h3
          exact Or.inr ⟨h1, h3⟩
        · rw [if_neg e] at h1 h3
          rw [pk_un e] at h2
          exact Or.inl ((kp.2 t).mpr ⟨v, by omega, h1, h2, h3⟩)
      · rintro (h | ⟨h1, h2⟩)
        · obtain ⟨v, hv, h1, h2, h3⟩ := (kp.2 t).mp h
          exact ⟨v, by omega, by rw [if_neg (by omega)]; exact h1, by rw [pk_un (by omega)]; exact h2, by rw [if_neg (by omega)]; exact h3⟩
        · exact ⟨nv, by omega, by rw [if_pos rfl]; exact h1, pk_us, by rw [if_pos rfl]; exact h2⟩
    by_cases q : 0 < y
    · rw [putP, if_pos ⟨q, hP⟩]
      refine ⟨List.nodup_append.mpr ⟨kp.1, List.nodup_cons.mpr ⟨by simp, List.nodup_nil⟩, fun t ht u hu e => ?_⟩, fun t => ?_⟩
      · rw [List.mem_singleton.mp hu] at e
        obtain ⟨v, hv, h1, -⟩ := (kp.2 t).mp ht
        have h2 := (kv v hv).1
        rw [← h1, e] at h2
        dsimp only at h2
        omega
      · rw [mem, List.mem_append, List.mem_singleton]
        exact ⟨fun z => z.imp id (fun h => ⟨h, q⟩), fun z => z.imp id (fun h => h.1)⟩
    · rw [putP, if_neg (fun z => q z.1)]
      refine ⟨kp.1, fun t => ?_⟩
      rw [mem]
      exact ⟨Or.inl, fun z => z.elim id (fun h => absurd h.2 q)⟩
  · refine Pr2.mono ks (fun x s hx _ h => ⟨h.1, h.2.1, h.2.2.1, fun t => ?_⟩)
    rw [h.2.2.2 t]
    obtain ⟨sN, hsN, ex⟩ := i2 x hx
    constructor
    · rintro ⟨v, hv, h1, h2, h3⟩
      exact ⟨v, by omega, by dsimp only; rw [if_neg (by omega)]; exact h1, by rw [pk_un (by omega)]; exact h2, by dsimp only; rw [if_neg (by omega)]; exact h3⟩
    · rintro ⟨v, hv, h1, h2, h3⟩
      by_cases e : v = nv
      · subst e
        rw [pk_us, ex] at h2
        exact absurd h2.symm (nI_neg (by omega)).2
      · dsimp only at h1 h3
        rw [if_neg e] at h1 h3
        rw [pk_un e] at h2
        exact ⟨v, by omega, h1, h2, h3⟩
  · by_cases e : v = nv
    · subst e
      rw [pk_us]
      exact Or.inl (by decide)
    · dsimp only
      rw [pk_un e, if_neg e]
      exact i3 v (by omega)
/-- a row is gone -/
theorem del_rel {nv md sg r : Nat} {W : Nat → VT} {fe fv fi fr fL : Nat → Int32} {R : Nat → Option VT} {P : List VT} {S : List SG} (G : RG nv md W fe fv fi fr fL sg R P S) : RG nv md W fe (upd fv r (-1)) fi fr fL sg (va_up R (r + 1) none) P S := by
  refine ⟨G.1, fun j hj => ?_, G.2.2⟩
  by_cases e : j = r
  · subst e
    exact Or.inl ⟨by rw [pk_us]; decide, va_up_self _ _ _⟩
  · rw [pk_un e, va_up_ne _ _ (by omega)]
    exact G.2.1 j hj
/-- what is not looked at may be another -/
theorem RG.congr {nv md sg : Nat} {W : Nat → VT} {fe fv fi fr fL fv2 fi2 fr2 : Nat → Int32} {R : Nat → Option VT} {P : List VT} {S : List SG} (G : RG nv md W fe fv fi fr fL sg R P S) (hv : ∀ r, r < 24 → fv2 r = fv r) (hi : ∀ v, v < nv → fi2 v = fi v) (hr : ∀ k, k < sg → fr2 k = fr k) : RG nv md W fe fv2 fi2 fr2 fL sg R P S := by
  obtain ⟨kv, kr, kp, ks, ⟨i1, i2, i3⟩⟩ := G
  have rl : ∀ x L, RgL nv W fi x L → RgL nv W fi2 x L := fun x L h => ⟨h.1, fun t => by
    rw [h.2 t]
    exact ⟨fun ⟨v, a, b, c, d⟩ => ⟨v, a, b, by rw [hi v a]; exact c, d⟩, fun ⟨v, a, b, c, d⟩ => ⟨v, a, b, by rw [← hi v a]; exact c, d⟩⟩⟩
  have e : tb fr2 sg = tb fr sg := tb_congr sg hr
  refine ⟨kv, fun r h => by rw [hv r h]; exact kr r h, rl _ _ kp, ?_, ?_⟩
  · show Pr2 _ (tb fr2 sg) S
    rw [e]
    exact Pr2.mono ks (fun x s _ _ h => ⟨h.1, h.2.1, rl _ _ h.2.2⟩)
  · rw [e]
    exact ⟨i1, i2, fun v h => by rw [hi v h]; exact i3 v h⟩
/-- the saved state while others come -/
theorem RG.later {nv md sg md2 : Nat} {W : Nat → VT} {fe fv fi fr fL fL2 : Nat → Int32} {R : Nat → Option VT} {P : List VT} {S : List SG} (G : RG nv md W fe fv fi fr fL sg R P S) (hm : md ≤ md2) (hmb : md < 2 ^ 31) (hL : ∀ s, s < md → fL2 s = fL s) : RG nv md2 W fe fv fi fr fL2 sg R P S := by
  obtain ⟨kv, kr, kp, ks, ⟨i1, i2, i3⟩⟩ := G
  refine ⟨kv, kr, kp, Pr2.mono ks (fun x s hx _ h => ⟨?_, h.2⟩), i1, fun x hx => ?_, i3⟩
  · obtain ⟨sN, hsN, ex⟩ := i2 x hx
    rw [← h.1, ex, nI_clamp (by omega)]
    exact hL sN hsN
  · obtain ⟨sN, hsN, ex⟩ := i2 x hx
    exact ⟨sN, by omega, ex⟩
theorem RG.oldput {nv md sg r y : Nat} {W : Nat → VT} {fe fv fi fr fL : Nat → Int32} {R : Nat → Option VT} {P : List VT} {S : List SG} (G : RG nv md W fe fv fi fr fL sg R P S) (hn : nv < 999) (hm : md < 2 ^ 31) (hr : r < 24) (hy : y < 1000) (hi : fi nv = -1) :
    RG (nv + 1) md (fun v => if v = nv then (nv, r + 1, y) else W v) (upd fe nv (nI y)) fv fi fr fL sg R P S := by
  obtain ⟨kv, kr, kp, ks, ⟨i1, i2, i3⟩⟩ := G
  have rl : ∀ x L, ¬ x = -1 → RgL nv W fi x L → RgL (nv + 1) (fun v => if v = nv then (nv, r + 1, y) else W v) fi x L := fun x L hx h => ⟨h.1, fun t => by
    rw [h.2 t]
    dsimp only
    constructor
    · rintro ⟨v, a, b, c, d⟩
      exact ⟨v, by omega, by rw [if_neg (by omega)]; exact b, c, by rw [if_neg (by omega)]; exact d⟩
    · rintro ⟨v, a, b, c, d⟩
      by_cases e : v = nv
      · subst e
        exact absurd (c.symm.trans hi) hx
      · rw [if_neg e] at b d
        exact ⟨v, by omega, b, c, d⟩⟩
  refine ⟨fun v hv => ?_, fun j hj => ?_, rl _ _ (by decide) kp, Pr2.mono ks (fun x s hx _ h => ⟨h.1, h.2.1, rl _ _ ?_ h.2.2⟩), i1, i2, fun v hv => ?_⟩
  · dsimp only
    by_cases e : v = nv
    · subst e
      rw [if_pos rfl, pk_us]
      exact ⟨rfl, by dsimp only; omega, by dsimp only; omega, hy, rfl⟩
    · rw [if_neg e, pk_un e]
      exact kv v (by omega)
  · dsimp only
    rcases kr j hj with q | ⟨v, hv, e1, e2, e3⟩
    · exact Or.inl q
    · exact Or.inr ⟨v, by omega, e1, by rw [if_neg (by omega)]; exact e2, by rw [if_neg (by omega)]; exact e3⟩
  · obtain ⟨sN, hsN, ex⟩ := i2 x hx
    rw [ex]
    exact (nI_neg (by omega)).1
  · by_cases e : v = nv
    · subst e
      rw [hi]
      exact Or.inl (by decide)
    · dsimp only
      rw [if_neg e]
      exact i3 v (by omega)
/-- levels that were given stay -/
theorem ga_old {fe fv : Nat → Int32} {wh to : Int32} {vs : Nat} {X Y : RSt} (h : GaS fe fv wh to vs X Y) : X.2.2.2.1 ≤ Y.2.2.2.1 ∧ ∀ s, s < X.2.2.2.1 → Y.2.2.1 s = X.2.2.1 s := by
  obtain ⟨dl, lf, hdl, e1, e2, -, -, g⟩ := h
  refine ⟨by omega, fun s hs => ?_⟩
  rw [g]
  split
  · exact pk_un (by omega)
  · rfl
theorem fl_old {fe fv : Nat → Int32} {vs mo : Nat} : ∀ (d l : Nat) (X Z : RSt), FlS fe fv vs mo d l X Z → X.2.2.2.1 ≤ Z.2.2.2.1 ∧ ∀ s, s < X.2.2.2.1 → Z.2.2.1 s = X.2.2.1 s := by
  intro d
  induction d with
  | zero =>
    intro l X Z h
    obtain rfl : X = Z := h
    exact ⟨Nat.le_refl _, fun _ _ => rfl⟩
  | succ d ih =>
    intro l X Z h
    obtain ⟨Y, h1, h2⟩ := h
    obtain ⟨a, b⟩ := ih _ _ _ h2
    rcases h1 with ⟨-, g⟩ | ⟨-, rfl⟩
    · obtain ⟨c, e⟩ := ga_old g
      exact ⟨by omega, fun s hs => (b s (by omega)).trans (e s hs)⟩
    · exact ⟨a, b⟩
theorem flu_old {fe fv : Nat → Int32} {vs mo : Nat} {X Z : RSt} (h : FluS fe fv vs mo X Z) : X.2.2.2.1 ≤ Z.2.2.2.1 ∧ ∀ s, s < X.2.2.2.1 → Z.2.2.1 s = X.2.2.1 s := by
  obtain ⟨Y, g, h2⟩ := h
  obtain ⟨a, b⟩ := fl_old _ _ _ _ h2
  obtain ⟨c, e⟩ := ga_old g
  exact ⟨by omega, fun s hs => (b s (by omega)).trans (e s hs)⟩
