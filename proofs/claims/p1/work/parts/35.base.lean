/-! FRAMES: what a call leaves as it was; the heap's words become variables -/
theorem xw_neC {h : xw_A} {a b : Nat} {c d : xw_C} (ha : h a = some c) (hb : h b = some d) (n : c ≠ d) : a ≠ b := fun z => n (by rw [z, hb] at ha; exact (Option.some.inj ha).symm)
theorem xw_upN {h : xw_A} {a q : Nat} {c : xw_C} (z : xw_up h a c q = none) : q ≠ a ∧ h q = none := by
  by_cases e : q = a
  · subst e
    rw [xw_up_s] at z
    cases z
  · rw [xw_up_n _ _ e] at z
    exact ⟨e, z⟩
theorem xw_up_up {h : xw_A} {a : Nat} {c d : xw_C} : xw_up (xw_up h a c) a d = xw_up h a d := by
  funext q
  by_cases e : q = a
  · rw [e, xw_up_s, xw_up_s]
  · rw [xw_up_n _ _ e, xw_up_n _ _ e, xw_up_n _ _ e]
/-- the cells that h has are in h' as they were, but for those of A -/
def FrO (A : List Nat) (h h' : xw_A) : Prop := ∀ (q : Nat) (e : xw_C), q ∉ A → h q = some e → h' q = some e
theorem FrO.rf {A : List Nat} {h : xw_A} : FrO A h h := fun _ _ _ e => e
theorem FrO.up {A : List Nat} {h h1 h2 : xw_A} (r : FrO A h h1) {a : Nat} (ha : a ∈ A) (f : ∀ q, q ≠ a → h2 q = h1 q) : FrO A h h2 :=
  fun q e hq he => (f q (fun z => hq (by rw [z]; exact ha))).trans (r q e hq he)
theorem FrO.new {A : List Nat} {h h1 h2 : xw_A} (r : FrO A h h1) {a : Nat} (hz : h1 a = none) (hn : a ∉ A) (f : ∀ q, q ≠ a → h2 q = h1 q) : FrO A h h2 :=
  fun q e hq he => (f q (fun z => by have h9 := r q e hq he; rw [z, hz] at h9; cases h9)).trans (r q e hq he)
theorem FrO.trans {A : List Nat} {h h1 h2 : xw_A} (r : FrO A h h1) (r2 : FrO A h1 h2) : FrO A h h2 := fun q e hq he => r2 q e hq (r q e hq he)
theorem FrO.mono {A B : List Nat} {h h' : xw_A} (r : FrO A h h') (m : ∀ a ∈ A, a ∈ B) : FrO B h h' := fun q e hq he => r q e (fun z => hq (m q z)) he
theorem SL.fr {as B : List Nat} {cs : List xw_C} {h h' : xw_A} (K : SL as cs h) (r : FrO B h h') (hd : ∀ a ∈ as, a ∉ B) : SL as cs h' :=
  ⟨K.1, K.2.1, fun i a e ha he => r a e (hd a (List.mem_of_getElem? ha)) (K.2.2 i a e ha he)⟩
section Ups
variable {G : xw_G} {M : xw_M} {F L bc bs : Nat} {pr : Option Value → xw_A → Prop} {px : String → xw_A → Prop} {pc : Nat} {lv : List (Option Value)} {st : List Value} {h : xw_A} {a b c d : Nat} {ea eb ec ed : xw_C}
theorem x_u1 (k : ∀ h1 : xw_A, h1 a = some ea → (∀ q, q ≠ a → h1 q = h q) → xw G M F L bc bs pr px pc lv st h1) : xw G M F L bc bs pr px pc lv st (xw_up h a ea) :=
  k _ (xw_up_s _ _ _) (fun _ hq => xw_up_n _ _ hq)
theorem x_u2 (k : ∀ h1 : xw_A, h1 a = some ea → (∀ q, q ≠ a → h1 q = h q) → ∀ h2 : xw_A, h2 b = some eb → (∀ q, q ≠ b → h2 q = h1 q) → xw G M F L bc bs pr px pc lv st h2) : xw G M F L bc bs pr px pc lv st (xw_up (xw_up h a ea) b eb) :=
  k _ (xw_up_s _ _ _) (fun _ hq => xw_up_n _ _ hq) _ (xw_up_s _ _ _) (fun _ hq => xw_up_n _ _ hq)
theorem x_u3 (k : ∀ h1 : xw_A, h1 a = some ea → (∀ q, q ≠ a → h1 q = h q) → ∀ h2 : xw_A, h2 b = some eb → (∀ q, q ≠ b → h2 q = h1 q) → ∀ h3 : xw_A, h3 c = some ec → (∀ q, q ≠ c → h3 q = h2 q) → xw G M F L bc bs pr px pc lv st h3) : xw G M F L bc bs pr px pc lv st (xw_up (xw_up (xw_up h a ea) b eb) c ec) :=
  k _ (xw_up_s _ _ _) (fun _ hq => xw_up_n _ _ hq) _ (xw_up_s _ _ _) (fun _ hq => xw_up_n _ _ hq) _ (xw_up_s _ _ _) (fun _ hq => xw_up_n _ _ hq)
theorem x_u4 (k : ∀ h1 : xw_A, h1 a = some ea → (∀ q, q ≠ a → h1 q = h q) → ∀ h2 : xw_A, h2 b = some eb → (∀ q, q ≠ b → h2 q = h1 q) → ∀ h3 : xw_A, h3 c = some ec → (∀ q, q ≠ c → h3 q = h2 q) → ∀ h4 : xw_A, h4 d = some ed → (∀ q, q ≠ d → h4 q = h3 q) → xw G M F L bc bs pr px pc lv st h4) : xw G M F L bc bs pr px pc lv st (xw_up (xw_up (xw_up (xw_up h a ea) b eb) c ec) d ed) :=
  k _ (xw_up_s _ _ _) (fun _ hq => xw_up_n _ _ hq) _ (xw_up_s _ _ _) (fun _ hq => xw_up_n _ _ hq) _ (xw_up_s _ _ _) (fun _ hq => xw_up_n _ _ hq) _ (xw_up_s _ _ _) (fun _ hq => xw_up_n _ _ hq)
end Ups
/-- the reference's object afterwards: its err -/
def MP (A : List Nat) (m : Nat) (ec : Int32) (h h' : xw_A) : Prop := (∃ fs : List Value, fs.length = 62 ∧ h' m = some (.inr (11, fs)) ∧ fs[(0 : Nat)]? = some (.int ec)) ∧ FrO A h h'
section Tab
variable {G : xw_G} {M : xw_M} {F L bc bs : Nat} {pr : Option Value → xw_A → Prop} {px : String → xw_A → Prop} {pc : Nat} {lv : List (Option Value)} {rest : List Value} {h : xw_A}
theorem x_tableAt {dflt lo hi off : Int} {offs : Array Int} {len tgt : Nat} {x : Int32} (d : decode M.2.1 pc = .ok (.tableswitch dflt lo hi offs, len)) (h1 : ¬ x.toInt < lo) (h2 : ¬ hi < x.toInt) (ho : offs[(x.toInt - lo).toNat]? = some off) (ht : (pc : Int) + off = (tgt : Int)) (hd : ∃ dt : Nat, (pc : Int) + dflt = (dt : Int))
    (k : xw G M F L bc bs pr px tgt lv rest h) : xw G M F L bc bs pr px pc lv (.int x :: rest) h := by
  obtain ⟨dt, hd⟩ := hd
  refine x_table d (fun off' tgt' _ _ g1 g2 => ?_) (fun _ _ => ⟨off, tgt, ho, ht⟩) hd (fun z => (z.elim h1 h2).elim)
  rw [ho] at g1
  cases g1
  have e : tgt' = tgt := by omega
  rw [e]
  exact k
theorem x_tableOut {dflt lo hi : Int} {offs : Array Int} {len dt : Nat} {x : Int32} (d : decode M.2.1 pc = .ok (.tableswitch dflt lo hi offs, len)) (hx : x.toInt < lo ∨ hi < x.toInt) (ht : (pc : Int) + dflt = (dt : Int))
    (k : xw G M F L bc bs pr px dt lv rest h) : xw G M F L bc bs pr px pc lv (.int x :: rest) h :=
  x_table d (fun _ _ h1 h2 _ _ => (hx.elim h1 h2).elim) (fun h1 h2 => (hx.elim h1 h2).elim) ht (fun _ => k)
end Tab
/-! LETTERS: the octets of a long, and how many of them stand before the first 0 -/
def oct (w : Int64) (i : Nat) : Int32 := ((w.toUInt64 >>> ((8 * nI i).toInt64.toUInt64 &&& Int64.toUInt64 63)).toInt64).toInt32 &&& 255
theorem octM (v : Int64) : (v &&& 255).toInt32 = v.toInt32 &&& 255 := by
  rw [Int64.toInt32_and]
  rfl
def ltr (o : Nat → Int32) : Nat → Nat → Option Nat
  | 0, i => some i
  | d + 1, i => if o i = 0 then some i else if o i < 32 ∨ 126 < o i then none else ltr o d (i + 1)
theorem ltr_0 {o : Nat → Int32} {d i : Nat} (h : o i = 0) : ltr o (d + 1) i = some i := by simp [ltr, h]
theorem ltr_n {o : Nat → Int32} {d i : Nat} (h0 : ¬ o i = 0) (h : o i < 32 ∨ 126 < o i) : ltr o (d + 1) i = none := by simp [ltr, h0, h]
theorem ltr_s {o : Nat → Int32} {d i : Nat} (h0 : ¬ o i = 0) (h : ¬ (o i < 32 ∨ 126 < o i)) : ltr o (d + 1) i = ltr o d (i + 1) := by simp [ltr, h0, h]
theorem ltr_le {o : Nat → Int32} : ∀ (d i n : Nat), ltr o d i = some n → n ≤ i + d
  | 0, i, n, h => by simp [ltr] at h; omega
  | d + 1, i, n, h => by
    by_cases h0 : o i = 0
    · rw [ltr_0 h0] at h
      cases h
      omega
    · by_cases h1 : o i < 32 ∨ 126 < o i
      · rw [ltr_n h0 h1] at h
        cases h
      · rw [ltr_s h0 h1] at h
        have h9 := ltr_le d (i + 1) n h
        omega
