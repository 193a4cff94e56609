/-! what holds of the machine's constants in every state of the run -/
abbrev xw_g (G : xw_G) : Nat → Prop := fun q => G.2.2.1 ≤ q
def xw_nest : List (String × Nat × MethodName × String) := [("PhraseShelf", 25, ⟨"PhraseShelf$Store", "<init>", "()V"⟩, "PhraseShelf"), ("PhraseShelf$Question", 34, ⟨"PhraseShelf$Parts", "<init>", "()V"⟩, "PhraseShelf"), ("PhraseShelf$Question", 39, ⟨"PhraseShelf$Phrase", "<init>", "()V"⟩, "PhraseShelf"), ("PhraseShelf$Question", 40, ⟨"PhraseShelf$Node", "<init>", "()V"⟩, "PhraseShelf"), ("PhraseShelf", 42, ⟨"PhraseShelf$Standing", "<init>", "()V"⟩, "PhraseShelf"), ("PhraseShelf", 49, ⟨"PhraseShelf$Answers", "<init>", "()V"⟩, "PhraseShelf"), ("PhraseShelf$Tokens", 17, ⟨"PhraseShelf", "isWord", "(C)Z"⟩, "PhraseShelf"), ("PhraseShelf$Parts", 37, ⟨"PhraseShelf", "isWord", "(C)Z"⟩, "PhraseShelf"), ("PhraseShelf$Parts", 77, ⟨"PhraseShelf", "isColumn", "(I)Z"⟩, "PhraseShelf")]
def xw_over : List String := ["PhraseShelf$Tokens", "PhraseShelf$Version", "PhraseShelf$Segment", "PhraseShelf$Phrase", "PhraseShelf$Node"]
def xw_strs : List (String × Nat × String × Nat) := [("PhraseShelf", 73, "no letter, or an octet that is none", 0), ("PhraseShelf", 83, "the draft is full", 1), ("PhraseShelf", 94, "no such column", 2), ("PhraseShelf", 96, "the draft is too long for a text", 3), ("PhraseShelf", 109, "all rows are taken", 4), ("PhraseShelf", 121, "no such row", 5), ("PhraseShelf", 138, "a transaction is open", 6), ("PhraseShelf", 145, "no transaction is open", 7), ("PhraseShelf", 159, "most or limit is out of range", 8), ("PhraseShelf", 161, "column or weight is out of range", 9), ("PhraseShelf$Parts", 58, "OR", 10), ("PhraseShelf$Parts", 64, "AND", 11), ("PhraseShelf$Parts", 66, "NOT", 12), ("PhraseShelf$Parts", 68, "NEAR", 13), ("PhraseShelf$Parts", 51, "()-^,+*:", 14), ("PhraseShelf", 168, "the draft is no question", 15), ("PhraseShelf", 198, "no such answer", 16), ("PhraseShelf", 221, "nothing of a row has that number", 17), ("PhraseShelf", 223, "no such segment", 18), ("PhraseShelf", 239, "nothing of a segment has that number", 19), ("PhraseShelf", 250, "nothing counted has that number", 20)]
def xw_F (G : xw_G) (U : State) (H : Heap) : Prop :=
  G.2.2.1 ≤ H.size ∧ G.1.stackTraces = false ∧ (∀ C ∈ xw_over, va_AO C U) ∧ (∀ q ∈ xw_nest, va_Nw (.methodLinkNest q.1 q.2.1 q.2.2.1 q.2.2.2) U) ∧ (∀ q ∈ xw_strs, vk_R q.1 q.2.1 q.2.2.1 (G.2.2.2.1 q.2.2.2) U) ∧
    va_Zq "java/lang/Throwable" "UNASSIGNED_STACK" "[Ljava/lang/StackTraceElement;" (xw_g G) U H ∧ va_Zq "java/lang/Throwable" "SUPPRESSED_SENTINEL" "Ljava/util/List;" (xw_g G) U H
theorem xw_F.S0 {G : xw_G} {U : State} {H : Heap} (h : xw_F G U H) : ∀ q, H.size ≤ q → xw_g G q := fun q hq => Nat.le_trans h.1 hq
theorem xw_F.moved {G : xw_G} {u U : State} {H H1 : Heap} (hW : u.WarmedH U.vm) (hq : ∀ q : Nat, q < H.size → q < G.2.2.1 → H1[q]? = H[q]?) (h : xw_F G u H) : xw_F G U H1 := by
  obtain ⟨h1, h2, h3, h4, h5, h6, h7⟩ := h
  have hk : ∀ a : Nat, a < H.size → ¬ xw_g G a → H1[a]? = H[a]? := fun a ha hn => hq a ha (Nat.not_le.mp hn)
  refine ⟨?_, h2, fun C hC => va_AO.moved hW.alike (h3 C hC), fun q hq => va_Nw.warmM hW (h4 q hq), fun q hq => vk_R.warm hW (h5 q hq), va_Zq.moved hW.alike (h6.kept hk), va_Zq.moved hW.alike (h7.kept hk)⟩
  cases hz : G.2.2.1 with
  | zero => exact Nat.zero_le _
  | succ n =>
    have hn : n < H.size := by omega
    have h9 := hq n hn (by omega)
    rw [Array.getElem?_eq_getElem hn] at h9
    exact (Array.getElem?_eq_some_iff.mp h9).1
