/-! what holds of the machine in every state of the run: it comes from the law's entry -/
abbrev xw_g (G : xw_G) : Nat → Prop := fun q => G.2.2.1.heap.size ≤ q
/-- the tables' words hold at the law's entry; the heap that was there then is as it was; the tables are warmed at most -/
def xw_F (G : xw_G) (U : State) (H : Heap) : Prop :=
  ((∀ w ∈ lw_tbl, w.before G.2.2.2 G.2.2.1 = true) ∧ (Jvm.Cond.and given_1 narrow_1).before G.2.2.2 G.2.2.1 = true ∧ G.1.stackTraces = false) ∧ G.2.2.1.heap.size ≤ H.size ∧ (∀ q : Nat, q < G.2.2.1.heap.size → H[q]? = G.2.2.1.heap[q]?) ∧ G.2.2.1.WarmedH U.vm
theorem xw_F.S0 {G : xw_G} {U : State} {H : Heap} (h : xw_F G U H) : ∀ q, H.size ≤ q → xw_g G q := fun q hq => Nat.le_trans h.2.1 hq
theorem xw_F.moved {G : xw_G} {u U : State} {H H1 : Heap} (hW : u.WarmedH U.vm) (hq : ∀ q : Nat, q < H.size → q < G.2.2.1.heap.size → H1[q]? = H[q]?) (h : xw_F G u H) : xw_F G U H1 := by
  obtain ⟨h1, h2, h3, h4⟩ := h
  refine ⟨h1, ?_, fun q hl => (hq q (Nat.lt_of_lt_of_le hl h2) hl).trans (h3 q hl), State.WarmedH.trans h4 hW⟩
  cases hz : G.2.2.1.heap.size with
  | zero => exact Nat.zero_le _
  | succ n =>
    have hn : n < H.size := by omega
    have h9 := hq n hn (by omega)
    rw [Array.getElem?_eq_getElem hn] at h9
    exact (Array.getElem?_eq_some_iff.mp h9).1
theorem xw_F.nest {G : xw_G} {U : State} {H : Heap} (h : xw_F G U H) {own host : String} {index : Nat} {y : MethodName} (hm : Cond.methodLinkNest own index y host ∈ lw_tbl) : va_Nw (.methodLinkNest own index y host) U :=
  va_Nw.warmM h.2.2.2 (va_Nw.of rfl (h.1.1 _ hm))
