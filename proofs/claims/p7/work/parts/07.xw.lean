/-! THE JUDGEMENT xw: a frame of a method with the machine hidden. The heap is a function from addresses to cells; every cell of it lies at or above G's S0; all else of the machine's heap that is older than S0 stays. -/
abbrev xw_C : Type := (Nat × vp_A) ⊕ (Nat × List Value)
abbrev xw_A : Type := Nat → Option xw_C
def xw_up (h : xw_A) (a : Nat) (e : xw_C) : xw_A := fun q => if q = a then some e else h q
theorem xw_up_s (h : xw_A) (a : Nat) (e : xw_C) : xw_up h a e a = some e := by simp [xw_up]
theorem xw_up_n (h : xw_A) {a b : Nat} (e : xw_C) (n : b ≠ a) : xw_up h a e b = h b := by simp [xw_up, n]
/-- the types of arrays, by number: 6 + i is an array of objects of class i -/
def xw_ty (c : Nat) : FieldType := match c with
  | 0 => .int
  | 1 => .char
  | 2 => .long
  | 3 => .double
  | 4 => .boolean
  | 5 => .byte
  | n + 6 => .object ((vwCl[n]?.map (fun r => r.1)).getD "")
theorem xw_ty_o {ci : Nat} (h : ci < vwCl.length) : xw_ty (ci + 6) = .object (xw_cl ci).1 := by
  show FieldType.object _ = FieldType.object _
  rw [List.getElem?_eq_getElem h]
  simp only [xw_cl, List.getD_eq_getElem?_getD, List.getElem?_eq_getElem h, Option.getD_some, Option.map_some]
/-- the machine's heap holds the abstract one -/
def xw_H (G : xw_G) (h : xw_A) (s : State) (H : Heap) : Prop :=
  ∃ (ws : va_W) (tys : List (ClassId × FieldType)), va_P G.2.1 vwCl ws H ∧ va_K G.2.1 vwCl tys s ∧ va_D (xw_g G) ws ∧
    (∀ (a c : Nat) (x : vp_A), h a = some (.inl (c, x)) → ∃ (k t : Nat) (cA : ClassId), ws[k]? = some (a, .inl (cA, x)) ∧ tys[t]? = some (cA, xw_ty c)) ∧
    (∀ (a ci : Nat) (fs : List Value), h a = some (.inr (ci, fs)) → ∃ k : Nat, ws[k]? = some (a, .inr (ci, fs)))
theorem xw_H.moved {G : xw_G} {h : xw_A} {u U : State} {H : Heap} (hvm : u.vm.Alike U.vm) (q : xw_H G h u H) : xw_H G h U H := by
  obtain ⟨ws, tys, a, b, c, d, e⟩ := q
  exact ⟨ws, tys, a, va_K.moved hvm b, c, d, e⟩
theorem xw_H.lt {G : xw_G} {h : xw_A} {s : State} {H : Heap} (q : xw_H G h s H) {a : Nat} {e : xw_C} (ha : h a = some e) : a < H.size := by
  obtain ⟨ws, tys, hP, hK, hD, hA, hO⟩ := q
  rcases e with ⟨c, x⟩ | ⟨ci, fs⟩
  · obtain ⟨k, t, cA, h1, -⟩ := hA a c x ha
    exact (hP k _ h1).lt
  · obtain ⟨k, h1⟩ := hO a ci fs ha
    exact (hP k _ h1).lt
/-- one cell has changed -/
theorem xw_H.set {G : xw_G} {h : xw_A} {s : State} {H1 : Heap} {ws : va_W} {tys : List (ClassId × FieldType)} {k a : Nat} {e0 e1 : va_E} {e : xw_C} (hk : ws[k]? = some (a, e0))
    (hP : va_P G.2.1 vwCl (ws.set k (a, e1)) H1) (hK : va_K G.2.1 vwCl tys s) (hD : va_D (xw_g G) (ws.set k (a, e1)))
    (hA : ∀ (a c : Nat) (x : vp_A), h a = some (.inl (c, x)) → ∃ (k t : Nat) (cA : ClassId), ws[k]? = some (a, .inl (cA, x)) ∧ tys[t]? = some (cA, xw_ty c))
    (hO : ∀ (a ci : Nat) (fs : List Value), h a = some (.inr (ci, fs)) → ∃ k : Nat, ws[k]? = some (a, .inr (ci, fs)))
    (he : (∃ (c t : Nat) (cA : ClassId) (x : vp_A), e = .inl (c, x) ∧ e1 = .inl (cA, x) ∧ tys[t]? = some (cA, xw_ty c)) ∨ ∃ (ci : Nat) (fs : List Value), e = .inr (ci, fs) ∧ e1 = .inr (ci, fs)) : xw_H G (xw_up h a e) s H1 := by
  have hl := (List.getElem?_eq_some_iff.mp hk).1
  have hself : (ws.set k (a, e1))[k]? = some (a, e1) := List.getElem?_set_self hl
  have other : ∀ (j b : Nat) (y : va_E), b ≠ a → ws[j]? = some (b, y) → (ws.set k (a, e1))[j]? = some (b, y) := by
    intro j b y hb hj
    by_cases hjk : j = k
    · subst hjk
      rw [hk] at hj
      cases hj
      exact absurd rfl hb
    · rw [List.getElem?_set_ne (Ne.symm hjk)]
      exact hj
  refine ⟨_, tys, hP, hK, hD, fun b c x hb => ?_, fun b ci fs hb => ?_⟩
  · by_cases hba : b = a
    · subst hba
      rw [xw_up_s] at hb
      rcases he with ⟨c', t, cA, x', q1, q2, q3⟩ | ⟨ci, fs, q1, -⟩
      · rw [q1] at hb
        cases hb
        exact ⟨k, t, cA, by rw [hself, q2], q3⟩
      · rw [q1] at hb
        cases hb
    · rw [xw_up_n _ _ hba] at hb
      obtain ⟨j, t, cA, q1, q2⟩ := hA b c x hb
      exact ⟨j, t, cA, other j b _ hba q1, q2⟩
  · by_cases hba : b = a
    · subst hba
      rw [xw_up_s] at hb
      rcases he with ⟨c', t, cA, x', q1, -⟩ | ⟨ci', fs', q1, q2⟩
      · rw [q1] at hb
        cases hb
      · rw [q1] at hb
        cases hb
        exact ⟨k, by rw [hself, q2]⟩
    · rw [xw_up_n _ _ hba] at hb
      obtain ⟨j, q1⟩ := hO b ci fs hb
      exact ⟨j, other j b _ hba q1⟩
/-- one cell has come -/
theorem xw_H.push {G : xw_G} {h : xw_A} {s : State} {H1 : Heap} {ws : va_W} {tys tys1 : List (ClassId × FieldType)} {a : Nat} {e1 : va_E} {e : xw_C}
    (hP : va_P G.2.1 vwCl (ws ++ [(a, e1)]) H1) (hK : va_K G.2.1 vwCl (tys ++ tys1) s) (hD : va_D (xw_g G) (ws ++ [(a, e1)])) (hn : h a = none)
    (hA : ∀ (a c : Nat) (x : vp_A), h a = some (.inl (c, x)) → ∃ (k t : Nat) (cA : ClassId), ws[k]? = some (a, .inl (cA, x)) ∧ tys[t]? = some (cA, xw_ty c))
    (hO : ∀ (a ci : Nat) (fs : List Value), h a = some (.inr (ci, fs)) → ∃ k : Nat, ws[k]? = some (a, .inr (ci, fs)))
    (he : (∃ (c t : Nat) (cA : ClassId) (x : vp_A), e = .inl (c, x) ∧ e1 = .inl (cA, x) ∧ (tys ++ tys1)[t]? = some (cA, xw_ty c)) ∨ ∃ (ci : Nat) (fs : List Value), e = .inr (ci, fs) ∧ e1 = .inr (ci, fs)) : xw_H G (xw_up h a e) s H1 := by
  have hself : (ws ++ [(a, e1)])[ws.length]? = some (a, e1) := by simp
  have other : ∀ (j b : Nat) (y : va_E), ws[j]? = some (b, y) → (ws ++ [(a, e1)])[j]? = some (b, y) := by
    intro j b y hj
    rw [List.getElem?_append_left (List.getElem?_eq_some_iff.mp hj).1]
    exact hj
  have othert : ∀ (j : Nat) (y : ClassId × FieldType), tys[j]? = some y → (tys ++ tys1)[j]? = some y := by
    intro j y hj
    rw [List.getElem?_append_left (List.getElem?_eq_some_iff.mp hj).1]
    exact hj
  refine ⟨_, _, hP, hK, hD, fun b c x hb => ?_, fun b ci fs hb => ?_⟩
  · by_cases hba : b = a
    · subst hba
      rw [xw_up_s] at hb
      rcases he with ⟨c', t, cA, x', q1, q2, q3⟩ | ⟨ci, fs, q1, -⟩
      · rw [q1] at hb
        cases hb
        exact ⟨_, t, cA, by rw [hself, q2], q3⟩
      · rw [q1] at hb
        cases hb
    · rw [xw_up_n _ _ hba] at hb
      obtain ⟨j, t, cA, q1, q2⟩ := hA b c x hb
      exact ⟨j, t, cA, other j b _ q1, othert t _ q2⟩
  · by_cases hba : b = a
    · subst hba
      rw [xw_up_s] at hb
      rcases he with ⟨c', t, cA, x', q1, -⟩ | ⟨ci', fs', q1, q2⟩
      · rw [q1] at hb
        cases hb
      · rw [q1] at hb
        cases hb
        exact ⟨_, by rw [hself, q2]⟩
    · rw [xw_up_n _ _ hba] at hb
      obtain ⟨j, q1⟩ := hO b ci fs hb
      exact ⟨j, other j b _ q1⟩
/-- what holds of the machine at every step of the method -/
def xw_K (G : xw_G) (M : xw_M) (p : Program) (s : State) (m : MethodId) (args : Array Value) (meth : Method) (c : Code) : Prop :=
  p.tables.exec = Jvm.exec ∧ c.code = M.2.1 ∧ meth.sig.returnType = M.2.2.2.1 ∧ c.maxLocals = M.2.2.1 ∧ s.vm.findClass M.1.cls = some m.cls ∧ (∀ w ∈ xw_tbl, w.before args s = true) ∧ meth.locks = false ∧ c.exceptionTable.toList = tableOf M.2.2.2.2 ∧ meth.name = M.1.name ∧ xw_F G s s.heap
/-- the locals, by place; none: not known -/
def xw_L (ls : Array Slot) (nL : Nat) (lv : List (Option Value)) : Prop := ls.size = nL ∧ lv_wf ls ∧ ∀ (i : Nat) (v : Value), lv[i]? = some (some v) → ls[i]? = some (.val v)
def xw_Q (G : xw_G) (pr : Option Value → xw_A → Prop) : Array Value → State → Outcome → State → Prop := fun _ st oc t =>
  (∃ (v : Option Value) (h1 : xw_A), oc = .returned v ∧ pr v h1 ∧ xw_H G h1 t t.heap) ∧ va_F (xw_g G) st t
/-- the method has thrown q -/
def xw_X (G : xw_G) (px : String → xw_A → Prop) (st : State) (q : Addr) (t : State) (mc ms : Nat) : Prop :=
  ∃ (E : String) (ce : Cell) (LL : List Loc) (h1 : xw_A), px E h1 ∧ xw_H G h1 t t.heap ∧ va_F (xw_g G) st t ∧ t.heap[q]? = some ce ∧ ce.vm = .none ∧ st.vm.findClass E = some ce.cls ∧ st.WarmedH t.vm ∧ st.sameButNew ({ t with vm := st.vm } : State) LL mc ms ∧ ∀ z ∈ LL, xw_g G z.base
/-- what a method owes at its end -/
def xw_E (G : xw_G) (pr : Option Value → xw_A → Prop) (px : String → xw_A → Prop) (mc ms : Nat) (a : Array Value) (st : State) (o : Outcome) (t : State) : Prop :=
  (xw_Q G pr a st o t ∧ ∃ LL, FrameEnd st o t LL mc ms ∧ ∀ q ∈ LL, xw_g G q.base) ∨ ∃ q, o = .threw q ∧ xw_X G px st q t mc ms
def xw_Z (G : xw_G) (pr : Option Value → xw_A → Prop) (px : String → xw_A → Prop) (below : List Frame) (a : Array Value) (s : State) (mc ms : Nat) : State → Prop := fun t => ∃ o, t.status = .running ∧ Ended t below o ∧ xw_E G pr px mc ms a s o t
theorem xw_ret {p : Program} {l : Launch} {e : Env} {R : Room} {s : State} {m : MethodId} {args : Array Value} {below : List Frame} {meth : Method} {c : Code} {H : Heap} {locs : List Loc} {cells slots : Nat} {G : xw_G} {pr : Option Value → xw_A → Prop} {px : String → xw_A → Prop} {g : JFrame} {mc ms : Nat} (k : W p l e R s m args below meth c H locs cells slots (MQ below (xw_Q G pr) args s mc ms (xw_g G)) g) : W p l e R s m args below meth c H locs cells slots (xw_Z G pr px below args s mc ms) g := by
  intro T hT X
  obtain ⟨t, a1, o, b1, b2, b3, b4⟩ := k T hT X
  exact ⟨t, a1, o, b1, b2, Or.inl ⟨b3, b4⟩⟩
/-- from this frame of M, with F frames and L words of locals left, bc cells and bs slots to make, the method comes to its end: it returns with pr, or throws with px -/
def xw (G : xw_G) (M : xw_M) (F L bc bs : Nat) (pr : Option Value → xw_A → Prop) (px : String → xw_A → Prop) (pc : Nat) (lv : List (Option Value)) (st : List Value) (h : xw_A) : Prop :=
  ∀ (p : Program) (e : Env) (R : Room) (s : State) (m : MethodId) (args : Array Value) (below : List Frame) (meth : Method) (c : Code) (H : Heap) (locs : List Loc) (cells slots : Nat) (ls : Array Slot),
    xw_K G M p s m args meth c → (F ≤ R.frames ∧ L ≤ R.locals) → (cells + bc ≤ R.cells ∧ slots + bs ≤ R.slots) → xw_H G h s H → va_S (xw_g G) s.heap H locs → xw_L ls M.2.2.1 lv →
    W p G.1 e R s m args below meth c H locs cells slots (xw_Z G pr px below args s R.cells R.slots) (F0 m pc ls st)

/-! locals -/
def xw_prs : Nat → List (Option Value) → List (Nat × Value)
  | _, [] => []
  | k, none :: t => xw_prs (k + 1) t
  | k, some v :: t => (k, v) :: xw_prs (k + 1) t
theorem xw_prs_in : ∀ (lv : List (Option Value)) (k j : Nat) (v : Value), (j, v) ∈ xw_prs k lv ↔ ∃ i, j = k + i ∧ lv[i]? = some (some v)
  | [], k, j, v => by simp [xw_prs]
  | none :: t, k, j, v => by
    rw [xw_prs, xw_prs_in t (k + 1) j v]
    constructor
    · rintro ⟨i, h1, h2⟩
      exact ⟨i + 1, by omega, by simpa using h2⟩
    · rintro ⟨i, h1, h2⟩
      cases i with
      | zero => simp at h2
      | succ i => exact ⟨i, by omega, by simpa using h2⟩
  | some w :: t, k, j, v => by
    rw [xw_prs, List.mem_cons, xw_prs_in t (k + 1) j v]
    constructor
    · rintro (h | ⟨i, h1, h2⟩)
      · cases h
        exact ⟨0, by omega, by simp⟩
      · exact ⟨i + 1, by omega, by simpa using h2⟩
    · rintro ⟨i, h1, h2⟩
      cases i with
      | zero =>
        left
        simp at h2
        rw [h1, h2]
        rfl
      | succ i => exact Or.inr ⟨i, by omega, by simpa using h2⟩
theorem xw_L.has {ls : Array Slot} {nL : Nat} {lv : List (Option Value)} (h : xw_L ls nL lv) : lv_has ls nL (xw_prs 0 lv) :=
  ⟨h.1, h.2.1, fun q hq => by
    obtain ⟨i, h1, h2⟩ := (xw_prs_in lv 0 q.1 q.2).mp hq
    rw [h1, Nat.zero_add]
    exact h.2.2 i q.2 h2⟩
/-- no value of two places ends just before place i -/
def xw_o (lv : List (Option Value)) : Nat → Prop
  | 0 => True
  | i + 1 => match lv[i]? with
    | some (some w) => w.category = 1
    | _ => True
theorem xw_o.not {lv : List (Option Value)} {i j : Nat} {w : Value} (h : xw_o lv i) (hj : lv[j]? = some (some w)) (hi : j + 1 = i) : w.category = 1 := by
  subst hi
  simpa [xw_o, hj] using h
theorem xw_L.st1 {ls : Array Slot} {nL : Nat} {lv : List (Option Value)} {i : Nat} {v : Value} (ho : xw_o lv i) (h : lv_has ls nL ((i, v) :: (xw_prs 0 lv).filter (fun q => !(q.1 == i) && !(q.1 + 1 == i && q.2.category == 2)))) : xw_L ls nL (lv.set i (some v)) := by
  refine ⟨h.1, h.2.1, fun j w hj => ?_⟩
  by_cases hji : j = i
  · subst hji
    have hl : j < lv.length := by
      have := (List.getElem?_eq_some_iff.mp hj).1
      simpa using this
    rw [List.getElem?_set_self hl] at hj
    cases hj
    exact h.2.2 (j, v) List.mem_cons_self
  · rw [List.getElem?_set_ne (Ne.symm hji)] at hj
    refine h.2.2 (j, w) (List.mem_cons_of_mem _ (List.mem_filter.mpr ⟨(xw_prs_in lv 0 j w).mpr ⟨j, by omega, hj⟩, ?_⟩))
    by_cases h1 : j + 1 = i
    · have := ho.not hj h1
      simp [hji, this]
    · simp [hji, h1]
theorem xw_L.st2 {ls : Array Slot} {nL : Nat} {lv : List (Option Value)} {i : Nat} {v : Value} (ho : xw_o lv i) (h : lv_has ls nL ((i, v) :: (xw_prs 0 lv).filter (fun q => !(q.1 == i) && (!(q.1 == i + 1) && !(q.1 + 1 == i && q.2.category == 2))))) : xw_L ls nL ((lv.set i (some v)).set (i + 1) none) := by
  refine ⟨h.1, h.2.1, fun j w hj => ?_⟩
  by_cases hj1 : j = i + 1
  · subst hj1
    by_cases hl : i + 1 < (lv.set i (some v)).length
    · rw [List.getElem?_set_self hl] at hj
      cases hj
    · have := (List.getElem?_eq_some_iff.mp hj).1
      simp at this hl
      omega
  · rw [List.getElem?_set_ne (Ne.symm hj1)] at hj
    by_cases hji : j = i
    · subst hji
      have hl : j < lv.length := by
        have := (List.getElem?_eq_some_iff.mp hj).1
        simpa using this
      rw [List.getElem?_set_self hl] at hj
      cases hj
      exact h.2.2 (j, v) List.mem_cons_self
    · rw [List.getElem?_set_ne (Ne.symm hji)] at hj
      refine h.2.2 (j, w) (List.mem_cons_of_mem _ (List.mem_filter.mpr ⟨(xw_prs_in lv 0 j w).mpr ⟨j, by omega, hj⟩, ?_⟩))
      by_cases h1 : j + 1 = i
      · have := ho.not hj h1
        simp [hji, hj1, this]
      · simp [hji, h1, hj1]
/-- fewer known -/
theorem xw_L.fewer {ls : Array Slot} {nL : Nat} {lv lv' : List (Option Value)} (h : xw_L ls nL lv) (hs : ∀ (i : Nat) (v : Value), lv'[i]? = some (some v) → lv[i]? = some (some v)) : xw_L ls nL lv' := ⟨h.1, h.2.1, fun i v hi => h.2.2 i v (hs i v hi)⟩
section Rows
variable {G : xw_G} {M : xw_M} {F L bc bs : Nat} {pr : Option Value → xw_A → Prop} {px : String → xw_A → Prop} {pc : Nat} {lv : List (Option Value)} {rest st : List Value} {h : xw_A}
theorem x_fewer {lv' : List (Option Value)} (hs : ∀ (i : Nat) (v : Value), lv'[i]? = some (some v) → lv[i]? = some (some v)) (k : xw G M F L bc bs pr px pc lv' st h) : xw G M F L bc bs pr px pc lv st h :=
  fun p e R s m args below meth c H locs cells slots ls C hR hB hH hS hl => k p e R s m args below meth c H locs cells slots ls C hR hB hH hS (hl.fewer hs)
/-- less room asked -/
theorem x_room {F' L' bc' bs' : Nat} (h1 : F' ≤ F) (h2 : L' ≤ L) (h3 : bc' ≤ bc) (h4 : bs' ≤ bs) (k : xw G M F' L' bc' bs' pr px pc lv st h) : xw G M F L bc bs pr px pc lv st h :=
  fun p e R s m args below meth c H locs cells slots ls C hR hB hH hS hl => k p e R s m args below meth c H locs cells slots ls C ⟨Nat.le_trans h1 hR.1, Nat.le_trans h2 hR.2⟩ ⟨Nat.le_trans (Nat.add_le_add_left h3 _) hB.1, Nat.le_trans (Nat.add_le_add_left h4 _) hB.2⟩ hH hS hl
theorem x_iconst {n : Int} {v : Int32} (d : decode M.2.1 pc = .ok (.iconst n, 1)) (hv : Int32.ofInt n = v) (k : xw G M F L bc bs pr px (pc + 1) lv (.int v :: rest) h) : xw G M F L bc bs pr px pc lv rest h :=
  fun p e R s m args below meth c H locs cells slots ls C hR hB hH hS hl => lv_iconst C.1 C.2.1 d hv (k p e R s m args below meth c H locs cells slots ls C hR hB hH hS hl)
theorem x_bipush {n : Int} {v : Int32} (d : decode M.2.1 pc = .ok (.bipush n, 2)) (hv : (Int8.ofInt n).toInt32 = v) (k : xw G M F L bc bs pr px (pc + 2) lv (.int v :: rest) h) : xw G M F L bc bs pr px pc lv rest h :=
  fun p e R s m args below meth c H locs cells slots ls C hR hB hH hS hl => lv_bipush C.1 C.2.1 d hv (k p e R s m args below meth c H locs cells slots ls C hR hB hH hS hl)
theorem x_sipush {n : Int} {v : Int32} (d : decode M.2.1 pc = .ok (.sipush n, 3)) (hv : (Int16.ofInt n).toInt32 = v) (k : xw G M F L bc bs pr px (pc + 3) lv (.int v :: rest) h) : xw G M F L bc bs pr px pc lv rest h :=
  fun p e R s m args below meth c H locs cells slots ls C hR hB hH hS hl => lv_sipush C.1 C.2.1 d hv (k p e R s m args below meth c H locs cells slots ls C hR hB hH hS hl)
theorem x_lconst {n : Fin 2} {v : Int64} (d : decode M.2.1 pc = .ok (.lconst n, 1)) (hv : Int64.ofNat (n : Nat) = v) (k : xw G M F L bc bs pr px (pc + 1) lv (.long v :: rest) h) : xw G M F L bc bs pr px pc lv rest h :=
  fun p e R s m args below meth c H locs cells slots ls C hR hB hH hS hl => lv_lconst C.1 C.2.1 d hv (k p e R s m args below meth c H locs cells slots ls C hR hB hH hS hl)
theorem x_dconst0  (d : decode M.2.1 pc = .ok (.dconst 0, 1))  (k : xw G M F L bc bs pr px (pc + 1) lv (.double FP.dconst0 :: rest) h) : xw G M F L bc bs pr px pc lv rest h :=
  fun p e R s m args below meth c H locs cells slots ls C hR hB hH hS hl => lv_dconst0 C.1 C.2.1 d  (k p e R s m args below meth c H locs cells slots ls C hR hB hH hS hl)
theorem x_dconst1  (d : decode M.2.1 pc = .ok (.dconst 1, 1))  (k : xw G M F L bc bs pr px (pc + 1) lv (.double FP.dconst1 :: rest) h) : xw G M F L bc bs pr px pc lv rest h :=
  fun p e R s m args below meth c H locs cells slots ls C hR hB hH hS hl => lv_dconst1 C.1 C.2.1 d  (k p e R s m args below meth c H locs cells slots ls C hR hB hH hS hl)
theorem x_null  (d : decode M.2.1 pc = .ok (.aconst_null, 1))  (k : xw G M F L bc bs pr px (pc + 1) lv (.null :: rest) h) : xw G M F L bc bs pr px pc lv rest h :=
  fun p e R s m args below meth c H locs cells slots ls C hR hB hH hS hl => lv_null C.1 C.2.1 d  (k p e R s m args below meth c H locs cells slots ls C hR hB hH hS hl)
theorem x_iload_n {k4 : Fin 4} {i : Nat} {x : Int32} (d : decode M.2.1 pc = .ok (.iload_n k4, 1)) (hi : (k4 : Nat) = i) (hv : lv[i]? = some (some (.int x))) (k : xw G M F L bc bs pr px (pc + 1) lv (.int x :: rest) h) : xw G M F L bc bs pr px pc lv rest h :=
  fun p e R s m args below meth c H locs cells slots ls C hR hB hH hS hl => lv_iload_n C.1 C.2.1 d hi (hl.2.2 i _ hv) (k p e R s m args below meth c H locs cells slots ls C hR hB hH hS hl)
theorem x_iload {i : Nat} {x : Int32} (d : decode M.2.1 pc = .ok (.iload i, 2)) (hv : lv[i]? = some (some (.int x))) (k : xw G M F L bc bs pr px (pc + 2) lv (.int x :: rest) h) : xw G M F L bc bs pr px pc lv rest h :=
  fun p e R s m args below meth c H locs cells slots ls C hR hB hH hS hl => lv_iload C.1 C.2.1 d (hl.2.2 i _ hv) (k p e R s m args below meth c H locs cells slots ls C hR hB hH hS hl)
theorem x_lload_n {k4 : Fin 4} {i : Nat} {x : Int64} (d : decode M.2.1 pc = .ok (.lload_n k4, 1)) (hi : (k4 : Nat) = i) (hv : lv[i]? = some (some (.long x))) (k : xw G M F L bc bs pr px (pc + 1) lv (.long x :: rest) h) : xw G M F L bc bs pr px pc lv rest h :=
  fun p e R s m args below meth c H locs cells slots ls C hR hB hH hS hl => lv_lload_n C.1 C.2.1 d hi (hl.2.2 i _ hv) (k p e R s m args below meth c H locs cells slots ls C hR hB hH hS hl)
theorem x_lload {i : Nat} {x : Int64} (d : decode M.2.1 pc = .ok (.lload i, 2)) (hv : lv[i]? = some (some (.long x))) (k : xw G M F L bc bs pr px (pc + 2) lv (.long x :: rest) h) : xw G M F L bc bs pr px pc lv rest h :=
  fun p e R s m args below meth c H locs cells slots ls C hR hB hH hS hl => lv_lload C.1 C.2.1 d (hl.2.2 i _ hv) (k p e R s m args below meth c H locs cells slots ls C hR hB hH hS hl)
theorem x_aload_n {k4 : Fin 4} {i : Nat} {x : Nat} (d : decode M.2.1 pc = .ok (.aload_n k4, 1)) (hi : (k4 : Nat) = i) (hv : lv[i]? = some (some (.ref x))) (k : xw G M F L bc bs pr px (pc + 1) lv (.ref x :: rest) h) : xw G M F L bc bs pr px pc lv rest h :=
  fun p e R s m args below meth c H locs cells slots ls C hR hB hH hS hl => lv_aload_n C.1 C.2.1 d hi (hl.2.2 i _ hv) (k p e R s m args below meth c H locs cells slots ls C hR hB hH hS hl)
theorem x_aload {i : Nat} {x : Nat} (d : decode M.2.1 pc = .ok (.aload i, 2)) (hv : lv[i]? = some (some (.ref x))) (k : xw G M F L bc bs pr px (pc + 2) lv (.ref x :: rest) h) : xw G M F L bc bs pr px pc lv rest h :=
  fun p e R s m args below meth c H locs cells slots ls C hR hB hH hS hl => lv_aload C.1 C.2.1 d (hl.2.2 i _ hv) (k p e R s m args below meth c H locs cells slots ls C hR hB hH hS hl)
theorem x_dload_n {k4 : Fin 4} {i : Nat} {x : UInt64} (d : decode M.2.1 pc = .ok (.dload_n k4, 1)) (hi : (k4 : Nat) = i) (hv : lv[i]? = some (some (.double x))) (k : xw G M F L bc bs pr px (pc + 1) lv (.double x :: rest) h) : xw G M F L bc bs pr px pc lv rest h :=
  fun p e R s m args below meth c H locs cells slots ls C hR hB hH hS hl => lv_dload_n C.1 C.2.1 d hi (hl.2.2 i _ hv) (k p e R s m args below meth c H locs cells slots ls C hR hB hH hS hl)
theorem x_dload {i : Nat} {x : UInt64} (d : decode M.2.1 pc = .ok (.dload i, 2)) (hv : lv[i]? = some (some (.double x))) (k : xw G M F L bc bs pr px (pc + 2) lv (.double x :: rest) h) : xw G M F L bc bs pr px pc lv rest h :=
  fun p e R s m args below meth c H locs cells slots ls C hR hB hH hS hl => lv_dload C.1 C.2.1 d (hl.2.2 i _ hv) (k p e R s m args below meth c H locs cells slots ls C hR hB hH hS hl)
theorem x_istore_n {k4 : Fin 4} {i : Nat} {x : Int32} (d : decode M.2.1 pc = .ok (.istore_n k4, 1)) (hi : (k4 : Nat) = i) (hn : i < M.2.2.1) (ho : xw_o lv i) (k : xw G M F L bc bs pr px (pc + 1) (lv.set i (some (.int x))) rest h) : xw G M F L bc bs pr px pc lv (.int x :: rest) h :=
  fun p e R s m args below meth c H locs cells slots ls C hR hB hH hS hl => lv_istore_n C.1 C.2.1 d hi hl.has hn rfl (fun ls2 h2 => k p e R s m args below meth c H locs cells slots ls2 C hR hB hH hS (xw_L.st1 ho h2))
theorem x_istore {i : Nat} {x : Int32} (d : decode M.2.1 pc = .ok (.istore i, 2)) (hn : i < M.2.2.1) (ho : xw_o lv i) (k : xw G M F L bc bs pr px (pc + 2) (lv.set i (some (.int x))) rest h) : xw G M F L bc bs pr px pc lv (.int x :: rest) h :=
  fun p e R s m args below meth c H locs cells slots ls C hR hB hH hS hl => lv_istore C.1 C.2.1 d hl.has hn rfl (fun ls2 h2 => k p e R s m args below meth c H locs cells slots ls2 C hR hB hH hS (xw_L.st1 ho h2))
theorem x_lstore_n {k4 : Fin 4} {i : Nat} {x : Int64} (d : decode M.2.1 pc = .ok (.lstore_n k4, 1)) (hi : (k4 : Nat) = i) (hn : i + 1 < M.2.2.1) (ho : xw_o lv i) (k : xw G M F L bc bs pr px (pc + 1) ((lv.set i (some (.long x))).set (i + 1) none) rest h) : xw G M F L bc bs pr px pc lv (.long x :: rest) h :=
  fun p e R s m args below meth c H locs cells slots ls C hR hB hH hS hl => lv_lstore_n C.1 C.2.1 d hi hl.has hn rfl (fun ls2 h2 => k p e R s m args below meth c H locs cells slots ls2 C hR hB hH hS (xw_L.st2 ho h2))
theorem x_lstore {i : Nat} {x : Int64} (d : decode M.2.1 pc = .ok (.lstore i, 2)) (hn : i + 1 < M.2.2.1) (ho : xw_o lv i) (k : xw G M F L bc bs pr px (pc + 2) ((lv.set i (some (.long x))).set (i + 1) none) rest h) : xw G M F L bc bs pr px pc lv (.long x :: rest) h :=
  fun p e R s m args below meth c H locs cells slots ls C hR hB hH hS hl => lv_lstore C.1 C.2.1 d hl.has hn rfl (fun ls2 h2 => k p e R s m args below meth c H locs cells slots ls2 C hR hB hH hS (xw_L.st2 ho h2))
theorem x_astore_n {k4 : Fin 4} {i : Nat} {x : Nat} (d : decode M.2.1 pc = .ok (.astore_n k4, 1)) (hi : (k4 : Nat) = i) (hn : i < M.2.2.1) (ho : xw_o lv i) (k : xw G M F L bc bs pr px (pc + 1) (lv.set i (some (.ref x))) rest h) : xw G M F L bc bs pr px pc lv (.ref x :: rest) h :=
  fun p e R s m args below meth c H locs cells slots ls C hR hB hH hS hl => lv_astore_n C.1 C.2.1 d hi hl.has hn rfl (fun ls2 h2 => k p e R s m args below meth c H locs cells slots ls2 C hR hB hH hS (xw_L.st1 ho h2))
theorem x_astore {i : Nat} {x : Nat} (d : decode M.2.1 pc = .ok (.astore i, 2)) (hn : i < M.2.2.1) (ho : xw_o lv i) (k : xw G M F L bc bs pr px (pc + 2) (lv.set i (some (.ref x))) rest h) : xw G M F L bc bs pr px pc lv (.ref x :: rest) h :=
  fun p e R s m args below meth c H locs cells slots ls C hR hB hH hS hl => lv_astore C.1 C.2.1 d hl.has hn rfl (fun ls2 h2 => k p e R s m args below meth c H locs cells slots ls2 C hR hB hH hS (xw_L.st1 ho h2))
theorem x_dstore_n {k4 : Fin 4} {i : Nat} {x : UInt64} (d : decode M.2.1 pc = .ok (.dstore_n k4, 1)) (hi : (k4 : Nat) = i) (hn : i + 1 < M.2.2.1) (ho : xw_o lv i) (k : xw G M F L bc bs pr px (pc + 1) ((lv.set i (some (.double x))).set (i + 1) none) rest h) : xw G M F L bc bs pr px pc lv (.double x :: rest) h :=
  fun p e R s m args below meth c H locs cells slots ls C hR hB hH hS hl => lv_dstore_n C.1 C.2.1 d hi hl.has hn rfl (fun ls2 h2 => k p e R s m args below meth c H locs cells slots ls2 C hR hB hH hS (xw_L.st2 ho h2))
theorem x_dstore {i : Nat} {x : UInt64} (d : decode M.2.1 pc = .ok (.dstore i, 2)) (hn : i + 1 < M.2.2.1) (ho : xw_o lv i) (k : xw G M F L bc bs pr px (pc + 2) ((lv.set i (some (.double x))).set (i + 1) none) rest h) : xw G M F L bc bs pr px pc lv (.double x :: rest) h :=
  fun p e R s m args below meth c H locs cells slots ls C hR hB hH hS hl => lv_dstore C.1 C.2.1 d hl.has hn rfl (fun ls2 h2 => k p e R s m args below meth c H locs cells slots ls2 C hR hB hH hS (xw_L.st2 ho h2))
theorem x_iinc {i : Nat} {n : Int} {x v : Int32} (d : decode M.2.1 pc = .ok (.iinc i n, 3)) (hv : lv[i]? = some (some (.int x))) (he : x + Int32.ofInt n = v) (hn : i < M.2.2.1) (ho : xw_o lv i) (k : xw G M F L bc bs pr px (pc + 3) (lv.set i (some (.int v))) rest h) : xw G M F L bc bs pr px pc lv rest h :=
  fun p e R s m args below meth c H locs cells slots ls C hR hB hH hS hl => by
    obtain ⟨j, hj⟩ := List.getElem?_of_mem ((xw_prs_in lv 0 i (.int x)).mpr ⟨i, by omega, hv⟩)
    exact lv_iinc C.1 C.2.1 d hl.has hj he hn rfl (fun ls2 h2 => k p e R s m args below meth c H locs cells slots ls2 C hR hB hH hS (xw_L.st1 ho h2))
theorem x_iadd {x y : Int32} (d : decode M.2.1 pc = .ok (.iadd, 1))  (k : xw G M F L bc bs pr px (pc + 1) lv (.int (x + y) :: rest) h) : xw G M F L bc bs pr px pc lv (.int y :: .int x :: rest) h :=
  fun p e R s m args below meth c H locs cells slots ls C hR hB hH hS hl => lv_iadd C.1 C.2.1 d  (k p e R s m args below meth c H locs cells slots ls C hR hB hH hS hl)
theorem x_isub {x y : Int32} (d : decode M.2.1 pc = .ok (.isub, 1))  (k : xw G M F L bc bs pr px (pc + 1) lv (.int (x - y) :: rest) h) : xw G M F L bc bs pr px pc lv (.int y :: .int x :: rest) h :=
  fun p e R s m args below meth c H locs cells slots ls C hR hB hH hS hl => lv_isub C.1 C.2.1 d  (k p e R s m args below meth c H locs cells slots ls C hR hB hH hS hl)
theorem x_imul {x y : Int32} (d : decode M.2.1 pc = .ok (.imul, 1))  (k : xw G M F L bc bs pr px (pc + 1) lv (.int (x * y) :: rest) h) : xw G M F L bc bs pr px pc lv (.int y :: .int x :: rest) h :=
  fun p e R s m args below meth c H locs cells slots ls C hR hB hH hS hl => lv_imul C.1 C.2.1 d  (k p e R s m args below meth c H locs cells slots ls C hR hB hH hS hl)
theorem x_iand {x y : Int32} (d : decode M.2.1 pc = .ok (.iand, 1))  (k : xw G M F L bc bs pr px (pc + 1) lv (.int (x &&& y) :: rest) h) : xw G M F L bc bs pr px pc lv (.int y :: .int x :: rest) h :=
  fun p e R s m args below meth c H locs cells slots ls C hR hB hH hS hl => lv_iand C.1 C.2.1 d  (k p e R s m args below meth c H locs cells slots ls C hR hB hH hS hl)
theorem x_ior {x y : Int32} (d : decode M.2.1 pc = .ok (.ior, 1))  (k : xw G M F L bc bs pr px (pc + 1) lv (.int (x ||| y) :: rest) h) : xw G M F L bc bs pr px pc lv (.int y :: .int x :: rest) h :=
  fun p e R s m args below meth c H locs cells slots ls C hR hB hH hS hl => lv_ior C.1 C.2.1 d  (k p e R s m args below meth c H locs cells slots ls C hR hB hH hS hl)
theorem x_ixor {x y : Int32} (d : decode M.2.1 pc = .ok (.ixor, 1))  (k : xw G M F L bc bs pr px (pc + 1) lv (.int (x ^^^ y) :: rest) h) : xw G M F L bc bs pr px pc lv (.int y :: .int x :: rest) h :=
  fun p e R s m args below meth c H locs cells slots ls C hR hB hH hS hl => lv_ixor C.1 C.2.1 d  (k p e R s m args below meth c H locs cells slots ls C hR hB hH hS hl)
theorem x_ishl {x y : Int32} (d : decode M.2.1 pc = .ok (.ishl, 1))  (k : xw G M F L bc bs pr px (pc + 1) lv (.int (x <<< (y &&& 31)) :: rest) h) : xw G M F L bc bs pr px pc lv (.int y :: .int x :: rest) h :=
  fun p e R s m args below meth c H locs cells slots ls C hR hB hH hS hl => lv_ishl C.1 C.2.1 d  (k p e R s m args below meth c H locs cells slots ls C hR hB hH hS hl)
theorem x_ishr {x y : Int32} (d : decode M.2.1 pc = .ok (.ishr, 1))  (k : xw G M F L bc bs pr px (pc + 1) lv (.int (x >>> (y &&& 31)) :: rest) h) : xw G M F L bc bs pr px pc lv (.int y :: .int x :: rest) h :=
  fun p e R s m args below meth c H locs cells slots ls C hR hB hH hS hl => lv_ishr C.1 C.2.1 d  (k p e R s m args below meth c H locs cells slots ls C hR hB hH hS hl)
theorem x_idiv {x y : Int32} (d : decode M.2.1 pc = .ok (.idiv, 1)) (hne : ¬ y = 0) (k : xw G M F L bc bs pr px (pc + 1) lv (.int (x / y) :: rest) h) : xw G M F L bc bs pr px pc lv (.int y :: .int x :: rest) h :=
  fun p e R s m args below meth c H locs cells slots ls C hR hB hH hS hl => lv_idiv C.1 C.2.1 d hne (k p e R s m args below meth c H locs cells slots ls C hR hB hH hS hl)
theorem x_irem {x y : Int32} (d : decode M.2.1 pc = .ok (.irem, 1)) (hne : ¬ y = 0) (k : xw G M F L bc bs pr px (pc + 1) lv (.int (x - x / y * y) :: rest) h) : xw G M F L bc bs pr px pc lv (.int y :: .int x :: rest) h :=
  fun p e R s m args below meth c H locs cells slots ls C hR hB hH hS hl => lv_irem C.1 C.2.1 d hne (k p e R s m args below meth c H locs cells slots ls C hR hB hH hS hl)
theorem x_ineg {x : Int32} (d : decode M.2.1 pc = .ok (.ineg, 1))  (k : xw G M F L bc bs pr px (pc + 1) lv (.int (-x) :: rest) h) : xw G M F L bc bs pr px pc lv (.int x :: rest) h :=
  fun p e R s m args below meth c H locs cells slots ls C hR hB hH hS hl => lv_ineg C.1 C.2.1 d  (k p e R s m args below meth c H locs cells slots ls C hR hB hH hS hl)
theorem x_iushr {x y v : Int32} (d : decode M.2.1 pc = .ok (.iushr, 1)) (hv : (x.toUInt32 >>> (y.toUInt32 &&& Int32.toUInt32 31)).toInt32 = v) (k : xw G M F L bc bs pr px (pc + 1) lv (.int v :: rest) h) : xw G M F L bc bs pr px pc lv (.int y :: .int x :: rest) h :=
  fun p e R s m args below meth c H locs cells slots ls C hR hB hH hS hl => lv_iushr C.1 C.2.1 d hv (k p e R s m args below meth c H locs cells slots ls C hR hB hH hS hl)
theorem x_ladd {x y : Int64} (d : decode M.2.1 pc = .ok (.ladd, 1))  (k : xw G M F L bc bs pr px (pc + 1) lv (.long (x + y) :: rest) h) : xw G M F L bc bs pr px pc lv (.long y :: .long x :: rest) h :=
  fun p e R s m args below meth c H locs cells slots ls C hR hB hH hS hl => lv_ladd C.1 C.2.1 d  (k p e R s m args below meth c H locs cells slots ls C hR hB hH hS hl)
theorem x_lsub {x y : Int64} (d : decode M.2.1 pc = .ok (.lsub, 1))  (k : xw G M F L bc bs pr px (pc + 1) lv (.long (x - y) :: rest) h) : xw G M F L bc bs pr px pc lv (.long y :: .long x :: rest) h :=
  fun p e R s m args below meth c H locs cells slots ls C hR hB hH hS hl => lv_lsub C.1 C.2.1 d  (k p e R s m args below meth c H locs cells slots ls C hR hB hH hS hl)
theorem x_lmul {x y : Int64} (d : decode M.2.1 pc = .ok (.lmul, 1))  (k : xw G M F L bc bs pr px (pc + 1) lv (.long (x * y) :: rest) h) : xw G M F L bc bs pr px pc lv (.long y :: .long x :: rest) h :=
  fun p e R s m args below meth c H locs cells slots ls C hR hB hH hS hl => lv_lmul C.1 C.2.1 d  (k p e R s m args below meth c H locs cells slots ls C hR hB hH hS hl)
theorem x_land {x y : Int64} (d : decode M.2.1 pc = .ok (.land, 1))  (k : xw G M F L bc bs pr px (pc + 1) lv (.long (x &&& y) :: rest) h) : xw G M F L bc bs pr px pc lv (.long y :: .long x :: rest) h :=
  fun p e R s m args below meth c H locs cells slots ls C hR hB hH hS hl => lv_land C.1 C.2.1 d  (k p e R s m args below meth c H locs cells slots ls C hR hB hH hS hl)
theorem x_lor {x y : Int64} (d : decode M.2.1 pc = .ok (.lor, 1))  (k : xw G M F L bc bs pr px (pc + 1) lv (.long (x ||| y) :: rest) h) : xw G M F L bc bs pr px pc lv (.long y :: .long x :: rest) h :=
  fun p e R s m args below meth c H locs cells slots ls C hR hB hH hS hl => lv_lor C.1 C.2.1 d  (k p e R s m args below meth c H locs cells slots ls C hR hB hH hS hl)
theorem x_lxor {x y : Int64} (d : decode M.2.1 pc = .ok (.lxor, 1))  (k : xw G M F L bc bs pr px (pc + 1) lv (.long (x ^^^ y) :: rest) h) : xw G M F L bc bs pr px pc lv (.long y :: .long x :: rest) h :=
  fun p e R s m args below meth c H locs cells slots ls C hR hB hH hS hl => lv_lxor C.1 C.2.1 d  (k p e R s m args below meth c H locs cells slots ls C hR hB hH hS hl)
theorem x_lushr {x v : Int64} {y : Int32} (d : decode M.2.1 pc = .ok (.lushr, 1)) (hv : (x.toUInt64 >>> (y.toInt64.toUInt64 &&& Int64.toUInt64 63)).toInt64 = v) (k : xw G M F L bc bs pr px (pc + 1) lv (.long v :: rest) h) : xw G M F L bc bs pr px pc lv (.int y :: .long x :: rest) h :=
  fun p e R s m args below meth c H locs cells slots ls C hR hB hH hS hl => lv_lushr C.1 C.2.1 d hv (k p e R s m args below meth c H locs cells slots ls C hR hB hH hS hl)
theorem x_lshl {x v : Int64} {y : Int32} (d : decode M.2.1 pc = .ok (.lshl, 1)) (hv : x <<< (y.toInt64 &&& 63) = v) (k : xw G M F L bc bs pr px (pc + 1) lv (.long v :: rest) h) : xw G M F L bc bs pr px pc lv (.int y :: .long x :: rest) h :=
  fun p e R s m args below meth c H locs cells slots ls C hR hB hH hS hl => lv_lshl C.1 C.2.1 d hv (k p e R s m args below meth c H locs cells slots ls C hR hB hH hS hl)
theorem x_lshr {x v : Int64} {y : Int32} (d : decode M.2.1 pc = .ok (.lshr, 1)) (hv : x >>> (y.toInt64 &&& 63) = v) (k : xw G M F L bc bs pr px (pc + 1) lv (.long v :: rest) h) : xw G M F L bc bs pr px pc lv (.int y :: .long x :: rest) h :=
  fun p e R s m args below meth c H locs cells slots ls C hR hB hH hS hl => lv_lshr C.1 C.2.1 d hv (k p e R s m args below meth c H locs cells slots ls C hR hB hH hS hl)
theorem x_i2l {x : Int32} {v : Int64} (d : decode M.2.1 pc = .ok (.i2l, 1)) (hv : x.toInt64 = v) (k : xw G M F L bc bs pr px (pc + 1) lv (.long v :: rest) h) : xw G M F L bc bs pr px pc lv (.int x :: rest) h :=
  fun p e R s m args below meth c H locs cells slots ls C hR hB hH hS hl => lv_i2l C.1 C.2.1 d hv (k p e R s m args below meth c H locs cells slots ls C hR hB hH hS hl)
theorem x_l2i {x : Int64} {v : Int32} (d : decode M.2.1 pc = .ok (.l2i, 1)) (hv : x.toInt32 = v) (k : xw G M F L bc bs pr px (pc + 1) lv (.int v :: rest) h) : xw G M F L bc bs pr px pc lv (.long x :: rest) h :=
  fun p e R s m args below meth c H locs cells slots ls C hR hB hH hS hl => lv_l2i C.1 C.2.1 d hv (k p e R s m args below meth c H locs cells slots ls C hR hB hH hS hl)
theorem x_i2c {x v : Int32} (d : decode M.2.1 pc = .ok (.i2c, 1)) (hv : (x.toUInt32 % 65536).toInt32 = v) (k : xw G M F L bc bs pr px (pc + 1) lv (.int v :: rest) h) : xw G M F L bc bs pr px pc lv (.int x :: rest) h :=
  fun p e R s m args below meth c H locs cells slots ls C hR hB hH hS hl => lv_i2c C.1 C.2.1 d hv (k p e R s m args below meth c H locs cells slots ls C hR hB hH hS hl)
theorem x_i2b {x v : Int32} (d : decode M.2.1 pc = .ok (.i2b, 1)) (hv : x.toInt8.toInt32 = v) (k : xw G M F L bc bs pr px (pc + 1) lv (.int v :: rest) h) : xw G M F L bc bs pr px pc lv (.int x :: rest) h :=
  fun p e R s m args below meth c H locs cells slots ls C hR hB hH hS hl => lv_i2b C.1 C.2.1 d hv (k p e R s m args below meth c H locs cells slots ls C hR hB hH hS hl)
theorem x_lcmp {x y : Int64} (d : decode M.2.1 pc = .ok (.lcmp, 1))  (k : xw G M F L bc bs pr px (pc + 1) lv (.int (lg_cmp x y) :: rest) h) : xw G M F L bc bs pr px pc lv (.long y :: .long x :: rest) h :=
  fun p e R s m args below meth c H locs cells slots ls C hR hB hH hS hl => W.lcmp C.1 C.2.1 d  (k p e R s m args below meth c H locs cells slots ls C hR hB hH hS hl)
theorem x_i2d {x : Int32} (d : decode M.2.1 pc = .ok (.i2d, 1))  (k : xw G M F L bc bs pr px (pc + 1) lv (.double (FP.i2d x) :: rest) h) : xw G M F L bc bs pr px pc lv (.int x :: rest) h :=
  fun p e R s m args below meth c H locs cells slots ls C hR hB hH hS hl => lv_i2d C.1 C.2.1 d  (k p e R s m args below meth c H locs cells slots ls C hR hB hH hS hl)
theorem x_dadd {x y : UInt64} (d : decode M.2.1 pc = .ok (.dadd, 1)) (hne : vf_n64 (FP.dadd x y)) (k : xw G M F L bc bs pr px (pc + 1) lv (.double (FP.dadd x y) :: rest) h) : xw G M F L bc bs pr px pc lv (.double y :: .double x :: rest) h :=
  fun p e R s m args below meth c H locs cells slots ls C hR hB hH hS hl => lv_dadd C.1 C.2.1 d hne (k p e R s m args below meth c H locs cells slots ls C hR hB hH hS hl)
theorem x_dsub {x y : UInt64} (d : decode M.2.1 pc = .ok (.dsub, 1)) (hne : vf_n64 (FP.dsub x y)) (k : xw G M F L bc bs pr px (pc + 1) lv (.double (FP.dsub x y) :: rest) h) : xw G M F L bc bs pr px pc lv (.double y :: .double x :: rest) h :=
  fun p e R s m args below meth c H locs cells slots ls C hR hB hH hS hl => lv_dsub C.1 C.2.1 d hne (k p e R s m args below meth c H locs cells slots ls C hR hB hH hS hl)
theorem x_dmul {x y : UInt64} (d : decode M.2.1 pc = .ok (.dmul, 1)) (hne : vf_n64 (FP.dmul x y)) (k : xw G M F L bc bs pr px (pc + 1) lv (.double (FP.dmul x y) :: rest) h) : xw G M F L bc bs pr px pc lv (.double y :: .double x :: rest) h :=
  fun p e R s m args below meth c H locs cells slots ls C hR hB hH hS hl => lv_dmul C.1 C.2.1 d hne (k p e R s m args below meth c H locs cells slots ls C hR hB hH hS hl)
theorem x_ddiv {x y : UInt64} (d : decode M.2.1 pc = .ok (.ddiv, 1)) (hne : vf_n64 (FP.ddiv x y)) (k : xw G M F L bc bs pr px (pc + 1) lv (.double (FP.ddiv x y) :: rest) h) : xw G M F L bc bs pr px pc lv (.double y :: .double x :: rest) h :=
  fun p e R s m args below meth c H locs cells slots ls C hR hB hH hS hl => lv_ddiv C.1 C.2.1 d hne (k p e R s m args below meth c H locs cells slots ls C hR hB hH hS hl)
theorem x_dcmp {x y : UInt64} {op : CmpOp} (d : decode M.2.1 pc = .ok (.dcmp op, 1))  (k : xw G M F L bc bs pr px (pc + 1) lv (.int (Op.cmpValue (FP.dcmp x y) op) :: rest) h) : xw G M F L bc bs pr px pc lv (.double y :: .double x :: rest) h :=
  fun p e R s m args below meth c H locs cells slots ls C hR hB hH hS hl => lv_dcmp C.1 C.2.1 d  (k p e R s m args below meth c H locs cells slots ls C hR hB hH hS hl)
theorem x_dup {va : Value} (d : decode M.2.1 pc = .ok (.dup, 1)) (hva : va.category = 1) (k : xw G M F L bc bs pr px (pc + 1) lv (va :: va :: rest) h) : xw G M F L bc bs pr px pc lv (va :: rest) h :=
  fun p e R s m args below meth c H locs cells slots ls C hR hB hH hS hl => lv_dup C.1 C.2.1 d hva (k p e R s m args below meth c H locs cells slots ls C hR hB hH hS hl)
theorem x_pop {va : Value} (d : decode M.2.1 pc = .ok (.pop, 1)) (hva : va.category = 1) (k : xw G M F L bc bs pr px (pc + 1) lv rest h) : xw G M F L bc bs pr px pc lv (va :: rest) h :=
  fun p e R s m args below meth c H locs cells slots ls C hR hB hH hS hl => lv_pop C.1 C.2.1 d hva (k p e R s m args below meth c H locs cells slots ls C hR hB hH hS hl)
theorem x_dup_x1 {va vb : Value} (d : decode M.2.1 pc = .ok (.dup_x1, 1)) (hva : va.category = 1) (hvb : vb.category = 1) (k : xw G M F L bc bs pr px (pc + 1) lv (va :: vb :: va :: rest) h) : xw G M F L bc bs pr px pc lv (va :: vb :: rest) h :=
  fun p e R s m args below meth c H locs cells slots ls C hR hB hH hS hl => lv_dup_x1 C.1 C.2.1 d hva hvb (k p e R s m args below meth c H locs cells slots ls C hR hB hH hS hl)
theorem x_dup_x2 {va vb vd : Value} (d : decode M.2.1 pc = .ok (.dup_x2, 1)) (hva : va.category = 1) (hvb : vb.category = 1) (hvd : vd.category = 1) (k : xw G M F L bc bs pr px (pc + 1) lv (va :: vb :: vd :: va :: rest) h) : xw G M F L bc bs pr px pc lv (va :: vb :: vd :: rest) h :=
  fun p e R s m args below meth c H locs cells slots ls C hR hB hH hS hl => lv_dup_x2 C.1 C.2.1 d hva hvb hvd (k p e R s m args below meth c H locs cells slots ls C hR hB hH hS hl)
theorem x_dup2 {va vb : Value} (d : decode M.2.1 pc = .ok (.dup2, 1)) (hva : va.category = 1) (hvb : vb.category = 1) (k : xw G M F L bc bs pr px (pc + 1) lv (va :: vb :: va :: vb :: rest) h) : xw G M F L bc bs pr px pc lv (va :: vb :: rest) h :=
  fun p e R s m args below meth c H locs cells slots ls C hR hB hH hS hl => lv_dup2_11 C.1 C.2.1 d hva hvb (k p e R s m args below meth c H locs cells slots ls C hR hB hH hS hl)
theorem x_if_eq {x : Int32} {off : Int} {tgt : Nat} (d : decode M.2.1 pc = .ok (.ifCond .eq off, 3)) (ht : (pc : Int) + off = (tgt : Int)) (kt : x = 0 → xw G M F L bc bs pr px tgt lv rest h) (kf : ¬ x = 0 → xw G M F L bc bs pr px (pc + 3) lv rest h) : xw G M F L bc bs pr px pc lv (.int x :: rest) h :=
  fun p e R s m args below meth c H locs cells slots ls C hR hB hH hS hl => lv_if_eq C.1 C.2.1 d ht (fun hc => kt hc p e R s m args below meth c H locs cells slots ls C hR hB hH hS hl) (fun hc => kf hc p e R s m args below meth c H locs cells slots ls C hR hB hH hS hl)
theorem x_icmp_eq {x y : Int32} {off : Int} {tgt : Nat} (d : decode M.2.1 pc = .ok (.if_icmp .eq off, 3)) (ht : (pc : Int) + off = (tgt : Int)) (kt : x = y → xw G M F L bc bs pr px tgt lv rest h) (kf : ¬ x = y → xw G M F L bc bs pr px (pc + 3) lv rest h) : xw G M F L bc bs pr px pc lv (.int y :: .int x :: rest) h :=
  fun p e R s m args below meth c H locs cells slots ls C hR hB hH hS hl => lv_icmp_eq C.1 C.2.1 d ht (fun hc => kt hc p e R s m args below meth c H locs cells slots ls C hR hB hH hS hl) (fun hc => kf hc p e R s m args below meth c H locs cells slots ls C hR hB hH hS hl)
theorem x_if_ne {x : Int32} {off : Int} {tgt : Nat} (d : decode M.2.1 pc = .ok (.ifCond .ne off, 3)) (ht : (pc : Int) + off = (tgt : Int)) (kt : ¬ x = 0 → xw G M F L bc bs pr px tgt lv rest h) (kf : x = 0 → xw G M F L bc bs pr px (pc + 3) lv rest h) : xw G M F L bc bs pr px pc lv (.int x :: rest) h :=
  fun p e R s m args below meth c H locs cells slots ls C hR hB hH hS hl => lv_if_ne C.1 C.2.1 d ht (fun hc => kt hc p e R s m args below meth c H locs cells slots ls C hR hB hH hS hl) (fun hc => kf hc p e R s m args below meth c H locs cells slots ls C hR hB hH hS hl)
theorem x_icmp_ne {x y : Int32} {off : Int} {tgt : Nat} (d : decode M.2.1 pc = .ok (.if_icmp .ne off, 3)) (ht : (pc : Int) + off = (tgt : Int)) (kt : ¬ x = y → xw G M F L bc bs pr px tgt lv rest h) (kf : x = y → xw G M F L bc bs pr px (pc + 3) lv rest h) : xw G M F L bc bs pr px pc lv (.int y :: .int x :: rest) h :=
  fun p e R s m args below meth c H locs cells slots ls C hR hB hH hS hl => lv_icmp_ne C.1 C.2.1 d ht (fun hc => kt hc p e R s m args below meth c H locs cells slots ls C hR hB hH hS hl) (fun hc => kf hc p e R s m args below meth c H locs cells slots ls C hR hB hH hS hl)
theorem x_if_lt {x : Int32} {off : Int} {tgt : Nat} (d : decode M.2.1 pc = .ok (.ifCond .lt off, 3)) (ht : (pc : Int) + off = (tgt : Int)) (kt : x < 0 → xw G M F L bc bs pr px tgt lv rest h) (kf : ¬ x < 0 → xw G M F L bc bs pr px (pc + 3) lv rest h) : xw G M F L bc bs pr px pc lv (.int x :: rest) h :=
  fun p e R s m args below meth c H locs cells slots ls C hR hB hH hS hl => lv_if_lt C.1 C.2.1 d ht (fun hc => kt hc p e R s m args below meth c H locs cells slots ls C hR hB hH hS hl) (fun hc => kf hc p e R s m args below meth c H locs cells slots ls C hR hB hH hS hl)
theorem x_icmp_lt {x y : Int32} {off : Int} {tgt : Nat} (d : decode M.2.1 pc = .ok (.if_icmp .lt off, 3)) (ht : (pc : Int) + off = (tgt : Int)) (kt : x < y → xw G M F L bc bs pr px tgt lv rest h) (kf : ¬ x < y → xw G M F L bc bs pr px (pc + 3) lv rest h) : xw G M F L bc bs pr px pc lv (.int y :: .int x :: rest) h :=
  fun p e R s m args below meth c H locs cells slots ls C hR hB hH hS hl => lv_icmp_lt C.1 C.2.1 d ht (fun hc => kt hc p e R s m args below meth c H locs cells slots ls C hR hB hH hS hl) (fun hc => kf hc p e R s m args below meth c H locs cells slots ls C hR hB hH hS hl)
theorem x_if_ge {x : Int32} {off : Int} {tgt : Nat} (d : decode M.2.1 pc = .ok (.ifCond .ge off, 3)) (ht : (pc : Int) + off = (tgt : Int)) (kt : 0 ≤ x → xw G M F L bc bs pr px tgt lv rest h) (kf : ¬ 0 ≤ x → xw G M F L bc bs pr px (pc + 3) lv rest h) : xw G M F L bc bs pr px pc lv (.int x :: rest) h :=
  fun p e R s m args below meth c H locs cells slots ls C hR hB hH hS hl => lv_if_ge C.1 C.2.1 d ht (fun hc => kt hc p e R s m args below meth c H locs cells slots ls C hR hB hH hS hl) (fun hc => kf hc p e R s m args below meth c H locs cells slots ls C hR hB hH hS hl)
theorem x_icmp_ge {x y : Int32} {off : Int} {tgt : Nat} (d : decode M.2.1 pc = .ok (.if_icmp .ge off, 3)) (ht : (pc : Int) + off = (tgt : Int)) (kt : y ≤ x → xw G M F L bc bs pr px tgt lv rest h) (kf : ¬ y ≤ x → xw G M F L bc bs pr px (pc + 3) lv rest h) : xw G M F L bc bs pr px pc lv (.int y :: .int x :: rest) h :=
  fun p e R s m args below meth c H locs cells slots ls C hR hB hH hS hl => lv_icmp_ge C.1 C.2.1 d ht (fun hc => kt hc p e R s m args below meth c H locs cells slots ls C hR hB hH hS hl) (fun hc => kf hc p e R s m args below meth c H locs cells slots ls C hR hB hH hS hl)
theorem x_if_gt {x : Int32} {off : Int} {tgt : Nat} (d : decode M.2.1 pc = .ok (.ifCond .gt off, 3)) (ht : (pc : Int) + off = (tgt : Int)) (kt : 0 < x → xw G M F L bc bs pr px tgt lv rest h) (kf : ¬ 0 < x → xw G M F L bc bs pr px (pc + 3) lv rest h) : xw G M F L bc bs pr px pc lv (.int x :: rest) h :=
  fun p e R s m args below meth c H locs cells slots ls C hR hB hH hS hl => lv_if_gt C.1 C.2.1 d ht (fun hc => kt hc p e R s m args below meth c H locs cells slots ls C hR hB hH hS hl) (fun hc => kf hc p e R s m args below meth c H locs cells slots ls C hR hB hH hS hl)
theorem x_icmp_gt {x y : Int32} {off : Int} {tgt : Nat} (d : decode M.2.1 pc = .ok (.if_icmp .gt off, 3)) (ht : (pc : Int) + off = (tgt : Int)) (kt : y < x → xw G M F L bc bs pr px tgt lv rest h) (kf : ¬ y < x → xw G M F L bc bs pr px (pc + 3) lv rest h) : xw G M F L bc bs pr px pc lv (.int y :: .int x :: rest) h :=
  fun p e R s m args below meth c H locs cells slots ls C hR hB hH hS hl => lv_icmp_gt C.1 C.2.1 d ht (fun hc => kt hc p e R s m args below meth c H locs cells slots ls C hR hB hH hS hl) (fun hc => kf hc p e R s m args below meth c H locs cells slots ls C hR hB hH hS hl)
theorem x_if_le {x : Int32} {off : Int} {tgt : Nat} (d : decode M.2.1 pc = .ok (.ifCond .le off, 3)) (ht : (pc : Int) + off = (tgt : Int)) (kt : x ≤ 0 → xw G M F L bc bs pr px tgt lv rest h) (kf : ¬ x ≤ 0 → xw G M F L bc bs pr px (pc + 3) lv rest h) : xw G M F L bc bs pr px pc lv (.int x :: rest) h :=
  fun p e R s m args below meth c H locs cells slots ls C hR hB hH hS hl => lv_if_le C.1 C.2.1 d ht (fun hc => kt hc p e R s m args below meth c H locs cells slots ls C hR hB hH hS hl) (fun hc => kf hc p e R s m args below meth c H locs cells slots ls C hR hB hH hS hl)
theorem x_icmp_le {x y : Int32} {off : Int} {tgt : Nat} (d : decode M.2.1 pc = .ok (.if_icmp .le off, 3)) (ht : (pc : Int) + off = (tgt : Int)) (kt : x ≤ y → xw G M F L bc bs pr px tgt lv rest h) (kf : ¬ x ≤ y → xw G M F L bc bs pr px (pc + 3) lv rest h) : xw G M F L bc bs pr px pc lv (.int y :: .int x :: rest) h :=
  fun p e R s m args below meth c H locs cells slots ls C hR hB hH hS hl => lv_icmp_le C.1 C.2.1 d ht (fun hc => kt hc p e R s m args below meth c H locs cells slots ls C hR hB hH hS hl) (fun hc => kf hc p e R s m args below meth c H locs cells slots ls C hR hB hH hS hl)
theorem x_goto {off : Int} {tgt : Nat} (d : decode M.2.1 pc = .ok (.goto off, 3)) (ht : (pc : Int) + off = (tgt : Int)) (k : xw G M F L bc bs pr px tgt lv rest h) : xw G M F L bc bs pr px pc lv rest h :=
  fun p e R s m args below meth c H locs cells slots ls C hR hB hH hS hl => lv_goto C.1 C.2.1 d ht (k p e R s m args below meth c H locs cells slots ls C hR hB hH hS hl)
theorem x_ifnull {a : Nat} {off : Int} (d : decode M.2.1 pc = .ok (.ifnull off, 3)) (k : xw G M F L bc bs pr px (pc + 3) lv rest h) : xw G M F L bc bs pr px pc lv (.ref a :: rest) h :=
  fun p e R s m args below meth c H locs cells slots ls C hR hB hH hS hl => lv_ifnull C.1 C.2.1 d (k p e R s m args below meth c H locs cells slots ls C hR hB hH hS hl)
theorem x_ifnullN {off : Int} {tgt : Nat} (d : decode M.2.1 pc = .ok (.ifnull off, 3)) (ht : (pc : Int) + off = (tgt : Int)) (k : xw G M F L bc bs pr px tgt lv rest h) : xw G M F L bc bs pr px pc lv (.null :: rest) h :=
  fun p e R s m args below meth c H locs cells slots ls C hR hB hH hS hl => lv_ifnullN C.1 C.2.1 d ht (k p e R s m args below meth c H locs cells slots ls C hR hB hH hS hl)
theorem x_ifnonnull {a : Nat} {off : Int} {tgt : Nat} (d : decode M.2.1 pc = .ok (.ifnonnull off, 3)) (ht : (pc : Int) + off = (tgt : Int)) (k : xw G M F L bc bs pr px tgt lv rest h) : xw G M F L bc bs pr px pc lv (.ref a :: rest) h :=
  fun p e R s m args below meth c H locs cells slots ls C hR hB hH hS hl => lv_ifnonnull C.1 C.2.1 d ht (k p e R s m args below meth c H locs cells slots ls C hR hB hH hS hl)
theorem x_ifnonnullN {off : Int} (d : decode M.2.1 pc = .ok (.ifnonnull off, 3)) (k : xw G M F L bc bs pr px (pc + 3) lv rest h) : xw G M F L bc bs pr px pc lv (.null :: rest) h :=
  fun p e R s m args below meth c H locs cells slots ls C hR hB hH hS hl => lv_ifnonnullN C.1 C.2.1 d (k p e R s m args below meth c H locs cells slots ls C hR hB hH hS hl)
theorem x_table {dflt lo hi : Int} {offs : Array Int} {len : Nat} {x : Int32} (d : decode M.2.1 pc = .ok (.tableswitch dflt lo hi offs, len)) (ki : ∀ (off : Int) (tgt : Nat), ¬ x.toInt < lo → ¬ hi < x.toInt → offs[(x.toInt - lo).toNat]? = some off → (pc : Int) + off = (tgt : Int) → xw G M F L bc bs pr px tgt lv rest h) (kn : ¬ x.toInt < lo → ¬ hi < x.toInt → ∃ (off : Int) (tgt : Nat), offs[(x.toInt - lo).toNat]? = some off ∧ (pc : Int) + off = (tgt : Int)) {dt : Nat} (ht : (pc : Int) + dflt = (dt : Int)) (ko : x.toInt < lo ∨ hi < x.toInt → xw G M F L bc bs pr px dt lv rest h) : xw G M F L bc bs pr px pc lv (.int x :: rest) h :=
  fun p e R s m args below meth c H locs cells slots ls C hR hB hH hS hl => by
    by_cases h1 : x.toInt < lo
    · exact lv_tableOut C.1 C.2.1 d (Or.inl h1) ht (ko (Or.inl h1) p e R s m args below meth c H locs cells slots ls C hR hB hH hS hl)
    · by_cases h2 : hi < x.toInt
      · exact lv_tableOut C.1 C.2.1 d (Or.inr h2) ht (ko (Or.inr h2) p e R s m args below meth c H locs cells slots ls C hR hB hH hS hl)
      · obtain ⟨off, tgt, g1, g2⟩ := kn h1 h2
        exact lv_tableIn C.1 C.2.1 d h1 h2 g1 g2 (ki off tgt h1 h2 g1 g2 p e R s m args below meth c H locs cells slots ls C hR hB hH hS hl)
theorem x_iret {v : Int32} (d : decode M.2.1 pc = .ok (.ireturn, 1)) (hr : M.2.2.2.1 = some .int) (hp : pr (some (.int v)) h) : xw G M F L bc bs pr px pc lv [.int v] h :=
  fun p e R s m args below meth c H locs cells slots ls C hR hB hH hS hl => by
    have hq : ∀ t : State, t.heap = H → s.WarmedH t.vm → xw_Q G pr args s (.returned (some (.int v))) t := fun t ht hW => ⟨⟨_, h, rfl, hp, xw_H.moved hW.alike (by rw [ht]; exact hH)⟩, hS.F ht⟩
    have hlocks := C.2.2.2.2.2.2.1
    refine xw_ret (W.widen (k := R.cells) (n := R.slots) (Nat.le_trans (Nat.le_add_right _ _) hB.1) (Nat.le_trans (Nat.le_add_right _ _) hB.2) ?_)
    exact W.iret C.1 C.2.1 (C.2.2.1.trans hr) hq hS.2.2 d
theorem x_zret {v : Int32} {ty : FieldType} (d : decode M.2.1 pc = .ok (.ireturn, 1)) (hr : M.2.2.2.1 = some ty) (hn : narrow ty (.int v) = .int v) (hp : pr (some (.int v)) h) : xw G M F L bc bs pr px pc lv [.int v] h :=
  fun p e R s m args below meth c H locs cells slots ls C hR hB hH hS hl => by
    have hq : ∀ t : State, t.heap = H → s.WarmedH t.vm → xw_Q G pr args s (.returned (some (.int v))) t := fun t ht hW => ⟨⟨_, h, rfl, hp, xw_H.moved hW.alike (by rw [ht]; exact hH)⟩, hS.F ht⟩
    have hlocks := C.2.2.2.2.2.2.1
    refine xw_ret (W.widen (k := R.cells) (n := R.slots) (Nat.le_trans (Nat.le_add_right _ _) hB.1) (Nat.le_trans (Nat.le_add_right _ _) hB.2) ?_)
    exact W.zret C.1 C.2.1 (C.2.2.1.trans hr) hn hq hS.2.2 d
theorem x_lret {v : Int64} (d : decode M.2.1 pc = .ok (.lreturn, 1)) (hr : M.2.2.2.1 = some .long) (hp : pr (some (.long v)) h) : xw G M F L bc bs pr px pc lv [.long v] h :=
  fun p e R s m args below meth c H locs cells slots ls C hR hB hH hS hl => by
    have hq : ∀ t : State, t.heap = H → s.WarmedH t.vm → xw_Q G pr args s (.returned (some (.long v))) t := fun t ht hW => ⟨⟨_, h, rfl, hp, xw_H.moved hW.alike (by rw [ht]; exact hH)⟩, hS.F ht⟩
    have hlocks := C.2.2.2.2.2.2.1
    refine xw_ret (W.widen (k := R.cells) (n := R.slots) (Nat.le_trans (Nat.le_add_right _ _) hB.1) (Nat.le_trans (Nat.le_add_right _ _) hB.2) ?_)
    exact W.lret C.1 C.2.1 (C.2.2.1.trans hr) hq hS.2.2 d
theorem x_dret {v : UInt64} (d : decode M.2.1 pc = .ok (.dreturn, 1)) (hr : M.2.2.2.1 = some .double) (hp : pr (some (.double v)) h) : xw G M F L bc bs pr px pc lv [.double v] h :=
  fun p e R s m args below meth c H locs cells slots ls C hR hB hH hS hl => by
    have hq : ∀ t : State, t.heap = H → s.WarmedH t.vm → xw_Q G pr args s (.returned (some (.double v))) t := fun t ht hW => ⟨⟨_, h, rfl, hp, xw_H.moved hW.alike (by rw [ht]; exact hH)⟩, hS.F ht⟩
    have hlocks := C.2.2.2.2.2.2.1
    refine xw_ret (W.widen (k := R.cells) (n := R.slots) (Nat.le_trans (Nat.le_add_right _ _) hB.1) (Nat.le_trans (Nat.le_add_right _ _) hB.2) ?_)
    exact W.dret C.1 C.2.1 (C.2.2.1.trans hr) hq hS.2.2 d
theorem x_aret {v : Value} {rt : FieldType} (d : decode M.2.1 pc = .ok (.areturn, 1)) (hr : M.2.2.2.1 = some rt) (hrt : (∃ n, rt = .object n) ∨ ∃ t, rt = .array t) (hv : v = .null ∨ ∃ a, v = .ref a) (hp : pr (some v) h) : xw G M F L bc bs pr px pc lv [v] h :=
  fun p e R s m args below meth c H locs cells slots ls C hR hB hH hS hl => by
    have hq : ∀ t : State, t.heap = H → s.WarmedH t.vm → xw_Q G pr args s (.returned (some v)) t := fun t ht hW => ⟨⟨_, h, rfl, hp, xw_H.moved hW.alike (by rw [ht]; exact hH)⟩, hS.F ht⟩
    have hlocks := C.2.2.2.2.2.2.1
    refine xw_ret (W.widen (k := R.cells) (n := R.slots) (Nat.le_trans (Nat.le_add_right _ _) hB.1) (Nat.le_trans (Nat.le_add_right _ _) hB.2) ?_)
    exact W.aret C.1 C.2.1 (C.2.2.1.trans hr) hrt hv hq hS.2.2 d
theorem x_vret  (d : decode M.2.1 pc = .ok (.return_, 1)) (hr : M.2.2.2.1 = none) (hp : pr none h) : xw G M F L bc bs pr px pc lv [] h :=
  fun p e R s m args below meth c H locs cells slots ls C hR hB hH hS hl => by
    have hq : ∀ t : State, t.heap = H → s.WarmedH t.vm → xw_Q G pr args s (.returned none) t := fun t ht hW => ⟨⟨_, h, rfl, hp, xw_H.moved hW.alike (by rw [ht]; exact hH)⟩, hS.F ht⟩
    have hlocks := C.2.2.2.2.2.2.1
    refine xw_ret (W.widen (k := R.cells) (n := R.slots) (Nat.le_trans (Nat.le_add_right _ _) hB.1) (Nat.le_trans (Nat.le_add_right _ _) hB.2) ?_)
    exact W.vret C.1 C.2.1 (C.2.2.1.trans hr) hq hS.2.2 d
/-! fields: xw_f own index ci k: by entry 'index' of own's pool field k of class ci is reached -/
theorem x_get {index ci j a : Nat} {fs : List Value} {v : Value} (d : decode M.2.1 pc = .ok (.getfield index, 3)) (hf : xw_f M.1.cls index ci j) (ha : h a = some (.inr (ci, fs))) (hv : fs[j]? = some v) (k : xw G M F L bc bs pr px (pc + 3) lv (v :: rest) h) : xw G M F L bc bs pr px pc lv (.ref a :: rest) h :=
  fun p e R s m args below meth c H locs cells slots ls C hR hB hH hS hl => by
    obtain ⟨ws, tys, hP, hK, hD, hA, hO⟩ := id hH
    obtain ⟨q, hq⟩ := hO a ci fs ha
    obtain ⟨f1, f2, f3, f4⟩ := hf
    exact va_get C.1 C.2.1 (Ts := xw_tbl) C.2.2.2.2.2.1 (xw_lays ci f1) C.2.2.2.2.1 hK hP q hq (xw_cl_get f1) j f2 (C.2.2.2.2.2.1 _ f3) (fun x hx => by rw [f4] at hx; exact hx) hv d (k p e R s m args below meth c H locs cells slots ls C hR hB hH hS hl)
theorem x_put {index ci j a : Nat} {fs : List Value} {v : Value} {ty : FieldType} (d : decode M.2.1 pc = .ok (.putfield index, 3)) (hf : xw_f M.1.cls index ci j) (hfin : ((xw_cl ci).2.1 j).2.2.2 = false) (hd : parseFieldDescriptor ((xw_cl ci).2.1 j).2.2.1 = some ty) (hn : narrow ty v = v) (hfit : fits ty v = true) (hl9 : j < fs.length) (ha : h a = some (.inr (ci, fs))) (k : xw G M F L bc bs pr px (pc + 3) lv rest (xw_up h a (.inr (ci, fs.set j v)))) : xw G M F L bc bs pr px pc lv (v :: .ref a :: rest) h :=
  fun p e R s m args below meth c H locs cells slots ls C hR hB hH hS hl => by
    obtain ⟨ws, tys, hP, hK, hD, hA, hO⟩ := id hH
    obtain ⟨q, hq⟩ := hO a ci fs ha
    obtain ⟨f1, f2, f3, f4⟩ := hf
    exact va_put C.1 C.2.1 (Ts := xw_tbl) C.2.2.2.2.2.1 (xw_lays ci f1) (xw_fty ci) (xw_fty_ok ci f1) (xw_fnm ci f1) C.2.2.2.2.1 hK hP hD hS q hq (xw_cl_get f1) j f2 (C.2.2.2.2.2.1 _ f3) (fun x hx => by rw [f4] at hx; exact hx) hfin hd hn hfit hl9 d
      (fun H1 locs1 hP1 hD1 hS1 => k p e R s m args below meth c H1 locs1 cells slots ls C hR hB (xw_H.set hq hP1 hK hD1 hA hO (Or.inr ⟨ci, _, rfl, rfl⟩)) hS1 hl)
theorem x_putF {index ci j a : Nat} {fs : List Value} {v : Value} {ty : FieldType} (d : decode M.2.1 pc = .ok (.putfield index, 3)) (hf : xw_f M.1.cls index ci j) (hfin : ((xw_cl ci).2.1 j).2.2.2 = true) (hini : M.1.name = "<init>") (hdecl : (xw_cl ci).1 = M.1.cls) (hd : parseFieldDescriptor ((xw_cl ci).2.1 j).2.2.1 = some ty) (hn : narrow ty v = v) (hfit : fits ty v = true) (hl9 : j < fs.length) (ha : h a = some (.inr (ci, fs))) (k : xw G M F L bc bs pr px (pc + 3) lv rest (xw_up h a (.inr (ci, fs.set j v)))) : xw G M F L bc bs pr px pc lv (v :: .ref a :: rest) h :=
  fun p e R s m args below meth c H locs cells slots ls C hR hB hH hS hl => by
    obtain ⟨ws, tys, hP, hK, hD, hA, hO⟩ := id hH
    obtain ⟨q, hq⟩ := hO a ci fs ha
    obtain ⟨f1, f2, f3, f4⟩ := hf
    exact va_putF C.1 C.2.1 (Ts := xw_tbl) C.2.2.2.2.2.1 (xw_lays ci f1) (xw_fty ci) (xw_fty_ok ci f1) (xw_fnm ci f1) C.2.2.2.2.1 hK hP hD hS q hq (xw_cl_get f1) j f2 (C.2.2.2.2.2.1 _ f3) (fun x hx => by rw [f4] at hx; exact hx) hfin (C.2.2.2.2.2.2.2.2.1.trans hini) (f4.trans hdecl) hd hn hfit hl9 d
      (fun H1 locs1 hP1 hD1 hS1 => k p e R s m args below meth c H1 locs1 cells slots ls C hR hB (xw_H.set hq hP1 hK hD1 hA hO (Or.inr ⟨ci, _, rfl, rfl⟩)) hS1 hl)
theorem xw_none {A : Nat → Prop} {ws : va_W} {tys : List (ClassId × FieldType)} {q : Nat} {e1 : va_E} (hD : va_D A (ws ++ [(q, e1)]))
    (hA : ∀ (a c : Nat) (x : vp_A), h a = some (.inl (c, x)) → ∃ (k t : Nat) (cA : ClassId), ws[k]? = some (a, .inl (cA, x)) ∧ tys[t]? = some (cA, xw_ty c))
    (hO : ∀ (a ci : Nat) (fs : List Value), h a = some (.inr (ci, fs)) → ∃ k : Nat, ws[k]? = some (a, .inr (ci, fs))) : h q = none := by
  have key : ∀ (k : Nat) (y : va_E), ws[k]? = some (q, y) → False := by
    intro k y hk
    have hl := (List.getElem?_eq_some_iff.mp hk).1
    have h1 : (ws ++ [(q, e1)])[k]? = some (q, y) := by rw [List.getElem?_append_left hl]; exact hk
    have h2 : (ws ++ [(q, e1)])[ws.length]? = some (q, e1) := by simp
    have h3 := hD.1 k ws.length _ _ h1 h2 rfl
    omega
  cases hq : h q with
  | none => rfl
  | some e =>
    exfalso
    rcases e with ⟨c, x⟩ | ⟨ci, fs⟩
    · obtain ⟨k, t, cA, g1, -⟩ := hA q c x hq
      exact key k _ g1
    · obtain ⟨k, g1⟩ := hO q ci fs hq
      exact key k _ g1
theorem x_new {index ci : Nat} {fs : List Value} (d : decode M.2.1 pc = .ok (.new index, 3)) (hci : ci < vwCl.length) (hcl : Cond.classLink M.1.cls index (xw_cl ci).1 ∈ xw_tbl) (hinst : Cond.instantiable (xw_cl ci).1 (xw_cl ci).2.2 ∈ xw_tbl) (hini : Cond.initialized (xw_cl ci).1 ∈ xw_tbl) (hfs : ∀ j, j < (xw_cl ci).2.2 → defaultValue (xw_fty ci j) = vp_V fs j) (hb : 1 ≤ bc ∧ (xw_cl ci).2.2 ≤ bs)
    (k : ∀ q : Nat, h q = none → xw G M F L (bc - 1) (bs - (xw_cl ci).2.2) pr px (pc + 3) lv (.ref q :: rest) (xw_up h q (.inr (ci, fs)))) : xw G M F L bc bs pr px pc lv rest h :=
  fun p e R s m args below meth c H locs cells slots ls C hR hB hH hS hl => by
    obtain ⟨ws, tys, hP, hK, hD, hA, hO⟩ := id hH
    refine va_new C.1 C.2.1 (Ts := xw_tbl) C.2.2.2.2.2.1 (xw_lays ci hci) (xw_fty ci) (xw_fty_ok ci hci) C.2.2.2.2.1 (C.2.2.2.2.2.1 _ hcl) (C.2.2.2.2.2.1 _ hinst) (C.2.2.2.2.2.1 _ hini) hK hP hD hS (xw_F.S0 C.2.2.2.2.2.2.2.2.2) (xw_cl_get hci) hfs (by omega) (by omega) d
      (fun q H1 hP1 hD1 hS1 => ?_)
    have hn : h q = none := xw_none hD1 hA hO
    refine k q hn p e R s m args below meth c H1 locs (cells + 1) (slots + (xw_cl ci).2.2) ls C hR ⟨by omega, by omega⟩ (xw_H.push (tys1 := []) hP1 (by rw [List.append_nil]; exact hK) hD1 hn hA hO (Or.inr ⟨ci, fs, rfl, rfl⟩)) hS1 hl

theorem x_iald {a n : Nat} {f : Nat → Int32} {i : Int32} (d : decode M.2.1 pc = .ok (.iaload, 1)) (ha : h a = some (.inl (0, n, .inl f))) (hi : vp_in i n) (k : xw G M F L bc bs pr px (pc + 1) lv (.int (f i.toNatClampNeg) :: rest) h) : xw G M F L bc bs pr px pc lv (.int i :: .ref a :: rest) h :=
  fun p e R s m args below meth c H locs cells slots ls C hR hB hH hS hl => by
    obtain ⟨ws, tys, hP, hK, hD, hA, hO⟩ := id hH
    obtain ⟨q, t, cA, hq, ht⟩ := hA a 0 _ ha
    exact va_iald C.1 C.2.1 hK hP q t hq ht hi d (k p e R s m args below meth c H locs cells slots ls C hR hB hH hS hl)
theorem x_iast {a n : Nat} {f : Nat → Int32} {i : Int32} {x : Int32} (d : decode M.2.1 pc = .ok (.iastore, 1)) (ha : h a = some (.inl (0, n, .inl f))) (hi : vp_in i n) (k : xw G M F L bc bs pr px (pc + 1) lv rest (xw_up h a (.inl (0, n, .inl (upd f i.toNatClampNeg x))))) : xw G M F L bc bs pr px pc lv (.int x :: .int i :: .ref a :: rest) h :=
  fun p e R s m args below meth c H locs cells slots ls C hR hB hH hS hl => by
    obtain ⟨ws, tys, hP, hK, hD, hA, hO⟩ := id hH
    obtain ⟨q, t, cA, hq, ht⟩ := hA a 0 _ ha
    exact va_iast C.1 C.2.1 hK hP hD hS q t hq ht hi d (fun H1 locs1 hP1 hD1 hS1 => k p e R s m args below meth c H1 locs1 cells slots ls C hR hB (xw_H.set hq hP1 hK hD1 hA hO (Or.inl ⟨0, t, cA, _, rfl, rfl, ht⟩)) hS1 hl)
theorem x_cald {a n : Nat} {f : Nat → Int32} {i : Int32} (d : decode M.2.1 pc = .ok (.caload, 1)) (ha : h a = some (.inl (1, n, .inl f))) (hi : vp_in i n) (k : xw G M F L bc bs pr px (pc + 1) lv (.int (f i.toNatClampNeg) :: rest) h) : xw G M F L bc bs pr px pc lv (.int i :: .ref a :: rest) h :=
  fun p e R s m args below meth c H locs cells slots ls C hR hB hH hS hl => by
    obtain ⟨ws, tys, hP, hK, hD, hA, hO⟩ := id hH
    obtain ⟨q, t, cA, hq, ht⟩ := hA a 1 _ ha
    exact va_cald C.1 C.2.1 hK hP q t hq ht hi d (k p e R s m args below meth c H locs cells slots ls C hR hB hH hS hl)
theorem x_cast {a n : Nat} {f : Nat → Int32} {i : Int32} {x : Int32} (d : decode M.2.1 pc = .ok (.castore, 1)) (ha : h a = some (.inl (1, n, .inl f))) (hi : vp_in i n) (k : xw G M F L bc bs pr px (pc + 1) lv rest (xw_up h a (.inl (1, n, .inl (upd f i.toNatClampNeg (vp_nar .char x)))))) : xw G M F L bc bs pr px pc lv (.int x :: .int i :: .ref a :: rest) h :=
  fun p e R s m args below meth c H locs cells slots ls C hR hB hH hS hl => by
    obtain ⟨ws, tys, hP, hK, hD, hA, hO⟩ := id hH
    obtain ⟨q, t, cA, hq, ht⟩ := hA a 1 _ ha
    exact va_cast C.1 C.2.1 hK hP hD hS q t hq ht hi d (fun H1 locs1 hP1 hD1 hS1 => k p e R s m args below meth c H1 locs1 cells slots ls C hR hB (xw_H.set hq hP1 hK hD1 hA hO (Or.inl ⟨1, t, cA, _, rfl, rfl, ht⟩)) hS1 hl)
theorem x_lald {a n : Nat} {f : Nat → Int64} {i : Int32} (d : decode M.2.1 pc = .ok (.laload, 1)) (ha : h a = some (.inl (2, n, .inr (.inl f)))) (hi : vp_in i n) (k : xw G M F L bc bs pr px (pc + 1) lv (.long (f i.toNatClampNeg) :: rest) h) : xw G M F L bc bs pr px pc lv (.int i :: .ref a :: rest) h :=
  fun p e R s m args below meth c H locs cells slots ls C hR hB hH hS hl => by
    obtain ⟨ws, tys, hP, hK, hD, hA, hO⟩ := id hH
    obtain ⟨q, t, cA, hq, ht⟩ := hA a 2 _ ha
    exact va_lald C.1 C.2.1 hK hP q t hq ht hi d (k p e R s m args below meth c H locs cells slots ls C hR hB hH hS hl)
theorem x_last {a n : Nat} {f : Nat → Int64} {i : Int32} {x : Int64} (d : decode M.2.1 pc = .ok (.lastore, 1)) (ha : h a = some (.inl (2, n, .inr (.inl f)))) (hi : vp_in i n) (k : xw G M F L bc bs pr px (pc + 1) lv rest (xw_up h a (.inl (2, n, .inr (.inl (vp_updL f i.toNatClampNeg x)))))) : xw G M F L bc bs pr px pc lv (.long x :: .int i :: .ref a :: rest) h :=
  fun p e R s m args below meth c H locs cells slots ls C hR hB hH hS hl => by
    obtain ⟨ws, tys, hP, hK, hD, hA, hO⟩ := id hH
    obtain ⟨q, t, cA, hq, ht⟩ := hA a 2 _ ha
    exact va_last C.1 C.2.1 hK hP hD hS q t hq ht hi d (fun H1 locs1 hP1 hD1 hS1 => k p e R s m args below meth c H1 locs1 cells slots ls C hR hB (xw_H.set hq hP1 hK hD1 hA hO (Or.inl ⟨2, t, cA, _, rfl, rfl, ht⟩)) hS1 hl)
theorem x_dald {a n : Nat} {f : Nat → UInt64} {i : Int32} (d : decode M.2.1 pc = .ok (.daload, 1)) (ha : h a = some (.inl (3, n, .inr (.inr (.inr (.inl f)))))) (hi : vp_in i n) (k : xw G M F L bc bs pr px (pc + 1) lv (.double (f i.toNatClampNeg) :: rest) h) : xw G M F L bc bs pr px pc lv (.int i :: .ref a :: rest) h :=
  fun p e R s m args below meth c H locs cells slots ls C hR hB hH hS hl => by
    obtain ⟨ws, tys, hP, hK, hD, hA, hO⟩ := id hH
    obtain ⟨q, t, cA, hq, ht⟩ := hA a 3 _ ha
    exact va_dald C.1 C.2.1 hK hP q t hq ht hi d (k p e R s m args below meth c H locs cells slots ls C hR hB hH hS hl)
theorem x_dast {a n : Nat} {f : Nat → UInt64} {i : Int32} {x : UInt64} (d : decode M.2.1 pc = .ok (.dastore, 1)) (ha : h a = some (.inl (3, n, .inr (.inr (.inr (.inl f)))))) (hi : vp_in i n) (k : xw G M F L bc bs pr px (pc + 1) lv rest (xw_up h a (.inl (3, n, .inr (.inr (.inr (.inl (vf_upd f i.toNatClampNeg x)))))))) : xw G M F L bc bs pr px pc lv (.double x :: .int i :: .ref a :: rest) h :=
  fun p e R s m args below meth c H locs cells slots ls C hR hB hH hS hl => by
    obtain ⟨ws, tys, hP, hK, hD, hA, hO⟩ := id hH
    obtain ⟨q, t, cA, hq, ht⟩ := hA a 3 _ ha
    exact va_dast C.1 C.2.1 hK hP hD hS q t hq ht hi d (fun H1 locs1 hP1 hD1 hS1 => k p e R s m args below meth c H1 locs1 cells slots ls C hR hB (xw_H.set hq hP1 hK hD1 hA hO (Or.inl ⟨3, t, cA, _, rfl, rfl, ht⟩)) hS1 hl)
theorem x_aald {a n ci : Nat} {f : Nat → Option Nat} {i : Int32} {v : Value} (d : decode M.2.1 pc = .ok (.aaload, 1)) (ha : h a = some (.inl (ci + 6, n, .inr (.inr (.inr (.inr f)))))) (hi : vp_in i n) (hv : va_rf (f i.toNatClampNeg) = v) (k : xw G M F L bc bs pr px (pc + 1) lv (v :: rest) h) : xw G M F L bc bs pr px pc lv (.int i :: .ref a :: rest) h :=
  fun p e R s m args below meth c H locs cells slots ls C hR hB hH hS hl => by
    obtain ⟨ws, tys, hP, hK, hD, hA, hO⟩ := id hH
    obtain ⟨q, t, cA, hq, ht⟩ := hA a (ci + 6) _ ha
    subst hv
    exact va_aldq C.1 C.2.1 hK hP q t hq ht hi d (k p e R s m args below meth c H locs cells slots ls C hR hB hH hS hl)
theorem x_aast {a n ci b : Nat} {fs : List Value} {f : Nat → Option Nat} {i : Int32} (d : decode M.2.1 pc = .ok (.aastore, 1)) (hci : ci < vwCl.length) (ha : h a = some (.inl (ci + 6, n, .inr (.inr (.inr (.inr f)))))) (hb : h b = some (.inr (ci, fs))) (hi : vp_in i n) (k : xw G M F L bc bs pr px (pc + 1) lv rest (xw_up h a (.inl (ci + 6, n, .inr (.inr (.inr (.inr (va_up f i.toNatClampNeg (some b))))))))) : xw G M F L bc bs pr px pc lv (.ref b :: .int i :: .ref a :: rest) h :=
  fun p e R s m args below meth c H locs cells slots ls C hR hB hH hS hl => by
    obtain ⟨ws, tys, hP, hK, hD, hA, hO⟩ := id hH
    obtain ⟨q, t, cA, hq, ht⟩ := hA a (ci + 6) _ ha
    obtain ⟨qb, hqb⟩ := hO b ci fs hb
    have ht' : tys[t]? = some (cA, .object (xw_cl ci).1) := by
      rw [ht, xw_ty_o hci]
    exact va_astq C.1 C.2.1 hK hP hD hS q t qb ci (r := ((xw_cl ci).1, (xw_cl ci).2.1, (xw_cl ci).2.2)) hq ht' hqb (xw_cl_get hci) hi d (fun H1 locs1 hP1 hD1 hS1 => k p e R s m args below meth c H1 locs1 cells slots ls C hR hB (xw_H.set hq hP1 hK hD1 hA hO (Or.inl ⟨ci + 6, t, cA, _, rfl, rfl, ht⟩)) hS1 hl)
theorem x_aastN {a n ci : Nat} {f : Nat → Option Nat} {i : Int32} (d : decode M.2.1 pc = .ok (.aastore, 1)) (ha : h a = some (.inl (ci + 6, n, .inr (.inr (.inr (.inr f)))))) (hi : vp_in i n) (k : xw G M F L bc bs pr px (pc + 1) lv rest (xw_up h a (.inl (ci + 6, n, .inr (.inr (.inr (.inr (va_up f i.toNatClampNeg none)))))))) : xw G M F L bc bs pr px pc lv (.null :: .int i :: .ref a :: rest) h :=
  fun p e R s m args below meth c H locs cells slots ls C hR hB hH hS hl => by
    obtain ⟨ws, tys, hP, hK, hD, hA, hO⟩ := id hH
    obtain ⟨q, t, cA, hq, ht⟩ := hA a (ci + 6) _ ha
    exact va_astqN C.1 C.2.1 hK hP hD hS q t hq ht hi d (fun H1 locs1 hP1 hD1 hS1 => k p e R s m args below meth c H1 locs1 cells slots ls C hR hB (xw_H.set hq hP1 hK hD1 hA hO (Or.inl ⟨ci + 6, t, cA, _, rfl, rfl, ht⟩)) hS1 hl)
theorem x_alen {a c0 : Nat} {x : vp_A} {v : Int32} (d : decode M.2.1 pc = .ok (.arraylength, 1)) (ha : h a = some (.inl (c0, x))) (hv : Int32.ofNat x.1 = v) (k : xw G M F L bc bs pr px (pc + 1) lv (.int v :: rest) h) : xw G M F L bc bs pr px pc lv (.ref a :: rest) h :=
  fun p e R s m args below meth c H locs cells slots ls C hR hB hH hS hl => by
    obtain ⟨ws, tys, hP, hK, hD, hA, hO⟩ := id hH
    obtain ⟨q, t, cA, hq, ht⟩ := hA a c0 _ ha
    exact va_alen C.1 C.2.1 hK hP q t hq ht hv d (k p e R s m args below meth c H locs cells slots ls C hR hB hH hS hl)
theorem x_inew {n : Int32} {N : Nat} (d : decode M.2.1 pc = .ok (.newarray .int, 2)) (harr : Cond.arrayClass .int ∈ xw_tbl) (hn : ¬ n < 0) (hN : n.toNatClampNeg = N) (hbytes : N * componentBytes .int ≤ 536870912) (hb : 1 ≤ bc ∧ N ≤ bs)
    (k : ∀ q : Nat, h q = none → xw G M F L (bc - 1) (bs - N) pr px (pc + 2) lv (.ref q :: rest) (xw_up h q (.inl (0, N, .inl (fun _ => 0))))) : xw G M F L bc bs pr px pc lv (.int n :: rest) h :=
  fun p e R s m args below meth c H locs cells slots ls C hR hB hH hS hl => by
    obtain ⟨ws, tys, hP, hK, hD, hA, hO⟩ := id hH
    refine va_newa (a0 := (N, .inl (fun _ => 0))) C.1 C.2.1 (atype := .int) (C.2.2.2.2.2.1 _ harr) rfl hK hP hD hS (xw_F.S0 C.2.2.2.2.2.2.2.2.2) (fun cA => rfl) hn hN hbytes (by omega) (by omega) d (fun q cA H1 hK1 hP1 hD1 hS1 => ?_)
    have hn9 : h q = none := xw_none hD1 hA hO
    exact k q hn9 p e R s m args below meth c H1 locs (cells + 1) (slots + N) ls C hR ⟨by omega, by omega⟩ (xw_H.push hP1 hK1 hD1 hn9 hA hO (Or.inl ⟨0, tys.length, cA, _, rfl, rfl, by simp [xw_ty, newarray.typeOf]⟩)) hS1 hl
theorem x_cnew {n : Int32} {N : Nat} (d : decode M.2.1 pc = .ok (.newarray .char, 2)) (harr : Cond.arrayClass .char ∈ xw_tbl) (hn : ¬ n < 0) (hN : n.toNatClampNeg = N) (hbytes : N * componentBytes .char ≤ 536870912) (hb : 1 ≤ bc ∧ N ≤ bs)
    (k : ∀ q : Nat, h q = none → xw G M F L (bc - 1) (bs - N) pr px (pc + 2) lv (.ref q :: rest) (xw_up h q (.inl (1, N, .inl (fun _ => 0))))) : xw G M F L bc bs pr px pc lv (.int n :: rest) h :=
  fun p e R s m args below meth c H locs cells slots ls C hR hB hH hS hl => by
    obtain ⟨ws, tys, hP, hK, hD, hA, hO⟩ := id hH
    refine va_newa (a0 := (N, .inl (fun _ => 0))) C.1 C.2.1 (atype := .char) (C.2.2.2.2.2.1 _ harr) rfl hK hP hD hS (xw_F.S0 C.2.2.2.2.2.2.2.2.2) (fun cA => rfl) hn hN hbytes (by omega) (by omega) d (fun q cA H1 hK1 hP1 hD1 hS1 => ?_)
    have hn9 : h q = none := xw_none hD1 hA hO
    exact k q hn9 p e R s m args below meth c H1 locs (cells + 1) (slots + N) ls C hR ⟨by omega, by omega⟩ (xw_H.push hP1 hK1 hD1 hn9 hA hO (Or.inl ⟨1, tys.length, cA, _, rfl, rfl, by simp [xw_ty, newarray.typeOf]⟩)) hS1 hl
theorem x_lnew {n : Int32} {N : Nat} (d : decode M.2.1 pc = .ok (.newarray .long, 2)) (harr : Cond.arrayClass .long ∈ xw_tbl) (hn : ¬ n < 0) (hN : n.toNatClampNeg = N) (hbytes : N * componentBytes .long ≤ 536870912) (hb : 1 ≤ bc ∧ N ≤ bs)
    (k : ∀ q : Nat, h q = none → xw G M F L (bc - 1) (bs - N) pr px (pc + 2) lv (.ref q :: rest) (xw_up h q (.inl (2, N, .inr (.inl (fun _ => 0)))))) : xw G M F L bc bs pr px pc lv (.int n :: rest) h :=
  fun p e R s m args below meth c H locs cells slots ls C hR hB hH hS hl => by
    obtain ⟨ws, tys, hP, hK, hD, hA, hO⟩ := id hH
    refine va_newa (a0 := (N, .inr (.inl (fun _ => 0)))) C.1 C.2.1 (atype := .long) (C.2.2.2.2.2.1 _ harr) rfl hK hP hD hS (xw_F.S0 C.2.2.2.2.2.2.2.2.2) (fun cA => rfl) hn hN hbytes (by omega) (by omega) d (fun q cA H1 hK1 hP1 hD1 hS1 => ?_)
    have hn9 : h q = none := xw_none hD1 hA hO
    exact k q hn9 p e R s m args below meth c H1 locs (cells + 1) (slots + N) ls C hR ⟨by omega, by omega⟩ (xw_H.push hP1 hK1 hD1 hn9 hA hO (Or.inl ⟨2, tys.length, cA, _, rfl, rfl, by simp [xw_ty, newarray.typeOf]⟩)) hS1 hl
theorem x_dnew {n : Int32} {N : Nat} (d : decode M.2.1 pc = .ok (.newarray .double, 2)) (harr : Cond.arrayClass .double ∈ xw_tbl) (hn : ¬ n < 0) (hN : n.toNatClampNeg = N) (hbytes : N * componentBytes .double ≤ 536870912) (hb : 1 ≤ bc ∧ N ≤ bs)
    (k : ∀ q : Nat, h q = none → xw G M F L (bc - 1) (bs - N) pr px (pc + 2) lv (.ref q :: rest) (xw_up h q (.inl (3, N, .inr (.inr (.inr (.inl (fun _ => 0)))))))) : xw G M F L bc bs pr px pc lv (.int n :: rest) h :=
  fun p e R s m args below meth c H locs cells slots ls C hR hB hH hS hl => by
    obtain ⟨ws, tys, hP, hK, hD, hA, hO⟩ := id hH
    refine va_newa (a0 := (N, .inr (.inr (.inr (.inl (fun _ => 0)))))) C.1 C.2.1 (atype := .double) (C.2.2.2.2.2.1 _ harr) rfl hK hP hD hS (xw_F.S0 C.2.2.2.2.2.2.2.2.2) (fun cA => rfl) hn hN hbytes (by omega) (by omega) d (fun q cA H1 hK1 hP1 hD1 hS1 => ?_)
    have hn9 : h q = none := xw_none hD1 hA hO
    exact k q hn9 p e R s m args below meth c H1 locs (cells + 1) (slots + N) ls C hR ⟨by omega, by omega⟩ (xw_H.push hP1 hK1 hD1 hn9 hA hO (Or.inl ⟨3, tys.length, cA, _, rfl, rfl, by simp [xw_ty, newarray.typeOf]⟩)) hS1 hl
theorem x_anew {index ci : Nat} {n : Int32} {N : Nat} (d : decode M.2.1 pc = .ok (.anewarray index, 3)) (hci : ci < vwCl.length) (hcl : Cond.classLink M.1.cls index (xw_cl ci).1 ∈ xw_tbl) (hover : ∀ U H, xw_F G U H → va_AO (xw_cl ci).1 U) (hn : ¬ n < 0) (hN : n.toNatClampNeg = N) (hbytes : N * 4 ≤ 536870912) (hb : 1 ≤ bc ∧ N ≤ bs)
    (k : ∀ q : Nat, h q = none → xw G M F L (bc - 1) (bs - N) pr px (pc + 3) lv (.ref q :: rest) (xw_up h q (.inl (ci + 6, N, .inr (.inr (.inr (.inr (fun _ => none)))))))) : xw G M F L bc bs pr px pc lv (.int n :: rest) h :=
  fun p e R s m args below meth c H locs cells slots ls C hR hB hH hS hl => by
    obtain ⟨ws, tys, hP, hK, hD, hA, hO⟩ := id hH
    refine va_newq C.1 C.2.1 C.2.2.2.2.1 (C.2.2.2.2.2.1 _ hcl) (hover s s.heap C.2.2.2.2.2.2.2.2.2) hK hP hD hS (xw_F.S0 C.2.2.2.2.2.2.2.2.2) hn hN hbytes (by omega) (by omega) d (fun q cA H1 hK1 hP1 hD1 hS1 => ?_)
    have hn9 : h q = none := xw_none hD1 hA hO
    exact k q hn9 p e R s m args below meth c H1 locs (cells + 1) (slots + N) ls C hR ⟨by omega, by omega⟩ (xw_H.push hP1 hK1 hD1 hn9 hA hO (Or.inl ⟨ci + 6, tys.length, cA, _, rfl, rfl, by rw [xw_ty_o hci]; simp⟩)) hS1 hl
/-- fewer known, by shape -/
def xw_le : List (Option Value) → List (Option Value) → Prop
  | [], _ => True
  | none :: t, _ :: u => xw_le t u
  | none :: t, [] => xw_le t []
  | some v :: t, some w :: u => v = w ∧ xw_le t u
  | some _ :: _, none :: _ => False
  | some _ :: _, [] => False
theorem xw_le.at : ∀ {lv' lv : List (Option Value)}, xw_le lv' lv → ∀ (i : Nat) (v : Value), lv'[i]? = some (some v) → lv[i]? = some (some v)
  | [], _, _, i, v, hi => by simp at hi
  | none :: t, w :: u, hs, i, v, hi => by
    cases i with
    | zero => simp at hi
    | succ i =>
      have := xw_le.at (lv' := t) (lv := u) hs i v (by simpa using hi)
      simpa using this
  | none :: t, [], hs, i, v, hi => by
    cases i with
    | zero => simp at hi
    | succ i =>
      have := xw_le.at (lv' := t) (lv := []) hs i v (by simpa using hi)
      simp at this
  | some x :: t, some w :: u, hs, i, v, hi => by
    cases i with
    | zero =>
      rw [← hs.1]
      simpa using hi
    | succ i =>
      have := xw_le.at (lv' := t) (lv := u) hs.2 i v (by simpa using hi)
      simpa using this
  | some x :: t, none :: u, hs, i, v, hi => hs.elim
  | some x :: t, [], hs, i, v, hi => hs.elim
theorem x_le {lv' : List (Option Value)} (hs : xw_le lv' lv) (k : xw G M F L bc bs pr px pc lv' st h) : xw G M F L bc bs pr px pc lv st h := x_fewer hs.at k
theorem xw_ne {h : xw_A} {a b : Nat} {x y : xw_C} (ha : h a = some x) (hb : h b = some y) (n : ¬ x = y) : a ≠ b := fun q => by
  subst q
  rw [ha] at hb
  exact n (Option.some.inj hb)
theorem xw_neN {h : xw_A} {a b : Nat} {x : xw_C} (ha : h a = some x) (hb : h b = none) : a ≠ b := fun q => by
  subst q
  rw [ha] at hb
  cases hb
theorem xw_narq (C : String) (r : Option Nat) : narrow (.object C) (va_rf r) = va_rf r := by cases r <;> rfl
theorem xw_fitq (C : String) (r : Option Nat) : fits (.object C) (va_rf r) = true := by cases r <;> rfl
theorem xw_narqA (t : FieldType) (r : Option Nat) : narrow (.array t) (va_rf r) = va_rf r := by cases r <;> rfl
theorem xw_fitqA (t : FieldType) (r : Option Nat) : fits (.array t) (va_rf r) = true := by cases r <;> rfl
theorem x_aloadN_n {k4 : Fin 4} {i : Nat} (d : decode M.2.1 pc = .ok (.aload_n k4, 1)) (hi : (k4 : Nat) = i) (hv : lv[i]? = some (some .null)) (k : xw G M F L bc bs pr px (pc + 1) lv (.null :: rest) h) : xw G M F L bc bs pr px pc lv rest h :=
  fun p e R s m args below meth c H locs cells slots ls C hR hB hH hS hl => lv_aload_nN C.1 C.2.1 d hi (hl.2.2 i _ hv) (k p e R s m args below meth c H locs cells slots ls C hR hB hH hS hl)
theorem x_aloadN {i : Nat} (d : decode M.2.1 pc = .ok (.aload i, 2)) (hv : lv[i]? = some (some .null)) (k : xw G M F L bc bs pr px (pc + 2) lv (.null :: rest) h) : xw G M F L bc bs pr px pc lv rest h :=
  fun p e R s m args below meth c H locs cells slots ls C hR hB hH hS hl => lv_aloadN C.1 C.2.1 d (hl.2.2 i _ hv) (k p e R s m args below meth c H locs cells slots ls C hR hB hH hS hl)
theorem x_aloadq_n {k4 : Fin 4} {i : Nat} {x : Option Nat} (d : decode M.2.1 pc = .ok (.aload_n k4, 1)) (hi : (k4 : Nat) = i) (hv : lv[i]? = some (some (va_rf x))) (k : xw G M F L bc bs pr px (pc + 1) lv (va_rf x :: rest) h) : xw G M F L bc bs pr px pc lv rest h := by
  cases x with
  | none => exact x_aloadN_n d hi hv k
  | some a => exact x_aload_n d hi hv k
theorem x_aloadq {i : Nat} {x : Option Nat} (d : decode M.2.1 pc = .ok (.aload i, 2)) (hv : lv[i]? = some (some (va_rf x))) (k : xw G M F L bc bs pr px (pc + 2) lv (va_rf x :: rest) h) : xw G M F L bc bs pr px pc lv rest h := by
  cases x with
  | none => exact x_aloadN d hv k
  | some a => exact x_aload d hv k
theorem vl_cat (x : Option Nat) : (va_rf x).category = 1 := by cases x <;> rfl
theorem x_astoreN_n {k4 : Fin 4} {i : Nat} (d : decode M.2.1 pc = .ok (.astore_n k4, 1)) (hi : (k4 : Nat) = i) (hn : i < M.2.2.1) (ho : xw_o lv i) (k : xw G M F L bc bs pr px (pc + 1) (lv.set i (some .null)) rest h) : xw G M F L bc bs pr px pc lv (.null :: rest) h :=
  fun p e R s m args below meth c H locs cells slots ls C hR hB hH hS hl => lv_astore_nN C.1 C.2.1 d hi hl.has hn rfl (fun ls2 h2 => k p e R s m args below meth c H locs cells slots ls2 C hR hB hH hS (xw_L.st1 ho h2))
theorem x_astoreN {i : Nat} (d : decode M.2.1 pc = .ok (.astore i, 2)) (hn : i < M.2.2.1) (ho : xw_o lv i) (k : xw G M F L bc bs pr px (pc + 2) (lv.set i (some .null)) rest h) : xw G M F L bc bs pr px pc lv (.null :: rest) h :=
  fun p e R s m args below meth c H locs cells slots ls C hR hB hH hS hl => lv_astoreN C.1 C.2.1 d hl.has hn rfl (fun ls2 h2 => k p e R s m args below meth c H locs cells slots ls2 C hR hB hH hS (xw_L.st1 ho h2))
theorem x_astoreq_n {k4 : Fin 4} {i : Nat} {x : Option Nat} (d : decode M.2.1 pc = .ok (.astore_n k4, 1)) (hi : (k4 : Nat) = i) (hn : i < M.2.2.1) (ho : xw_o lv i) (k : xw G M F L bc bs pr px (pc + 1) (lv.set i (some (va_rf x))) rest h) : xw G M F L bc bs pr px pc lv (va_rf x :: rest) h := by
  cases x with
  | none => exact x_astoreN_n d hi hn ho k
  | some a => exact x_astore_n d hi hn ho k
theorem x_astoreq {i : Nat} {x : Option Nat} (d : decode M.2.1 pc = .ok (.astore i, 2)) (hn : i < M.2.2.1) (ho : xw_o lv i) (k : xw G M F L bc bs pr px (pc + 2) (lv.set i (some (va_rf x))) rest h) : xw G M F L bc bs pr px pc lv (va_rf x :: rest) h := by
  cases x with
  | none => exact x_astoreN d hn ho k
  | some a => exact x_astore d hn ho k
theorem x_ifnullq {x : Option Nat} {off : Int} {tgt : Nat} (d : decode M.2.1 pc = .ok (.ifnull off, 3)) (ht : (pc : Int) + off = (tgt : Int)) (kn : x = none → xw G M F L bc bs pr px tgt lv rest h) (ks : ∀ a : Nat, x = some a → xw G M F L bc bs pr px (pc + 3) lv rest h) : xw G M F L bc bs pr px pc lv (va_rf x :: rest) h := by
  cases x with
  | none => exact x_ifnullN d ht (kn rfl)
  | some a => exact x_ifnull d (ks a rfl)
theorem x_ifnonnullq {x : Option Nat} {off : Int} {tgt : Nat} (d : decode M.2.1 pc = .ok (.ifnonnull off, 3)) (ht : (pc : Int) + off = (tgt : Int)) (kn : x = none → xw G M F L bc bs pr px (pc + 3) lv rest h) (ks : ∀ a : Nat, x = some a → xw G M F L bc bs pr px tgt lv rest h) : xw G M F L bc bs pr px pc lv (va_rf x :: rest) h := by
  cases x with
  | none => exact x_ifnonnullN d (kn rfl)
  | some a => exact x_ifnonnull d ht (ks a rfl)
theorem x_ldc {index : Nat} {v : Int32} (d : decode M.2.1 pc = .ok (.ldc index, 2)) (hw : Cond.constant M.1.cls index v ∈ xw_tbl) (k : xw G M F L bc bs pr px (pc + 2) lv (.int v :: rest) h) : xw G M F L bc bs pr px pc lv rest h :=
  fun p e R s m args below meth c H locs cells slots ls C hR hB hH hS hl => lv_ldc C.1 C.2.1 C.2.2.2.2.1 (C.2.2.2.2.2.1 _ hw) d (k p e R s m args below meth c H locs cells slots ls C hR hB hH hS hl)
theorem x_ldc2 {index : Nat} {v : Int64} (d : decode M.2.1 pc = .ok (.ldc2_w index, 3)) (hw : Cond.constantLong M.1.cls index v ∈ xw_tbl) (k : xw G M F L bc bs pr px (pc + 3) lv (.long v :: rest) h) : xw G M F L bc bs pr px pc lv rest h :=
  fun p e R s m args below meth c H locs cells slots ls C hR hB hH hS hl => lv_ldc2 C.1 C.2.1 C.2.2.2.2.1 (C.2.2.2.2.2.1 _ hw) d (k p e R s m args below meth c H locs cells slots ls C hR hB hH hS hl)
theorem x_ldc2d {index : Nat} {v : UInt64} (d : decode M.2.1 pc = .ok (.ldc2_w index, 3)) (hw : Cond.constantDouble M.1.cls index v ∈ xw_tbl) (k : xw G M F L bc bs pr px (pc + 3) lv (.double v :: rest) h) : xw G M F L bc bs pr px pc lv rest h :=
  fun p e R s m args below meth c H locs cells slots ls C hR hB hH hS hl => lv_ldc2d C.1 C.2.1 C.2.2.2.2.1 (C.2.2.2.2.2.1 _ hw) d (k p e R s m args below meth c H locs cells slots ls C hR hB hH hS hl)
end Rows
