/-! CONTRACTS of xw, and calls by them -/
/-- the locals at the entry -/
def xw_sl : List Value → List (Option Value)
  | [] => []
  | .long x :: t => some (.long x) :: none :: xw_sl t
  | .double x :: t => some (.double x) :: none :: xw_sl t
  | .int x :: t => some (.int x) :: xw_sl t
  | .float x :: t => some (.float x) :: xw_sl t
  | .null :: t => some .null :: xw_sl t
  | .ref a :: t => some (.ref a) :: xw_sl t
  | .retAddr a :: t => some (.retAddr a) :: xw_sl t
theorem xw_sl_at : ∀ (vs : List Value) (i : Nat) (v : Value), (xw_sl vs)[i]? = some (some v) → (lg_sl vs)[i]? = some (.val v)
  | [], i, v, h => by simp [xw_sl] at h
  | .long x :: t, i, v, h => by
    simp only [xw_sl] at h
    have e : lg_sl (.long x :: t) = .val (.long x) :: .second :: lg_sl t := by simp [lg_sl, Value.category]
    rw [e]
    match i, h with
    | 0, h => simpa using h
    | 1, h => simp at h
    | i + 2, h => simpa using xw_sl_at t i v (by simpa using h)
  | .double x :: t, i, v, h => by
    simp only [xw_sl] at h
    have e : lg_sl (.double x :: t) = .val (.double x) :: .second :: lg_sl t := by simp [lg_sl, Value.category]
    rw [e]
    match i, h with
    | 0, h => simpa using h
    | 1, h => simp at h
    | i + 2, h => simpa using xw_sl_at t i v (by simpa using h)
  | .int x :: t, i, v, h => by
    simp only [xw_sl] at h
    have e : lg_sl (.int x :: t) = .val (.int x) :: lg_sl t := by simp [lg_sl, Value.category]
    rw [e]
    match i, h with
    | 0, h => simpa using h
    | i + 1, h => simpa using xw_sl_at t i v (by simpa using h)
  | .float x :: t, i, v, h => by
    simp only [xw_sl] at h
    have e : lg_sl (.float x :: t) = .val (.float x) :: lg_sl t := by simp [lg_sl, Value.category]
    rw [e]
    match i, h with
    | 0, h => simpa using h
    | i + 1, h => simpa using xw_sl_at t i v (by simpa using h)
  | .null :: t, i, v, h => by
    simp only [xw_sl] at h
    have e : lg_sl (.null :: t) = .val .null :: lg_sl t := by simp [lg_sl, Value.category]
    rw [e]
    match i, h with
    | 0, h => simpa using h
    | i + 1, h => simpa using xw_sl_at t i v (by simpa using h)
  | .ref a :: t, i, v, h => by
    simp only [xw_sl] at h
    have e : lg_sl (.ref a :: t) = .val (.ref a) :: lg_sl t := by simp [lg_sl, Value.category]
    rw [e]
    match i, h with
    | 0, h => simpa using h
    | i + 1, h => simpa using xw_sl_at t i v (by simpa using h)
  | .retAddr a :: t, i, v, h => by
    simp only [xw_sl] at h
    have e : lg_sl (.retAddr a :: t) = .val (.retAddr a) :: lg_sl t := by simp [lg_sl, Value.category]
    rw [e]
    match i, h with
    | 0, h => simpa using h
    | i + 1, h => simpa using xw_sl_at t i v (by simpa using h)
theorem xw_L.entry {vs : List Value} {n : Nat} (hn : (lg_sl vs).length ≤ n) {lv : List (Option Value)} (hs : ∀ (i : Nat) (v : Value), lv[i]? = some (some v) → (xw_sl vs)[i]? = some (some v)) : xw_L ((lg_sl vs ++ List.replicate (n - (lg_sl vs).length) Slot.unset).toArray) n lv := by
  obtain ⟨h1, h2, -⟩ := lv_entry vs hn
  refine ⟨h1, h2, fun i v hi => ?_⟩
  have h3 := xw_sl_at vs i v (hs i v hi)
  simp only [List.getElem?_toArray]
  rw [List.getElem?_append_left (List.getElem?_eq_some_iff.mp h3).1]
  exact h3
/-- the locals at the entry, filled up with unknown ones -/
def xw_en (n : Nat) (vs : List Value) : List (Option Value) := xw_sl vs ++ List.replicate (n - (xw_sl vs).length) none
theorem xw_en_at {n : Nat} {vs : List Value} (i : Nat) (v : Value) (h : (xw_en n vs)[i]? = some (some v)) : (xw_sl vs)[i]? = some (some v) := by
  unfold xw_en at h
  by_cases hl : i < (xw_sl vs).length
  · rw [List.getElem?_append_left hl] at h
    exact h
  · rw [List.getElem?_append_right (by omega), List.getElem?_replicate] at h
    split at h
    · cases h
    · cases h
def xw_Met (G : xw_G) (M : xw_M) (F L mc ms : Nat) (av : List Value) (h : xw_A) (pr : Option Value → xw_A → Prop) (px : String → xw_A → Prop) : Prop :=
  MetFree G.1 M.1 (headSpec (Cond.code M.1 M.2.1 M.2.2.1 M.2.2.2.1 :: xw_tbl) { frames := F, cells := mc, slots := ms, locals := L }) (va_Pc av (fun U => xw_H G h U U.heap ∧ xw_F G U U.heap)) (fun _ _ _ _ _ => True) (xw_E G pr px mc ms)
/-- it never throws: the kit's contract -/
theorem xw_Met.met {G : xw_G} {M : xw_M} {F L mc ms : Nat} {av : List Value} {h : xw_A} {pr : Option Value → xw_A → Prop} (k : xw_Met G M F L mc ms av h pr (fun _ _ => False)) :
    Met G.1 M.1 (Cond.code M.1 M.2.1 M.2.2.1 M.2.2.2.1 :: xw_tbl) { frames := F, cells := mc, slots := ms, locals := L } (va_Pc av (fun U => xw_H G h U U.heap ∧ xw_F G U U.heap)) (xw_Q G pr) mc ms (xw_g G) := by
  intro p e h1 h2 h3 s m args below h4 h5 h6 h7
  obtain ⟨n, o, a1, a2, a3, a4⟩ := k p e h1 h2 h3 s m args below h4 h5 h6 h7
  refine ⟨n, o, a1, a2, a3, ?_⟩
  rcases a4 with a4 | ⟨q, -, E, ce, LL, g, hf, -⟩
  · exact a4
  · exact hf.elim
theorem xw_Met.of {G : xw_G} {M : xw_M} {F L mc ms : Nat} {av : List Value} {h : xw_A} {pr : Option Value → xw_A → Prop} {px : String → xw_A → Prop} (hM : M.2.2.2.2 = []) (hpl : plainName M.1.cls = true) (hsl : (lg_sl av).length ≤ M.2.2.1)
    (k : xw G M F L mc ms pr px 0 (xw_en M.2.2.1 av) [] h) : xw_Met G M F L mc ms av h pr px := by
  refine MetFree.of_bodyS (code := M.2.1) (maxLocals := M.2.2.1) (ret := M.2.2.2.1) hpl ?_ ?_
  · intro args s m h hn
    obtain ⟨meth, c, h1, h2, h3, h4, h5, h6, -, -⟩ := Cond.code_spec hn (atoms_spec (ws := Cond.code M.1 M.2.1 M.2.2.1 M.2.2.2.1 :: xw_tbl) h _ List.mem_cons_self)
    exact ⟨meth, c, h1, h2, h3, h4, h5, h6⟩
  intro p e s m args below meth c s₁ B hml hv _
  obtain ⟨rfl, hH, hF⟩ := hv
  have hts := atoms_spec (ws := Cond.code M.1 M.2.1 M.2.2.1 M.2.2.2.1 :: xw_tbl) B.pre
  have htab : c.exceptionTable.toList = tableOf M.2.2.2.2 := by
    obtain ⟨meth9, c9, h1, h2, -, -, -, -, h7, -⟩ := Cond.code_spec B.named (hts _ List.mem_cons_self)
    cases Option.some.inj (h1.symm.trans B.method)
    cases Option.some.inj (h2.symm.trans (Stand.of_body B).code)
    rw [hM, Array.isEmpty_iff.mp h7]
    rfl
  have hh0 : s₁.heap = s.heap := by rw [B.state]; rfl
  have K : W p G.1 e (headSpec (Cond.code M.1 M.2.1 M.2.2.1 M.2.2.2.1 :: xw_tbl) { frames := F, cells := mc, slots := ms, locals := L }).room s m av.toArray below meth c s.heap [] 0 0 (xw_Z G pr px below av.toArray s mc ms) (entryFrame m av.toArray M.2.2.1) := by
    rw [lg_entry_eq]
    exact k p e _ s m av.toArray below meth c s.heap [] 0 0 _ ⟨B.exec, B.bytes, B.returns, hml, findClass_of_methodNamed B.named, fun w hw => hts w (List.mem_cons_of_mem _ hw), B.notSynchronized, htab, (name_of_methodNamed B.named B.method).1, hF⟩
      ⟨Nat.le_refl _, Nat.le_refl _⟩ ⟨Nat.le_of_eq (Nat.zero_add _), Nat.le_of_eq (Nat.zero_add _)⟩ hH va_S.rf (xw_L.entry hsl xw_en_at)
  obtain ⟨t, a1, o, b1, b2, b3⟩ := K s₁ hh0 (Stand.of_body B)
  exact ⟨t, o, a1, b1, b2, b3⟩
/-- weaker ends -/
theorem xw.mono {G : xw_G} {M : xw_M} {F L bc bs : Nat} {pr pr' : Option Value → xw_A → Prop} {px px' : String → xw_A → Prop} {pc : Nat} {lv : List (Option Value)} {st : List Value} {h : xw_A} (h1 : ∀ v h1, pr v h1 → pr' v h1) (h2 : ∀ E h1, px E h1 → px' E h1) (k : xw G M F L bc bs pr px pc lv st h) : xw G M F L bc bs pr' px' pc lv st h := by
  intro p e R s m args below meth c H locs cells slots ls C hR hB hH hS hl T hT X
  obtain ⟨t, a, o, b1, b2, b3⟩ := k p e R s m args below meth c H locs cells slots ls C hR hB hH hS hl T hT X
  refine ⟨t, a, o, b1, b2, ?_⟩
  rcases b3 with ⟨⟨⟨v, g, e1, e2, e3⟩, e4⟩, b4⟩ | ⟨q, e1, E, ce, LL, g, e2, b4⟩
  · exact Or.inl ⟨⟨⟨v, g, e1, h1 v g e2, e3⟩, e4⟩, b4⟩
  · exact Or.inr ⟨q, e1, E, ce, LL, g, h2 E g e2, b4⟩
theorem xw_blind {G : xw_G} {h : xw_A} {av : List Value} : FrameBlind (va_Pc av (fun U => xw_H G h U U.heap ∧ xw_F G U U.heap)) :=
  fun a U g mk q => ⟨q.1, xw_H.moved (u := U) (U := U.calling g mk a) (Vm.Alike.refl U.vm) q.2.1, xw_F.moved (u := U) (U := U.calling g mk a) (State.WarmedH.refl U) (fun _ _ _ => rfl) q.2.2⟩
section Calls
variable {G : xw_G} {M : xw_M} {F L bc bs : Nat} {pr : Option Value → xw_A → Prop} {px : String → xw_A → Prop} {pc : Nat} {lv : List (Option Value)} {rest st : List Value} {h : xw_A}
/-- behind a run of a callee that returns -/
theorem xw_run {mc ms : Nat} {pq : Option Value → xw_A → Prop} (hc : mc ≤ bc ∧ ms ≤ bs) {st0 : List Value} {a9 : Array Value}
    (k : ∀ v h1, pq v h1 → xw G M F L (bc - mc) (bs - ms) pr px (pc + 3) lv (v.toList ++ rest) h1)
    {p : Program} {e : Env} {R : Room} {s : State} {m : MethodId} {args : Array Value} {below : List Frame} {meth : Method} {c : Code} {H : Heap} {locs : List Loc} {cells slots : Nat} {ls : Array Slot}
    (C : xw_K G M p s m args meth c) (hR : F ≤ R.frames ∧ L ≤ R.locals) (hB : cells + bc ≤ R.cells ∧ slots + bs ≤ R.slots) (hS : va_S (xw_g G) s.heap H locs) (hl : xw_L ls M.2.2.1 lv)
    (hr : va_Run p G.1 e R s m args below meth c H locs cells slots mc ms (F0 m pc ls st0) rest (xw_Q G pq a9) (xw_g G)) :
    W p G.1 e R s m args below meth c H locs cells slots (xw_Z G pr px below args s R.cells R.slots) (F0 m pc ls st0) := by
  intro T hT X
  obtain ⟨v, st₀, t, T', LL, h0, X', hL, e1, e2, ⟨⟨v', h1, hv, hp, hH1⟩, hF⟩, stp⟩ := hr T hT X
  cases hv
  obtain ⟨hz, hk⟩ := hF
  rw [h0] at hz hk
  have k3 : va_S (xw_g G) s.heap T'.heap (locs ++ LL) := ⟨Nat.le_trans hS.1 (by rw [e1]; exact hz), fun q h1 h2 => by rw [e1, hk q (Nat.lt_of_lt_of_le h1 hS.1) h2]; exact hS.2.1 q h1 h2, fun q hq => by
    rcases List.mem_append.mp hq with h | h
    · exact hS.2.2 q h
    · exact hL q h⟩
  obtain ⟨t2, a1, b1⟩ := k v h1 hp p e R s m args below meth c T'.heap (locs ++ LL) (cells + mc) (slots + ms) ls C hR ⟨by omega, by omega⟩ (xw_H.moved (u := t) (by rw [← e2]; exact X'.warmed.alike.symm) (by rw [e1]; exact hH1)) k3 hl T' rfl X'
  exact ⟨t2, stp t2 a1, b1⟩
/-- the words of a callee are among ours -/
theorem xw_goodIn {M1 : xw_M} {pre : List Cond} (hpre : ∀ w ∈ pre, w ∈ xw_tbl) (hcode : Cond.code M1.1 M1.2.1 M1.2.2.1 M1.2.2.2.1 ∈ xw_tbl) : GoodIn xw_tbl (pre ++ Cond.code M1.1 M1.2.1 M1.2.2.1 M1.2.2.2.1 :: xw_tbl) := by
  have key : ∀ w ∈ pre ++ Cond.code M1.1 M1.2.1 M1.2.2.1 M1.2.2.2.1 :: xw_tbl, w ∈ xw_tbl := by
    intro w hw
    rcases List.mem_append.mp hw with h1 | h1
    · exact hpre w h1
    · rcases List.mem_cons.mp h1 with h2 | h2
      · rw [h2]; exact hcode
      · exact h2
  exact fun w hw => ⟨key w hw, xw_good w (key w hw)⟩
theorem x_callV {index b ci F1 L1 mc ms : Nat} {M1 : xw_M} {As fs : List Value} {pq : Option Value → xw_A → Prop} (d : decode M.2.1 pc = .ok (.invokevirtual index, 3)) (hs : xw_sV M.1.cls index M1 As.length)
    (hM : xw_Met G M1 F1 L1 mc ms (.ref b :: As) h pq (fun _ _ => False)) (hb : h b = some (.inr (ci, fs))) (hci : ci < vwCl.length ∧ (xw_cl ci).1 = M1.1.cls) (hr : F1 + 1 ≤ F ∧ 8 + (M1.2.2.1 + 11) + L1 ≤ L) (hc : mc ≤ bc ∧ ms ≤ bs) (hw : (rest.map fun v => v.category).sum ≤ 8)
    (k : ∀ v h1, pq v h1 → xw G M F L (bc - mc) (bs - ms) pr px (pc + 3) lv (v.toList ++ rest) h1) : xw G M F L bc bs pr px pc lv (As.reverse ++ .ref b :: rest) h := by
  intro p e R s m args below meth c H locs cells slots ls C hR hB hH hS hl
  obtain ⟨ws, tys, hP, hK, hD, hA, hO⟩ := id hH
  obtain ⟨q, hq⟩ := hO b ci fs hb
  obtain ⟨s1, s2, s3, s4, s5⟩ := hs
  have hrecv := va_recv hK hP (xw_cl_get hci.1) hq
  rw [hci.2] at hrecv
  exact xw_run hc k C hR hB hS hl (va_runV (C := M1.1.cls) (As := As) (rest := rest) (n := As.length) (Ts := xw_tbl) ⟨C.1, C.2.1, C.2.2.2.1, C.2.2.2.2.1, C.2.2.2.2.2.1⟩ hM.met
    (cwV As.length C.2.2.2.2.2.1 (xw_goodIn s1 s2) rfl rfl rfl ⟨rfl, s3, s4, s5⟩ ⟨Nat.le_trans hr.1 hR.1, Nat.le_trans hr.2 hR.2⟩)
    ⟨xw_blind, hrecv, fun U hU hW => ⟨rfl, xw_H.moved hW.alike (by rw [hU]; exact hH), xw_F.moved hW (fun q h1 h2 => by rw [hU]; exact hS.2.1 q h1 (fun h3 => Nat.lt_irrefl _ (Nat.lt_of_lt_of_le h2 h3))) C.2.2.2.2.2.2.2.2.2⟩⟩ rfl rfl hl.1 rfl (lv_room hw) d ⟨by omega, by omega⟩)
theorem x_callS {index F1 L1 mc ms : Nat} {M1 : xw_M} {As : List Value} {pq : Option Value → xw_A → Prop} (d : decode M.2.1 pc = .ok (.invokestatic index, 3)) (hs : xw_sS M.1.cls index M1 As.length)
    (hM : xw_Met G M1 F1 L1 mc ms As h pq (fun _ _ => False)) (hr : F1 + 1 ≤ F ∧ 8 + (M1.2.2.1 + 11) + L1 ≤ L) (hc : mc ≤ bc ∧ ms ≤ bs) (hw : (rest.map fun v => v.category).sum ≤ 8)
    (k : ∀ v h1, pq v h1 → xw G M F L (bc - mc) (bs - ms) pr px (pc + 3) lv (v.toList ++ rest) h1) : xw G M F L bc bs pr px pc lv (As.reverse ++ rest) h := by
  intro p e R s m args below meth c H locs cells slots ls C hR hB hH hS hl
  obtain ⟨s1, s2, s3, s4, s5⟩ := hs
  exact xw_run hc k C hR hB hS hl (va_runS (As := As) (rest := rest) (n := As.length) (Ts := xw_tbl) ⟨C.1, C.2.1, C.2.2.2.1, C.2.2.2.2.1, C.2.2.2.2.2.1⟩ hM.met
    (va_cwS As.length C.2.2.2.2.2.1 (xw_goodIn s1 s2) rfl rfl rfl ⟨s3, s4, s5⟩ ⟨Nat.le_trans hr.1 hR.1, Nat.le_trans hr.2 hR.2⟩)
    ⟨xw_blind, fun U hU hW => ⟨rfl, xw_H.moved hW.alike (by rw [hU]; exact hH), xw_F.moved hW (fun q h1 h2 => by rw [hU]; exact hS.2.1 q h1 (fun h3 => Nat.lt_irrefl _ (Nat.lt_of_lt_of_le h2 h3))) C.2.2.2.2.2.2.2.2.2⟩⟩ rfl rfl hl.1 rfl (lv_room hw) d ⟨by omega, by omega⟩)
theorem x_callI {index b F1 L1 mc ms : Nat} {M1 : xw_M} {As : List Value} {pq : Option Value → xw_A → Prop} (d : decode M.2.1 pc = .ok (.invokespecial index, 3)) (hs : xw_sI M.1.cls index M1 As.length)
    (hM : xw_Met G M1 F1 L1 mc ms (.ref b :: As) h pq (fun _ _ => False)) (hr : F1 + 1 ≤ F ∧ 8 + (M1.2.2.1 + 11) + L1 ≤ L) (hc : mc ≤ bc ∧ ms ≤ bs) (hw : (rest.map fun v => v.category).sum ≤ 8)
    (k : ∀ v h1, pq v h1 → xw G M F L (bc - mc) (bs - ms) pr px (pc + 3) lv (v.toList ++ rest) h1) : xw G M F L bc bs pr px pc lv (As.reverse ++ .ref b :: rest) h := by
  intro p e R s m args below meth c H locs cells slots ls C hR hB hH hS hl
  obtain ⟨s1, s2, s3, s4, s5, s6, s7⟩ := hs
  have cb := callB_of (R := R) (s := s) (args := args) (own := M.1.cls) (index := index) (y := M1.1) (rm := { frames := F1, cells := mc, slots := ms, locals := L1 }) (mc := mc) (ms := ms) As.length C.2.2.2.2.2.1 (xw_goodIn (pre := []) (M1 := M1) (fun w hw => by cases hw) s2) rfl rfl rfl (C.2.2.2.2.2.1 _ (s1 _ (by simp))) (C.2.2.2.2.2.1 _ (s1 _ (by simp))) ⟨s3, s4, s5⟩ ⟨Nat.le_trans hr.1 hR.1, Nat.le_trans hr.2 hR.2⟩
  rw [s7] at cb
  have hM' := hM.met
  rw [s7] at hM'
  exact xw_run hc k C hR hB hS hl (va_runI (As := As) (rest := rest) (n := As.length) (Ts := xw_tbl) ⟨C.1, C.2.1, C.2.2.2.1, C.2.2.2.2.1, C.2.2.2.2.2.1⟩ hM'
    ⟨cb, s6, C.2.2.2.2.2.1 _ (s1 _ (by simp))⟩
    ⟨xw_blind, fun U hU hW => ⟨rfl, xw_H.moved hW.alike (by rw [hU]; exact hH), xw_F.moved hW (fun q h1 h2 => by rw [hU]; exact hS.2.1 q h1 (fun h3 => Nat.lt_irrefl _ (Nat.lt_of_lt_of_le h2 h3))) C.2.2.2.2.2.2.2.2.2⟩⟩ rfl rfl hl.1 rfl (lv_room hw) d ⟨by omega, by omega⟩)
/-- Object's constructor -/
theorem x_objInit {index a : Nat} (d : decode M.2.1 pc = .ok (.invokespecial index, 3)) (hs : ∀ w ∈ ([.methodLink M.1.cls index objectInit, .instanceMethod objectInit, .code objectInit ⟨#[0xb1]⟩ 1 none] : List Cond), w ∈ xw_tbl) (hF : 1 ≤ F) (hL : (rest.map fun v => v.category).sum + 12 ≤ L)
    (k : xw G M F L bc bs pr px (pc + 3) lv rest h) : xw G M F L bc bs pr px pc lv (.ref a :: rest) h := by
  intro p e R s m args below meth c H locs cells slots ls C hR hB hH hS hl
  exact W.objInit C.1 C.2.1 C.2.2.2.2.1 (C.2.2.2.2.2.1 _ (hs _ (by simp))) (C.2.2.2.2.2.1 _ (hs _ (by simp))) (C.2.2.2.2.2.1 _ (hs _ (by simp))) rfl (hl.1.trans C.2.2.2.1.symm) rfl d (Nat.le_trans hF hR.1)
    (by have := hR.2; show 2 * 0 + _ + 12 ≤ _; omega) (k p e R s m args below meth c H locs cells slots ls C hR hB hH hS hl)
theorem x_callIN {index b F1 L1 mc ms : Nat} {host : String} {M1 : xw_M} {As : List Value} {pq : Option Value → xw_A → Prop} (d : decode M.2.1 pc = .ok (.invokespecial index, 3)) (hs : xw_sIN M.1.cls index M1 host As.length)
    (hM : xw_Met G M1 F1 L1 mc ms (.ref b :: As) h pq (fun _ _ => False)) (hr : F1 + 1 ≤ F ∧ 8 + (M1.2.2.1 + 11) + L1 ≤ L) (hc : mc ≤ bc ∧ ms ≤ bs) (hw : (rest.map fun v => v.category).sum ≤ 8)
    (k : ∀ v h1, pq v h1 → xw G M F L (bc - mc) (bs - ms) pr px (pc + 3) lv (v.toList ++ rest) h1) : xw G M F L bc bs pr px pc lv (As.reverse ++ .ref b :: rest) h := by
  intro p e R s m args below meth c H locs cells slots ls C hR hB hH hS hl
  obtain ⟨s0, s1, s2, s3, s4, s5, s6, s7⟩ := hs
  have cb := va_cnB (R := R) (s := s) (args := args) (own := M.1.cls) (host := host) (index := index) (y := M1.1) (rm := { frames := F1, cells := mc, slots := ms, locals := L1 }) (mc := mc) (ms := ms) As.length C.2.2.2.2.2.1 (xw_goodIn (pre := []) (M1 := M1) (fun w hw => by cases hw) s2) rfl rfl rfl (xw_F.nest C.2.2.2.2.2.2.2.2.2 s0) (C.2.2.2.2.2.1 _ (s1 _ (by simp))) ⟨s3, s4, s5⟩ ⟨Nat.le_trans hr.1 hR.1, Nat.le_trans hr.2 hR.2⟩
  rw [s7] at cb
  have hM' := hM.met
  rw [s7] at hM'
  exact xw_run hc k C hR hB hS hl (va_runIN (As := As) (rest := rest) (n := As.length) (Ts := xw_tbl) ⟨C.1, C.2.1, C.2.2.2.1, C.2.2.2.2.1, C.2.2.2.2.2.1⟩ hM'
    ⟨cb, s6, C.2.2.2.2.2.1 _ (s1 _ (by simp))⟩
    ⟨xw_blind, fun U hU hW => ⟨rfl, xw_H.moved hW.alike (by rw [hU]; exact hH), xw_F.moved hW (fun q h1 h2 => by rw [hU]; exact hS.2.1 q h1 (fun h3 => Nat.lt_irrefl _ (Nat.lt_of_lt_of_le h2 h3))) C.2.2.2.2.2.2.2.2.2⟩⟩ rfl rfl hl.1 rfl (lv_room hw) d ⟨by omega, by omega⟩)
theorem x_callSN {index F1 L1 mc ms : Nat} {host : String} {M1 : xw_M} {As : List Value} {pq : Option Value → xw_A → Prop} (d : decode M.2.1 pc = .ok (.invokestatic index, 3)) (hs : xw_sSN M.1.cls index M1 host As.length)
    (hM : xw_Met G M1 F1 L1 mc ms As h pq (fun _ _ => False)) (hr : F1 + 1 ≤ F ∧ 8 + (M1.2.2.1 + 11) + L1 ≤ L) (hc : mc ≤ bc ∧ ms ≤ bs) (hw : (rest.map fun v => v.category).sum ≤ 8)
    (k : ∀ v h1, pq v h1 → xw G M F L (bc - mc) (bs - ms) pr px (pc + 3) lv (v.toList ++ rest) h1) : xw G M F L bc bs pr px pc lv (As.reverse ++ rest) h := by
  intro p e R s m args below meth c H locs cells slots ls C hR hB hH hS hl
  obtain ⟨s0, s1, s2, s3, s4, s5⟩ := hs
  exact xw_run hc k C hR hB hS hl (va_runSN (As := As) (rest := rest) (n := As.length) (Ts := xw_tbl) ⟨C.1, C.2.1, C.2.2.2.1, C.2.2.2.2.1, C.2.2.2.2.2.1⟩ hM.met
    ⟨va_cnB (host := host) As.length C.2.2.2.2.2.1 (xw_goodIn (pre := []) (M1 := M1) (fun w hw => by cases hw) s2) rfl rfl rfl (xw_F.nest C.2.2.2.2.2.2.2.2.2 s0) (C.2.2.2.2.2.1 _ (s1 _ (by simp))) ⟨s3, s4, s5⟩ ⟨Nat.le_trans hr.1 hR.1, Nat.le_trans hr.2 hR.2⟩, C.2.2.2.2.2.1 _ (s1 _ (by simp)), trivial⟩
    ⟨xw_blind, fun U hU hW => ⟨rfl, xw_H.moved hW.alike (by rw [hU]; exact hH), xw_F.moved hW (fun q h1 h2 => by rw [hU]; exact hS.2.1 q h1 (fun h3 => Nat.lt_irrefl _ (Nat.lt_of_lt_of_le h2 h3))) C.2.2.2.2.2.2.2.2.2⟩⟩ rfl rfl hl.1 rfl (lv_room hw) d ⟨by omega, by omega⟩)
end Calls
