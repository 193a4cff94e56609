/-! METHODS WITH HANDLERS OF THEIR OWN (the law's helpers), their static calls; the script; the law's end -/
def xw_MetH (G : xw_G) (M : xw_M) (F L mc ms : Nat) (av : List Value) (h : xw_A) (pr : Option Value → xw_A → Prop) : Prop :=
  MetFree G.1 M.1 (headSpec (Cond.codeWith M.1 M.2.1 M.2.2.1 M.2.2.2.1 M.2.2.2.2 :: xw_tbl) { frames := F, cells := mc, slots := ms, locals := L }) (va_Pc av (fun U => xw_H G h U U.heap ∧ xw_F G U U.heap)) (fun _ _ _ _ _ => True) (xw_E G pr (fun _ _ => False) mc ms)
theorem xw_MetH.of {G : xw_G} {M : xw_M} {F L mc ms : Nat} {av : List Value} {h : xw_A} {pr : Option Value → xw_A → Prop} (hpl : plainName M.1.cls = true) (hsl : (lg_sl av).length ≤ M.2.2.1)
    (k : xw G M F L mc ms pr (fun _ _ => False) 0 (xw_en M.2.2.1 av) [] h) : xw_MetH G M F L mc ms av h pr := by
  refine MetFree.of_bodyS (code := M.2.1) (maxLocals := M.2.2.1) (ret := M.2.2.2.1) hpl ?_ ?_
  · intro args s m h hn
    obtain ⟨m9, meth, c, hn9, h1, h2, h3, h4, h6, h5, h7, -⟩ := Cond.codeWith_spec (atoms_spec (ws := Cond.codeWith M.1 M.2.1 M.2.2.1 M.2.2.2.1 M.2.2.2.2 :: xw_tbl) h _ List.mem_cons_self)
    cases Option.some.inj (hn9.symm.trans hn)
    exact ⟨meth, c, h1, h2, h3, h4, h5, h7⟩
  intro p e s m args below meth c s₁ B hml hv _
  obtain ⟨rfl, hH, hF⟩ := hv
  have hts := atoms_spec (ws := Cond.codeWith M.1 M.2.1 M.2.2.1 M.2.2.2.1 M.2.2.2.2 :: xw_tbl) B.pre
  have htab : c.exceptionTable.toList = tableOf M.2.2.2.2 := by
    obtain ⟨m9, meth9, c9, hn9, h1, h2, -, -, h6, -⟩ := Cond.codeWith_spec (hts _ List.mem_cons_self)
    cases Option.some.inj (hn9.symm.trans B.named)
    cases Option.some.inj (h1.symm.trans B.method)
    cases Option.some.inj (h2.symm.trans (Stand.of_body B).code)
    rw [← h6, table_eq]
  have hh0 : s₁.heap = s.heap := by rw [B.state]; rfl
  have K : W p G.1 e (headSpec (Cond.codeWith M.1 M.2.1 M.2.2.1 M.2.2.2.1 M.2.2.2.2 :: xw_tbl) { frames := F, cells := mc, slots := ms, locals := L }).room s m av.toArray below meth c s.heap [] 0 0 (xw_Z G pr (fun _ _ => False) below av.toArray s mc ms) (entryFrame m av.toArray M.2.2.1) := by
    rw [lg_entry_eq]
    exact k p e _ s m av.toArray below meth c s.heap [] 0 0 _ ⟨B.exec, B.bytes, B.returns, hml, findClass_of_methodNamed B.named, fun w hw => hts w (List.mem_cons_of_mem _ hw), B.notSynchronized, htab, (name_of_methodNamed B.named B.method).1, hF⟩
      ⟨Nat.le_refl _, Nat.le_refl _⟩ ⟨Nat.le_of_eq (Nat.zero_add _), Nat.le_of_eq (Nat.zero_add _)⟩ hH va_S.rf (xw_L.entry hsl xw_en_at)
  obtain ⟨t, a1, o, b1, b2, b3⟩ := K s₁ hh0 (Stand.of_body B)
  exact ⟨t, o, a1, b1, b2, b3⟩
/-- a site: a static method with handlers -/
def xw_sSH (own : String) (index : Nat) (M1 : xw_M) (n : Nat) : Prop :=
  (∀ w ∈ ([.methodLink own index M1.1, .static M1.1, .initialized M1.1.cls, .codeWith M1.1 M1.2.1 M1.2.2.1 M1.2.2.2.1 M1.2.2.2.2] : List Cond), w ∈ xw_tbl) ∧ M1.1.cls ≠ "java/lang/invoke/MethodHandle" ∧ M1.1.cls ≠ "java/lang/invoke/VarHandle" ∧ (parseMethodDescriptor M1.1.desc).map (fun d => d.parameters.length) = some n
section CallH
variable {G : xw_G} {M : xw_M} {F L bc bs : Nat} {pr : Option Value → xw_A → Prop} {px : String → xw_A → Prop} {pc : Nat} {lv : List (Option Value)} {rest st : List Value} {h : xw_A}
theorem x_callSH {index F1 L1 mc ms : Nat} {M1 : xw_M} {As : List Value} {pq : Option Value → xw_A → Prop} (d : decode M.2.1 pc = .ok (.invokestatic index, 3)) (hs : xw_sSH M.1.cls index M1 As.length)
    (hM : xw_MetH G M1 F1 L1 mc ms As h pq) (hr : F1 + 1 ≤ F ∧ 8 + (M1.2.2.1 + 11) + L1 ≤ L) (hc : mc ≤ bc ∧ ms ≤ bs) (hw : (rest.map fun v => v.category).sum ≤ 8)
    (k : ∀ v h1, pq v h1 → xw G M F L (bc - mc) (bs - ms) pr px (pc + 3) lv (v.toList ++ rest) h1) : xw G M F L bc bs pr px pc lv (As.reverse ++ rest) h := by
  intro p e R s m args below meth c H locs cells slots ls C hR hB hH hS hl T hT X
  obtain ⟨s1, s3, s4, s5⟩ := hs
  have hcode := C.2.2.2.2.2.1 (.codeWith M1.1 M1.2.1 M1.2.2.1 M1.2.2.2.1 M1.2.2.2.2) (s1 _ (by simp))
  obtain ⟨mk, methM, cM, hnamed, hmethM, -, -, -, -, -, -, hsigM⟩ := Cond.codeWith_spec hcode
  have hstatic : methM.isStatic = true := Cond.static_spec hnamed hmethM (C.2.2.2.2.2.1 (.static M1.1) (s1 _ (by simp)))
  obtain ⟨kP, hkP, -⟩ := className_of_methodNamed hnamed
  have hinitP : kP.init = .initialized := Cond.initialized_spec (findClass_of_methodNamed hnamed) hkP (C.2.2.2.2.2.1 (.initialized M1.1.cls) (s1 _ (by simp)))
  have hlen : ∀ sig, parseMethodDescriptor M1.1.desc = some sig → As.length = sig.parameters.length := fun sig h9 => by
    have h2 := s5
    rw [h9] at h2
    exact (Option.some.inj h2).symm
  obtain ⟨vm1, X1, hstep⟩ := X.invokestatic C.1 C.2.2.2.2.1 (C.2.2.2.2.2.1 (.methodLink M.1.cls index M1.1) (s1 _ (by simp))) hnamed hmethM hstatic hkP hinitP ⟨s3, s4⟩ (g := F0 m pc ls (As.reverse ++ rest)) rfl (argsL := As) (rest := rest) (hlen _ hsigM) rfl (by rw [C.2.1]; exact d)
  have hF0 := C.2.2.2.2.2.2.2.2.2
  have hFT : xw_F G (T.setVm vm1) (T.setVm vm1).heap := xw_F.moved (U := T.setVm vm1) X1.warmed (fun q h1 h2 => by show T.heap[q]? = _; rw [hT]; exact hS.2.1 q h1 (Nat.not_le.mpr h2)) hF0
  have hHT : xw_H G h (T.setVm vm1) (T.setVm vm1).heap := xw_H.moved X1.warmed.alike (by show xw_H G h s T.heap; rw [hT]; exact hH)
  have wd : ∀ w ∈ xw_tbl, w.before As.toArray (T.setVm vm1) = true := fun w hw => word_at (U := T.setVm vm1) X1.warmed (xw_good w hw) (C.2.2.2.2.2.1 w hw)
  have hn1 := X1.named hnamed
  obtain ⟨mk9, methY, cY, hn9, hmY, hcY, -, hlY, -, -, -, -⟩ := Cond.codeWith_spec (wd _ (s1 (.codeWith M1.1 M1.2.1 M1.2.2.1 M1.2.2.2.1 M1.2.2.2.2) (by simp)))
  cases Option.some.inj (hn9.symm.trans hn1)
  obtain ⟨kY, hkY, -⟩ := className_of_methodNamed hn1
  have hinitY : kY.init = .initialized := Cond.initialized_spec (findClass_of_methodNamed hn1) hkY (wd (.initialized M1.1.cls) (s1 _ (by simp)))
  have hat : At (T.setVm vm1) m c below := X1.here
  have hpre : (headSpec (Cond.codeWith M1.1 M1.2.1 M1.2.2.1 M1.2.2.2.1 M1.2.2.2.2 :: xw_tbl) { frames := F1, cells := mc, slots := ms, locals := L1 }).pre.before As.toArray (T.setVm vm1) = true :=
    atoms_intro (fun w hw => by
      rcases List.mem_cons.mp hw with h1 | h1
      · rw [h1]; exact wd _ (s1 _ (by simp))
      · exact wd w h1)
  have hdg : decode c.code (F0 m pc ls rest).pc = .ok (.invokestatic index, 3) := by rw [C.2.1]; exact d
  have happ : (headSpec (Cond.codeWith M1.1 M1.2.1 M1.2.2.1 M1.2.2.2.1 M1.2.2.2.2 :: xw_tbl) { frames := F1, cells := mc, slots := ms, locals := L1 }).appliesLoose M1.1 e.platform ((T.setVm vm1).calling (F0 m pc ls rest) mk As.toArray) = true :=
    Spec.appliesLoose_calling (g := F0 m pc ls rest) hat hdg hn1 hkY hinitY (X1.room_calling (g := F0 m pc ls rest) (R' := { frames := F1, cells := mc, slots := ms, locals := L1 }) (hl.1.trans C.2.2.2.1.symm) hmY hcY (Nat.le_trans hr.1 hR.1) (by have h8 : 2 * (F0 m pc ls rest).monitorRoom + ((F0 m pc ls rest).stack.map fun v => v.category).sum ≤ 8 := lv_room hw; have := hr.2; have := hR.2; rw [hlY]; show _ + _ + L1 ≤ _; omega) (by show cells + mc ≤ _; omega) (by show slots + ms ≤ _; omega)) hpre
  obtain ⟨mid, hmid⟩ := hat.above
  have hfr : ((T.setVm vm1).setTop (F0 m pc ls rest)).frames = (.java (F0 m pc ls rest) :: mid) ++ below := by rw [State.frames_setTop' _ hat.top, hmid]; rfl
  obtain ⟨o, s2, hst, -, hend, hq⟩ := Steps.callFree hM p X1.admits X1.cas X1.clock (acts := []) hfr happ ⟨rfl, xw_H.moved (u := T.setVm vm1) (U := (T.setVm vm1).calling (F0 m pc ls rest) mk As.toArray) (Vm.Alike.refl (T.setVm vm1).vm) hHT, xw_F.moved (u := T.setVm vm1) (U := (T.setVm vm1).calling (F0 m pc ls rest) mk As.toArray) (State.WarmedH.refl (T.setVm vm1)) (fun _ _ _ => rfl) hFT⟩ trivial
  have hend : Ended s2 (.java (F0 m pc ls rest) :: below) o := by
    rw [State.frames_setTop' _ hat.top, X1.tail] at hend
    exact hend
  rcases hq with ⟨⟨⟨v, h1, rfl, hp, hH1⟩, hF1⟩, LL, hFE, hLL⟩ | ⟨q, -, E, ce, LL, h1, hp, -⟩
  · obtain ⟨-, hW2, hsm⟩ := hFE
    obtain ⟨T', X', hW', -, ht⟩ := X1.outOf rfl hdg hend hW2 hsm
    have e1 : T'.heap = s2.heap := by rw [ht]; rfl
    have e2 : T'.vm = s2.vm := by rw [ht]; rfl
    obtain ⟨z1, z2⟩ := hF1
    have z1 : H.size ≤ T'.heap.size := by rw [e1, ← hT]; exact z1
    have z2 : ∀ q : Nat, q < H.size → ¬ xw_g G q → T'.heap[q]? = H[q]? := fun q h1 h2 => by rw [e1, ← hT]; exact z2 q (by show q < T.heap.size; rw [hT]; exact h1) h2
    have k3 : va_S (xw_g G) s.heap T'.heap (locs ++ LL) := ⟨Nat.le_trans hS.1 z1, fun q h1 h2 => (z2 q (Nat.lt_of_lt_of_le h1 hS.1) h2).trans (hS.2.1 q h1 h2), fun q hq => (List.mem_append.mp hq).elim (hS.2.2 q) (hLL q)⟩
    obtain ⟨t2, a1, b1⟩ := k v h1 hp p e R s m args below meth c T'.heap (locs ++ LL) (cells + mc) (slots + ms) ls C hR ⟨by omega, by omega⟩ (xw_H.moved (u := s2) (by rw [← e2]; exact X'.warmed.alike.symm) (by rw [e1]; exact hH1)) k3 hl T' rfl X'
    rw [ht] at hst
    exact ⟨t2, hstep _ fun acts => by rw [doInvoke_state]; exact hst.trans a1, b1⟩
  · exact hp.elim
/-- the script -/
theorem x_sld {b N : Nat} {xs : Nat → Int32} {i : Int32} (hX : va_X b N xs G.2.2.1 G.2.2.1.heap) (d : decode M.2.1 pc = .ok (.iaload, 1)) (hi : vp_in i N) (k : xw G M F L bc bs pr px (pc + 1) lv (.int (xs i.toNatClampNeg) :: rest) h) : xw G M F L bc bs pr px pc lv (.int i :: .ref b :: rest) h := by
  intro p e R s m args below meth c H locs cells slots ls C hR hB hH hS hl
  have hF := C.2.2.2.2.2.2.2.2.2
  have hbl : b < G.2.2.1.heap.size := by
    obtain ⟨scr, h1, -⟩ := hX
    exact (Array.getElem?_eq_some_iff.mp h1).1
  have hX2 : va_X b N xs s s.heap := (va_X.moved hF.2.2.2.alike hX).kept (hF.2.2.1 b hbl)
  exact va_sld C.1 C.2.1 hX2 (Nat.lt_of_lt_of_le hbl hF.2.1) (Nat.not_le.mpr hbl) hS hi d (k p e R s m args below meth c H locs cells slots ls C hR hB hH hS hl)
theorem x_slen {b N : Nat} {xs : Nat → Int32} (hX : va_X b N xs G.2.2.1 G.2.2.1.heap) (d : decode M.2.1 pc = .ok (.arraylength, 1)) (k : xw G M F L bc bs pr px (pc + 1) lv (.int (Int32.ofNat N) :: rest) h) : xw G M F L bc bs pr px pc lv (.ref b :: rest) h := by
  intro p e R s m args below meth c H locs cells slots ls C hR hB hH hS hl
  have hF := C.2.2.2.2.2.2.2.2.2
  have hbl : b < G.2.2.1.heap.size := by
    obtain ⟨scr, h1, -⟩ := hX
    exact (Array.getElem?_eq_some_iff.mp h1).1
  have hX2 : va_X b N xs s s.heap := (va_X.moved hF.2.2.2.alike hX).kept (hF.2.2.1 b hbl)
  exact va_slen C.1 C.2.1 hX2 (Nat.lt_of_lt_of_le hbl hF.2.1) (Nat.not_le.mpr hbl) hS d (k p e R s m args below meth c H locs cells slots ls C hR hB hH hS hl)
end CallH
