/-! CALLS OF METHODS THAT MAY THROW, and their catching -/
/-- the callee's run, from the point where its frame is to be laid: it comes back, or its exception lies over the caller's frame -/
theorem xw_callE {G : xw_G} {M1 : xw_M} {F1 L1 mc ms : Nat} {av : List Value} {h : xw_A} {pq : Option Value → xw_A → Prop} {qx : String → xw_A → Prop} (hM : xw_Met G M1 F1 L1 mc ms av h pq qx)
    {p : Program} {e : Env} {R : Room} {s T : State} {m : MethodId} {args : Array Value} {below : List Frame} {meth : Method} {c : Code} {locs : List Loc} {cells slots : Nat} (X : Stand p G.1 e R s m args below meth c T locs cells slots)
    {g : JFrame} (hg : g.method = m) (hsize : g.locals.size = c.maxLocals) {ig : Instr} {len : Nat} (hdg : decode c.code g.pc = .ok (ig, len)) (hw : 2 * g.monitorRoom + (g.stack.map fun v => v.category).sum ≤ 8) {mk : MethodId} (hn : T.methodNamed? M1.1 = some mk)
    (hts : ∀ w ∈ xw_tbl, w.before args s = true) (hcode : Cond.code M1.1 M1.2.1 M1.2.2.1 M1.2.2.2.1 ∈ xw_tbl) (hini : Cond.initialized M1.1.cls ∈ xw_tbl) (hr : F1 + 1 ≤ R.frames ∧ 8 + (M1.2.2.1 + 11) + L1 ≤ R.locals) (hf : cells + mc ≤ R.cells ∧ slots + ms ≤ R.slots)
    (hH : xw_H G h T T.heap) (hF : xw_F G T T.heap) :
    (∃ (v : Option Value) (h1 : xw_A) (T' : State) (LL : List Loc), pq v h1 ∧ Stand p G.1 e R s m args below meth c T' (locs ++ LL) (cells + mc) (slots + ms) ∧ xw_H G h1 T' T'.heap ∧ va_F (xw_g G) T T' ∧ (∀ z ∈ LL, xw_g G z.base) ∧
      Steps p.tables e below (doInvoke e (T.setTop g) [] mk av.toArray).1 (T'.setTop { g with pc := g.pc + len, stack := v.toList ++ g.stack })) ∨
    (∃ (q : Addr) (E : String) (ce : Cell) (h1 : xw_A) (T' : State) (LL : List Loc), qx E h1 ∧ Stand p G.1 e R s m args below meth c T' (locs ++ LL) (cells + mc) (slots + ms) ∧ xw_H G h1 T' T'.heap ∧ va_F (xw_g G) T T' ∧ (∀ z ∈ LL, xw_g G z.base) ∧
      T'.heap[q]? = some ce ∧ ce.vm = .none ∧ T.vm.findClass E = some ce.cls ∧ Steps p.tables e below (doInvoke e (T.setTop g) [] mk av.toArray).1 ((T'.setTop g).pushFrame (.throwing q))) := by
  have wd : ∀ w ∈ xw_tbl, ∀ (a' : Array Value) (U : State), s.WarmedH U.vm → w.before a' U = true := fun w hw a' U hW => word_at hW (xw_good w hw) (hts w hw)
  have hcT := wd _ hcode av.toArray T X.warmed
  obtain ⟨methY, cY, hmY, hcY, -, hlY, -, -, -, -⟩ := Cond.code_spec hn hcT
  obtain ⟨kY, hkY, -⟩ := className_of_methodNamed hn
  have hinitY : kY.init = .initialized := Cond.initialized_spec (findClass_of_methodNamed hn) hkY (wd _ hini av.toArray T X.warmed)
  have hat : At T g.method c below := by rw [hg]; exact X.here
  have hpre : (headSpec (Cond.code M1.1 M1.2.1 M1.2.2.1 M1.2.2.2.1 :: xw_tbl) { frames := F1, cells := mc, slots := ms, locals := L1 }).pre.before av.toArray T = true :=
    atoms_intro (fun w hw => by
      rcases List.mem_cons.mp hw with h1 | h1
      · rw [h1]; exact hcT
      · exact wd w h1 av.toArray T X.warmed)
  have happ : (headSpec (Cond.code M1.1 M1.2.1 M1.2.2.1 M1.2.2.2.1 :: xw_tbl) { frames := F1, cells := mc, slots := ms, locals := L1 }).appliesLoose M1.1 e.platform (T.calling g mk av.toArray) = true :=
    Spec.appliesLoose_calling (g := g) hat hdg hn hkY hinitY (X.room_calling (g := g) (R' := { frames := F1, cells := mc, slots := ms, locals := L1 }) hsize hmY hcY hr.1 (by rw [hlY]; show _ + _ + L1 ≤ _; omega) hf.1 hf.2) hpre
  obtain ⟨mid, hmid⟩ := hat.above
  have hfr : (T.setTop g).frames = (.java g :: mid) ++ below := by rw [State.frames_setTop' g hat.top, hmid]; rfl
  obtain ⟨o, s2, hst, -, hend, hq⟩ := Steps.callFree hM p X.admits X.cas X.clock (acts := []) hfr happ ⟨rfl, xw_H.moved (u := T) (U := T.calling g mk av.toArray) (Vm.Alike.refl T.vm) hH, xw_F.moved (u := T) (U := T.calling g mk av.toArray) (State.WarmedH.refl T) (fun _ _ _ => rfl) hF⟩ trivial
  have hend : Ended s2 (.java g :: below) o := by
    rw [State.frames_setTop' g hat.top, X.tail] at hend
    exact hend
  rcases hq with ⟨⟨⟨v, h1, rfl, hp, hH1⟩, hF1⟩, LL, hFE, hLL⟩ | ⟨q, rfl, E, ce, LL, h1, hp, hH1, hF1, hce, hcv, hcl, hWt, hsm, hLL⟩
  · obtain ⟨-, hW2, hsm⟩ := hFE
    obtain ⟨T', X', hW', -, ht⟩ := X.outOf hg hdg hend hW2 hsm
    have e1 : T'.heap = s2.heap := by rw [ht]; rfl
    have e2 : T'.vm = s2.vm := by rw [ht]; rfl
    refine Or.inl ⟨v, h1, T', LL, hp, X', ?_, ?_, hLL, by rw [← ht]; exact hst⟩
    · rw [e1]; exact xw_H.moved (u := s2) (by rw [e2]; exact Vm.Alike.refl _) hH1
    · exact ⟨by rw [e1]; exact hF1.1, fun q h2 h3 => by rw [e1]; exact hF1.2 q h2 h3⟩
  · obtain ⟨T', X', hW', -, ht⟩ := X.outOfThrown hg hend hWt hsm
    have e1 : T'.heap = s2.heap := by rw [ht, Stand.throwing_heap]
    have e2 : T'.vm = s2.vm := by rw [ht, Stand.throwing_vm]
    refine Or.inr ⟨q, E, ce, h1, T', LL, hp, X', ?_, ?_, hLL, by rw [e1]; exact hce, hcv, hcl, by rw [← ht]; exact hst⟩
    · rw [e1]; exact xw_H.moved (u := s2) (by rw [e2]; exact Vm.Alike.refl _) hH1
    · exact ⟨by rw [e1]; exact hF1.1, fun q h2 h3 => by rw [e1]; exact hF1.2 q h2 h3⟩
/-- at pc an E is caught at hpc: the rows before the one that catches don't cover pc, or name a class that E isn't -/
def xw_catch (M : xw_M) (pc : Nat) (E : String) (hpc : Nat) : Prop :=
  ∃ (pre suf : List ExceptionTableEntry) (x : ExceptionTableEntry), tableOf M.2.2.2.2 = pre ++ x :: suf ∧ (∀ z ∈ pre, covers z pc = false ∨ (z.catchType ≠ 0 ∧ ∃ nm : String, Cond.classLink M.1.cls z.catchType nm ∈ xw_tbl ∧ Cond.not (.castable E nm) ∈ flatC (Jvm.Cond.and given_1 narrow_1))) ∧
    covers x pc = true ∧ x.catchType ≠ 0 ∧ x.handlerPc = hpc ∧ Cond.classLink M.1.cls x.catchType E ∈ xw_tbl ∧ Cond.castable E E ∈ lw_tbl
section CallX
variable {G : xw_G} {M : xw_M} {F L bc bs : Nat} {pr : Option Value → xw_A → Prop} {px : String → xw_A → Prop} {pc : Nat} {lv : List (Option Value)} {rest st : List Value} {h : xw_A}
/-- a virtual call in a method with handlers: what the callee throws is caught here -/
theorem x_callVX {index b ci F1 L1 mc ms : Nat} {M1 : xw_M} {As fs : List Value} {pq : Option Value → xw_A → Prop} {qx : String → xw_A → Prop} (d : decode M.2.1 pc = .ok (.invokevirtual index, 3)) (hs : xw_sV M.1.cls index M1 As.length)
    (hM : xw_Met G M1 F1 L1 mc ms (.ref b :: As) h pq qx) (hb : h b = some (.inr (ci, fs))) (hci : ci < vwCl.length ∧ (xw_cl ci).1 = M1.1.cls) (hr : F1 + 1 ≤ F ∧ 8 + (M1.2.2.1 + 11) + L1 ≤ L) (hc : mc ≤ bc ∧ ms ≤ bs) (hw : (rest.map fun v => v.category).sum ≤ 8)
    (kx : ∀ E h1, qx E h1 → ∃ hpc, xw_catch M pc E hpc ∧ ∀ q : Nat, xw G M F L (bc - mc) (bs - ms) pr px hpc lv [.ref q] h1)
    (k : ∀ v h1, pq v h1 → xw G M F L (bc - mc) (bs - ms) pr px (pc + 3) lv (v.toList ++ rest) h1) : xw G M F L bc bs pr px pc lv (As.reverse ++ .ref b :: rest) h := by
  intro p e R s m args below meth c H locs cells slots ls C hR hB hH hS hl T hT X
  obtain ⟨s1, s2, s3, s4, s5⟩ := hs
  obtain ⟨ws, tys, hP, hK, hD, hA, hO⟩ := id hH
  obtain ⟨q0, hq0⟩ := hO b ci fs hb
  obtain ⟨cellB, hcB, hoB, hclB⟩ := va_recv hK hP (xw_cl_get hci.1) hq0
  rw [hci.2] at hclB
  have hcode := C.2.2.2.2.2.1 _ s2
  obtain ⟨mk, methM, hnamed, hmethM, hstM, habM⟩ := Cond.instanceMethod_spec (C.2.2.2.2.2.1 (.instanceMethod M1.1) (s1 _ (by simp)))
  obtain ⟨methM', cM, hmethM', -, -, -, -, -, -, hsigM⟩ := Cond.code_spec hnamed hcode
  cases hmethM.symm.trans hmethM'
  obtain ⟨c2, r2, m2, q1, q2, q3, q4, kP, hkP, hkPi⟩ := Cond.selects_spec (C.2.2.2.2.2.1 (.selects M1.1.cls M1.1 M1.1) (s1 _ (by simp)))
  cases hclB.symm.trans q1
  cases (State.methodFound?_of_named hnamed ⟨s3, s4⟩).symm.trans q2
  cases hnamed.symm.trans q3
  have hselP : selectMethod e.platform s.vm cellB.cls mk = .method mk := by rw [Launch.admits_selectMethod X.admits]; exact q4
  have hlen : ∀ sig, parseMethodDescriptor M1.1.desc = some sig → As.length = sig.parameters.length := fun sig h9 => by
    have h2 := s5
    rw [h9] at h2
    exact (Option.some.inj h2).symm
  obtain ⟨vm1, X1, hstep⟩ := X.invokevirtual C.1 C.2.2.2.2.1 (C.2.2.2.2.2.1 (.methodLink M.1.cls index M1.1) (s1 _ (by simp))) hnamed hmethM hstM hkP hkPi ⟨s3, s4⟩ (a := b) (cell := cellB) (by rw [hT]; exact hcB)
    (fun z h9 => by rw [h9] at hoB; cases hoB) hselP hmethM habM hkP hkPi (g := F0 m pc ls (As.reverse ++ .ref b :: rest)) rfl (argsL := As) (rest := rest) (hlen _ hsigM) rfl (by rw [C.2.1]; exact d)
  have hF0 := C.2.2.2.2.2.2.2.2.2
  have hFT : xw_F G (T.setVm vm1) (T.setVm vm1).heap := xw_F.moved (U := T.setVm vm1) X1.warmed (fun q h1 h2 => by show T.heap[q]? = _; rw [hT]; exact hS.2.1 q h1 (Nat.not_le.mpr h2)) hF0
  have hHT : xw_H G h (T.setVm vm1) (T.setVm vm1).heap := xw_H.moved X1.warmed.alike (by show xw_H G h s T.heap; rw [hT]; exact hH)
  have keep : ∀ {T' : State} {LL : List Loc}, va_F (xw_g G) (T.setVm vm1) T' → (∀ z ∈ LL, xw_g G z.base) → va_S (xw_g G) s.heap T'.heap (locs ++ LL) := by
    intro T' LL hv hLL
    obtain ⟨z1, z2⟩ := hv
    have z1 : H.size ≤ T'.heap.size := by rw [← hT]; exact z1
    have z2 : ∀ q : Nat, q < H.size → ¬ xw_g G q → T'.heap[q]? = H[q]? := fun q h1 h2 => by rw [← hT]; exact z2 q (by show q < T.heap.size; rw [hT]; exact h1) h2
    exact ⟨Nat.le_trans hS.1 z1, fun q h1 h2 => (z2 q (Nat.lt_of_lt_of_le h1 hS.1) h2).trans (hS.2.1 q h1 h2), fun q hq => (List.mem_append.mp hq).elim (hS.2.2 q) (hLL q)⟩
  rcases xw_callE hM X1 (g := F0 m pc ls rest) rfl (hl.1.trans C.2.2.2.1.symm) (by rw [C.2.1]; exact d) (lv_room hw) (X1.named hnamed) C.2.2.2.2.2.1 s2 (s1 _ (by simp)) ⟨Nat.le_trans hr.1 hR.1, Nat.le_trans hr.2 hR.2⟩ ⟨by omega, by omega⟩ hHT hFT with
    ⟨v, h1, T', LL, hp, X', hH', hv, hLL, hst⟩ | ⟨q, E, ce, h1, T', LL, hp, X', hH', hv, hLL, hce, hcv, hcl, hst⟩
  · obtain ⟨t2, a1, b1⟩ := k v h1 hp p e R s m args below meth c T'.heap (locs ++ LL) (cells + mc) (slots + ms) ls C hR ⟨by omega, by omega⟩ (xw_H.moved X'.warmed.alike.symm hH') (keep hv hLL) hl T' rfl X'
    exact ⟨t2, hstep _ fun acts => by rw [doInvoke_state]; exact hst.trans a1, b1⟩
  · obtain ⟨hpc, ⟨pre, suf, x, k1, k2, k3, k4, k5, k6, k7⟩, kk⟩ := kx E h1 hp
    have hclS : s.vm.findClass E = some ce.cls := by rw [← X1.warmed.alike.findClass]; exact hcl
    have hpl : e.platform.magicAccessors = ({} : Platform).magicAccessors := by rw [X.admits.platform]
    obtain ⟨c3, c4, hc3, hc4, hasg⟩ := Cond.castable_spec (args := args) (s := s) (va_Nw.use (A := args) rfl (va_Nw.warmC hF0.2.2.2 (va_Nw.of rfl (hF0.1.1 _ k7))))
    cases Option.some.inj (hc3.symm.trans hclS)
    obtain ⟨c5, hc5, hcl5⟩ := Cond.classLink_spec C.2.2.2.2.1 (C.2.2.2.2.2.1 _ k6) e.platform hpl
    cases Option.some.inj (hc4.symm.trans hc5)
    obtain ⟨vm2, X2, st2⟩ := X'.thenCaughtThrough q (g := F0 m pc ls rest) rfl (Steps.refl _) hce (by rw [hcv]; rfl) (by obtain ⟨k9, h9, -⟩ := Vm.findClass_spec hclS; exact ⟨k9, h9⟩) pre x suf (C.2.2.2.2.2.2.2.1.trans k1)
      (fun z hz => by
        rcases k2 z hz with h9 | ⟨hz0, nm, hl1, hn1⟩
        · exact Or.inl h9
        · obtain ⟨c6, hc6, hcl6⟩ := Cond.classLink_spec C.2.2.2.2.1 (C.2.2.2.2.2.1 _ hl1) e.platform hpl
          obtain ⟨a8, b8, g1, g2, g3⟩ := va_Nc.moved hF0.2.2.2.alike (va_Nc.of (flat_of_before _ hF0.1.2.1 _ hn1))
          cases Option.some.inj (g1.symm.trans hclS)
          cases Option.some.inj (g2.symm.trans hc6)
          exact Or.inr ⟨hz0, _, hcl6, g3⟩) k3 (Or.inr ⟨k4, c4, hcl5, hasg⟩)
    subst k5
    obtain ⟨t2, a1, b1⟩ := kk q p e R s m args below meth c T'.heap (locs ++ LL) (cells + mc) (slots + ms) ls C hR ⟨by omega, by omega⟩ (xw_H.moved X'.warmed.alike.symm hH') (keep hv hLL) hl (T'.setVm vm2) rfl X2
    exact ⟨t2, hstep _ fun acts => by rw [doInvoke_state]; exact hst.trans (st2.trans a1), b1⟩
end CallX
