/-! THROWS: the words that a throw asks, at any state that comes from the law's entry; 'throw new E("text")' as one row -/
theorem xw_H.grow {G : xw_G} {h : xw_A} {s : State} {H H1 : Heap} (q : xw_H G h s H) (hk : ∀ a : Nat, a < H.size → H1[a]? = H[a]?) : xw_H G h s H1 := by
  obtain ⟨ws, tys, a, b, c, d, e⟩ := q
  exact ⟨ws, tys, a.kept (fun k x hx => hk x.1 (a k x hx).lt), b, c, d, e⟩
/-- statics that nobody writes, as they were -/
theorem xw_F.zq {G : xw_G} {U : State} {H : Heap} (h : xw_F G U H) {C n d : String} (hl : Cond.laysStatic C n d ∈ lw_tbl) (hi : Cond.initialized C ∈ lw_tbl) (hr : Cond.isRef (.static C n d) ∈ flatC (Jvm.Cond.and given_1 narrow_1)) : va_Zq C n d (xw_g G) U H :=
  va_Zq.moved h.2.2.2.alike ((va_Zqof (h.1.1 _ hl) (h.1.1 _ hi) (flat_of_before _ h.1.2.1 _ hr) (fun a ha hn => absurd ha (Nat.not_lt.mpr hn))).kept (fun a ha hn => h.2.2.1 a ha))
theorem xw_refW {C n d : String} {v : Value} {A : Nat → Prop} {s : State} {args : Array Value} (h : va_Z C n d v A s s.heap) (hv : v = .null ∨ ∃ a, v = .ref a) : (Cond.isRef (.static C n d)).before args s = true := by
  obtain ⟨cf, kf, fi, f, a, cell, h1, h2, h3, h4, h5, h6, h7, -⟩ := h
  have he : (Term.static C n d).eval args s none [] s = some v := by simp [Term.eval, State.fieldNamed?, h1, h2, h4, h5, h6, h7]
  rcases hv with rfl | ⟨b, rfl⟩ <;> simp [Cond.before, Cond.holds, Cond.value, he, Value.isRef]
theorem xw_F.refW {G : xw_G} {U : State} (h : xw_F G U U.heap) {C n d : String} (hl : Cond.laysStatic C n d ∈ lw_tbl) (hi : Cond.initialized C ∈ lw_tbl) (hr : Cond.isRef (.static C n d) ∈ flatC (Jvm.Cond.and given_1 narrow_1)) {args : Array Value} : (Cond.isRef (.static C n d)).before args U = true := by
  rcases h.zq hl hi hr with h1 | ⟨t, h1⟩
  · exact xw_refW h1 (Or.inl rfl)
  · exact xw_refW h1 (Or.inr ⟨t, rfl⟩)
theorem xw_F.layW {G : xw_G} {U : State} (h : xw_F G U U.heap) {C n d : String} (hl : Cond.laysStatic C n d ∈ lw_tbl) {args : Array Value} : (Cond.laysStatic C n d).before args U = true := by
  obtain ⟨c, k, i, f, a, cell, h1, h2, h3, h4, h5, h6, h7, h8, h9⟩ := Cond.laysStatic_spec (h.1.1 _ hl)
  obtain ⟨k2, g2, ge⟩ := State.fieldFound?_setVm h.2.2.2.alike h2
  have ha : a < G.2.2.1.heap.size := (Array.getElem?_eq_some_iff.mp h5).1
  exact Cond.laysStatic_of (s := U) (by rw [h.2.2.2.alike.findClass]; exact h1) g2 h3 (by rw [ge]; exact h4) (by rw [h.2.2.1 a ha]; exact h5) h6 h7 h8 (by rw [ge]; exact h9)
/-- a word that a throw asks, and where it comes from -/
def xw_atB (w : Cond) : Bool := match w with
  | .isRef (.static C n d) => decide (Cond.laysStatic C n d ∈ lw_tbl) && (decide (Cond.initialized C ∈ lw_tbl) && decide (Cond.isRef (.static C n d) ∈ flatC (Jvm.Cond.and given_1 narrow_1)))
  | .castable a b => decide (Cond.castable a b ∈ lw_tbl)
  | .laysStatic a b c => decide (Cond.laysStatic a b c ∈ lw_tbl)
  | w => decide (w ∈ lw_tbl) && goodWord w
theorem xw_F.atom {G : xw_G} {s U : State} {args : Array Value} (hW : s.WarmedH U.vm) (hs : ∀ w ∈ xw_tbl, w.before args s = true) (h : xw_F G U U.heap) {w : Cond} (hw : xw_atB w = true) : w.before args U = true := by
  have plain : ∀ w : Cond, (decide (w ∈ lw_tbl) && goodWord w) = true → w.before args U = true := fun w h9 => by
    simp only [Bool.and_eq_true, decide_eq_true_eq] at h9
    exact word_at hW (good_of_word h9.2) (hs w (List.mem_filter.mpr h9))
  unfold xw_atB at hw
  split at hw
  · simp only [Bool.and_eq_true, decide_eq_true_eq] at hw
    exact h.refW hw.1 hw.2.1 hw.2.2
  · exact va_Nw.use rfl (va_Nw.warmC h.2.2.2 (va_Nw.of rfl (h.1.1 _ (of_decide_eq_true hw))))
  · exact h.layW (of_decide_eq_true hw)
  · exact plain _ hw
/-- the frame as it stands, as if its method had been called in this heap -/
theorem xw_anew {p : Program} {l : Launch} {e : Env} {R R2 : Room} {s T : State} {m : MethodId} {args : Array Value} {below : List Frame} {meth : Method} {c : Code} {locs : List Loc} {cells slots : Nat} (X : Stand p l e R s m args below meth c T locs cells slots)
    (h1 : R2.frames ≤ R.frames) (h2 : R2.locals ≤ R.locals) (h3 : cells + R2.cells ≤ R.cells) (h4 : slots + R2.slots ≤ R.slots) : Stand p l e R2 ((T.setVm s.vm).setFrames (.invoking m args :: below)) m args below meth c T [] 0 0 := by
  obtain ⟨g0, hg0⟩ := Option.isSome_iff_exists.mp (show (T.setVm s.vm).topJava?.isSome from X.here.top)
  obtain ⟨r, hr⟩ := State.topJava?_eq_some.mp hg0
  obtain ⟨t, ht, -⟩ := State.frames_cons hr
  have hfr : ((T.setVm s.vm).setFrames (.invoking m args :: below)).frames = .invoking m args :: below := State.frames_setFrames _ (State.cur_lt_of_frames hr)
  have hdrop : ((T.heap.toList.drop T.heap.size).map (fun x : Cell => x.slots.size)).sum = 0 := by
    rw [List.drop_eq_nil_of_le (Nat.le_of_eq Array.length_toList)]
    rfl
  have hlim : e.platform.stackLimits ((T.setVm s.vm).setFrames (.invoking m args :: below)).me = e.platform.stackLimits s.me := by
    rw [State.stackLimits_setFrames]
    exact X.limits
  have hbyt : ((T.setVm s.vm).setFrames (.invoking m args :: below)).me.stackBytes = s.me.stackBytes := by
    rw [State.stackBytes_setFrames]
    exact X.bytes
  have hroom : ((T.setVm s.vm).setFrames (.invoking m args :: below)).hasRoom e.platform R2 = true := by
    have hu : ((T.setVm s.vm).setFrames (.invoking m args :: below)).localsInUse = s.localsInUse := by
      rw [State.localsInUse_invoking hfr (meth := meth) (c := c) X.method X.code, State.localsInUse_invoking X.frames X.method X.code]
    have hs := X.heapSize
    have hus := X.used
    have h := X.room
    simp only [State.hasRoom, Bool.and_eq_true, decide_eq_true_eq, X.frames, List.length_cons] at h
    simp only [State.hasRoom, Bool.and_eq_true, decide_eq_true_eq, hfr, hu, List.length_cons, hlim, hbyt]
    obtain ⟨⟨⟨⟨a1, a2, a3, a4, a5, a6⟩, a7⟩, a8⟩, a9⟩ := h
    refine ⟨⟨⟨⟨by omega, by omega, by omega, by omega, by omega, a6⟩, ?_⟩, ?_⟩, X.book⟩
    · show T.heap.size + R2.cells ≤ _
      omega
    · show T.slotsUsed + R2.slots ≤ _
      omega
  have hsame : ((T.setVm s.vm).setFrames (.invoking m args :: below)).sameButNew (T.setVm s.vm) [] 0 0 := by
    refine ⟨?_, Nat.le_refl _, Nat.le_refl _, ?_, Nat.le_of_eq hdrop, fun a c9 h9 => ⟨c9, h9, rfl, rfl, fun _ _ => rfl⟩⟩
    · show T.setVm s.vm = { ((T.setVm s.vm).setFrames (.invoking m args :: below)).setFrames (T.setVm s.vm).frames with heap := T.heap, slotsUsed := T.slotsUsed }
      rw [State.setFrames_setFrames, State.setFrames_self ht]
      rfl
    · show T.slotsUsed = T.slotsUsed + ((T.heap.toList.drop T.heap.size).map (fun x : Cell => x.slots.size)).sum
      rw [hdrop]
      rfl
  exact ⟨X.admits, X.cas, X.clock, hfr, hroom, X.hears, X.method, X.code, X.here, X.tail, X.warmed, X.limits.trans hlim.symm, X.bytes.trans hbyt.symm, hsame⟩
/-- nothing old was written: the old cells are as they were -/
theorem xw_sameH {s U : State} {k n : Nat} (h : s.sameButNew U [] k n) : s.heap.size ≤ U.heap.size ∧ ∀ q : Nat, q < s.heap.size → U.heap[q]? = s.heap[q]? := by
  refine ⟨h.2.1, fun q hq => ?_⟩
  obtain ⟨c2, e1, e2, e3, e4⟩ := h.2.2.2.2.2 q _ (Array.getElem?_eq_getElem hq)
  have hs : c2.slots = (s.heap[q]).slots := Array.ext_getElem? fun i => e4 i (by simp)
  rw [e1, Array.getElem?_eq_getElem hq, e2, hs]
section Throws
variable {G : xw_G} {M : xw_M} {F L bc bs : Nat} {pr : Option Value → xw_A → Prop} {px : String → xw_A → Prop} {pc : Nat} {lv : List (Option Value)} {rest st : List Value} {h : xw_A}
/-- what the tables must say for 'throw new cls(text)' at own's entries ik (the class), is (the text), ic (the constructor) -/
def xw_th (own : String) (ik is ic : Nat) (cls text : String) (names : List String) : Prop :=
  Cond.classLink own ik cls ∈ xw_tbl ∧ Cond.initialized cls ∈ xw_tbl ∧ Cond.stringRef own is text ∈ lw_tbl ∧ Bundle.fit cls = true ∧ (∀ n ∈ names, Bundle.fit n = true) ∧ ∀ w ∈ Bundle.ownAtoms own ic cls names, xw_atB w = true
theorem x_throw {ik is ic : Nat} {cls text : String} {names : List String} (hM0 : M.2.2.2.2 = []) (ht : xw_th M.1.cls ik is ic cls text names)
    (d0 : decode M.2.1 pc = .ok (.new ik, 3)) (d3 : decode M.2.1 (pc + 3) = .ok (.dup, 1)) (d4 : decode M.2.1 (pc + 4) = .ok (.ldc is, 2)) (d6 : decode M.2.1 (pc + 6) = .ok (.invokespecial ic, 3)) (d9 : decode M.2.1 (pc + 9) = .ok (.athrow, 1))
    (hr : names.length + 3 < F ∧ (rest.map fun v => v.category).sum + (13 * (names.length + 1) + 43) ≤ L) (hb : 1 ≤ bc ∧ 6 ≤ bs) (hp : px cls h) : xw G M F L bc bs pr px pc lv rest h := by
  intro p e R s m args below meth c H locs cells slots ls C hR hB hH hS hl T hT X
  obtain ⟨t1, t2, t3, t4, t5, t6⟩ := ht
  have Y := xw_anew X (R2 := { frames := R.frames, locals := R.locals, cells := 1, slots := 6 }) (Nat.le_refl _) (Nat.le_refl _) (by show cells + 1 ≤ _; omega) (by show slots + 6 ≤ _; omega)
  have hsv : ((T.setVm s.vm).setFrames (.invoking m args :: below)).vm = s.vm := rfl
  have hsh : ((T.setVm s.vm).setFrames (.invoking m args :: below)).heap = H := hT
  generalize hA : (T.setVm s.vm).setFrames (.invoking m args :: below) = s2 at Y hsv hsh
  have hW0 : s.WarmedH s2.vm := by rw [hsv]; exact State.WarmedH.refl s
  have hF2 : xw_F G s2 s2.heap := xw_F.moved hW0 (fun q h1 h2 => by rw [hsh]; exact hS.2.1 q h1 (Nat.not_le.mpr h2)) C.2.2.2.2.2.2.2.2.2
  have hat : ∀ w ∈ Bundle.ownAtoms M.1.cls ic cls names, w.before args s2 = true := fun w hw => hF2.atom hW0 C.2.2.2.2.2.1 (t6 w hw)
  have good : ∀ w ∈ xw_tbl, w.before args s2 = true := fun w hw => word_at hW0 (xw_good w hw) (C.2.2.2.2.2.1 w hw)
  have hown : s2.vm.findClass M.1.cls = some m.cls := by rw [hsv]; exact C.2.2.2.2.1
  have htr : e.platform.stackTraces = false := (show e.platform.stackTraces = G.1.stackTraces by rw [X.admits.platform]).trans C.2.2.2.2.2.2.2.2.2.1.2.2
  have hins : (Cond.instantiable cls 6).before args s2 = true := hat _ (by simp [Bundle.ownAtoms])
  obtain ⟨sa, hsa⟩ : ∃ sa, vk_R M.1.cls is text sa s2 := by
    obtain ⟨k9, cf9, i9, a9, -, -, -, -, -, hev⟩ := Cond.stringRef_spec (s := G.2.2.1) (args := G.2.2.2) (cls := M.1.cls) (by rw [← hF2.2.2.2.alike.findClass]; exact hown) (hF2.1.1 _ t3)
    exact ⟨a9, vk_R.warm hF2.2.2.2 (vk_R.of (hF2.1.1 _ t3) hev)⟩
  have htab : ∀ x ∈ c.exceptionTable.toList, covers x (pc + 6 + 3) = false := by
    rw [C.2.2.2.2.2.2.2.1, hM0]
    exact fun x hx => by cases hx
  obtain ⟨vm1, cX, kX, hfX, hkX, -, -, X1, st1⟩ := Y.newCold C.1 (own := M.1.cls) (C := cls) (index := ik) (n := 6) hown (good _ t1) hins (good _ t2) (g := F0 m pc ls rest) rfl (by rw [C.2.1]; exact d0) (Nat.le_refl _) (Nat.le_refl _)
  have hcell : ((T.setVm vm1).pushCell { cls := cX, slots := kX.instanceTypes.map defaultValue, vm := .none }).heap[T.heap.size]? = some (freshCell cX kX) := State.heap_pushCell_size _ _
  have hcat : (Value.ref T.heap.size).category = 1 := rfl
  obtain ⟨U, hst, hrun, hend, hWU, hsm, ce, hce, hO⟩ := X1.ctorThrowS C.1 htr (own := M.1.cls) (cls := cls) (names := names) (ic := ic) hown t4 t5 hat (fun x hx => nomatch hx) hfX hkX hcell (by rw [hsh, hT]; exact Nat.le_refl _) (msg := .ref sa) rfl
    (g := { method := m, pc := pc + 6, locals := ls, stack := .ref sa :: .ref T.heap.size :: .ref T.heap.size :: rest, locked := none }) rfl (hl.1.trans C.2.2.2.1.symm) rfl rfl (rest := rest) rfl
    (by rw [C.2.1]; exact d6) (by rw [C.2.1]; exact d9) htab (by have := hR.1; show names.length + 3 < R.frames; omega) (by have := hR.2; simp only [List.map_cons, List.sum_cons, hcat]; show 2 * 0 + _ + _ ≤ R.locals; omega) C.2.2.2.2.2.2.1
  obtain ⟨f1, f2⟩ := xw_sameH hsm
  rw [hsh] at f1 f2
  have f1 : H.size ≤ U.heap.size := f1
  have f2 : ∀ q : Nat, q < H.size → U.heap[q]? = H[q]? := f2
  have hWs : s.WarmedH U.vm := State.WarmedH.trans hW0 hWU
  have hall : s.sameButNew ({ U with vm := s.vm } : State) locs R.cells R.slots := by
    subst hA
    obtain ⟨e1, e2⟩ := hsm
    rw [State.setFrames_setFrames] at e1
    have h2 : (T.setVm s.vm).sameButNew ({ U with vm := s.vm } : State) [] (0 + 1) (0 + 6) := ⟨e1, e2⟩
    have h3 := X.same.trans h2
    rw [List.append_nil] at h3
    exact h3.mono (by omega) (by omega)
  refine ⟨U, ?_, .threw T.heap.size, hrun, hend, Or.inr ⟨T.heap.size, rfl, cls, ce, locs, h, hp, xw_H.grow (xw_H.moved hWs.alike hH) f2, ⟨Nat.le_trans hS.1 f1, fun q h1 h2 => (f2 q (Nat.lt_of_lt_of_le h1 hS.1)).trans (hS.2.1 q h1 h2)⟩, hce, hO.vm, by have h9 := hO.cls; rw [hsv] at h9; exact h9, hWs, hall, hS.2.2⟩⟩
  refine st1 _ ?_
  have d3' : decode c.code (pc + 3) = .ok (.dup, 1) := by rw [C.2.1]; exact d3
  have d4' : decode c.code (pc + 4) = .ok (.ldc is, 2) := by rw [C.2.1]; exact d4
  generalize (T.setVm vm1).pushCell { cls := cX, slots := kX.instanceTypes.map defaultValue, vm := .none } = T1 at X1 hst hcell ⊢
  show Steps p.tables e below (T1.setTop { method := m, pc := pc + 3, locals := ls, stack := .ref T.heap.size :: rest, locked := none }) _
  jvm_step X1.here [X1.here.top, C.1, d3', Value.category]
  exact X1.ldcString C.1 (own := M.1.cls) (text := text) (index := is) (a := sa) hown hsa.1 hsa.2 (g := { method := m, pc := pc + 4, locals := ls, stack := .ref T.heap.size :: .ref T.heap.size :: rest, locked := none }) rfl d4' _ hst
end Throws
