/-! THROWS: the words that a throw asks, at any state that comes from the law's entry; 'throw new E("text")' as one row -/
theorem xw_H.grow {G : xw_G} {h : xw_A} {s : State} {H H1 : Heap} (q : xw_H G h s H) (hk : ∀ a : Nat, a < H.size → H1[a]? = H[a]?) : xw_H G h s H1 := by
  obtain ⟨ws, tys, a, b, c, d, e⟩ := q
  exact ⟨ws, tys, a.kept (fun k x hx => hk x.1 (a k x hx).lt), b, c, d, e⟩
/-- statics that nobody writes, as they were -/
theorem xw_F.zq {G : xw_G} {U : State} {H : Heap} (h : xw_F G U H) {C n d : String} (hl : Cond.laysStatic C n d ∈ lw_tbl) (hi : Cond.initialized C ∈ lw_tbl) (hr : Cond.isRef (.static C n d) ∈ flatC (Jvm.Cond.and given_1 narrow_1)) : va_Zq C n d (xw_g G) U H :=
  va_Zq.moved h.2.2.2.alike ((va_Zqof (h.1.1 _ hl) (h.1.1 _ hi) (flat_of_before _ h.1.2.1 _ hr) (fun a ha hn => absurd ha (Nat.not_lt.mpr hn))).kept (fun a ha hn => h.2.2.1 a ha))
theorem xw_refW {C n d : String} {v : Value} {A : Nat → Prop} {s : State} {args : Array Value} (h : va_Z C n d v A s s.heap) (hv : v = .null ∨ ∃ a, v = .ref a) : (Cond.isRef (.static C n d)).before args s = true := by
  obtain ⟨cf, kf, fi, f, a, cell, h1, h2, h3, h4, h5, h6, h7, -⟩ := h
  have he : (Term.static C n d).eval args s none [] s = some v := by simp [Term.eval, State.fieldNamed?, h1, h2, h4, h5, h6, h7]
  rcases hv with rfl | ⟨b, rfl⟩ <;> simp [Cond.before, Cond.holds, Cond.value, he, Value.isRef]
theorem xw_F.refW {G : xw_G} {U : State} (h : xw_F G U U.heap) {C n d : String} (hl : Cond.laysStatic C n d ∈ lw_tbl) (hi : Cond.initialized C ∈ lw_tbl) (hr : Cond.isRef (.static C n d) ∈ flatC (Jvm.Cond.and given_1 narrow_1)) {args : Array Value} : (Cond.isRef (.static C n d)).before args U = true := by
  rcases h.zq hl hi hr with h1 | ⟨t, h1⟩
  · exact xw_refW h1 (Or.inl rfl)
  · exact xw_refW h1 (Or.inr ⟨t, rfl⟩)
theorem xw_F.layW {G : xw_G} {U : State} (h : xw_F G U U.heap) {C n d : String} (hl : Cond.laysStatic C n d ∈ lw_tbl) {args : Array Value} : (Cond.laysStatic C n d).before args U = true := by
  obtain ⟨c, k, i, f, a, cell, h1, h2, h3, h4, h5, h6, h7, h8, h9⟩ := Cond.laysStatic_spec (h.1.1 _ hl)
  obtain ⟨k2, g2, ge⟩ := State.fieldFound?_setVm h.2.2.2.alike h2
  have ha : a < G.2.2.1.heap.size := (Array.getElem?_eq_some_iff.mp h5).1
  exact Cond.laysStatic_of (s := U) (by rw [h.2.2.2.alike.findClass]; exact h1) g2 h3 (by rw [ge]; exact h4) (by rw [h.2.2.1 a ha]; exact h5) h6 h7 h8 (by rw [ge]; exact h9)
/-- a word that a throw asks, and where it comes from -/
def xw_atB (w : Cond) : Bool := match w with
  | .isRef (.static C n d) => decide (Cond.laysStatic C n d ∈ lw_tbl) && (decide (Cond.initialized C ∈ lw_tbl) && decide (Cond.isRef (.static C n d) ∈ flatC (Jvm.Cond.and given_1 narrow_1)))
  | .castable a b => decide (Cond.castable a b ∈ lw_tbl)
  | .laysStatic a b c => decide (Cond.laysStatic a b c ∈ lw_tbl)
  | .declares x => decide (Cond.declares x ∈ lw_tbl)
  | w => decide (w ∈ lw_tbl) && goodWord w
theorem xw_F.atom {G : xw_G} {s U : State} {args : Array Value} (hW : s.WarmedH U.vm) (hs : ∀ w ∈ xw_tbl, w.before args s = true) (h : xw_F G U U.heap) {w : Cond} (hw : xw_atB w = true) : w.before args U = true := by
  have plain : ∀ w : Cond, (decide (w ∈ lw_tbl) && goodWord w) = true → w.before args U = true := fun w h9 => by
    simp only [Bool.and_eq_true, decide_eq_true_eq] at h9
    exact word_at hW (good_of_word h9.2) (hs w (List.mem_filter.mpr h9))
  unfold xw_atB at hw
  split at hw
  · simp only [Bool.and_eq_true, decide_eq_true_eq] at hw
    exact h.refW hw.1 hw.2.1 hw.2.2
  · exact va_Nw.use rfl (va_Nw.warmC h.2.2.2 (va_Nw.of rfl (h.1.1 _ (of_decide_eq_true hw))))
  · exact h.layW (of_decide_eq_true hw)
  · exact va_Nw.use rfl (va_Nw.warmD h.2.2.2 (va_Nw.of rfl (h.1.1 _ (of_decide_eq_true hw))))
  · exact plain _ hw
/-- the frame as it stands, as if its method had been called in this heap -/
theorem xw_anew {p : Program} {l : Launch} {e : Env} {R R2 : Room} {s T : State} {m : MethodId} {args : Array Value} {below : List Frame} {meth : Method} {c : Code} {locs : List Loc} {cells slots : Nat} (X : Stand p l e R s m args below meth c T locs cells slots)
    (h1 : R2.frames ≤ R.frames) (h2 : R2.locals ≤ R.locals) (h3 : cells + R2.cells ≤ R.cells) (h4 : slots + R2.slots ≤ R.slots) : Stand p l e R2 ((T.setVm s.vm).setFrames (.invoking m args :: below)) m args below meth c T [] 0 0 := by
  obtain ⟨g0, hg0⟩ := Option.isSome_iff_exists.mp (show (T.setVm s.vm).topJava?.isSome from X.here.top)
  obtain ⟨r, hr⟩ := State.topJava?_eq_some.mp hg0
  obtain ⟨t, ht, -⟩ := State.frames_cons hr
  have hfr : ((T.setVm s.vm).setFrames (.invoking m args :: below)).frames = .invoking m args :: below := State.frames_setFrames _ (State.cur_lt_of_frames hr)
  have hdrop : ((T.heap.toList.drop T.heap.size).map (fun x : Cell => x.slots.size)).sum = 0 := by
    rw [List.drop_eq_nil_of_le (Nat.le_of_eq Array.length_toList)]
    rfl
  have hlim : e.platform.stackLimits ((T.setVm s.vm).setFrames (.invoking m args :: below)).me = e.platform.stackLimits s.me := by
    rw [State.stackLimits_setFrames]
    exact X.limits
  have hbyt : ((T.setVm s.vm).setFrames (.invoking m args :: below)).me.stackBytes = s.me.stackBytes := by
    rw [State.stackBytes_setFrames]
    exact X.bytes
  have hroom : ((T.setVm s.vm).setFrames (.invoking m args :: below)).hasRoom e.platform R2 = true := by
    have hu : ((T.setVm s.vm).setFrames (.invoking m args :: below)).localsInUse = s.localsInUse := by
      rw [State.localsInUse_invoking hfr (meth := meth) (c := c) X.method X.code, State.localsInUse_invoking X.frames X.method X.code]
    have hs := X.heapSize
    have hus := X.used
    have h := X.room
    simp only [State.hasRoom, Bool.and_eq_true, decide_eq_true_eq, X.frames, List.length_cons] at h
    simp only [State.hasRoom, Bool.and_eq_true, decide_eq_true_eq, hfr, hu, List.length_cons, hlim, hbyt]
    obtain ⟨⟨⟨⟨a1, a2, a3, a4, a5, a6⟩, a7⟩, a8⟩, a9⟩ := h
    refine ⟨⟨⟨⟨by omega, by omega, by omega, by omega, by omega, a6⟩, ?_⟩, ?_⟩, X.book⟩
    · show T.heap.size + R2.cells ≤ _
      omega
    · show T.slotsUsed + R2.slots ≤ _
      omega
  have hsame : ((T.setVm s.vm).setFrames (.invoking m args :: below)).sameButNew (T.setVm s.vm) [] 0 0 := by
    refine ⟨?_, Nat.le_refl _, Nat.le_refl _, ?_, Nat.le_of_eq hdrop, fun a c9 h9 => ⟨c9, h9, rfl, rfl, fun _ _ => rfl⟩⟩
    · show T.setVm s.vm = { ((T.setVm s.vm).setFrames (.invoking m args :: below)).setFrames (T.setVm s.vm).frames with heap := T.heap, slotsUsed := T.slotsUsed }
      rw [State.setFrames_setFrames, State.setFrames_self ht]
      rfl
    · show T.slotsUsed = T.slotsUsed + ((T.heap.toList.drop T.heap.size).map (fun x : Cell => x.slots.size)).sum
      rw [hdrop]
      rfl
  exact ⟨X.admits, X.cas, X.clock, hfr, hroom, X.hears, X.method, X.code, X.here, X.tail, X.warmed, X.limits.trans hlim.symm, X.bytes.trans hbyt.symm, hsame⟩
/-- nothing old was written: the old cells are as they were -/
theorem xw_sameH {s U : State} {k n : Nat} (h : s.sameButNew U [] k n) : s.heap.size ≤ U.heap.size ∧ ∀ q : Nat, q < s.heap.size → U.heap[q]? = s.heap[q]? := by
  refine ⟨h.2.1, fun q hq => ?_⟩
  obtain ⟨c2, e1, e2, e3, e4⟩ := h.2.2.2.2.2 q _ (Array.getElem?_eq_getElem hq)
  have hs : c2.slots = (s.heap[q]).slots := Array.ext_getElem? fun i => e4 i (by simp)
  rw [e1, Array.getElem?_eq_getElem hq, e2, hs]
/-- the words on the class of what is thrown, its superclasses' aside -/
def xw_thL (own : String) (ic : Nat) (X : String) : List Cond :=
  [.instantiable X 6, .methodLink own ic (Bundle.initS X), .selects X Bundle.tFill Bundle.tFill, .selects X Bundle.tFill0 Bundle.tFill0, .isRef (.static Bundle.tN "UNASSIGNED_STACK" Bundle.steD), .isRef (.static Bundle.tN "SUPPRESSED_SENTINEL" Bundle.listD),
   .fieldLink Bundle.tN 198 Bundle.tN "backtrace" "Ljava/lang/Object;", .lays Bundle.tN Bundle.tN "backtrace" "Ljava/lang/Object;", .lays X Bundle.tN "backtrace" "Ljava/lang/Object;", .lays X Bundle.tN "detailMessage" "Ljava/lang/String;", .lays X Bundle.tN "suppressedExceptions" Bundle.listD, .lays X Bundle.tN "stackTrace" Bundle.steD, .lays X Bundle.tN "cause" "Ljava/lang/Throwable;"]
/-! A THROW WHOSE CLASS HAS A LINK OF ITS OWN to its superclass's constructor (NoSuchElementException: entry 13); stack traces are off -/
set_option maxHeartbeats 4000000 in
theorem xw_ctorX {p : Program} {l : Launch} {e : Env} {R : Room} {s W : State} {m : MethodId} {args : Array Value} {below : List Frame} {meth : Method} {c : Code} {locs : List Loc} {cells slots : Nat} (X : Stand p l e R s m args below meth c W locs cells slots) (hexec : p.tables.exec = Jvm.exec) (htr : e.platform.stackTraces = false) {own cls sup : String} {names : List String} {ic ix : Nat} {rx : ByteArray}
    (x0 : decode rx 0 = .ok (.aload_n 0, 1)) (x1 : decode rx 1 = .ok (.aload_n 1, 1)) (x2 : decode rx 2 = .ok (.invokespecial ix, 3)) (x5 : decode rx 5 = .ok (.return_, 1))
    (hown : s.vm.findClass own = some m.cls) (hcls : Bundle.fit cls = true) (hsup : Bundle.fit sup = true) (hnames : ∀ n ∈ names, Bundle.fit n = true)
    (up0 : ∀ w ∈ Bundle.throwableAtoms, w.before args s = true) (up1 : ∀ w ∈ Bundle.throwableSAtoms, w.before args s = true) (up2 : ∀ w ∈ Bundle.passSAtoms cls sup ix rx, w.before args s = true) (up3 : ∀ w ∈ Bundle.chainSAtoms sup names, w.before args s = true) (ha : ∀ w ∈ xw_thL own ic cls, w.before args s = true)
    {q : Addr} {cX : ClassId} {kX : Class} (hfX : s.vm.findClass cls = some cX) (hkX : s.vm.classes[cX]? = some kX) (hcell : W.heap[q]? = some (freshCell cX kX)) (hnew : s.heap.size ≤ q) (hlocs : ∀ z ∈ locs, ∀ cell, s.heap[z.base]? = some cell → cell.vm.isStatics = false)
    {msg : Value} (hmsg : msg.isRef = true) {g : JFrame} (hg : g.method = m) (hsize : g.locals.size = c.maxLocals) (hlocked : g.locked = none) (hentered : g.entered = []) {rest : List Value} (hstack : g.stack = msg :: .ref q :: .ref q :: rest)
    (hd6 : decode c.code g.pc = .ok (.invokespecial ic, 3)) (hd9 : decode c.code (g.pc + 3) = .ok (.athrow, 1)) (hout : ∀ z ∈ c.exceptionTable.toList, covers z (g.pc + 3) = false)
    (hRf : names.length + 4 < R.frames) (hRl : 2 * g.monitorRoom + ((Value.ref q :: rest).map fun v => v.category).sum + (13 * (names.length + 2) + 42) ≤ R.locals) (hlocks : meth.locks = false) :
    ∃ U : State, Steps p.tables e below (W.setTop g) U ∧ U.status = .running ∧ Ended U below (.threw q) ∧ s.WarmedH U.vm ∧ s.sameButNew ({ U with vm := s.vm } : State) locs cells slots ∧
      ∃ ce, U.heap[q]? = some ce ∧ ce.vm = .none ∧ s.vm.findClass cls = some ce.cls := by
  have pl1 : e.platform.magicAccessors = ({} : Platform).magicAccessors := by rw [X.admits.platform]
  have at1 : ∀ w, w ∈ xw_thL own ic cls → w.holds args s none s [] = true := fun w hw => ha w hw
  obtain ⟨T, Z0, LT, -, Y⟩ := ThrowableC.of_atoms (args := args) (by rw [X.admits.platform]) (by rw [X.admits.platform]) pl1 up0
  obtain ⟨Z, M, LZ, LM, hZn⟩ := Init0T.ofS_atoms (args := args) pl1 LT Y up1
  obtain ⟨P, LP, hPm, hPs⟩ := PassC.ofS_atoms (args := args) (s := s) pl1 (X := cls) (Y := sup) (Bundle.fit_spec hcls).1 (Bundle.fit_spec hsup).2 x0 x1 x2 x5 up2
  obtain ⟨Q, Qs, hlen, LQ, LQs, hQm, hfst, hons⟩ := Bundle.chainS (args := args) pl1 hZn names sup hsup hnames up3
  have hfirst : P.sup = firstOf (Z.m T.toThrowableT) ((Q :: Qs).map (·.toPassT)) := Option.some.inj (hPs.symm.trans hQm)
  have hfc := findClass_of_methodNamed hPm
  cases Option.some.inj (hfX.symm.trans hfc)
  obtain ⟨c1, k1, hc1, hk1, hord, -, -, -⟩ := Cond.instantiable_spec (at1 (.instantiable cls 6) (by simp [xw_thL]))
  cases Option.some.inj (hc1.symm.trans hfc)
  cases Option.some.inj (hkX.symm.trans hk1)
  have hs0 : selectMethod e.platform s.vm P.m.cls T.fill0 = .method T.fill0 := by
    obtain ⟨_, _, _, q1, q2, q3, q4, -⟩ := Cond.selects_spec (at1 (.selects cls Bundle.tFill0 Bundle.tFill0) (by simp [xw_thL]))
    cases Option.some.inj (q1.symm.trans hfc)
    cases Option.some.inj (q3.symm.trans Y.fill0)
    cases Option.some.inj (q2.symm.trans (State.methodFound?_of_named Y.fill0 (by decide)))
    exact (Launch.admits_selectMethod X.admits _ _ _).trans q4
  have hs1 : selectMethod e.platform s.vm P.m.cls T.fill = .method T.fill := by
    obtain ⟨_, _, _, q1, q2, q3, q4, -⟩ := Cond.selects_spec (at1 (.selects cls Bundle.tFill Bundle.tFill) (by simp [xw_thL]))
    cases Option.some.inj (q1.symm.trans hfc)
    cases Option.some.inj (q3.symm.trans Y.fill)
    cases Option.some.inj (q2.symm.trans (State.methodFound?_of_named Y.fill (by decide)))
    exact (Launch.admits_selectMethod X.admits _ _ _).trans q4
  obtain ⟨iM, hM⟩ := Y.msg
  obtain ⟨t1, d1, e1, n1⟩ := Cond.laysAt hfc hk1 Y.cause (at1 (.lays cls Bundle.tN "cause" "Ljava/lang/Throwable;") (by simp [xw_thL]))
  obtain ⟨t2, d2, e2, n2⟩ := Cond.laysAt hfc hk1 Y.stack (at1 (.lays cls Bundle.tN "stackTrace" Bundle.steD) (by simp [xw_thL]))
  obtain ⟨t3, d3, e3, n3⟩ := Cond.laysAt hfc hk1 Y.supp (at1 (.lays cls Bundle.tN "suppressedExceptions" Bundle.listD) (by simp [xw_thL]))
  obtain ⟨t4, -⟩ := Cond.laysAt hfc hk1 hM (at1 (.lays cls Bundle.tN "detailMessage" "Ljava/lang/String;") (by simp [xw_thL]))
  obtain ⟨ciB, iB, fB, b1, b2, b3, b4, -, b5, b6, b7⟩ := Cond.ownField (t := .object "java/lang/Object") Y.found LT.cls (by decide +kernel) (at1 (.fieldLink Bundle.tN 198 Bundle.tN "backtrace" "Ljava/lang/Object;") (by simp [xw_thL])) (at1 (.lays Bundle.tN Bundle.tN "backtrace" "Ljava/lang/Object;") (by simp [xw_thL])) e.platform pl1
  obtain ⟨t5, d5, e5, n5⟩ := Cond.laysAt hfc hk1 b7 (at1 (.lays cls Bundle.tN "backtrace" "Ljava/lang/Object;") (by simp [xw_thL]))
  have a1 := Cond.laysApart e5 e1 n5 n1 (by rw [b5, Y.causeName]; decide)
  have a2 := Cond.laysApart e5 e2 n5 n2 (by rw [b5, Y.stackName]; decide)
  have a3 := Cond.laysApart e5 e3 n5 n3 (by rw [b5, Y.suppName]; decide)
  obtain ⟨cS, hcS, hst⟩ := Y.statics
  obtain ⟨u0, hu0⟩ := Cond.staticRefV Y.unassigned LT.unassignedStatic LT.statics hcS hst (at1 (.isRef (.static Bundle.tN "UNASSIGNED_STACK" Bundle.steD)) (by simp [xw_thL]))
  obtain ⟨u1, hu1⟩ := Cond.staticRefV Y.sentinel LT.sentinelStatic LT.statics hcS hst (at1 (.isRef (.static Bundle.tN "SUPPRESSED_SENTINEL" Bundle.listD)) (by simp [xw_thL]))
  obtain ⟨cW, hcW, hvW, -, hkW⟩ := X.same.2.2.2.2.2 T.aS cS hcS
  have hcW : W.heap[T.aS]? = some cW := hcW
  have out1 : ∀ i, (⟨T.aS, i⟩ : Loc) ∉ locs := fun i hm => by
    have h9 := hlocs _ hm cS hcS
    rw [hst] at h9
    cases h9
  have hnu : cW.vm ≠ .unknown := fun hu => by
    rw [hvW] at hu
    rw [hu] at hst
    cases hst
  have hne : T.aS ≠ q := Nat.ne_of_lt (Nat.lt_of_lt_of_le (Array.getElem?_eq_some_iff.mp hcS).1 hnew)
  have skip : SkipFacts T e.platform s (fun u => u) u0 ((preparedCellV T.toThrowableT (freshCell P.m.cls kX) q u0 u1).withEntry W.cur) := by
    refine ⟨{ ci198 := ciB, i198 := iB, fBack := fB }, ⟨b1, b2, b3, b4⟩, ?_, fun _ _ => rfl⟩
    have h9 := fresh_default (c := P.m.cls) t5
    rw [b6] at h9
    simpa [preparedCellV, Cell.setSlot, Cell.withEntry, Array.getElem?_setIfInBounds, a1, a2, a3, a1.symm, a2.symm, a3.symm, defaultValue] using h9
  obtain ⟨tm, _, _, _, vm1, hn1, -, -, -, -, -, -, -, hW1, go1⟩ := Steps.initColdS (tb := p.tables) (e := e) (below := below) (s := s) (U := W) X.here hexec X.warmed pl1 hown (t := Bundle.initS cls) rfl rfl (Bundle.fit_spec hcls).2
    (at1 (.methodLink own ic (Bundle.initS cls)) (by simp [xw_thL])) (up2 _ (by simp [Bundle.passSAtoms])) (bytes := rx) (maxL := 2) (up2 _ (by simp [Bundle.passSAtoms])) (f := g) hg (a := q) (msg := msg) (rest := .ref q :: rest) hstack hd6
  cases Option.some.inj (hn1.symm.trans hPm)
  have X1 := X.noted hW1
  obtain ⟨vm2, X2, go2⟩ := X1.ctorMessageOffV hexec (g := { g with stack := .ref q :: rest }) hg hsize T LT Z LZ M LM (P :: Q :: Qs)
    (fun B hB => (List.mem_cons.mp hB).elim (fun z => by rw [z]; exact LP) (fun hB => (List.mem_cons.mp hB).elim (fun z => by rw [z]; exact LQ) (LQs B))) ⟨hfirst, hfst, hons⟩ (u0 := u0) (sen := u1) (self := q) hmsg (cell := freshCell P.m.cls kX) (cellS := cW)
    hcell (fun _ => by simp) (by simp) rfl rfl hs0 hs1 hcW hne hnu (by rw [hkW _ (out1 _)]; exact hu0) (by rw [hkW _ (out1 _)]; exact hu1)
    (Takes.of_laid hk1 hord t1 (by rw [Y.causeType]; rfl)) (Takes.of_laid hk1 hord t2 (by rw [Y.stackType]; exact fits_refV_array _ u0)) (Takes.of_laid hk1 hord t3 (by rw [Y.suppType]; exact fits_refV_object _ u1))
    (Takes.of_laid hk1 hord t4 (by rw [Y.msgType]; exact fits_refV_object _ ⟨msg, hmsg⟩)) Y.objLocals skip htr [] hd6 (by simp only [List.length_cons, hlen]; omega) (by simp only [List.length_cons, hlen]; exact hRl)
  obtain ⟨w1, w2, w3, w4, w5⟩ := X2.athrowLeaves hexec (g := { g with stack := .ref q :: rest, pc := g.pc + 3 }) hg hlocked hentered hout (a := q) (rest := rest) rfl hd9
  have hlt : q < ((W.setVm vm1).setVm vm2).heap.size := (Array.getElem?_eq_some_iff.mp hcell).1
  refine ⟨_, go1 _ (fun acts => by rw [doInvoke_state]; exact go2 _ w1), w2, w3, w4, w5.weaken (fun y hy hl => ?_) (Nat.le_refl _) (Nat.le_refl _), _, heapAt_setCell_self (s := (W.setVm vm1).setVm vm2) _ hlt, rfl, hfc⟩
  rcases List.mem_append.mp hy with h1 | h1
  · exact h1
  · have hb : y.base = q := by
      simp only [List.mem_cons, List.not_mem_nil, or_false] at h1
      rcases h1 with rfl | rfl | rfl | rfl | rfl <;> rfl
    exact absurd (hb ▸ hl) (Nat.not_lt.mpr hnew)
section Throws
variable {G : xw_G} {M : xw_M} {F L bc bs : Nat} {pr : Option Value → xw_A → Prop} {px : String → xw_A → Prop} {pc : Nat} {lv : List (Option Value)} {rest st : List Value} {h : xw_A}
/-- what the tables must say for 'throw new cls(text)' at own's entries ik (the class), is (the text), ic (the constructor) -/
def xw_thA (own : String) (ic : Nat) (cls sup : String) (ix : Nat) (rx : ByteArray) (names : List String) : Prop :=
  (∀ w ∈ Bundle.throwableAtoms, xw_atB w = true) ∧ (∀ w ∈ Bundle.throwableSAtoms, xw_atB w = true) ∧ (∀ w ∈ Bundle.passSAtoms cls sup ix rx, xw_atB w = true) ∧ (∀ w ∈ Bundle.chainSAtoms sup names, xw_atB w = true) ∧ (∀ w ∈ xw_thL own ic cls, xw_atB w = true)
def xw_th (own : String) (ik is ic : Nat) (cls text sup : String) (ix : Nat) (rx : ByteArray) (names : List String) : Prop :=
  (decode rx 0 = .ok (.aload_n 0, 1) ∧ decode rx 1 = .ok (.aload_n 1, 1) ∧ decode rx 2 = .ok (.invokespecial ix, 3) ∧ decode rx 5 = .ok (.return_, 1)) ∧
  Cond.classLink own ik cls ∈ xw_tbl ∧ Cond.initialized cls ∈ xw_tbl ∧ Cond.stringRef own is text ∈ lw_tbl ∧ Bundle.fit cls = true ∧ (Bundle.fit sup = true ∧ ∀ n ∈ names, Bundle.fit n = true) ∧ xw_thA own ic cls sup ix rx names
theorem x_throw {ik is ic ix : Nat} {rx : ByteArray} {cls text sup : String} {names : List String} (hM0 : M.2.2.2.2 = []) (ht : xw_th M.1.cls ik is ic cls text sup ix rx names)
    (d0 : decode M.2.1 pc = .ok (.new ik, 3)) (d3 : decode M.2.1 (pc + 3) = .ok (.dup, 1)) (d4 : decode M.2.1 (pc + 4) = .ok (.ldc is, 2)) (d6 : decode M.2.1 (pc + 6) = .ok (.invokespecial ic, 3)) (d9 : decode M.2.1 (pc + 9) = .ok (.athrow, 1))
    (hr : names.length + 4 < F ∧ (rest.map fun v => v.category).sum + (13 * (names.length + 2) + 43) ≤ L) (hb : 1 ≤ bc ∧ 6 ≤ bs) (hp : px cls h) : xw G M F L bc bs pr px pc lv rest h := by
  intro p e R s m args below meth c H locs cells slots ls C hR hB hH hS hl T hT X
  obtain ⟨t0, t1, t2, t3, t4, t5, t6⟩ := ht
  have Y := xw_anew X (R2 := { frames := R.frames, locals := R.locals, cells := 1, slots := 6 }) (Nat.le_refl _) (Nat.le_refl _) (by show cells + 1 ≤ _; omega) (by show slots + 6 ≤ _; omega)
  have hsv : ((T.setVm s.vm).setFrames (.invoking m args :: below)).vm = s.vm := rfl
  have hsh : ((T.setVm s.vm).setFrames (.invoking m args :: below)).heap = H := hT
  generalize hA : (T.setVm s.vm).setFrames (.invoking m args :: below) = s2 at Y hsv hsh
  have hW0 : s.WarmedH s2.vm := by rw [hsv]; exact State.WarmedH.refl s
  have hF2 : xw_F G s2 s2.heap := xw_F.moved hW0 (fun q h1 h2 => by rw [hsh]; exact hS.2.1 q h1 (Nat.not_le.mpr h2)) C.2.2.2.2.2.2.2.2.2
  have hat : ∀ l : List Cond, (∀ w ∈ l, xw_atB w = true) → ∀ w ∈ l, w.before args s2 = true := fun l hl w hw => hF2.atom hW0 C.2.2.2.2.2.1 (hl w hw)
  have good : ∀ w ∈ xw_tbl, w.before args s2 = true := fun w hw => word_at hW0 (xw_good w hw) (C.2.2.2.2.2.1 w hw)
  have hown : s2.vm.findClass M.1.cls = some m.cls := by rw [hsv]; exact C.2.2.2.2.1
  have htr : e.platform.stackTraces = false := (show e.platform.stackTraces = G.1.stackTraces by rw [X.admits.platform]).trans C.2.2.2.2.2.2.2.2.2.1.2.2
  have hins : (Cond.instantiable cls 6).before args s2 = true := hat _ t6.2.2.2.2 _ (by simp [xw_thL])
  obtain ⟨sa, hsa⟩ : ∃ sa, vk_R M.1.cls is text sa s2 := by
    obtain ⟨k9, cf9, i9, a9, -, -, -, -, -, hev⟩ := Cond.stringRef_spec (s := G.2.2.1) (args := G.2.2.2) (cls := M.1.cls) (by rw [← hF2.2.2.2.alike.findClass]; exact hown) (hF2.1.1 _ t3)
    exact ⟨a9, vk_R.warm hF2.2.2.2 (vk_R.of (hF2.1.1 _ t3) hev)⟩
  have htab : ∀ x ∈ c.exceptionTable.toList, covers x (pc + 6 + 3) = false := by
    rw [C.2.2.2.2.2.2.2.1, hM0]
    exact fun x hx => by cases hx
  obtain ⟨vm1, cX, kX, hfX, hkX, -, -, X1, st1⟩ := Y.newCold C.1 (own := M.1.cls) (C := cls) (index := ik) (n := 6) hown (good _ t1) hins (good _ t2) (g := F0 m pc ls rest) rfl (by rw [C.2.1]; exact d0) (Nat.le_refl _) (Nat.le_refl _)
  have hcell : ((T.setVm vm1).pushCell { cls := cX, slots := kX.instanceTypes.map defaultValue, vm := .none }).heap[T.heap.size]? = some (freshCell cX kX) := State.heap_pushCell_size _ _
  have hcat : (Value.ref T.heap.size).category = 1 := rfl
  obtain ⟨U, hst, hrun, hend, hWU, hsm, ce, hce, hO1, hO2⟩ := xw_ctorX X1 C.1 htr (own := M.1.cls) (cls := cls) (names := names) (ic := ic) t0.1 t0.2.1 t0.2.2.1 t0.2.2.2 hown t4 t5.1 t5.2 (hat _ t6.1) (hat _ t6.2.1) (hat _ t6.2.2.1) (hat _ t6.2.2.2.1) (hat _ t6.2.2.2.2) hfX hkX hcell (by rw [hsh, hT]; exact Nat.le_refl _) (fun x hx => nomatch hx) (msg := .ref sa) rfl
    (g := { method := m, pc := pc + 6, locals := ls, stack := .ref sa :: .ref T.heap.size :: .ref T.heap.size :: rest, locked := none }) rfl (hl.1.trans C.2.2.2.1.symm) rfl rfl (rest := rest) rfl
    (by rw [C.2.1]; exact d6) (by rw [C.2.1]; exact d9) htab (by have := hR.1; show names.length + 4 < R.frames; omega) (by have := hR.2; simp only [List.map_cons, List.sum_cons, hcat]; show 2 * 0 + _ + _ ≤ R.locals; omega) C.2.2.2.2.2.2.1
  obtain ⟨f1, f2⟩ := xw_sameH hsm
  rw [hsh] at f1 f2
  have f1 : H.size ≤ U.heap.size := f1
  have f2 : ∀ q : Nat, q < H.size → U.heap[q]? = H[q]? := f2
  have hWs : s.WarmedH U.vm := State.WarmedH.trans hW0 hWU
  have hall : s.sameButNew ({ U with vm := s.vm } : State) locs R.cells R.slots := by
    subst hA
    obtain ⟨e1, e2⟩ := hsm
    rw [State.setFrames_setFrames] at e1
    have h2 : (T.setVm s.vm).sameButNew ({ U with vm := s.vm } : State) [] (0 + 1) (0 + 6) := ⟨e1, e2⟩
    have h3 := X.same.trans h2
    rw [List.append_nil] at h3
    exact h3.mono (by omega) (by omega)
  refine ⟨U, ?_, .threw T.heap.size, hrun, hend, Or.inr ⟨T.heap.size, rfl, cls, ce, locs, h, hp, xw_H.grow (xw_H.moved hWs.alike hH) f2, ⟨Nat.le_trans hS.1 f1, fun q h1 h2 => (f2 q (Nat.lt_of_lt_of_le h1 hS.1)).trans (hS.2.1 q h1 h2)⟩, hce, hO1, by have h9 := hO2; rw [hsv] at h9; exact h9, hWs, hall, hS.2.2⟩⟩
  refine st1 _ ?_
  have d3' : decode c.code (pc + 3) = .ok (.dup, 1) := by rw [C.2.1]; exact d3
  have d4' : decode c.code (pc + 4) = .ok (.ldc is, 2) := by rw [C.2.1]; exact d4
  generalize (T.setVm vm1).pushCell { cls := cX, slots := kX.instanceTypes.map defaultValue, vm := .none } = T1 at X1 hst hcell ⊢
  show Steps p.tables e below (T1.setTop { method := m, pc := pc + 3, locals := ls, stack := .ref T.heap.size :: rest, locked := none }) _
  jvm_step X1.here [X1.here.top, C.1, d3', Value.category]
  exact X1.ldcString C.1 (own := M.1.cls) (text := text) (index := is) (a := sa) hown hsa.1 hsa.2 (g := { method := m, pc := pc + 4, locals := ls, stack := .ref T.heap.size :: .ref T.heap.size :: rest, locked := none }) rfl d4' _ hst
end Throws
