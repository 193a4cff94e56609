/-! the class between two calls, the law's helpers, its loop: by program (wip/tools/gen8.py) -/
/-! THE CLASS BETWEEN TWO CALLS -/
abbrev GT5 := (Nat → Option VT) × List VT × List SG × Nat × Nat
def C1 (x d tx w st sv qo so ao dl : Nat) (gO : Int32) (gM : Nat × Nat) (h : xw_A) : Prop := ∃ (wp gp : Int32), h x = some (.inr (0, [.ref d, .ref tx, .ref w, .ref st, .ref sv, .ref qo, .ref so, .ref ao, .int (nI dl), .int (nI gM.1), .int (nI gM.2), .int gO, .int wp, .int gp])) ∧ dl ≤ 96 ∧ gM.1 ≤ 9 ∧ gM.2 ≤ 200
def C2 (d : Nat) (gD : Nat → Int32) (h : xw_A) : Prop := h d = some (.inl (1, 96, .inl gD))
def C3 (A : List Nat) (tx gP gQ : Nat) (h : xw_A) : Prop := ∃ fx : Nat → Option Nat, h tx = some (oa 2 9 fx) ∧ fx 0 = some gP ∧ fx 1 = some gQ ∧ TokOK A h gP ∧ TokOK A h gQ
def C4 (w w0 w1 : Nat) (h : xw_A) : Prop := ∃ (wf : Nat → Int32), h w = some (.inl (0, 2, .inl wf)) ∧ (wf 0 = nI w0 ∧ w0 ≤ 9) ∧ (wf 1 = nI w1 ∧ w1 ≤ 9)
def C8 (so sp : Nat) (h : xw_A) : Prop := ∃ (qq : Option Nat) (pf : Nat → Int32), h so = some (.inr (7, [.ref sp, va_rf qq])) ∧ h sp = some (.inl (0, 576, .inl pf))
def C9 (ao o1 o2 o3 o4 : Nat) (h : xw_A) : Prop := ∃ (sz : Nat) (f1 f3 f4 : Nat → Int32) (f2 : Nat → UInt64), AnsC ao o1 o2 o3 o4 sz f1 f2 f3 f4 h
theorem C1.fr {x d tx w st sv qo so ao dl : Nat} {gO : Int32} {gM : Nat × Nat} {B : List Nat} {h h' : xw_A} (K : C1 x d tx w st sv qo so ao dl gO gM h) (r : FrO B h h') (n : x ∉ B) : C1 x d tx w st sv qo so ao dl gO gM h' := by
  obtain ⟨wp, gp, e, hd⟩ := K
  exact ⟨wp, gp, r _ _ n e, hd⟩
def StoT (A : List Nat) (st s1 s2 s3 s4 : Nat) (fr : Nat → Option Nat) (g : GT5) (h : xw_A) : Prop := StoG A st s1 s2 s3 s4 fr g.1 g.2.1 g.2.2.1 g.2.2.2.1 g.2.2.2.2 h
theorem StoT.fr {A B : List Nat} {st s1 s2 s3 s4 : Nat} {gR : Nat → Option Nat} {g : GT5} {h h' : xw_A} (K : StoT A st s1 s2 s3 s4 gR g h) (r : FrO B h h') (hB : ∀ q ∈ B, q ∈ A) (n : st ∉ B ∧ s1 ∉ B ∧ s2 ∉ B ∧ s3 ∉ B ∧ s4 ∉ B) (hx : ∀ q ∈ B, ∃ e, h' q = some e) : StoT A st s1 s2 s3 s4 gR g h' := StoG.fr K r hB n hx
theorem C2.fr {d : Nat} {gD : Nat → Int32} {B : List Nat} {h h' : xw_A} (K : C2 d gD h) (r : FrO B h h') (n : d ∉ B) : C2 d gD h' := r _ _ n K
theorem C3.fr {A : List Nat} {tx gP gQ : Nat} {B : List Nat} {h h' : xw_A} (K : C3 A tx gP gQ h) (r : FrO B h h') (hB : ∀ q ∈ B, q ∈ A) (n : tx ∉ B) : C3 A tx gP gQ h' := by
  obtain ⟨fx, e, e0, e1, k0, k1⟩ := K
  exact ⟨fx, r _ _ n e, e0, e1, k0.fr r hB, k1.fr r hB⟩
theorem C4.fr {w w0 w1 : Nat} {B : List Nat} {h h' : xw_A} (K : C4 w w0 w1 h) (r : FrO B h h') (n : w ∉ B) : C4 w w0 w1 h' := by
  obtain ⟨wf, e, k0, k1⟩ := K
  exact ⟨wf, r _ _ n e, k0, k1⟩
theorem C8.fr {so sp : Nat} {B : List Nat} {h h' : xw_A} (K : C8 so sp h) (r : FrO B h h') (n : so ∉ B) (n2 : sp ∉ B) : C8 so sp h' := by
  obtain ⟨qq, pf, e, e2⟩ := K
  exact ⟨qq, pf, r _ _ n e, r _ _ n2 e2⟩
theorem C9.fr {ao o1 o2 o3 o4 : Nat} {B : List Nat} {h h' : xw_A} (K : C9 ao o1 o2 o3 o4 h) (r : FrO B h h') (n : ao ∉ B) (n1 : o1 ∉ B) (n2 : o2 ∉ B) (n3 : o3 ∉ B) (n4 : o4 ∉ B) : C9 ao o1 o2 o3 o4 h' := by
  obtain ⟨sz, f1, f3, f4, f2, e0, e1, e2, e3, e4, hs, ho⟩ := K
  exact ⟨sz, f1, f3, f4, f2, r _ _ n e0, r _ _ n1 e1, r _ _ n2 e2, r _ _ n3 e3, r _ _ n4 e4, hs, ho⟩
theorem StoR.fr {A B : List Nat} {st s1 s2 s3 s4 : Nat} {gR : Nat → Option Nat} {h h' : xw_A} (K : StoR A st s1 s2 s3 s4 gR h) (r : FrO B h h') (hB : ∀ q ∈ B, q ∈ A) (n : st ∉ B ∧ s1 ∉ B ∧ s2 ∉ B ∧ s3 ∉ B ∧ s4 ∉ B) (hx : ∀ q ∈ B, ∃ e, h' q = some e) : StoR A st s1 s2 s3 s4 gR h' := by
  obtain ⟨fp, fs, fl, pc, sc, lc, pe, vm, sm, K⟩ := K
  exact (K.fr r hB n hx).r
theorem NDl.notin {l js : List Nat} (h : NDl l) {i a : Nat} (hi : l[i]? = some a) (hj : i ∉ js) : a ∉ pick l js := fun hb => by
  obtain ⟨j, hj2, h2⟩ := List.mem_filterMap.mp hb
  exact hj ((h i j a hi h2) ▸ hj2)
def flG (g : GT5) (k : Nat × Nat) : GT5 := (g.1, [], (fluS g.1 k.1 g.2.1 g.2.2.1 g.2.2.2.2).1, g.2.2.2.1, (fluS g.1 k.1 g.2.1 g.2.2.1 g.2.2.2.2).2)
def opG (g : GT5) : GT5 := (g.1, g.2.1, mrgS g.1 0 5 (hiL g.2.2.1 0) g.2.2.1, g.2.2.2.1, mrgN g.1 0 5 g.2.2.1 g.2.2.2.2)
def GvG (g : GT5) (k : Nat × Nat) (c y : Nat) (g2 : GT5) : Prop := ∃ (P2 : List VT) (S2 : List SG) (n2 : Nat), GvR (va_up g.1 c (some (g.2.2.2.1, c, y))) k.1 k.2 (putP g.2.1 (g.2.2.2.1, c, y)) g.2.2.1 g.2.2.2.2 P2 S2 n2 ∧ g2 = (va_up g.1 c (some (g.2.2.2.1, c, y)), P2, S2, g.2.2.2.1 + 1, n2)
theorem StoT.fl {A : List Nat} {st s1 s2 s3 s4 : Nat} {fr : Nat → Option Nat} {g : GT5} {k : Nat × Nat} {h : xw_A} (K : StoG A st s1 s2 s3 s4 fr g.1 [] (fluS g.1 k.1 g.2.1 g.2.2.1 g.2.2.2.2).1 g.2.2.2.1 (fluS g.1 k.1 g.2.1 g.2.2.1 g.2.2.2.2).2 h) : StoT A st s1 s2 s3 s4 fr (flG g k) h := by
  generalize e : fluS g.1 k.1 g.2.1 g.2.2.1 g.2.2.2.2 = y at K
  have e2 : flG g k = (g.1, [], y.1, g.2.2.2.1, y.2) := by rw [← e]; rfl
  rw [e2]
  exact K
theorem StoT.op {A : List Nat} {st s1 s2 s3 s4 : Nat} {fr : Nat → Option Nat} {g : GT5} {h : xw_A} (K : StoG A st s1 s2 s3 s4 fr g.1 g.2.1 (mrgS g.1 0 5 (hiL g.2.2.1 0) g.2.2.1) g.2.2.2.1 (mrgN g.1 0 5 g.2.2.1 g.2.2.2.2) h) : StoT A st s1 s2 s3 s4 fr (opG g) h := by
  generalize e : mrgS g.1 0 5 (hiL g.2.2.1 0) g.2.2.1 = y at K
  generalize e3 : mrgN g.1 0 5 g.2.2.1 g.2.2.2.2 = z at K
  have e2 : opG g = (g.1, g.2.1, y, g.2.2.2.1, z) := by rw [← e, ← e3]; rfl
  rw [e2]
  exact K
abbrev CLs (x d tx w st s1 s2 s3 s4 sv v1 v2 v3 v4 qo tk tl tz ph nd po k1 k2 k3 so sp ao o1 o2 o3 o4 : Nat) (ps ns : List Nat) : List Nat := [x, d, tx, w, st, s1, s2, s3, s4, sv, v1, v2, v3, v4, qo, tk, tl, tz, ph, nd, po, k1, k2, k3, so, sp, ao, o1, o2, o3, o4] ++ (ps ++ ns)
def CI (A : List Nat) (x d tx w st s1 s2 s3 s4 sv v1 v2 v3 v4 qo tk tl tz ph nd po k1 k2 k3 so sp ao o1 o2 o3 o4 : Nat) (ps ns : List Nat) (dl w0 w1 : Nat) (gO : Int32) (gR gV : Nat → Option Nat) (gD : Nat → Int32) (gP gQ : Nat) (gG gH : GT5) (gM : Nat × Nat) (h : xw_A) : Prop := C1 x d tx w st sv qo so ao dl gO gM h ∧ C2 d gD h ∧ C3 A tx gP gQ h ∧ C4 w w0 w1 h ∧ StoT A st s1 s2 s3 s4 gR gG h ∧ StoT A sv v1 v2 v3 v4 gV gH h ∧ QuI qo tk tl tz ph nd po k1 k2 k3 (fun i => ps[i]?) (fun i => ns[i]?) h ∧ C8 so sp h ∧ C9 ao o1 o2 o3 o4 h
def CS (A : List Nat) (x d tx w st s1 s2 s3 s4 sv v1 v2 v3 v4 qo tk tl tz ph nd po k1 k2 k3 so sp ao o1 o2 o3 o4 : Nat) (ps ns : List Nat) : Prop := NDl (CLs x d tx w st s1 s2 s3 s4 sv v1 v2 v3 v4 qo tk tl tz ph nd po k1 k2 k3 so sp ao o1 o2 o3 o4 ps ns) ∧ ps.length = 12 ∧ ns.length = 24 ∧ ∀ a ∈ (CLs x d tx w st s1 s2 s3 s4 sv v1 v2 v3 v4 qo tk tl tz ph nd po k1 k2 k3 so sp ao o1 o2 o3 o4 ps ns), a ∈ A
theorem CS.ps {A : List Nat} {x d tx w st s1 s2 s3 s4 sv v1 v2 v3 v4 qo tk tl tz ph nd po k1 k2 k3 so sp ao o1 o2 o3 o4 : Nat} {ps ns : List Nat} (S : CS A x d tx w st s1 s2 s3 s4 sv v1 v2 v3 v4 qo tk tl tz ph nd po k1 k2 k3 so sp ao o1 o2 o3 o4 ps ns) {i a : Nat} (h : ps[i]? = some a) : (CLs x d tx w st s1 s2 s3 s4 sv v1 v2 v3 v4 qo tk tl tz ph nd po k1 k2 k3 so sp ao o1 o2 o3 o4 ps ns)[31 + i]? = some a := by
  have hi : i < ps.length := (List.getElem?_eq_some_iff.mp h).1
  show ([x, d, tx, w, st, s1, s2, s3, s4, sv, v1, v2, v3, v4, qo, tk, tl, tz, ph, nd, po, k1, k2, k3, so, sp, ao, o1, o2, o3, o4] ++ (ps ++ ns))[31 + i]? = some a
  rw [List.getElem?_append_right (by simp), List.getElem?_append_left (by simp; omega)]
  simpa using h
theorem CS.ns {A : List Nat} {x d tx w st s1 s2 s3 s4 sv v1 v2 v3 v4 qo tk tl tz ph nd po k1 k2 k3 so sp ao o1 o2 o3 o4 : Nat} {ps ns : List Nat} (S : CS A x d tx w st s1 s2 s3 s4 sv v1 v2 v3 v4 qo tk tl tz ph nd po k1 k2 k3 so sp ao o1 o2 o3 o4 ps ns) {i a : Nat} (h : ns[i]? = some a) : (CLs x d tx w st s1 s2 s3 s4 sv v1 v2 v3 v4 qo tk tl tz ph nd po k1 k2 k3 so sp ao o1 o2 o3 o4 ps ns)[43 + i]? = some a := by
  have hp := S.2.1
  show ([x, d, tx, w, st, s1, s2, s3, s4, sv, v1, v2, v3, v4, qo, tk, tl, tz, ph, nd, po, k1, k2, k3, so, sp, ao, o1, o2, o3, o4] ++ (ps ++ ns))[43 + i]? = some a
  rw [List.getElem?_append_right (by simp; omega), List.getElem?_append_right (by simp; omega)]
  have e : 43 + i - [x, d, tx, w, st, s1, s2, s3, s4, sv, v1, v2, v3, v4, qo, tk, tl, tz, ph, nd, po, k1, k2, k3, so, sp, ao, o1, o2, o3, o4].length - ps.length = i := by simp; omega
  rw [e]
  exact h
theorem CS.mem {A : List Nat} {x d tx w st s1 s2 s3 s4 sv v1 v2 v3 v4 qo tk tl tz ph nd po k1 k2 k3 so sp ao o1 o2 o3 o4 : Nat} {ps ns : List Nat} (S : CS A x d tx w st s1 s2 s3 s4 sv v1 v2 v3 v4 qo tk tl tz ph nd po k1 k2 k3 so sp ao o1 o2 o3 o4 ps ns) (i : Nat) {a : Nat} (h : (CLs x d tx w st s1 s2 s3 s4 sv v1 v2 v3 v4 qo tk tl tz ph nd po k1 k2 k3 so sp ao o1 o2 o3 o4 ps ns)[i]? = some a) : a ∈ A := S.2.2.2 a (List.mem_of_getElem? h)
theorem CS.pkA {A : List Nat} {x d tx w st s1 s2 s3 s4 sv v1 v2 v3 v4 qo tk tl tz ph nd po k1 k2 k3 so sp ao o1 o2 o3 o4 : Nat} {ps ns : List Nat} (S : CS A x d tx w st s1 s2 s3 s4 sv v1 v2 v3 v4 qo tk tl tz ph nd po k1 k2 k3 so sp ao o1 o2 o3 o4 ps ns) {js : List Nat} : ∀ q ∈ pick (CLs x d tx w st s1 s2 s3 s4 sv v1 v2 v3 v4 qo tk tl tz ph nd po k1 k2 k3 so sp ao o1 o2 o3 o4 ps ns) js, q ∈ A := fun q hq => by
  obtain ⟨j, -, h2⟩ := List.mem_filterMap.mp hq
  exact S.mem j h2
theorem CS.inC {x d tx w st s1 s2 s3 s4 sv v1 v2 v3 v4 qo tk tl tz ph nd po k1 k2 k3 so sp ao o1 o2 o3 o4 : Nat} {ps ns : List Nat} {js : List Nat} : ∀ q ∈ pick (CLs x d tx w st s1 s2 s3 s4 sv v1 v2 v3 v4 qo tk tl tz ph nd po k1 k2 k3 so sp ao o1 o2 o3 o4 ps ns) js, q ∈ (CLs x d tx w st s1 s2 s3 s4 sv v1 v2 v3 v4 qo tk tl tz ph nd po k1 k2 k3 so sp ao o1 o2 o3 o4 ps ns) := fun q hq => by
  obtain ⟨j, -, h2⟩ := List.mem_filterMap.mp hq
  exact List.mem_of_getElem? h2
set_option maxHeartbeats 1000000 in
theorem CI.fr {A : List Nat} {x d tx w st s1 s2 s3 s4 sv v1 v2 v3 v4 qo tk tl tz ph nd po k1 k2 k3 so sp ao o1 o2 o3 o4 : Nat} {ps ns : List Nat} {dl w0 w1 : Nat} {gO : Int32} {gR gV : Nat → Option Nat} {gD : Nat → Int32} {gP gQ : Nat} {gG gH : GT5} {gM : Nat × Nat} {B : List Nat} {h h' : xw_A} (S : CS A x d tx w st s1 s2 s3 s4 sv v1 v2 v3 v4 qo tk tl tz ph nd po k1 k2 k3 so sp ao o1 o2 o3 o4 ps ns) (K : CI A x d tx w st s1 s2 s3 s4 sv v1 v2 v3 v4 qo tk tl tz ph nd po k1 k2 k3 so sp ao o1 o2 o3 o4 ps ns dl w0 w1 gO gR gV gD gP gQ gG gH gM h) (r : FrO B h h') (hA : ∀ q ∈ B, q ∈ A) (hd : ∀ a ∈ (CLs x d tx w st s1 s2 s3 s4 sv v1 v2 v3 v4 qo tk tl tz ph nd po k1 k2 k3 so sp ao o1 o2 o3 o4 ps ns), a ∉ B) (ex : ∀ q ∈ B, ∃ e, h' q = some e) : CI A x d tx w st s1 s2 s3 s4 sv v1 v2 v3 v4 qo tk tl tz ph nd po k1 k2 k3 so sp ao o1 o2 o3 o4 ps ns dl w0 w1 gO gR gV gD gP gQ gG gH gM h' := by
  obtain ⟨K1, K2, K3, K4, K5, K6, K7, K8, K9⟩ := K
  exact ⟨K1.fr r (hd x (List.mem_of_getElem? (i := 0) rfl)), C2.fr K2 r (hd d (List.mem_of_getElem? (i := 1) rfl)), K3.fr r hA (hd tx (List.mem_of_getElem? (i := 2) rfl)), K4.fr r (hd w (List.mem_of_getElem? (i := 3) rfl)), K5.fr r hA ⟨(hd st (List.mem_of_getElem? (i := 4) rfl)), (hd s1 (List.mem_of_getElem? (i := 5) rfl)), (hd s2 (List.mem_of_getElem? (i := 6) rfl)), (hd s3 (List.mem_of_getElem? (i := 7) rfl)), (hd s4 (List.mem_of_getElem? (i := 8) rfl))⟩ ex, K6.fr r hA ⟨(hd sv (List.mem_of_getElem? (i := 9) rfl)), (hd v1 (List.mem_of_getElem? (i := 10) rfl)), (hd v2 (List.mem_of_getElem? (i := 11) rfl)), (hd v3 (List.mem_of_getElem? (i := 12) rfl)), (hd v4 (List.mem_of_getElem? (i := 13) rfl))⟩ ex, K7.fr r ⟨(hd qo (List.mem_of_getElem? (i := 14) rfl)), (hd ph (List.mem_of_getElem? (i := 18) rfl)), (hd nd (List.mem_of_getElem? (i := 19) rfl)), (hd po (List.mem_of_getElem? (i := 20) rfl)), (hd k1 (List.mem_of_getElem? (i := 21) rfl)), (hd k2 (List.mem_of_getElem? (i := 22) rfl)), (hd k3 (List.mem_of_getElem? (i := 23) rfl))⟩ ⟨(hd tk (List.mem_of_getElem? (i := 15) rfl)), (hd tl (List.mem_of_getElem? (i := 16) rfl)), (hd tz (List.mem_of_getElem? (i := 17) rfl))⟩ (fun i a _ q => hd a (List.mem_of_getElem? (S.ps q))) (fun i a _ q => hd a (List.mem_of_getElem? (S.ns q))), K8.fr r (hd so (List.mem_of_getElem? (i := 24) rfl)) (hd sp (List.mem_of_getElem? (i := 25) rfl)), K9.fr r (hd ao (List.mem_of_getElem? (i := 26) rfl)) (hd o1 (List.mem_of_getElem? (i := 27) rfl)) (hd o2 (List.mem_of_getElem? (i := 28) rfl)) (hd o3 (List.mem_of_getElem? (i := 29) rfl)) (hd o4 (List.mem_of_getElem? (i := 30) rfl))⟩
theorem CI.same {A : List Nat} {x d tx w st s1 s2 s3 s4 sv v1 v2 v3 v4 qo tk tl tz ph nd po k1 k2 k3 so sp ao o1 o2 o3 o4 : Nat} {ps ns : List Nat} {dl w0 w1 : Nat} {gO : Int32} {gR gV : Nat → Option Nat} {gD : Nat → Int32} {gP gQ : Nat} {gG gH : GT5} {gM : Nat × Nat} {h h' : xw_A} (S : CS A x d tx w st s1 s2 s3 s4 sv v1 v2 v3 v4 qo tk tl tz ph nd po k1 k2 k3 so sp ao o1 o2 o3 o4 ps ns) (K : CI A x d tx w st s1 s2 s3 s4 sv v1 v2 v3 v4 qo tk tl tz ph nd po k1 k2 k3 so sp ao o1 o2 o3 o4 ps ns dl w0 w1 gO gR gV gD gP gQ gG gH gM h) (r : FrO [] h h') : CI A x d tx w st s1 s2 s3 s4 sv v1 v2 v3 v4 qo tk tl tz ph nd po k1 k2 k3 so sp ao o1 o2 o3 o4 ps ns dl w0 w1 gO gR gV gD gP gQ gG gH gM h' := K.fr S r (fun _ q => nomatch q) (fun _ _ q => nomatch q) (fun _ q => nomatch q)
set_option maxHeartbeats 2000000 in
theorem CI.up {A : List Nat} {x d tx w st s1 s2 s3 s4 sv v1 v2 v3 v4 qo tk tl tz ph nd po k1 k2 k3 so sp ao o1 o2 o3 o4 : Nat} {ps ns : List Nat} {dl w0 w1 : Nat} {gO : Int32} {gR gV : Nat → Option Nat} {gD : Nat → Int32} {gP gQ : Nat} {gG gH : GT5} {gM : Nat × Nat} {dl' w0' w1' : Nat} {gO' : Int32} {gR' gV' : Nat → Option Nat} {gD' : Nat → Int32} {gP' gQ' : Nat} {gG' gH' : GT5} {gM' : Nat × Nat} {h h' : xw_A} (S : CS A x d tx w st s1 s2 s3 s4 sv v1 v2 v3 v4 qo tk tl tz ph nd po k1 k2 k3 so sp ao o1 o2 o3 o4 ps ns) (K : CI A x d tx w st s1 s2 s3 s4 sv v1 v2 v3 v4 qo tk tl tz ph nd po k1 k2 k3 so sp ao o1 o2 o3 o4 ps ns dl w0 w1 gO gR gV gD gP gQ gG gH gM h) (js : List Nat) (hjs : ∀ j ∈ js, j < 31) (r : FrO (pick (CLs x d tx w st s1 s2 s3 s4 sv v1 v2 v3 v4 qo tk tl tz ph nd po k1 k2 k3 so sp ao o1 o2 o3 o4 ps ns) js) h h') (ex : ∀ q ∈ pick (CLs x d tx w st s1 s2 s3 s4 sv v1 v2 v3 v4 qo tk tl tz ph nd po k1 k2 k3 so sp ao o1 o2 o3 o4 ps ns) js, ∃ e, h' q = some e) (n1 : (C1 x d tx w st sv qo so ao dl' gO' gM' h') ∨ ((dl' = dl ∧ gO' = gO ∧ gM' = gM) ∧ ∀ j ∈ [0], j ∉ js)) (n2 : (C2 d gD' h') ∨ (gD' = gD ∧ ∀ j ∈ [1], j ∉ js)) (n3 : (C3 A tx gP' gQ' h') ∨ ((gP' = gP ∧ gQ' = gQ) ∧ ∀ j ∈ [2], j ∉ js)) (n4 : (C4 w w0' w1' h') ∨ ((w0' = w0 ∧ w1' = w1) ∧ ∀ j ∈ [3], j ∉ js)) (n5 : (StoT A st s1 s2 s3 s4 gR' gG' h') ∨ ((gR' = gR ∧ gG' = gG) ∧ ∀ j ∈ [4, 5, 6, 7, 8], j ∉ js)) (n6 : (StoT A sv v1 v2 v3 v4 gV' gH' h') ∨ ((gV' = gV ∧ gH' = gH) ∧ ∀ j ∈ [9, 10, 11, 12, 13], j ∉ js)) (n7 : (QuI qo tk tl tz ph nd po k1 k2 k3 (fun i => ps[i]?) (fun i => ns[i]?) h') ∨ ∀ j ∈ [14, 15, 16, 17, 18, 19, 20, 21, 22, 23], j ∉ js) (n8 : (C8 so sp h') ∨ ∀ j ∈ [24, 25], j ∉ js) (n9 : (C9 ao o1 o2 o3 o4 h') ∨ ∀ j ∈ [26, 27, 28, 29, 30], j ∉ js) : CI A x d tx w st s1 s2 s3 s4 sv v1 v2 v3 v4 qo tk tl tz ph nd po k1 k2 k3 so sp ao o1 o2 o3 o4 ps ns dl' w0' w1' gO' gR' gV' gD' gP' gQ' gG' gH' gM' h' := by
  obtain ⟨K1, K2, K3, K4, K5, K6, K7, K8, K9⟩ := K
  exact ⟨n1.elim id (fun H => by rw [H.1.1, H.1.2.1, H.1.2.2]; exact K1.fr r (S.1.notin (i := 0) rfl (H.2 0 (by decide)))), n2.elim id (fun H => by rw [H.1]; exact C2.fr K2 r (S.1.notin (i := 1) rfl (H.2 1 (by decide)))), n3.elim id (fun H => by rw [H.1.1, H.1.2]; exact K3.fr r S.pkA (S.1.notin (i := 2) rfl (H.2 2 (by decide)))), n4.elim id (fun H => by rw [H.1.1, H.1.2]; exact K4.fr r (S.1.notin (i := 3) rfl (H.2 3 (by decide)))), n5.elim id (fun H => by rw [H.1.1, H.1.2]; exact K5.fr r S.pkA ⟨(S.1.notin (i := 4) rfl (H.2 4 (by decide))), (S.1.notin (i := 5) rfl (H.2 5 (by decide))), (S.1.notin (i := 6) rfl (H.2 6 (by decide))), (S.1.notin (i := 7) rfl (H.2 7 (by decide))), (S.1.notin (i := 8) rfl (H.2 8 (by decide)))⟩ ex), n6.elim id (fun H => by rw [H.1.1, H.1.2]; exact K6.fr r S.pkA ⟨(S.1.notin (i := 9) rfl (H.2 9 (by decide))), (S.1.notin (i := 10) rfl (H.2 10 (by decide))), (S.1.notin (i := 11) rfl (H.2 11 (by decide))), (S.1.notin (i := 12) rfl (H.2 12 (by decide))), (S.1.notin (i := 13) rfl (H.2 13 (by decide)))⟩ ex), n7.elim id (fun H => K7.fr r ⟨(S.1.notin (i := 14) rfl (H 14 (by decide))), (S.1.notin (i := 18) rfl (H 18 (by decide))), (S.1.notin (i := 19) rfl (H 19 (by decide))), (S.1.notin (i := 20) rfl (H 20 (by decide))), (S.1.notin (i := 21) rfl (H 21 (by decide))), (S.1.notin (i := 22) rfl (H 22 (by decide))), (S.1.notin (i := 23) rfl (H 23 (by decide)))⟩ ⟨(S.1.notin (i := 15) rfl (H 15 (by decide))), (S.1.notin (i := 16) rfl (H 16 (by decide))), (S.1.notin (i := 17) rfl (H 17 (by decide)))⟩ (fun i a _ q => S.1.notin (S.ps q) (fun z => absurd (hjs _ z) (by omega))) (fun i a _ q => S.1.notin (S.ns q) (fun z => absurd (hjs _ z) (by omega)))), n8.elim id (fun H => K8.fr r (S.1.notin (i := 24) rfl (H 24 (by decide))) (S.1.notin (i := 25) rfl (H 25 (by decide)))), n9.elim id (fun H => K9.fr r (S.1.notin (i := 26) rfl (H 26 (by decide))) (S.1.notin (i := 27) rfl (H 27 (by decide))) (S.1.notin (i := 28) rfl (H 28 (by decide))) (S.1.notin (i := 29) rfl (H 29 (by decide))) (S.1.notin (i := 30) rfl (H 30 (by decide))))⟩
theorem CI.ex {A : List Nat} {x d tx w st s1 s2 s3 s4 sv v1 v2 v3 v4 qo tk tl tz ph nd po k1 k2 k3 so sp ao o1 o2 o3 o4 : Nat} {ps ns : List Nat} {dl w0 w1 : Nat} {gO : Int32} {gR gV : Nat → Option Nat} {gD : Nat → Int32} {gP gQ : Nat} {gG gH : GT5} {gM : Nat × Nat} {h : xw_A} (S : CS A x d tx w st s1 s2 s3 s4 sv v1 v2 v3 v4 qo tk tl tz ph nd po k1 k2 k3 so sp ao o1 o2 o3 o4 ps ns) (K : CI A x d tx w st s1 s2 s3 s4 sv v1 v2 v3 v4 qo tk tl tz ph nd po k1 k2 k3 so sp ao o1 o2 o3 o4 ps ns dl w0 w1 gO gR gV gD gP gQ gG gH gM h) : ∀ q ∈ (CLs x d tx w st s1 s2 s3 s4 sv v1 v2 v3 v4 qo tk tl tz ph nd po k1 k2 k3 so sp ao o1 o2 o3 o4 ps ns), ∃ e, h q = some e := by
  obtain ⟨-, -, -, -, ⟨fp, fs, fl, pc, sc, lc, Lv, KS, -⟩, -, -, -, -⟩ := K
  exact fun q hq => KS.2.2.2.2.2.2.2.2.2.2.2.2 q (S.2.2.2 q hq)
theorem StoG.aok {A : List Nat} {st s1 s2 s3 s4 : Nat} {fr : Nat → Option Nat} {R : Nat → Option VT} {P : List VT} {S : List SG} {nv ns : Nat} {h : xw_A} (K : StoG A st s1 s2 s3 s4 fr R P S nv ns h) : AOK A h := by
  obtain ⟨fp, fs, fl, pc, sc, lc, Lv, KS, -⟩ := K
  exact KS.2.2.2.2.2.2.2.2.2.2.2.2
theorem StoT.aok {A : List Nat} {st s1 s2 s3 s4 : Nat} {fr : Nat → Option Nat} {g : GT5} {h : xw_A} (K : StoT A st s1 s2 s3 s4 fr g h) : AOK A h := StoG.aok K
theorem StoR.aok {A : List Nat} {st s1 s2 s3 s4 : Nat} {gR : Nat → Option Nat} {h : xw_A} (K : StoR A st s1 s2 s3 s4 gR h) : AOK A h := by
  obtain ⟨fp, fs, fl, pc, sc, lc, pe, vm, sm, KS⟩ := K
  exact KS.2.2.2.2.2.2.2.2.2.2.2.2
def HP (A : List Nat) (x d tx w st s1 s2 s3 s4 sv v1 v2 v3 v4 qo tk tl tz ph nd po k1 k2 k3 so sp ao o1 o2 o3 o4 : Nat) (ps ns : List Nat) (dl w0 w1 : Nat) (gO : Int32) (gR gV : Nat → Option Nat) (gD : Nat → Int32) (gP gQ : Nat) (gG gH : GT5) (gM : Nat × Nat) (o : Nat) (h : xw_A) (v : Option Value) (h' : xw_A) : Prop := (∃ k : Int32, v = some (.int k)) ∧ CI A x d tx w st s1 s2 s3 s4 sv v1 v2 v3 v4 qo tk tl tz ph nd po k1 k2 k3 so sp ao o1 o2 o3 o4 ps ns dl w0 w1 gO gR gV gD gP gQ gG gH gM h' ∧ FrO (o :: (CLs x d tx w st s1 s2 s3 s4 sv v1 v2 v3 v4 qo tk tl tz ph nd po k1 k2 k3 so sp ao o1 o2 o3 o4 ps ns)) h h' ∧ ∃ f : Nat → Int64, h' o = some (.inl (2, 1, .inr (.inl f)))
def HD (A : List Nat) (x d tx w st s1 s2 s3 s4 sv v1 v2 v3 v4 qo tk tl tz ph nd po k1 k2 k3 so sp ao o1 o2 o3 o4 : Nat) (ps ns : List Nat) (dl w0 w1 : Nat) (gO : Int32) (gR gV : Nat → Option Nat) (gD : Nat → Int32) (gP gQ : Nat) (gG gH : GT5) (gM : Nat × Nat) (o : Nat) (h : xw_A) (v : Option Value) (h' : xw_A) : Prop := (∃ k : Int32, v = some (.int k)) ∧ CI A x d tx w st s1 s2 s3 s4 sv v1 v2 v3 v4 qo tk tl tz ph nd po k1 k2 k3 so sp ao o1 o2 o3 o4 ps ns dl w0 w1 gO gR gV gD gP gQ gG gH gM h' ∧ FrO (o :: (CLs x d tx w st s1 s2 s3 s4 sv v1 v2 v3 v4 qo tk tl tz ph nd po k1 k2 k3 so sp ao o1 o2 o3 o4 ps ns)) h h' ∧ ∃ f : Nat → UInt64, h' o = some (.inl (3, 1, .inr (.inr (.inr (.inl f)))))
def HZ (A : List Nat) (x d tx w st s1 s2 s3 s4 sv v1 v2 v3 v4 qo tk tl tz ph nd po k1 k2 k3 so sp ao o1 o2 o3 o4 : Nat) (ps ns : List Nat) (dl w0 w1 : Nat) (gO : Int32) (gR gV : Nat → Option Nat) (gD : Nat → Int32) (gP gQ : Nat) (gG gH : GT5) (gM : Nat × Nat) (h : xw_A) (v : Option Value) (h' : xw_A) : Prop := (∃ k : Int32, v = some (.int k)) ∧ CI A x d tx w st s1 s2 s3 s4 sv v1 v2 v3 v4 qo tk tl tz ph nd po k1 k2 k3 so sp ao o1 o2 o3 o4 ps ns dl w0 w1 gO gR gV gD gP gQ gG gH gM h' ∧ FrO (CLs x d tx w st s1 s2 s3 s4 sv v1 v2 v3 v4 qo tk tl tz ph nd po k1 k2 k3 so sp ao o1 o2 o3 o4 ps ns) h h'
theorem HP.thr {A : List Nat} {x d tx w st s1 s2 s3 s4 sv v1 v2 v3 v4 qo tk tl tz ph nd po k1 k2 k3 so sp ao o1 o2 o3 o4 : Nat} {ps ns : List Nat} {dl w0 w1 : Nat} {gO : Int32} {gR gV : Nat → Option Nat} {gD : Nat → Int32} {gP gQ : Nat} {gG gH : GT5} {gM : Nat × Nat} {o : Nat} {h h1 : xw_A} {fo : Nat → Int64} {k : Int32} (K : CI A x d tx w st s1 s2 s3 s4 sv v1 v2 v3 v4 qo tk tl tz ph nd po k1 k2 k3 so sp ao o1 o2 o3 o4 ps ns dl w0 w1 gO gR gV gD gP gQ gG gH gM h1) (fr : FrO (CLs x d tx w st s1 s2 s3 s4 sv v1 v2 v3 v4 qo tk tl tz ph nd po k1 k2 k3 so sp ao o1 o2 o3 o4 ps ns) h h1) (eo : h o = some (.inl (2, 1, .inr (.inl fo)))) (no : o ∉ (CLs x d tx w st s1 s2 s3 s4 sv v1 v2 v3 v4 qo tk tl tz ph nd po k1 k2 k3 so sp ao o1 o2 o3 o4 ps ns)) : HP A x d tx w st s1 s2 s3 s4 sv v1 v2 v3 v4 qo tk tl tz ph nd po k1 k2 k3 so sp ao o1 o2 o3 o4 ps ns dl w0 w1 gO gR gV gD gP gQ gG gH gM o h (some (.int k)) h1 :=
  ⟨⟨k, rfl⟩, K, fr.mono (fun a ha => List.mem_cons_of_mem _ ha), fo, fr o _ no eo⟩
theorem HD.thr {A : List Nat} {x d tx w st s1 s2 s3 s4 sv v1 v2 v3 v4 qo tk tl tz ph nd po k1 k2 k3 so sp ao o1 o2 o3 o4 : Nat} {ps ns : List Nat} {dl w0 w1 : Nat} {gO : Int32} {gR gV : Nat → Option Nat} {gD : Nat → Int32} {gP gQ : Nat} {gG gH : GT5} {gM : Nat × Nat} {o : Nat} {h h1 : xw_A} {fo : Nat → UInt64} {k : Int32} (K : CI A x d tx w st s1 s2 s3 s4 sv v1 v2 v3 v4 qo tk tl tz ph nd po k1 k2 k3 so sp ao o1 o2 o3 o4 ps ns dl w0 w1 gO gR gV gD gP gQ gG gH gM h1) (fr : FrO (CLs x d tx w st s1 s2 s3 s4 sv v1 v2 v3 v4 qo tk tl tz ph nd po k1 k2 k3 so sp ao o1 o2 o3 o4 ps ns) h h1) (eo : h o = some (.inl (3, 1, .inr (.inr (.inr (.inl fo)))))) (no : o ∉ (CLs x d tx w st s1 s2 s3 s4 sv v1 v2 v3 v4 qo tk tl tz ph nd po k1 k2 k3 so sp ao o1 o2 o3 o4 ps ns)) : HD A x d tx w st s1 s2 s3 s4 sv v1 v2 v3 v4 qo tk tl tz ph nd po k1 k2 k3 so sp ao o1 o2 o3 o4 ps ns dl w0 w1 gO gR gV gD gP gQ gG gH gM o h (some (.int k)) h1 :=
  ⟨⟨k, rfl⟩, K, fr.mono (fun a ha => List.mem_cons_of_mem _ ha), fo, fr o _ no eo⟩
theorem CI.out {A : List Nat} {x d tx w st s1 s2 s3 s4 sv v1 v2 v3 v4 qo tk tl tz ph nd po k1 k2 k3 so sp ao o1 o2 o3 o4 : Nat} {ps ns : List Nat} {dl w0 w1 : Nat} {gO : Int32} {gR gV : Nat → Option Nat} {gD : Nat → Int32} {gP gQ : Nat} {gG gH : GT5} {gM : Nat × Nat} {o : Nat} {h1 : xw_A} {c : xw_C} (S : CS A x d tx w st s1 s2 s3 s4 sv v1 v2 v3 v4 qo tk tl tz ph nd po k1 k2 k3 so sp ao o1 o2 o3 o4 ps ns) (K : CI A x d tx w st s1 s2 s3 s4 sv v1 v2 v3 v4 qo tk tl tz ph nd po k1 k2 k3 so sp ao o1 o2 o3 o4 ps ns dl w0 w1 gO gR gV gD gP gQ gG gH gM h1) (no : o ∉ (CLs x d tx w st s1 s2 s3 s4 sv v1 v2 v3 v4 qo tk tl tz ph nd po k1 k2 k3 so sp ao o1 o2 o3 o4 ps ns)) (hoA : o ∈ A) : CI A x d tx w st s1 s2 s3 s4 sv v1 v2 v3 v4 qo tk tl tz ph nd po k1 k2 k3 so sp ao o1 o2 o3 o4 ps ns dl w0 w1 gO gR gV gD gP gQ gG gH gM (xw_up h1 o c) :=
  K.fr S (B := [o]) (FrO.rf.up (List.mem_singleton.mpr rfl) (fun q hq => xw_up_n _ _ hq)) (fun q hq => by rw [List.mem_singleton.mp hq]; exact hoA) (fun a ha hb => no (by rw [← List.mem_singleton.mp hb]; exact ha)) (ex1 (xw_up_s _ _ _))
theorem HP.ok {A : List Nat} {x d tx w st s1 s2 s3 s4 sv v1 v2 v3 v4 qo tk tl tz ph nd po k1 k2 k3 so sp ao o1 o2 o3 o4 : Nat} {ps ns : List Nat} {dl w0 w1 : Nat} {gO : Int32} {gR gV : Nat → Option Nat} {gD : Nat → Int32} {gP gQ : Nat} {gG gH : GT5} {gM : Nat × Nat} {o : Nat} {h h1 : xw_A} {f : Nat → Int64} {k : Int32} (S : CS A x d tx w st s1 s2 s3 s4 sv v1 v2 v3 v4 qo tk tl tz ph nd po k1 k2 k3 so sp ao o1 o2 o3 o4 ps ns) (K : CI A x d tx w st s1 s2 s3 s4 sv v1 v2 v3 v4 qo tk tl tz ph nd po k1 k2 k3 so sp ao o1 o2 o3 o4 ps ns dl w0 w1 gO gR gV gD gP gQ gG gH gM h1) (fr : FrO (CLs x d tx w st s1 s2 s3 s4 sv v1 v2 v3 v4 qo tk tl tz ph nd po k1 k2 k3 so sp ao o1 o2 o3 o4 ps ns) h h1) (no : o ∉ (CLs x d tx w st s1 s2 s3 s4 sv v1 v2 v3 v4 qo tk tl tz ph nd po k1 k2 k3 so sp ao o1 o2 o3 o4 ps ns)) (hoA : o ∈ A) : HP A x d tx w st s1 s2 s3 s4 sv v1 v2 v3 v4 qo tk tl tz ph nd po k1 k2 k3 so sp ao o1 o2 o3 o4 ps ns dl w0 w1 gO gR gV gD gP gQ gG gH gM o h (some (.int k)) (xw_up h1 o (.inl (2, 1, .inr (.inl f)))) :=
  ⟨⟨k, rfl⟩, K.out S no hoA, (fr.mono (fun a ha => List.mem_cons_of_mem _ ha)).up List.mem_cons_self (fun q hq => xw_up_n _ _ hq), f, xw_up_s _ _ _⟩
theorem HD.ok {A : List Nat} {x d tx w st s1 s2 s3 s4 sv v1 v2 v3 v4 qo tk tl tz ph nd po k1 k2 k3 so sp ao o1 o2 o3 o4 : Nat} {ps ns : List Nat} {dl w0 w1 : Nat} {gO : Int32} {gR gV : Nat → Option Nat} {gD : Nat → Int32} {gP gQ : Nat} {gG gH : GT5} {gM : Nat × Nat} {o : Nat} {h h1 : xw_A} {f : Nat → UInt64} {k : Int32} (S : CS A x d tx w st s1 s2 s3 s4 sv v1 v2 v3 v4 qo tk tl tz ph nd po k1 k2 k3 so sp ao o1 o2 o3 o4 ps ns) (K : CI A x d tx w st s1 s2 s3 s4 sv v1 v2 v3 v4 qo tk tl tz ph nd po k1 k2 k3 so sp ao o1 o2 o3 o4 ps ns dl w0 w1 gO gR gV gD gP gQ gG gH gM h1) (fr : FrO (CLs x d tx w st s1 s2 s3 s4 sv v1 v2 v3 v4 qo tk tl tz ph nd po k1 k2 k3 so sp ao o1 o2 o3 o4 ps ns) h h1) (no : o ∉ (CLs x d tx w st s1 s2 s3 s4 sv v1 v2 v3 v4 qo tk tl tz ph nd po k1 k2 k3 so sp ao o1 o2 o3 o4 ps ns)) (hoA : o ∈ A) : HD A x d tx w st s1 s2 s3 s4 sv v1 v2 v3 v4 qo tk tl tz ph nd po k1 k2 k3 so sp ao o1 o2 o3 o4 ps ns dl w0 w1 gO gR gV gD gP gQ gG gH gM o h (some (.int k)) (xw_up h1 o (.inl (3, 1, .inr (.inr (.inr (.inl f)))))) :=
  ⟨⟨k, rfl⟩, K.out S no hoA, (fr.mono (fun a ha => List.mem_cons_of_mem _ ha)).up List.mem_cons_self (fun q hq => xw_up_n _ _ hq), f, xw_up_s _ _ _⟩
theorem CS.nL {A : List Nat} {x d tx w st s1 s2 s3 s4 sv v1 v2 v3 v4 qo tk tl tz ph nd po k1 k2 k3 so sp ao o1 o2 o3 o4 : Nat} {ps ns : List Nat} (S : CS A x d tx w st s1 s2 s3 s4 sv v1 v2 v3 v4 qo tk tl tz ph nd po k1 k2 k3 so sp ao o1 o2 o3 o4 ps ns) {i a : Nat} (h : (CLs x d tx w st s1 s2 s3 s4 sv v1 v2 v3 v4 qo tk tl tz ph nd po k1 k2 k3 so sp ao o1 o2 o3 o4 ps ns)[i]? = some a) (hi : i < 31) : a ∉ ps ++ ns := fun z => by
  rcases List.mem_append.mp z with q | q
  · obtain ⟨j, hj⟩ := List.mem_iff_getElem?.mp q
    have := S.1 i (31 + j) a h (S.ps hj)
    omega
  · obtain ⟨j, hj⟩ := List.mem_iff_getElem?.mp q
    have := S.1 i (43 + j) a h (S.ns hj)
    omega
theorem CS.nB {A : List Nat} {x d tx w st s1 s2 s3 s4 sv v1 v2 v3 v4 qo tk tl tz ph nd po k1 k2 k3 so sp ao o1 o2 o3 o4 : Nat} {ps ns : List Nat} (S : CS A x d tx w st s1 s2 s3 s4 sv v1 v2 v3 v4 qo tk tl tz ph nd po k1 k2 k3 so sp ao o1 o2 o3 o4 ps ns) {i a : Nat} (h : (CLs x d tx w st s1 s2 s3 s4 sv v1 v2 v3 v4 qo tk tl tz ph nd po k1 k2 k3 so sp ao o1 o2 o3 o4 ps ns)[i]? = some a) (hi : i < 31) (h2 : i ∉ [14, 15, 16, 17]) : a ∉ (qo :: tk :: tl :: tz :: (ps ++ ns)) := fun z => by
  have h3 : ∀ j b, (CLs x d tx w st s1 s2 s3 s4 sv v1 v2 v3 v4 qo tk tl tz ph nd po k1 k2 k3 so sp ao o1 o2 o3 o4 ps ns)[j]? = some b → j ∈ [14, 15, 16, 17] → a ≠ b := fun j b hb hj => nd_ne S.1 h hb (fun q => h2 (by rw [q]; exact hj))
  have h4 : a ∉ ps ++ ns := S.nL h hi
  simp only [List.mem_cons] at z
  rcases z with z | z | z | z | z
  · exact h3 14 qo rfl (by decide) z
  · exact h3 15 tk rfl (by decide) z
  · exact h3 16 tl rfl (by decide) z
  · exact h3 17 tz rfl (by decide) z
  · exact h4 z
theorem CS.nP {A : List Nat} {x d tx w st s1 s2 s3 s4 sv v1 v2 v3 v4 qo tk tl tz ph nd po k1 k2 k3 so sp ao o1 o2 o3 o4 : Nat} {ps ns : List Nat} (S : CS A x d tx w st s1 s2 s3 s4 sv v1 v2 v3 v4 qo tk tl tz ph nd po k1 k2 k3 so sp ao o1 o2 o3 o4 ps ns) {i a : Nat} (h : (CLs x d tx w st s1 s2 s3 s4 sv v1 v2 v3 v4 qo tk tl tz ph nd po k1 k2 k3 so sp ao o1 o2 o3 o4 ps ns)[i]? = some a) (hi : i < 31) (h2 : i ∉ [20, 21, 22, 23, 14, 15, 16, 17]) : a ∉ (po :: k1 :: k2 :: k3 :: qo :: tk :: tl :: tz :: (ps ++ ns)) := fun z => by
  have h3 : ∀ j b, (CLs x d tx w st s1 s2 s3 s4 sv v1 v2 v3 v4 qo tk tl tz ph nd po k1 k2 k3 so sp ao o1 o2 o3 o4 ps ns)[j]? = some b → j ∈ [20, 21, 22, 23, 14, 15, 16, 17] → a ≠ b := fun j b hb hj => nd_ne S.1 h hb (fun q => h2 (by rw [q]; exact hj))
  have h4 : a ∉ ps ++ ns := S.nL h hi
  simp only [List.mem_cons] at z
  rcases z with z | z | z | z | z | z | z | z | z
  · exact h3 20 po rfl (by decide) z
  · exact h3 21 k1 rfl (by decide) z
  · exact h3 22 k2 rfl (by decide) z
  · exact h3 23 k3 rfl (by decide) z
  · exact h3 14 qo rfl (by decide) z
  · exact h3 15 tk rfl (by decide) z
  · exact h3 16 tl rfl (by decide) z
  · exact h3 17 tz rfl (by decide) z
  · exact h4 z
theorem CS.nF {A : List Nat} {x d tx w st s1 s2 s3 s4 sv v1 v2 v3 v4 qo tk tl tz ph nd po k1 k2 k3 so sp ao o1 o2 o3 o4 : Nat} {ps ns : List Nat} (S : CS A x d tx w st s1 s2 s3 s4 sv v1 v2 v3 v4 qo tk tl tz ph nd po k1 k2 k3 so sp ao o1 o2 o3 o4 ps ns) {i a : Nat} (h : (CLs x d tx w st s1 s2 s3 s4 sv v1 v2 v3 v4 qo tk tl tz ph nd po k1 k2 k3 so sp ao o1 o2 o3 o4 ps ns)[i]? = some a) (hi : i < 31) (h2 : i ∉ [0, 24, 25, 26, 27, 28, 29, 30, 20, 21, 22, 23, 14, 15, 16, 17]) : a ∉ (x :: so :: sp :: ao :: o1 :: o2 :: o3 :: o4 :: po :: k1 :: k2 :: k3 :: qo :: tk :: tl :: tz :: (ps ++ ns)) := fun z => by
  have h3 : ∀ j b, (CLs x d tx w st s1 s2 s3 s4 sv v1 v2 v3 v4 qo tk tl tz ph nd po k1 k2 k3 so sp ao o1 o2 o3 o4 ps ns)[j]? = some b → j ∈ [0, 24, 25, 26, 27, 28, 29, 30, 20, 21, 22, 23, 14, 15, 16, 17] → a ≠ b := fun j b hb hj => nd_ne S.1 h hb (fun q => h2 (by rw [q]; exact hj))
  have h4 : a ∉ ps ++ ns := S.nL h hi
  simp only [List.mem_cons] at z
  rcases z with z | z | z | z | z | z | z | z | z | z | z | z | z | z | z | z | z
  · exact h3 0 x rfl (by decide) z
  · exact h3 24 so rfl (by decide) z
  · exact h3 25 sp rfl (by decide) z
  · exact h3 26 ao rfl (by decide) z
  · exact h3 27 o1 rfl (by decide) z
  · exact h3 28 o2 rfl (by decide) z
  · exact h3 29 o3 rfl (by decide) z
  · exact h3 30 o4 rfl (by decide) z
  · exact h3 20 po rfl (by decide) z
  · exact h3 21 k1 rfl (by decide) z
  · exact h3 22 k2 rfl (by decide) z
  · exact h3 23 k3 rfl (by decide) z
  · exact h3 14 qo rfl (by decide) z
  · exact h3 15 tk rfl (by decide) z
  · exact h3 16 tl rfl (by decide) z
  · exact h3 17 tz rfl (by decide) z
  · exact h4 z
theorem CS.inF {x d tx w st s1 s2 s3 s4 sv v1 v2 v3 v4 qo tk tl tz ph nd po k1 k2 k3 so sp ao o1 o2 o3 o4 : Nat} {ps ns : List Nat} {lst : List Nat} (h : ∀ a ∈ lst, a ∈ (CLs x d tx w st s1 s2 s3 s4 sv v1 v2 v3 v4 qo tk tl tz ph nd po k1 k2 k3 so sp ao o1 o2 o3 o4 ps ns)) : ∀ a ∈ lst ++ (ps ++ ns), a ∈ (CLs x d tx w st s1 s2 s3 s4 sv v1 v2 v3 v4 qo tk tl tz ph nd po k1 k2 k3 so sp ao o1 o2 o3 o4 ps ns) := fun a ha => (List.mem_append.mp ha).elim (h a) (fun z => List.mem_append_right _ z)
theorem CS.quA {A : List Nat} {x d tx w st s1 s2 s3 s4 sv v1 v2 v3 v4 qo tk tl tz ph nd po k1 k2 k3 so sp ao o1 o2 o3 o4 : Nat} {ps ns : List Nat} (S : CS A x d tx w st s1 s2 s3 s4 sv v1 v2 v3 v4 qo tk tl tz ph nd po k1 k2 k3 so sp ao o1 o2 o3 o4 ps ns) : QuA (qo :: tk :: tl :: tz :: (ps ++ ns)) qo tk tl tz ph nd po k1 k2 k3 d (fun i => ps[i]?) (fun i => ns[i]?) :=
  ⟨⟨by simp, by simp, by simp, by simp⟩, fun i a _ q => by simp only [List.mem_cons, List.mem_append]; exact Or.inr (Or.inr (Or.inr (Or.inr (Or.inl (List.mem_of_getElem? q))))), fun i a _ q => by simp only [List.mem_cons, List.mem_append]; exact Or.inr (Or.inr (Or.inr (Or.inr (Or.inr (List.mem_of_getElem? q))))),
    ⟨S.nB (i := 18) rfl (by decide) (by decide), S.nB (i := 19) rfl (by decide) (by decide), S.nB (i := 20) rfl (by decide) (by decide), S.nB (i := 1) rfl (by decide) (by decide), S.nB (i := 21) rfl (by decide) (by decide), S.nB (i := 22) rfl (by decide) (by decide), S.nB (i := 23) rfl (by decide) (by decide)⟩,
    fun i j hi hj q => by
      have hl : i < ps.length := by rw [S.2.1]; exact hi
      have h1 : ps[i]? = some ps[i] := List.getElem?_eq_getElem hl
      have h2 := S.1 (31 + i) (31 + j) _ (S.ps h1) (S.ps (q.symm.trans h1))
      omega,
    fun i j hi hj q => by
      have hl : i < ns.length := by rw [S.2.2.1]; exact hi
      have h1 : ns[i]? = some ns[i] := List.getElem?_eq_getElem hl
      have h2 := S.1 (43 + i) (43 + j) _ (S.ns h1) (S.ns (q.symm.trans h1))
      omega⟩
theorem CS.quE {A : List Nat} {x d tx w st s1 s2 s3 s4 sv v1 v2 v3 v4 qo tk tl tz ph nd po k1 k2 k3 so sp ao o1 o2 o3 o4 : Nat} {ps ns : List Nat} (S : CS A x d tx w st s1 s2 s3 s4 sv v1 v2 v3 v4 qo tk tl tz ph nd po k1 k2 k3 so sp ao o1 o2 o3 o4 ps ns) : QuE (qo :: tk :: tl :: tz :: (ps ++ ns)) qo tk tl tz (fun i => ps[i]?) (fun i => ns[i]?) := fun q hq => by
  simp only [List.mem_cons, List.mem_append] at hq
  rcases hq with z | z | z | z | z | z
  · exact Or.inl z
  · exact Or.inr (Or.inl z)
  · exact Or.inr (Or.inr (Or.inl z))
  · exact Or.inr (Or.inr (Or.inr (Or.inl z)))
  · obtain ⟨j, hj⟩ := List.mem_iff_getElem?.mp z
    exact Or.inr (Or.inr (Or.inr (Or.inr (Or.inl ⟨j, by have := (List.getElem?_eq_some_iff.mp hj).1; have := S.2.1; omega, hj⟩))))
  · obtain ⟨j, hj⟩ := List.mem_iff_getElem?.mp z
    exact Or.inr (Or.inr (Or.inr (Or.inr (Or.inr ⟨j, by have := (List.getElem?_eq_some_iff.mp hj).1; have := S.2.2.1; omega, hj⟩))))
