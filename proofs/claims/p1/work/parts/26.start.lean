/-! the claim out of one statement over xw; began as the skeleton's rows -/
def R_law : String := "PhraseShelfLaw"
def lw_P (b : Addr) (xs : List Int32) (args : Array Value) (s : State) : Prop := args = #[.ref b] ∧ s.IntsAt b xs ∧ xs.length ≤ 3 ∧ (Jvm.Cond.and given_1 narrow_1).before args s = true

def lw_Q (_ : Array Value) (s : State) (o : Outcome) (t : State) : Prop := o = .returned (some (.int 1)) ∧ Framed s o t [] room_1.cells room_1.slots

theorem xw_inst : ∀ ci : Nat, ci < vwCl.length → Cond.instantiable (xw_cl ci).1 (xw_cl ci).2.2 ∈ xw_tbl := by
  intro ci hci
  match ci, hci with
  | 0, _ => exact xw_in1 28 rfl rfl
  | 1, _ => exact xw_in2 8 rfl rfl
  | 2, _ => exact xw_in1 158 rfl rfl
  | 3, _ => exact xw_in1 116 rfl rfl
  | 4, _ => exact xw_in1 140 rfl rfl
  | 5, _ => exact xw_in1 86 rfl rfl
  | 6, _ => exact xw_in2 97 rfl rfl
  | 7, _ => exact xw_in1 235 rfl rfl
  | 8, _ => exact xw_in1 38 rfl rfl
  | 9, _ => exact xw_in1 92 rfl rfl
  | 10, _ => exact xw_in3 64 rfl rfl
  | 11, _ => exact xw_in5 103 rfl rfl
  | n + 12, h => exact absurd h (by simp [vwCl])
abbrev m_Law_law : xw_M := (x, code, 9, ret, [])
theorem xw_forget {s t : State} {LL : List Loc} {k n : Nat} (h : s.sameButNew t LL k n) (hL : ∀ z ∈ LL, s.heap.size ≤ z.base) : s.sameButNew t [] k n := by
  refine ⟨h.1, h.2.1, h.2.2.1, h.2.2.2.1, h.2.2.2.2.1, fun a c ha => ?_⟩
  obtain ⟨c2, e1, e2, e3, e4⟩ := h.2.2.2.2.2 a c ha
  refine ⟨c2, e1, e2, e3, fun i _ => e4 i (fun hm => ?_)⟩
  have h1 := hL _ hm
  have h2 : a < s.heap.size := (Array.getElem?_eq_some_iff.mp ha).1
  exact absurd h2 (Nat.not_lt.mpr h1)
/-- THE LAW, over xw: for every script the law answers 1 -/
def xw_Law : Prop := ∀ (G : xw_G) (b N : Nat) (xs : Nat → Int32), N ≤ 3 → va_X b N xs G.2.2.1 G.2.2.1.heap → xw G m_Law_law 2048 84000 room_1.cells room_1.slots (fun v _ => v = some (.int 1)) (fun _ _ => False) 0 [some (.ref b), none, none, none, none, none, none, none, none] [] (fun _ => none)
theorem lw_walk (hlaw : xw_Law) (l : Launch) (htr : l.stackTraces = false) (b : Addr) (xs : List Int32) : MetFree l x (headSpec (Jvm.Cond.code x code maxLocals ret :: tables_1) room_1) (lw_P b xs) (fun _ _ _ _ _ => True) lw_Q := by
  refine MetFree.of_bodyS (code := code) (maxLocals := maxLocals) (ret := ret) (by decide) ?_ ?_
  · intro args s m h hn
    obtain ⟨meth, c, h1, h2, h3, h4, h5, h6, -, -⟩ := Cond.code_spec hn (atoms_spec (ws := Jvm.Cond.code x code maxLocals ret :: tables_1) h _ List.mem_cons_self)
    exact ⟨meth, c, h1, h2, h3, h4, h5, h6⟩
  · intro p e s m args below meth c s₁ B hml0 hP _
    obtain ⟨rfl, hx, hbd, hgv⟩ := hP
    obtain ⟨scr, harrAt, hlist, hof, hsmall⟩ := hx
    obtain ⟨hcb, hkn, -, -⟩ := State.arrayAt?_spec harrAt
    have hown : s.vm.findClass R_law = some m.cls := findClass_of_methodNamed B.named
    have hts0 : ∀ c ∈ (Jvm.Cond.code x code maxLocals ret :: tables_1), c.before #[Value.ref b] s = true := atoms_spec (ws := Jvm.Cond.code x code maxLocals ret :: tables_1) B.pre
    have hts : ∀ w ∈ lw_tbl, w.before #[Value.ref b] s = true := k2_hts_sels lw_privs (fun w hw => hts0 w (List.mem_cons_of_mem _ hw)) lw_privs_ok
    have hml : c.maxLocals = 9 := B.maxLocals_eq (hts0 _ List.mem_cons_self)
    have X₀ : Stand p l e room_1 s m #[Value.ref b] below meth c s₁ [] 0 0 := Stand.of_body B
    have hh0 : s₁.heap = s.heap := by rw [B.state]; rfl
    have hsz : scr.slots.size = xs.length := by rw [← Array.length_toList, hlist, List.length_map]
    have hval : ∀ j : Nat, j < xs.length → scr.slots[j]? = some (.int (xs.getD j 0)) := fun j hj => by
      rw [← Array.getElem?_toList, hlist]
      simp [hj]
    have hbl : b < s.heap.size := (Array.getElem?_eq_some_iff.mp hcb).1
    have hX : va_X b xs.length (fun j => xs.getD j 0) s s.heap := ⟨scr, hcb, hof, hkn, hsz, hval⟩
    have hkn : ∀ ci : Nat, ∃ (cC : ClassId) (iS : Nat → Nat), ci < vwCl.length → u_Kn s (xw_cl ci).1 (xw_cl ci).2.1 (xw_cl ci).2.2 cC iS := fun ci => by
      by_cases hci : ci < vwCl.length
      · obtain ⟨cC, iS, h9⟩ := u_known (ws := lw_tbl) hts (fun w hw => xw_tbl_lw w (xw_lays ci hci w hw)) (hts _ (xw_tbl_lw _ (xw_inst ci hci)))
        exact ⟨cC, iS, fun _ => h9⟩
      · exact ⟨0, fun _ => 0, fun h9 => absurd h9 hci⟩
    have hdC := fun ci => (hkn ci).choose_spec.choose_spec
    generalize hD1 : (fun ci => (hkn ci).choose) = dC at hdC
    have hkn2 : ∀ ci : Nat, ∃ iS : Nat → Nat, ci < vwCl.length → u_Kn s (xw_cl ci).1 (xw_cl ci).2.1 (xw_cl ci).2.2 (dC ci) iS := fun ci => by
      rw [← hD1]
      exact (hkn ci).choose_spec
    have hdI := fun ci => (hkn2 ci).choose_spec
    generalize hD2 : (fun ci => (hkn2 ci).choose) = dI at hdI
    have hKn : ∀ ci : Nat, ci < vwCl.length → u_Kn s (xw_cl ci).1 (xw_cl ci).2.1 (xw_cl ci).2.2 (dC ci) (dI ci) := fun ci hci => by
      rw [← hD2]
      exact (hkn2 ci).choose_spec hci
    have hK : va_K (dC, dI) vwCl [] s := ⟨fun ci q hq => by
      have hci : ci < vwCl.length := (List.getElem?_eq_some_iff.mp hq).1
      have h9 := xw_cl_get hci
      rw [hq] at h9
      cases h9
      exact hKn ci hci, fun k q h9 => by simp at h9⟩
    have hH : xw_H (l, (dC, dI), s, #[Value.ref b]) (fun _ => none) s s.heap := ⟨[], [], fun k q h9 => by simp at h9, hK, ⟨fun i j p q h9 => by simp at h9, fun k q h9 => by simp at h9⟩, (fun a c x h9 => nomatch h9), (fun a ci fs h9 => nomatch h9)⟩
    have hF : xw_F (l, (dC, dI), s, #[Value.ref b]) s s.heap := ⟨⟨hts, hgv, htr⟩, Nat.le_refl _, fun _ _ => rfl, State.WarmedH.refl s⟩
    have htab : c.exceptionTable.toList = tableOf [] := by
      obtain ⟨meth9, c9, h1, h2, -, -, -, -, h7, -⟩ := Cond.code_spec B.named (hts0 _ List.mem_cons_self)
      cases Option.some.inj (h1.symm.trans B.method)
      cases Option.some.inj (h2.symm.trans X₀.code)
      rw [Array.isEmpty_iff.mp h7]
      rfl
    have hl := lv_entry ([Value.ref b]) (n := 9) (Nat.le_of_ble_eq_true rfl)
    have K : W p l e room_1 s m #[Value.ref b] below meth c s₁.heap [] 0 0 (xw_Z (l, (dC, dI), s, #[Value.ref b]) (fun v _ => v = some (.int 1)) (fun _ _ => False) below #[Value.ref b] s room_1.cells room_1.slots) (entryFrame m ([Value.ref b] : List Value).toArray 9) := by
      rw [hh0, lg_entry_eq]
      exact hlaw (l, (dC, dI), s, #[Value.ref b]) b xs.length (fun j => xs.getD j 0) hbd hX p e room_1 s m #[Value.ref b] below meth c s.heap [] 0 0 _ ⟨B.exec, B.bytes, B.returns, hml, hown, fun w hw => hts w (xw_tbl_lw w hw), B.notSynchronized, htab, (name_of_methodNamed B.named B.method).1, hF⟩
        ⟨Nat.le_refl _, Nat.le_refl _⟩ ⟨Nat.le_of_eq (Nat.zero_add _), Nat.le_of_eq (Nat.zero_add _)⟩ hH va_S.rf (xw_L.entry (vs := [Value.ref b]) (n := 9) (Nat.le_of_ble_eq_true rfl) (fun i v h9 => by
          match i, h9 with
          | 0, h9 => exact h9
          | 1, h9 => simp at h9
          | 2, h9 => simp at h9
          | 3, h9 => simp at h9
          | 4, h9 => simp at h9
          | 5, h9 => simp at h9
          | 6, h9 => simp at h9
          | 7, h9 => simp at h9
          | 8, h9 => simp at h9
          | n + 9, h9 => simp at h9))
    obtain ⟨t, a1, o, b1, b2, b3⟩ := K s₁ rfl X₀
    rcases b3 with ⟨⟨⟨v, h1, e1, e2, e3⟩, e4⟩, LL, hFE, hLL⟩ | ⟨q, e1, E, ce, LL, h1, hf, -⟩
    · subst e2
      subst e1
      exact ⟨t, _, a1, b1, b2, rfl, hFE.1, hFE.2.1, xw_forget hFE.2.2 hLL⟩
    · exact hf.elim

theorem lw_pre_spec {args : Array Value} {s : State} (h : (Jvm.Cond.and given_1 narrow_1).before args s = true) (hr : rest_1_c.before args s = true) : ∃ (b : Addr) (xs : List Int32), lw_P b xs args s := by
  have hs := flat_of_before _ h
  have hq := flat_of_before _ hr
  have hc : (Cond.count 1).before args s = true := hs _ (by decide +kernel)
  have harr : (Cond.arrayOf (.arg 0) .int).before args s = true := hs _ (by decide +kernel)
  have hle : (Cond.le (.length (.arg 0)) (.int 3)).before args s = true := hs _ (by decide +kernel)
  have hlen : (Cond.isInt (.length (.arg 0))).before args s = true := hq _ (by decide +kernel)
  have hall : (Cond.all (.arg 0) (.isInt (.elem (.arg 0) (.index 0)))).before args s = true := hq _ (by decide +kernel)
  obtain ⟨b, xs, hb, hx⟩ := State.ints_of_pre rfl harr hlen hall
  have hsm : xs.length < 2 ^ 31 := hx.choose_spec.2.2.2
  have hev : (Term.length (.arg 0)).eval args s none [] s = some (.int xs.length.toInt32) := hx.length_eval hb
  have hv := Cond.le_ints hev (show (Term.int 3).eval args s none [] s = some (.int 3) from rfl)
  have hd : xs.length.toInt32 ≤ 3 := by
    simpa [Cond.before, Cond.holds, hv] using hle
  have hN : xs.length ≤ 3 := (Int32.ofNat_le_ofNat hsm (by decide)).mp (show Int32.ofNat xs.length ≤ Int32.ofNat 3 from hd)
  exact ⟨b, xs, Cond.one_arg hc (show args[0]? = some (.ref b) from hb), hx, hN, h⟩

theorem lw_comes (hlaw : xw_Law) (l : Launch) (htr : l.stackTraces = false) : Comes l x (Jvm.Cond.code x code maxLocals ret :: tables_1) room_1 (fun tb e args s => Calls_1 tb e args s ∧ rest_1 tb e args s ∧ Pre_1 tb e args s)
    (fun _ _ args s o t => lw_Q args s o t) := by
  intro p e ha hc hk s m args below hf hfit hheap happ hpre
  obtain ⟨b, xs, hP⟩ := lw_pre_spec hpre.2.2 hpre.2.1
  obtain ⟨k, o, h1, h2, h3, hQ⟩ := lw_walk hlaw l htr b xs p e ha hc hk s m args below hf ((Spec.applies_iff_loose hf).mp happ).1 hP trivial
  exact ⟨k, o, h1, h2, h3, hQ⟩
theorem lw_frame {s t : State} {o : Outcome} {args : Array Value} (h : Framed s o t [] room_1.cells room_1.slots) :
    Framed s o t (fieldLocs frame_1_writes args s ++ arrayLocs frame_1_arrays args s ++ staticLocs frame_1_statics s) room_1.cells room_1.slots := h
theorem lw_limb (hlaw : xw_Law) (L : Cond) (hL : ∀ (args : Array Value) (s t : State), L.after args s (.returned (some (.int 1))) t = true) :
    ArmFor flags0 classFile x code maxLocals ret World_1 tables_1 room_1 Calls_1 rest_1 Pre_1
      (fun tb e a s o t => postC L tb e a s o t ∧ Framed s o t (fieldLocs frame_1_writes a s ++ arrayLocs frame_1_arrays a s ++ staticLocs frame_1_statics s) room_1.cells room_1.slots) := by
  intro l hfl _ _ p e ha hc hk s m args below hf hfit hheap happ hpre
  obtain ⟨k, o, h1, h2, h3, rfl, hF⟩ := lw_comes hlaw l (by rw [Launch.stackTraces, hfl]; decide +kernel) p e ha hc hk s m args below hf hfit hheap happ hpre
  exact ⟨k, _, h1, h2, h3, hL args s _, lw_frame hF⟩

theorem i_vc_open (hlaw : xw_Law) : Claimed_1_1 ∧ Claimed_1_2 := ⟨lw_limb hlaw limb_1_1 (fun args s t => by simp [limb_1_1, Cond.after, Cond.holds, Cond.value]), lw_limb hlaw limb_1_2 (fun args s t => Cond.after_iff.mpr (by
  first | (rw [show limb_1_2 = Cond.eq .result (.int 1) from rfl, Cond.eq_ints (x := 1) (y := 1) rfl rfl]; simp; done) | (simp [limb_1_2, Cond.value, Term.eval]; done)))⟩
