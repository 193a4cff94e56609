/-! fewer locals, by combinators -/
theorem xw_le_e {u : List (Option Value)} : xw_le [] u := trivial
theorem xw_le_s {v : Value} {t u : List (Option Value)} (h : xw_le t u) : xw_le (some v :: t) (some v :: u) := ⟨rfl, h⟩
theorem xw_le_n {w : Option Value} {t u : List (Option Value)} (h : xw_le t u) : xw_le (none :: t) (w :: u) := h
/-! fields of a cell, by place -/
theorem xw_gn {l : List Value} {j k : Nat} {v : Value} {x : Option Value} (n : j ≠ k) (h : l[j]? = x) : (l.set k v)[j]? = x := by
  rw [List.getElem?_set_ne (Ne.symm n)]
  exact h
theorem xw_gs {l : List Value} {k : Nat} {v : Value} (h : k < l.length) : (l.set k v)[k]? = some v := List.getElem?_set_self h
section Booleans
variable {G : xw_G} {M : xw_M} {F L bc bs : Nat} {pr : Option Value → xw_A → Prop} {px : String → xw_A → Prop} {pc : Nat} {lv : List (Option Value)} {rest st : List Value} {h : xw_A}
theorem x_zald {a n : Nat} {f : Nat → Int32} {i : Int32} (d : decode M.2.1 pc = .ok (.baload, 1)) (ha : h a = some (.inl (4, n, .inl f))) (hi : vp_in i n) (k : xw G M F L bc bs pr px (pc + 1) lv (.int (f i.toNatClampNeg) :: rest) h) : xw G M F L bc bs pr px pc lv (.int i :: .ref a :: rest) h :=
  fun p e R s m args below meth c H locs cells slots ls C hR hB hH hS hl => by
    obtain ⟨ws, tys, hP, hK, hD, hA, hO⟩ := id hH
    obtain ⟨q, t, cA, hq, ht⟩ := hA a 4 _ ha
    exact va_zald C.1 C.2.1 hK hP q t hq ht hi d (k p e R s m args below meth c H locs cells slots ls C hR hB hH hS hl)
theorem x_zast {a n : Nat} {f : Nat → Int32} {i : Int32} {x : Int32} (d : decode M.2.1 pc = .ok (.bastore, 1)) (ha : h a = some (.inl (4, n, .inl f))) (hi : vp_in i n) (k : xw G M F L bc bs pr px (pc + 1) lv rest (xw_up h a (.inl (4, n, .inl (upd f i.toNatClampNeg (vp_nar .boolean x)))))) : xw G M F L bc bs pr px pc lv (.int x :: .int i :: .ref a :: rest) h :=
  fun p e R s m args below meth c H locs cells slots ls C hR hB hH hS hl => by
    obtain ⟨ws, tys, hP, hK, hD, hA, hO⟩ := id hH
    obtain ⟨q, t, cA, hq, ht⟩ := hA a 4 _ ha
    exact va_zast C.1 C.2.1 hK hP hD hS q t hq ht hi d (fun H1 locs1 hP1 hD1 hS1 => k p e R s m args below meth c H1 locs1 cells slots ls C hR hB (xw_H.set hq hP1 hK hD1 hA hO (Or.inl ⟨4, t, cA, _, rfl, rfl, ht⟩)) hS1 hl)
theorem x_znew {n : Int32} {N : Nat} (d : decode M.2.1 pc = .ok (.newarray .boolean, 2)) (harr : Cond.arrayClass .boolean ∈ xw_tbl) (hn : ¬ n < 0) (hN : n.toNatClampNeg = N) (hbytes : N * componentBytes .boolean ≤ 536870912) (hb : 1 ≤ bc ∧ N ≤ bs)
    (k : ∀ q : Nat, h q = none → xw G M F L (bc - 1) (bs - N) pr px (pc + 2) lv (.ref q :: rest) (xw_up h q (.inl (4, N, .inl (fun _ => 0))))) : xw G M F L bc bs pr px pc lv (.int n :: rest) h :=
  fun p e R s m args below meth c H locs cells slots ls C hR hB hH hS hl => by
    obtain ⟨ws, tys, hP, hK, hD, hA, hO⟩ := id hH
    refine va_newa (a0 := (N, .inl (fun _ => 0))) C.1 C.2.1 (atype := .boolean) (C.2.2.2.2.2.1 _ harr) rfl hK hP hD hS (xw_F.S0 C.2.2.2.2.2.2.2.2.2) (fun cA => rfl) hn hN hbytes (by omega) (by omega) d (fun q cA H1 hK1 hP1 hD1 hS1 => ?_)
    have hn9 : h q = none := xw_none hD1 hA hO
    exact k q hn9 p e R s m args below meth c H1 locs (cells + 1) (slots + N) ls C hR ⟨by omega, by omega⟩ (xw_H.push hP1 hK1 hD1 hn9 hA hO (Or.inl ⟨4, tys.length, cA, _, rfl, rfl, by simp [xw_ty, newarray.typeOf]⟩)) hS1 hl
end Booleans
theorem ao_Tokens {G : xw_G} : ∀ U H, xw_F G U H → va_AO (xw_cl 9).1 U := fun U H h => va_AO.moved h.2.2.2.alike (va_AO.of (h.1.1 _ (List.mem_of_getElem? (i := 119) (by decide +kernel))))
theorem ao_Version {G : xw_G} : ∀ U H, xw_F G U H → va_AO (xw_cl 10).1 U := fun U H h => va_AO.moved h.2.2.2.alike (va_AO.of (h.1.1 _ (List.mem_of_getElem? (i := 127) (by decide +kernel))))
theorem ao_Segment {G : xw_G} : ∀ U H, xw_F G U H → va_AO (xw_cl 6).1 U := fun U H h => va_AO.moved h.2.2.2.alike (va_AO.of (h.1.1 _ (List.mem_of_getElem? (i := 129) (by decide +kernel))))
theorem ao_Phrase {G : xw_G} : ∀ U H, xw_F G U H → va_AO (xw_cl 4).1 U := fun U H h => va_AO.moved h.2.2.2.alike (va_AO.of (h.1.1 _ (List.mem_of_getElem? (i := 195) (by decide +kernel))))
theorem ao_Node {G : xw_G} : ∀ U H, xw_F G U H → va_AO (xw_cl 2).1 U := fun U H h => va_AO.moved h.2.2.2.alike (va_AO.of (h.1.1 _ (List.mem_of_getElem? (i := 197) (by decide +kernel))))
