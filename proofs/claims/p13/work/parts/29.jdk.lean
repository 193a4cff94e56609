/-! MATH.MAX AND MATH.MIN, by the library's contracts -/
section MathRows
variable {G : xw_G} {M : xw_M} {F L bc bs : Nat} {pr : Option Value → xw_A → Prop} {px : String → xw_A → Prop} {pc : Nat} {lv : List (Option Value)} {rest : List Value} {h : xw_A}
def xw_mmax (own : String) (index : Nat) : Prop := ∀ w ∈ ([.methodLink own index Lib.Math.max.name, .static Lib.Math.max.name, .initialized "java/lang/Math", .code Lib.Math.max.name Lib.Math.max.code 2 (some .int)] : List Cond), w ∈ xw_tbl
theorem x_mmax {index : Nat} {x y : Int32} (d : decode M.2.1 pc = .ok (.invokestatic index, 3)) (hs : xw_mmax M.1.cls index) (hF : 1 ≤ F) (hL : (rest.map fun v => v.category).sum + 13 ≤ L)
    (k : ∀ z : Int32, (z = x ∨ z = y) → xw G M F L bc bs pr px (pc + 3) lv (.int z :: rest) h) : xw G M F L bc bs pr px pc lv (.int y :: .int x :: rest) h := by
  intro p e R s m args below meth c H locs cells slots ls C hR hB hH hS hl
  refine va_mmax C.1 C.2.1 (C.2.2.2.1.trans hl.1.symm) C.2.2.2.2.1 (C.2.2.2.2.2.1 _ (hs (.methodLink M.1.cls index Lib.Math.max.name) (by simp))) (C.2.2.2.2.2.1 _ (hs (.static Lib.Math.max.name) (by simp))) (C.2.2.2.2.2.1 _ (hs (.initialized "java/lang/Math") (by simp))) (C.2.2.2.2.2.1 _ (hs (.code Lib.Math.max.name Lib.Math.max.code 2 (some .int)) (by simp))) (Nat.le_trans hF hR.1) (Nat.le_trans hL hR.2) (by omega) (by omega) d (k _ ?_ p e R s m args below meth c H locs cells slots ls C hR hB hH hS hl)
  split
  · simp
  · simp
def xw_mmin (own : String) (index : Nat) : Prop := ∀ w ∈ ([.methodLink own index Lib.Math.min.name, .static Lib.Math.min.name, .initialized "java/lang/Math", .code Lib.Math.min.name Lib.Math.min.code 2 (some .int)] : List Cond), w ∈ xw_tbl
theorem x_mmin {index : Nat} {x y : Int32} (d : decode M.2.1 pc = .ok (.invokestatic index, 3)) (hs : xw_mmin M.1.cls index) (hF : 1 ≤ F) (hL : (rest.map fun v => v.category).sum + 13 ≤ L)
    (k : ∀ z : Int32, (z = x ∨ z = y) → xw G M F L bc bs pr px (pc + 3) lv (.int z :: rest) h) : xw G M F L bc bs pr px pc lv (.int y :: .int x :: rest) h := by
  intro p e R s m args below meth c H locs cells slots ls C hR hB hH hS hl
  refine va_mmin C.1 C.2.1 (C.2.2.2.1.trans hl.1.symm) C.2.2.2.2.1 (C.2.2.2.2.2.1 _ (hs (.methodLink M.1.cls index Lib.Math.min.name) (by simp))) (C.2.2.2.2.2.1 _ (hs (.static Lib.Math.min.name) (by simp))) (C.2.2.2.2.2.1 _ (hs (.initialized "java/lang/Math") (by simp))) (C.2.2.2.2.2.1 _ (hs (.code Lib.Math.min.name Lib.Math.min.code 2 (some .int)) (by simp))) (Nat.le_trans hF hR.1) (Nat.le_trans hL hR.2) (by omega) (by omega) d (k _ ?_ p e R s m args below meth c H locs cells slots ls C hR hB hH hS hl)
  split
  · simp
  · simp
end MathRows
theorem cM_Store_76 : xw_mmax "PhraseShelf$Store" 76 := List.forall_mem_cons.mpr ⟨xw_in 461 (by decide +kernel) rfl, List.forall_mem_cons.mpr ⟨xw_in 462 (by decide +kernel) rfl, List.forall_mem_cons.mpr ⟨xw_in 103 (by decide +kernel) rfl, List.forall_mem_cons.mpr ⟨xw_in 463 (by decide +kernel) rfl, (fun _ h => nomatch h)⟩⟩⟩⟩
theorem cM_Standing_138 : xw_mmax "PhraseShelf$Standing" 138 := List.forall_mem_cons.mpr ⟨xw_in 1038 (by decide +kernel) rfl, List.forall_mem_cons.mpr ⟨xw_in 462 (by decide +kernel) rfl, List.forall_mem_cons.mpr ⟨xw_in 103 (by decide +kernel) rfl, List.forall_mem_cons.mpr ⟨xw_in 463 (by decide +kernel) rfl, (fun _ h => nomatch h)⟩⟩⟩⟩
theorem cM_Standing_147 : xw_mmin "PhraseShelf$Standing" 147 := List.forall_mem_cons.mpr ⟨xw_in 1039 (by decide +kernel) rfl, List.forall_mem_cons.mpr ⟨xw_in 870 (by decide +kernel) rfl, List.forall_mem_cons.mpr ⟨xw_in 103 (by decide +kernel) rfl, List.forall_mem_cons.mpr ⟨xw_in 871 (by decide +kernel) rfl, (fun _ h => nomatch h)⟩⟩⟩⟩
