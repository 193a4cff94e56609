/-! MATH.MAX AND MATH.MIN, by the library's contracts -/
section MathRows
variable {G : xw_G} {M : xw_M} {F L bc bs : Nat} {pr : Option Value → xw_A → Prop} {px : String → xw_A → Prop} {pc : Nat} {lv : List (Option Value)} {rest : List Value} {h : xw_A}
def xw_mmax (own : String) (index : Nat) : Prop := ∀ w ∈ ([.methodLink own index Lib.Math.max.name, .static Lib.Math.max.name, .initialized "java/lang/Math", .code Lib.Math.max.name Lib.Math.max.code 2 (some .int)] : List Cond), w ∈ xw_tbl
theorem x_mmax {index : Nat} {x y : Int32} (d : decode M.2.1 pc = .ok (.invokestatic index, 3)) (hs : xw_mmax M.1.cls index) (hF : 1 ≤ F) (hL : (rest.map fun v => v.category).sum + 13 ≤ L)
    (k : ∀ z : Int32, (z = x ∨ z = y) → xw G M F L bc bs pr px (pc + 3) lv (.int z :: rest) h) : xw G M F L bc bs pr px pc lv (.int y :: .int x :: rest) h := by
  intro p e R s m args below meth c H locs cells slots ls C hR hB hH hS hl
  refine va_mmax C.1 C.2.1 (C.2.2.2.1.trans hl.1.symm) C.2.2.2.2.1 (C.2.2.2.2.2.1 _ (hs (.methodLink M.1.cls index Lib.Math.max.name) (by simp))) (C.2.2.2.2.2.1 _ (hs (.static Lib.Math.max.name) (by simp))) (C.2.2.2.2.2.1 _ (hs (.initialized "java/lang/Math") (by simp))) (C.2.2.2.2.2.1 _ (hs (.code Lib.Math.max.name Lib.Math.max.code 2 (some .int)) (by simp))) (Nat.le_trans hF hR.1) (Nat.le_trans hL hR.2) (by omega) (by omega) d (k _ ?_ p e R s m args below meth c H locs cells slots ls C hR hB hH hS hl)
  split
  · simp
  · simp
def xw_mmin (own : String) (index : Nat) : Prop := ∀ w ∈ ([.methodLink own index Lib.Math.min.name, .static Lib.Math.min.name, .initialized "java/lang/Math", .code Lib.Math.min.name Lib.Math.min.code 2 (some .int)] : List Cond), w ∈ xw_tbl
theorem x_mmin {index : Nat} {x y : Int32} (d : decode M.2.1 pc = .ok (.invokestatic index, 3)) (hs : xw_mmin M.1.cls index) (hF : 1 ≤ F) (hL : (rest.map fun v => v.category).sum + 13 ≤ L)
    (k : ∀ z : Int32, (z = x ∨ z = y) → xw G M F L bc bs pr px (pc + 3) lv (.int z :: rest) h) : xw G M F L bc bs pr px pc lv (.int y :: .int x :: rest) h := by
  intro p e R s m args below meth c H locs cells slots ls C hR hB hH hS hl
  refine va_mmin C.1 C.2.1 (C.2.2.2.1.trans hl.1.symm) C.2.2.2.2.1 (C.2.2.2.2.2.1 _ (hs (.methodLink M.1.cls index Lib.Math.min.name) (by simp))) (C.2.2.2.2.2.1 _ (hs (.static Lib.Math.min.name) (by simp))) (C.2.2.2.2.2.1 _ (hs (.initialized "java/lang/Math") (by simp))) (C.2.2.2.2.2.1 _ (hs (.code Lib.Math.min.name Lib.Math.min.code 2 (some .int)) (by simp))) (Nat.le_trans hF hR.1) (Nat.le_trans hL hR.2) (by omega) (by omega) d (k _ ?_ p e R s m args below meth c H locs cells slots ls C hR hB hH hS hl)
  split
  · simp
  · simp
end MathRows
theorem cM_Store_76 : xw_mmax "PhraseShelf$Store" 76 := List.forall_mem_cons.mpr ⟨xw_in2 138 rfl rfl, List.forall_mem_cons.mpr ⟨xw_in2 139 rfl rfl, List.forall_mem_cons.mpr ⟨xw_in1 20 rfl rfl, List.forall_mem_cons.mpr ⟨xw_in2 140 rfl rfl, (fun _ h => nomatch h)⟩⟩⟩⟩
theorem cM_Standing_138 : xw_mmax "PhraseShelf$Standing" 138 := List.forall_mem_cons.mpr ⟨xw_in4 235 rfl rfl, List.forall_mem_cons.mpr ⟨xw_in2 139 rfl rfl, List.forall_mem_cons.mpr ⟨xw_in1 20 rfl rfl, List.forall_mem_cons.mpr ⟨xw_in2 140 rfl rfl, (fun _ h => nomatch h)⟩⟩⟩⟩
theorem cM_Standing_147 : xw_mmin "PhraseShelf$Standing" 147 := List.forall_mem_cons.mpr ⟨xw_in4 236 rfl rfl, List.forall_mem_cons.mpr ⟨xw_in4 67 rfl rfl, List.forall_mem_cons.mpr ⟨xw_in1 20 rfl rfl, List.forall_mem_cons.mpr ⟨xw_in4 68 rfl rfl, (fun _ h => nomatch h)⟩⟩⟩⟩
theorem x_ldcw {G : xw_G} {M : xw_M} {F L bc bs : Nat} {pr : Option Value → xw_A → Prop} {px : String → xw_A → Prop} {pc : Nat} {lv : List (Option Value)} {rest : List Value} {h : xw_A} {index : Nat} {v : Int32} (d : decode M.2.1 pc = .ok (.ldc_w index, 3)) (hw : Cond.constant M.1.cls index v ∈ xw_tbl) (k : xw G M F L bc bs pr px (pc + 3) lv (.int v :: rest) h) : xw G M F L bc bs pr px pc lv rest h :=
  fun p e R s m args below meth c H locs cells slots ls C hR hB hH hS hl => lv_ldcw C.1 C.2.1 C.2.2.2.2.1 (C.2.2.2.2.2.1 _ hw) d (k p e R s m args below meth c H locs cells slots ls C hR hB hH hS hl)
abbrev m_Integer_bitCount : xw_M := (⟨"java/lang/Integer", "bitCount", "(I)I"⟩, prog_19_method_49_code, 1, (Option.some Jvm.ClassFile.FieldType.int), [])
theorem cS_Answers_68 : xw_sS "PhraseShelf$Answers" 68 m_Integer_bitCount 1 := ⟨List.forall_mem_cons.mpr ⟨xw_in5 41 rfl rfl, List.forall_mem_cons.mpr ⟨xw_in5 42 rfl rfl, List.forall_mem_cons.mpr ⟨xw_in1 26 rfl rfl, (fun _ h => nomatch h)⟩⟩⟩, xw_in5 43 rfl rfl, by decide +kernel, by decide +kernel, by decide +kernel⟩
theorem d_Integer_bitCount_0 : decode prog_19_method_49_code 0 = .ok (.iload_n 0, 1) := by decide +kernel
theorem d_Integer_bitCount_1 : decode prog_19_method_49_code 1 = .ok (.iload_n 0, 1) := by decide +kernel
theorem d_Integer_bitCount_2 : decode prog_19_method_49_code 2 = .ok (.iconst 1, 1) := by decide +kernel
theorem d_Integer_bitCount_3 : decode prog_19_method_49_code 3 = .ok (.iushr, 1) := by decide +kernel
theorem d_Integer_bitCount_4 : decode prog_19_method_49_code 4 = .ok (.ldc_w 265, 3) := by decide +kernel
theorem d_Integer_bitCount_7 : decode prog_19_method_49_code 7 = .ok (.iand, 1) := by decide +kernel
theorem d_Integer_bitCount_8 : decode prog_19_method_49_code 8 = .ok (.isub, 1) := by decide +kernel
theorem d_Integer_bitCount_9 : decode prog_19_method_49_code 9 = .ok (.istore_n 0, 1) := by decide +kernel
theorem d_Integer_bitCount_10 : decode prog_19_method_49_code 10 = .ok (.iload_n 0, 1) := by decide +kernel
theorem d_Integer_bitCount_11 : decode prog_19_method_49_code 11 = .ok (.ldc_w 266, 3) := by decide +kernel
theorem d_Integer_bitCount_14 : decode prog_19_method_49_code 14 = .ok (.iand, 1) := by decide +kernel
theorem d_Integer_bitCount_15 : decode prog_19_method_49_code 15 = .ok (.iload_n 0, 1) := by decide +kernel
theorem d_Integer_bitCount_16 : decode prog_19_method_49_code 16 = .ok (.iconst 2, 1) := by decide +kernel
theorem d_Integer_bitCount_17 : decode prog_19_method_49_code 17 = .ok (.iushr, 1) := by decide +kernel
theorem d_Integer_bitCount_18 : decode prog_19_method_49_code 18 = .ok (.ldc_w 266, 3) := by decide +kernel
theorem d_Integer_bitCount_21 : decode prog_19_method_49_code 21 = .ok (.iand, 1) := by decide +kernel
theorem d_Integer_bitCount_22 : decode prog_19_method_49_code 22 = .ok (.iadd, 1) := by decide +kernel
theorem d_Integer_bitCount_23 : decode prog_19_method_49_code 23 = .ok (.istore_n 0, 1) := by decide +kernel
theorem d_Integer_bitCount_24 : decode prog_19_method_49_code 24 = .ok (.iload_n 0, 1) := by decide +kernel
theorem d_Integer_bitCount_25 : decode prog_19_method_49_code 25 = .ok (.iload_n 0, 1) := by decide +kernel
theorem d_Integer_bitCount_26 : decode prog_19_method_49_code 26 = .ok (.iconst 4, 1) := by decide +kernel
theorem d_Integer_bitCount_27 : decode prog_19_method_49_code 27 = .ok (.iushr, 1) := by decide +kernel
theorem d_Integer_bitCount_28 : decode prog_19_method_49_code 28 = .ok (.iadd, 1) := by decide +kernel
theorem d_Integer_bitCount_29 : decode prog_19_method_49_code 29 = .ok (.ldc_w 267, 3) := by decide +kernel
theorem d_Integer_bitCount_32 : decode prog_19_method_49_code 32 = .ok (.iand, 1) := by decide +kernel
theorem d_Integer_bitCount_33 : decode prog_19_method_49_code 33 = .ok (.istore_n 0, 1) := by decide +kernel
theorem d_Integer_bitCount_34 : decode prog_19_method_49_code 34 = .ok (.iload_n 0, 1) := by decide +kernel
theorem d_Integer_bitCount_35 : decode prog_19_method_49_code 35 = .ok (.iload_n 0, 1) := by decide +kernel
theorem d_Integer_bitCount_36 : decode prog_19_method_49_code 36 = .ok (.bipush 8, 2) := by decide +kernel
theorem d_Integer_bitCount_38 : decode prog_19_method_49_code 38 = .ok (.iushr, 1) := by decide +kernel
theorem d_Integer_bitCount_39 : decode prog_19_method_49_code 39 = .ok (.iadd, 1) := by decide +kernel
theorem d_Integer_bitCount_40 : decode prog_19_method_49_code 40 = .ok (.istore_n 0, 1) := by decide +kernel
theorem d_Integer_bitCount_41 : decode prog_19_method_49_code 41 = .ok (.iload_n 0, 1) := by decide +kernel
theorem d_Integer_bitCount_42 : decode prog_19_method_49_code 42 = .ok (.iload_n 0, 1) := by decide +kernel
theorem d_Integer_bitCount_43 : decode prog_19_method_49_code 43 = .ok (.bipush 16, 2) := by decide +kernel
theorem d_Integer_bitCount_45 : decode prog_19_method_49_code 45 = .ok (.iushr, 1) := by decide +kernel
theorem d_Integer_bitCount_46 : decode prog_19_method_49_code 46 = .ok (.iadd, 1) := by decide +kernel
theorem d_Integer_bitCount_47 : decode prog_19_method_49_code 47 = .ok (.istore_n 0, 1) := by decide +kernel
theorem d_Integer_bitCount_48 : decode prog_19_method_49_code 48 = .ok (.iload_n 0, 1) := by decide +kernel
theorem d_Integer_bitCount_49 : decode prog_19_method_49_code 49 = .ok (.bipush 63, 2) := by decide +kernel
theorem d_Integer_bitCount_51 : decode prog_19_method_49_code 51 = .ok (.iand, 1) := by decide +kernel
theorem d_Integer_bitCount_52 : decode prog_19_method_49_code 52 = .ok (.ireturn, 1) := by decide +kernel
set_option maxHeartbeats 1000000 in
theorem j_bits {G : xw_G} {F L : Nat} {h : xw_A} {x : Int32} (hF : 1 ≤ F) (hL : 20 ≤ L) : xw_Met G m_Integer_bitCount F L 0 0 [.int x] h (fun v h' => (∃ c : Nat, v = some (.int (nI c)) ∧ c ≤ 63) ∧ h = h') (fun _ _ => False) := by
  refine xw_Met.of rfl (by decide) (Nat.le_of_ble_eq_true rfl) ?_
  refine x_iload_n d_Integer_bitCount_0 rfl rfl ?_
  refine x_iload_n d_Integer_bitCount_1 rfl rfl ?_
  refine x_iconst (v := 1) d_Integer_bitCount_2 (by decide) ?_
  refine x_iushr d_Integer_bitCount_3 rfl ?_
  refine x_ldcw (v := 1431655765) d_Integer_bitCount_4 (xw_in5 44 rfl rfl) ?_
  refine x_iand d_Integer_bitCount_7 ?_
  refine x_isub d_Integer_bitCount_8 ?_
  refine x_istore_n d_Integer_bitCount_9 rfl (by decide) trivial ?_
  refine x_iload_n d_Integer_bitCount_10 rfl rfl ?_
  refine x_ldcw (v := 858993459) d_Integer_bitCount_11 (xw_in5 45 rfl rfl) ?_
  refine x_iand d_Integer_bitCount_14 ?_
  refine x_iload_n d_Integer_bitCount_15 rfl rfl ?_
  refine x_iconst (v := 2) d_Integer_bitCount_16 (by decide) ?_
  refine x_iushr d_Integer_bitCount_17 rfl ?_
  refine x_ldcw (v := 858993459) d_Integer_bitCount_18 (xw_in5 45 rfl rfl) ?_
  refine x_iand d_Integer_bitCount_21 ?_
  refine x_iadd d_Integer_bitCount_22 ?_
  refine x_istore_n d_Integer_bitCount_23 rfl (by decide) trivial ?_
  refine x_iload_n d_Integer_bitCount_24 rfl rfl ?_
  refine x_iload_n d_Integer_bitCount_25 rfl rfl ?_
  refine x_iconst (v := 4) d_Integer_bitCount_26 (by decide) ?_
  refine x_iushr d_Integer_bitCount_27 rfl ?_
  refine x_iadd d_Integer_bitCount_28 ?_
  refine x_ldcw (v := 252645135) d_Integer_bitCount_29 (xw_in5 46 rfl rfl) ?_
  refine x_iand d_Integer_bitCount_32 ?_
  refine x_istore_n d_Integer_bitCount_33 rfl (by decide) trivial ?_
  refine x_iload_n d_Integer_bitCount_34 rfl rfl ?_
  refine x_iload_n d_Integer_bitCount_35 rfl rfl ?_
  refine x_bipush (v := 8) d_Integer_bitCount_36 (by decide) ?_
  refine x_iushr d_Integer_bitCount_38 rfl ?_
  refine x_iadd d_Integer_bitCount_39 ?_
  refine x_istore_n d_Integer_bitCount_40 rfl (by decide) trivial ?_
  refine x_iload_n d_Integer_bitCount_41 rfl rfl ?_
  refine x_iload_n d_Integer_bitCount_42 rfl rfl ?_
  refine x_bipush (v := 16) d_Integer_bitCount_43 (by decide) ?_
  refine x_iushr d_Integer_bitCount_45 rfl ?_
  refine x_iadd d_Integer_bitCount_46 ?_
  refine x_istore_n d_Integer_bitCount_47 rfl (by decide) trivial ?_
  refine x_iload_n d_Integer_bitCount_48 rfl rfl ?_
  refine x_bipush (v := 63) d_Integer_bitCount_49 (by decide) ?_
  refine x_iand d_Integer_bitCount_51 ?_
  exact x_iret d_Integer_bitCount_52 rfl ⟨(pk_andE _ 6 (by decide)).elim (fun c hc => ⟨c, congrArg (fun z => some (Value.int z)) hc.2, by have h9 : c < 64 := hc.1; omega⟩), rfl⟩
