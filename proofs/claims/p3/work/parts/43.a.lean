/-! STRING CONSTANTS: older than the run, so never changed -/
abbrev xw_FL : List Cond := flatC (Jvm.Cond.and given_1 narrow_1)
/-- q is a String: its bytes are b, n of them, f -/
def xw_Str (G : xw_G) (q b n : Nat) (f : Nat → Int32) : Prop := va_O "java/lang/String" q (xw_g G) G.2.2.1 G.2.2.1.heap ∧ va_OF "java/lang/String" "coder" "B" (.int 0) q (xw_g G) G.2.2.1 G.2.2.1.heap ∧ va_OF "java/lang/String" "value" "[B" (.ref b) q (xw_g G) G.2.2.1 G.2.2.1.heap ∧ va_T .byte b n (fun j => .int (f j)) (xw_g G) G.2.2.1 G.2.2.1.heap
abbrev xw_sv (own : String) (k : Nat) : Term := .field (.string own k) "java/lang/String" "value" "[B"
def xw_strC (own : String) (k : Nat) (tx : String) (bs : List Int32) : Prop := Cond.stringRef own k tx ∈ lw_tbl ∧ Cond.exactly (.string own k) "java/lang/String" ∈ xw_FL ∧ Cond.eq (.field (.string own k) "java/lang/String" "coder" "B") (.int 0) ∈ xw_FL ∧ Cond.arrayOf (xw_sv own k) .byte ∈ xw_FL ∧ Cond.eq (.length (xw_sv own k)) (.int (Int32.ofNat bs.length)) ∈ xw_FL ∧ ∀ j, j < bs.length → Cond.eq (.elem (xw_sv own k) (.int (Int32.ofNat j))) (.int (bs.getD j 0)) ∈ xw_FL
section StrRows
variable {G : xw_G} {M : xw_M} {F L bc bs : Nat} {pr : Option Value → xw_A → Prop} {px : String → xw_A → Prop} {pc : Nat} {lv : List (Option Value)} {rest : List Value} {h : xw_A}
theorem xw_strOf {U : State} {H : Heap} (hF : xw_F G U H) {own tx : String} {k : Nat} {l : List Int32} (hc : xw_strC own k tx l) (hl : l.length < 2 ^ 31) : ∃ q b, xw_Str G q b l.length (fun j => l.getD j 0) ∧ vk_R own k tx q G.2.2.1 := by
  obtain ⟨c1, c2, c3, c4, c5, c6⟩ := hc
  have fl : ∀ w, w ∈ xw_FL → w.before G.2.2.2 G.2.2.1 = true := fun w hw => flat_of_before _ hF.1.2.1 w hw
  obtain ⟨adK, adV, hS, he⟩ := vk_Sof (args := G.2.2.2) (s := G.2.2.1) (N := 1) (tm := fun _ => .string own k) (len := [l.length]) (byt := [l]) (A := xw_g G) (fun i hi => by obtain rfl : i = 0 := (by omega); exact hl) (fun _ _ => fl _ c2) (fun _ _ => fl _ c3) (fun _ _ => fl _ c4) (fun i hi => by obtain rfl : i = 0 := (by omega); exact fl _ c5) (fun i hi j hj => by obtain rfl : i = 0 := (by omega); exact fl _ (c6 j hj)) (fun i j hi hj hij => absurd (show i = j by omega) hij) (fun a ha hn => absurd ha (Nat.not_lt.mpr hn))
  exact ⟨adK 0, adV 0, hS.1 0 (by decide), vk_R.of (hF.1.1 _ c1) (he 0 (by decide))⟩
theorem x_ldcS {index : Nat} {tx : String} {l : List Int32} (d : decode M.2.1 pc = .ok (.ldc index, 2)) (hc : xw_strC M.1.cls index tx l) (hl : l.length < 2 ^ 31) (k : ∀ q b, xw_Str G q b l.length (fun j => l.getD j 0) → xw G M F L bc bs pr px (pc + 2) lv (.ref q :: rest) h) : xw G M F L bc bs pr px pc lv rest h := by
  intro p e R s m args below meth c H locs cells slots ls C hR hB hH hS hl2
  have hF := C.2.2.2.2.2.2.2.2.2
  obtain ⟨q, b, hq, hZ⟩ := xw_strOf hF hc hl
  exact va_ldcS C.1 C.2.1 C.2.2.2.2.1 (vk_R.warm hF.2.2.2 hZ) d (k q b hq p e R s m args below meth c H locs cells slots ls C hR hB hH hS hl2)
theorem x_strF {index q : Nat} {n dd : String} {v : Value} (hE : va_OF "java/lang/String" n dd v q (xw_g G) G.2.2.1 G.2.2.1.heap) (d : decode M.2.1 pc = .ok (.getfield index, 3)) (hw : Cond.fieldLink M.1.cls index "java/lang/String" n dd ∈ xw_tbl) (k : xw G M F L bc bs pr px (pc + 3) lv (v :: rest) h) : xw G M F L bc bs pr px pc lv (.ref q :: rest) h := by
  intro p e R s m args below meth c H locs cells slots ls C hR hB hH hS hl
  have hF := C.2.2.2.2.2.2.2.2.2
  exact vk_getf C.1 C.2.1 ((va_OF.moved hF.2.2.2.alike hE).kept (fun a h1 _ => hF.2.2.1 a h1)) hS C.2.2.2.2.1 (C.2.2.2.2.2.1 _ hw) (fun x hx => hx) d (k p e R s m args below meth c H locs cells slots ls C hR hB hH hS hl)
theorem x_strL {b n : Nat} {f : Nat → Value} (hT : va_T .byte b n f (xw_g G) G.2.2.1 G.2.2.1.heap) (d : decode M.2.1 pc = .ok (.arraylength, 1)) (k : xw G M F L bc bs pr px (pc + 1) lv (.int (nI n) :: rest) h) : xw G M F L bc bs pr px pc lv (.ref b :: rest) h := by
  intro p e R s m args below meth c H locs cells slots ls C hR hB hH hS hl
  have hF := C.2.2.2.2.2.2.2.2.2
  exact va_tlen C.1 C.2.1 ((va_T.moved hF.2.2.2.alike hT).kept (fun a h1 _ => hF.2.2.1 a h1)) hS rfl d (k p e R s m args below meth c H locs cells slots ls C hR hB hH hS hl)
theorem x_strB {b n : Nat} {i : Int32} {f : Nat → Int32} (hT : va_T .byte b n (fun j => .int (f j)) (xw_g G) G.2.2.1 G.2.2.1.heap) (d : decode M.2.1 pc = .ok (.baload, 1)) (hi : vp_in i n) (k : xw G M F L bc bs pr px (pc + 1) lv (.int (f i.toNatClampNeg) :: rest) h) : xw G M F L bc bs pr px pc lv (.int i :: .ref b :: rest) h := by
  intro p e R s m args below meth c H locs cells slots ls C hR hB hH hS hl
  have hF := C.2.2.2.2.2.2.2.2.2
  exact va_tb C.1 C.2.1 ((va_T.moved hF.2.2.2.alike hT).kept (fun a h1 _ => hF.2.2.1 a h1)) hS hi rfl d (k p e R s m args below meth c H locs cells slots ls C hR hB hH hS hl)
theorem x_gst {index : Nat} {C0 n dd : String} {z : Int32} (d : decode M.2.1 pc = .ok (.getstatic index, 3)) (hl0 : Cond.laysStatic C0 n dd ∈ lw_tbl) (hi0 : Cond.initialized C0 ∈ lw_tbl) (he : Cond.eq (.static C0 n dd) (.int z) ∈ xw_FL) (hw : Cond.fieldLink M.1.cls index C0 n dd ∈ xw_tbl) (k : xw G M F L bc bs pr px (pc + 3) lv (.int z :: rest) h) : xw G M F L bc bs pr px pc lv rest h := by
  intro p e R s m args below meth c H locs cells slots ls C hR hB hH hS hl
  have hF := C.2.2.2.2.2.2.2.2.2
  have hZ : va_Z C0 n dd (.int z) (xw_g G) G.2.2.1 G.2.2.1.heap := va_Zof (hF.1.1 _ hl0) (hF.1.1 _ hi0) (va_eqi (flat_of_before _ hF.1.2.1 _ he)) (fun a ha hn => absurd ha (Nat.not_lt.mpr hn))
  exact va_gets C.1 C.2.1 ((va_Z.moved hF.2.2.2.alike hZ).kept (fun a h1 _ => hF.2.2.1 a h1)) hS C.2.2.2.2.1 (C.2.2.2.2.2.1 _ hw) (fun x hx => hx) d (k p e R s m args below meth c H locs cells slots ls C hR hB hH hS hl)
theorem x_gstq {index : Nat} {C0 n dd : String} (d : decode M.2.1 pc = .ok (.getstatic index, 3)) (hl0 : Cond.laysStatic C0 n dd ∈ lw_tbl) (hi0 : Cond.initialized C0 ∈ lw_tbl) (he : Cond.isRef (.static C0 n dd) ∈ xw_FL) (hw : Cond.fieldLink M.1.cls index C0 n dd ∈ xw_tbl) (k : ∀ v : Value, (v = .null ∨ ∃ a, v = .ref a) → xw G M F L bc bs pr px (pc + 3) lv (v :: rest) h) : xw G M F L bc bs pr px pc lv rest h := by
  intro p e R s m args below meth c H locs cells slots ls C hR hB hH hS hl
  have hF := C.2.2.2.2.2.2.2.2.2
  rcases hF.zq hl0 hi0 he with hZ | ⟨t, hZ⟩
  · exact va_gets C.1 C.2.1 hZ hS C.2.2.2.2.1 (C.2.2.2.2.2.1 _ hw) (fun x hx => hx) d (k _ (Or.inl rfl) p e R s m args below meth c H locs cells slots ls C hR hB hH hS hl)
  · exact va_gets C.1 C.2.1 hZ hS C.2.2.2.2.1 (C.2.2.2.2.2.1 _ hw) (fun x hx => hx) d (k _ (Or.inr ⟨t, rfl⟩) p e R s m args below meth c H locs cells slots ls C hR hB hH hS hl)
theorem x_callVS {index b F1 L1 mc ms n1 bb : Nat} {f1 : Nat → Int32} {M1 : xw_M} {As : List Value} {pq : Option Value → xw_A → Prop} (d : decode M.2.1 pc = .ok (.invokevirtual index, 3)) (hs : xw_sV M.1.cls index M1 As.length)
    (hM : xw_Met G M1 F1 L1 mc ms (.ref b :: As) h pq (fun _ _ => False)) (hb : xw_Str G b bb n1 f1) (hci : "java/lang/String" = M1.1.cls) (hr : F1 + 1 ≤ F ∧ 8 + (M1.2.2.1 + 11) + L1 ≤ L) (hc : mc ≤ bc ∧ ms ≤ bs) (hw : (rest.map fun v => v.category).sum ≤ 8)
    (k : ∀ v h1, pq v h1 → xw G M F L (bc - mc) (bs - ms) pr px (pc + 3) lv (v.toList ++ rest) h1) : xw G M F L bc bs pr px pc lv (As.reverse ++ .ref b :: rest) h := by
  intro p e R s m args below meth c H locs cells slots ls C hR hB hH hS hl
  have hF := C.2.2.2.2.2.2.2.2.2
  obtain ⟨s1, s2, s3, s4, s5⟩ := hs
  obtain ⟨cell, r1, r2, r3, -⟩ := ((va_O.moved hF.2.2.2.alike hb.1).kept (fun a h1 _ => hF.2.2.1 a h1)).kept hS.2.1
  have hrecv : ∃ cell : Cell, H[b]? = some cell ∧ cell.vm.isStatics = false ∧ s.vm.findClass M1.1.cls = some cell.cls := ⟨cell, r1, r2, by rw [← hci]; exact r3⟩
  exact xw_run hc k C hR hB hS hl (va_runV (C := M1.1.cls) (As := As) (rest := rest) (n := As.length) (Ts := xw_tbl) ⟨C.1, C.2.1, C.2.2.2.1, C.2.2.2.2.1, C.2.2.2.2.2.1⟩ hM.met
    (cwV As.length C.2.2.2.2.2.1 (xw_goodIn s1 s2) rfl rfl rfl ⟨rfl, s3, s4, s5⟩ ⟨Nat.le_trans hr.1 hR.1, Nat.le_trans hr.2 hR.2⟩)
    ⟨xw_blind, hrecv, fun U hU hW => ⟨rfl, xw_H.moved hW.alike (by rw [hU]; exact hH), xw_F.moved hW (fun q h1 h2 => by rw [hU]; exact hS.2.1 q h1 (fun h3 => Nat.lt_irrefl _ (Nat.lt_of_lt_of_le h2 h3))) C.2.2.2.2.2.2.2.2.2⟩⟩ rfl rfl hl.1 rfl (lv_room hw) d ⟨by omega, by omega⟩)
end StrRows
theorem st_58 : xw_strC "PhraseShelf$Parts" 58 "OR" [79, 82] := ⟨List.mem_of_getElem? (i := 792) (by decide +kernel), by decide +kernel, by decide +kernel, by decide +kernel, by decide +kernel, by decide +kernel⟩
theorem st_64 : xw_strC "PhraseShelf$Parts" 64 "AND" [65, 78, 68] := ⟨List.mem_of_getElem? (i := 845) (by decide +kernel), by decide +kernel, by decide +kernel, by decide +kernel, by decide +kernel, by decide +kernel⟩
theorem st_66 : xw_strC "PhraseShelf$Parts" 66 "NOT" [78, 79, 84] := ⟨List.mem_of_getElem? (i := 846) (by decide +kernel), by decide +kernel, by decide +kernel, by decide +kernel, by decide +kernel, by decide +kernel⟩
theorem st_68 : xw_strC "PhraseShelf$Parts" 68 "NEAR" [78, 69, 65, 82] := ⟨List.mem_of_getElem? (i := 847) (by decide +kernel), by decide +kernel, by decide +kernel, by decide +kernel, by decide +kernel, by decide +kernel⟩
theorem st_51 : xw_strC "PhraseShelf$Parts" 51 "()-^,+*:" [40, 41, 45, 94, 44, 43, 42, 58] := ⟨List.mem_of_getElem? (i := 852) (by decide +kernel), by decide +kernel, by decide +kernel, by decide +kernel, by decide +kernel, by decide +kernel⟩
abbrev m_String_length : xw_M := (⟨"java/lang/String", "length", "()I"⟩, prog_22_method_54_code, 1, (Option.some Jvm.ClassFile.FieldType.int), [])
abbrev m_String_coder : xw_M := (⟨"java/lang/String", "coder", "()B"⟩, prog_22_method_152_code, 1, (Option.some Jvm.ClassFile.FieldType.byte), [])
abbrev m_String_isLatin1 : xw_M := (⟨"java/lang/String", "isLatin1", "()Z"⟩, prog_22_method_154_code, 1, (Option.some Jvm.ClassFile.FieldType.boolean), [])
abbrev m_String_charAt : xw_M := (⟨"java/lang/String", "charAt", "(I)C"⟩, prog_22_method_56_code, 2, (Option.some Jvm.ClassFile.FieldType.char), [])
abbrev m_Latin_charAt : xw_M := (⟨"java/lang/StringLatin1", "charAt", "([BI)C"⟩, prog_23_method_2_code, 2, (Option.some Jvm.ClassFile.FieldType.char), [])
abbrev m_String_checkIndex : xw_M := (⟨"java/lang/String", "checkIndex", "(II)V"⟩, prog_22_method_155_code, 2, none, [])
abbrev m_Pre_checkIndex : xw_M := (⟨"jdk/internal/util/Preconditions", "checkIndex", "(IILjava/util/function/BiFunction;)I"⟩, prog_27_method_11_code, 3, (Option.some Jvm.ClassFile.FieldType.int), [])
abbrev m_String_indexOf : xw_M := (⟨"java/lang/String", "indexOf", "(I)I"⟩, prog_22_method_79_code, 2, (Option.some Jvm.ClassFile.FieldType.int), [])
abbrev m_String_indexOf2 : xw_M := (⟨"java/lang/String", "indexOf", "(II)I"⟩, prog_22_method_80_code, 3, (Option.some Jvm.ClassFile.FieldType.int), [])
abbrev m_Latin_indexOf : xw_M := (⟨"java/lang/StringLatin1", "indexOf", "([BIII)I"⟩, prog_23_method_22_code, 4, (Option.some Jvm.ClassFile.FieldType.int), [])
abbrev m_Latin_canEncode : xw_M := (⟨"java/lang/StringLatin1", "canEncode", "(I)Z"⟩, prog_23_method_4_code, 1, (Option.some Jvm.ClassFile.FieldType.boolean), [])
abbrev m_Latin_indexOfChar : xw_M := (⟨"java/lang/StringLatin1", "indexOfChar", "([BIII)I"⟩, prog_23_method_23_code, 6, (Option.some Jvm.ClassFile.FieldType.int), [])
theorem cV_Parts_70 : xw_sV "PhraseShelf$Parts" 70 m_String_length 0 := ⟨List.forall_mem_cons.mpr ⟨xw_in3 234 rfl rfl, List.forall_mem_cons.mpr ⟨xw_in3 235 rfl rfl, List.forall_mem_cons.mpr ⟨xw_in3 236 rfl rfl, List.forall_mem_cons.mpr ⟨xw_in1 21 rfl rfl, (fun _ h => nomatch h)⟩⟩⟩⟩, xw_in3 237 rfl rfl, by decide +kernel, by decide +kernel, by decide +kernel⟩
theorem cV_Parts_73 : xw_sV "PhraseShelf$Parts" 73 m_String_charAt 1 := ⟨List.forall_mem_cons.mpr ⟨xw_in4 4 rfl rfl, List.forall_mem_cons.mpr ⟨xw_in4 5 rfl rfl, List.forall_mem_cons.mpr ⟨xw_in4 6 rfl rfl, List.forall_mem_cons.mpr ⟨xw_in1 21 rfl rfl, (fun _ h => nomatch h)⟩⟩⟩⟩, xw_in4 7 rfl rfl, by decide +kernel, by decide +kernel, by decide +kernel⟩
theorem cV_Parts_53 : xw_sV "PhraseShelf$Parts" 53 m_String_indexOf 1 := ⟨List.forall_mem_cons.mpr ⟨xw_in4 50 rfl rfl, List.forall_mem_cons.mpr ⟨xw_in4 51 rfl rfl, List.forall_mem_cons.mpr ⟨xw_in4 52 rfl rfl, List.forall_mem_cons.mpr ⟨xw_in1 21 rfl rfl, (fun _ h => nomatch h)⟩⟩⟩⟩, xw_in4 53 rfl rfl, by decide +kernel, by decide +kernel, by decide +kernel⟩
theorem cV_String_335 : xw_sV "java/lang/String" 335 m_String_coder 0 := ⟨List.forall_mem_cons.mpr ⟨xw_in3 238 rfl rfl, List.forall_mem_cons.mpr ⟨xw_in3 239 rfl rfl, List.forall_mem_cons.mpr ⟨xw_in4 0 rfl rfl, List.forall_mem_cons.mpr ⟨xw_in1 21 rfl rfl, (fun _ h => nomatch h)⟩⟩⟩⟩, xw_in4 1 rfl rfl, by decide +kernel, by decide +kernel, by decide +kernel⟩
theorem cV_String_492 : xw_sV "java/lang/String" 492 m_String_isLatin1 0 := ⟨List.forall_mem_cons.mpr ⟨xw_in4 8 rfl rfl, List.forall_mem_cons.mpr ⟨xw_in4 9 rfl rfl, List.forall_mem_cons.mpr ⟨xw_in4 10 rfl rfl, List.forall_mem_cons.mpr ⟨xw_in1 21 rfl rfl, (fun _ h => nomatch h)⟩⟩⟩⟩, xw_in4 11 rfl rfl, by decide +kernel, by decide +kernel, by decide +kernel⟩
theorem cS_String_495 : xw_sS "java/lang/String" 495 m_Latin_charAt 2 := ⟨List.forall_mem_cons.mpr ⟨xw_in4 12 rfl rfl, List.forall_mem_cons.mpr ⟨xw_in4 13 rfl rfl, List.forall_mem_cons.mpr ⟨xw_in1 22 rfl rfl, (fun _ h => nomatch h)⟩⟩⟩, xw_in4 14 rfl rfl, by decide +kernel, by decide +kernel, by decide +kernel⟩
theorem cS_StringLatin1_9 : xw_sS "java/lang/StringLatin1" 9 m_String_checkIndex 2 := ⟨List.forall_mem_cons.mpr ⟨xw_in4 15 rfl rfl, List.forall_mem_cons.mpr ⟨xw_in4 16 rfl rfl, List.forall_mem_cons.mpr ⟨xw_in1 21 rfl rfl, (fun _ h => nomatch h)⟩⟩⟩, xw_in4 17 rfl rfl, by decide +kernel, by decide +kernel, by decide +kernel⟩
theorem cS_String_1059 : xw_sS "java/lang/String" 1059 m_Pre_checkIndex 3 := ⟨List.forall_mem_cons.mpr ⟨xw_in4 20 rfl rfl, List.forall_mem_cons.mpr ⟨xw_in4 21 rfl rfl, List.forall_mem_cons.mpr ⟨xw_in1 23 rfl rfl, (fun _ h => nomatch h)⟩⟩⟩, xw_in4 22 rfl rfl, by decide +kernel, by decide +kernel, by decide +kernel⟩
theorem cV_String_633 : xw_sV "java/lang/String" 633 m_String_indexOf2 2 := ⟨List.forall_mem_cons.mpr ⟨xw_in4 54 rfl rfl, List.forall_mem_cons.mpr ⟨xw_in4 55 rfl rfl, List.forall_mem_cons.mpr ⟨xw_in4 56 rfl rfl, List.forall_mem_cons.mpr ⟨xw_in1 21 rfl rfl, (fun _ h => nomatch h)⟩⟩⟩⟩, xw_in4 57 rfl rfl, by decide +kernel, by decide +kernel, by decide +kernel⟩
theorem cV_String_505 : xw_sV "java/lang/String" 505 m_String_length 0 := ⟨List.forall_mem_cons.mpr ⟨xw_in4 58 rfl rfl, List.forall_mem_cons.mpr ⟨xw_in3 235 rfl rfl, List.forall_mem_cons.mpr ⟨xw_in3 236 rfl rfl, List.forall_mem_cons.mpr ⟨xw_in1 21 rfl rfl, (fun _ h => nomatch h)⟩⟩⟩⟩, xw_in3 237 rfl rfl, by decide +kernel, by decide +kernel, by decide +kernel⟩
theorem cS_String_637 : xw_sS "java/lang/String" 637 m_Latin_indexOf 4 := ⟨List.forall_mem_cons.mpr ⟨xw_in4 59 rfl rfl, List.forall_mem_cons.mpr ⟨xw_in4 60 rfl rfl, List.forall_mem_cons.mpr ⟨xw_in1 22 rfl rfl, (fun _ h => nomatch h)⟩⟩⟩, xw_in4 61 rfl rfl, by decide +kernel, by decide +kernel, by decide +kernel⟩
theorem cS_StringLatin1_88 : xw_sS "java/lang/StringLatin1" 88 m_Latin_canEncode 1 := ⟨List.forall_mem_cons.mpr ⟨xw_in4 62 rfl rfl, List.forall_mem_cons.mpr ⟨xw_in4 63 rfl rfl, List.forall_mem_cons.mpr ⟨xw_in1 22 rfl rfl, (fun _ h => nomatch h)⟩⟩⟩, xw_in4 64 rfl rfl, by decide +kernel, by decide +kernel, by decide +kernel⟩
theorem cS_StringLatin1_95 : xw_sS "java/lang/StringLatin1" 95 m_Latin_indexOfChar 4 := ⟨List.forall_mem_cons.mpr ⟨xw_in4 69 rfl rfl, List.forall_mem_cons.mpr ⟨xw_in4 70 rfl rfl, List.forall_mem_cons.mpr ⟨xw_in1 22 rfl rfl, (fun _ h => nomatch h)⟩⟩⟩, xw_in4 71 rfl rfl, by decide +kernel, by decide +kernel, by decide +kernel⟩
theorem cM_Latin_92 : xw_mmax "java/lang/StringLatin1" 92 := List.forall_mem_cons.mpr ⟨xw_in4 65 rfl rfl, List.forall_mem_cons.mpr ⟨xw_in2 139 rfl rfl, List.forall_mem_cons.mpr ⟨xw_in1 20 rfl rfl, List.forall_mem_cons.mpr ⟨xw_in2 140 rfl rfl, (fun _ h => nomatch h)⟩⟩⟩⟩
theorem cM_Latin_38 : xw_mmin "java/lang/StringLatin1" 38 := List.forall_mem_cons.mpr ⟨xw_in4 66 rfl rfl, List.forall_mem_cons.mpr ⟨xw_in4 67 rfl rfl, List.forall_mem_cons.mpr ⟨xw_in1 20 rfl rfl, List.forall_mem_cons.mpr ⟨xw_in4 68 rfl rfl, (fun _ h => nomatch h)⟩⟩⟩⟩
theorem d_String_length_0 : decode prog_22_method_54_code 0 = .ok (.aload_n 0, 1) := by decide +kernel
theorem d_String_length_1 : decode prog_22_method_54_code 1 = .ok (.getfield 9, 3) := by decide +kernel
theorem d_String_length_4 : decode prog_22_method_54_code 4 = .ok (.arraylength, 1) := by decide +kernel
theorem d_String_length_5 : decode prog_22_method_54_code 5 = .ok (.aload_n 0, 1) := by decide +kernel
theorem d_String_length_6 : decode prog_22_method_54_code 6 = .ok (.invokevirtual 335, 3) := by decide +kernel
theorem d_String_length_9 : decode prog_22_method_54_code 9 = .ok (.ishr, 1) := by decide +kernel
theorem d_String_length_10 : decode prog_22_method_54_code 10 = .ok (.ireturn, 1) := by decide +kernel
theorem d_String_coder_0 : decode prog_22_method_152_code 0 = .ok (.getstatic 38, 3) := by decide +kernel
theorem d_String_coder_3 : decode prog_22_method_152_code 3 = .ok (.ifCond .eq 10, 3) := by decide +kernel
theorem d_String_coder_6 : decode prog_22_method_152_code 6 = .ok (.aload_n 0, 1) := by decide +kernel
theorem d_String_coder_7 : decode prog_22_method_152_code 7 = .ok (.getfield 15, 3) := by decide +kernel
theorem d_String_coder_10 : decode prog_22_method_152_code 10 = .ok (.goto 4, 3) := by decide +kernel
theorem d_String_coder_13 : decode prog_22_method_152_code 13 = .ok (.iconst 1, 1) := by decide +kernel
theorem d_String_coder_14 : decode prog_22_method_152_code 14 = .ok (.ireturn, 1) := by decide +kernel
theorem d_String_isLatin1_0 : decode prog_22_method_154_code 0 = .ok (.getstatic 38, 3) := by decide +kernel
theorem d_String_isLatin1_3 : decode prog_22_method_154_code 3 = .ok (.ifCond .eq 14, 3) := by decide +kernel
theorem d_String_isLatin1_6 : decode prog_22_method_154_code 6 = .ok (.aload_n 0, 1) := by decide +kernel
theorem d_String_isLatin1_7 : decode prog_22_method_154_code 7 = .ok (.getfield 15, 3) := by decide +kernel
theorem d_String_isLatin1_10 : decode prog_22_method_154_code 10 = .ok (.ifCond .ne 7, 3) := by decide +kernel
theorem d_String_isLatin1_13 : decode prog_22_method_154_code 13 = .ok (.iconst 1, 1) := by decide +kernel
theorem d_String_isLatin1_14 : decode prog_22_method_154_code 14 = .ok (.goto 4, 3) := by decide +kernel
theorem d_String_isLatin1_17 : decode prog_22_method_154_code 17 = .ok (.iconst 0, 1) := by decide +kernel
theorem d_String_isLatin1_18 : decode prog_22_method_154_code 18 = .ok (.ireturn, 1) := by decide +kernel
theorem d_String_charAt_0 : decode prog_22_method_56_code 0 = .ok (.aload_n 0, 1) := by decide +kernel
theorem d_String_charAt_1 : decode prog_22_method_56_code 1 = .ok (.invokevirtual 492, 3) := by decide +kernel
theorem d_String_charAt_4 : decode prog_22_method_56_code 4 = .ok (.ifCond .eq 12, 3) := by decide +kernel
theorem d_String_charAt_7 : decode prog_22_method_56_code 7 = .ok (.aload_n 0, 1) := by decide +kernel
theorem d_String_charAt_8 : decode prog_22_method_56_code 8 = .ok (.getfield 9, 3) := by decide +kernel
theorem d_String_charAt_11 : decode prog_22_method_56_code 11 = .ok (.iload_n 1, 1) := by decide +kernel
theorem d_String_charAt_12 : decode prog_22_method_56_code 12 = .ok (.invokestatic 495, 3) := by decide +kernel
theorem d_String_charAt_15 : decode prog_22_method_56_code 15 = .ok (.ireturn, 1) := by decide +kernel
theorem d_String_charAt_16 : decode prog_22_method_56_code 16 = .ok (.aload_n 0, 1) := by decide +kernel
theorem d_String_charAt_17 : decode prog_22_method_56_code 17 = .ok (.getfield 9, 3) := by decide +kernel
theorem d_String_charAt_20 : decode prog_22_method_56_code 20 = .ok (.iload_n 1, 1) := by decide +kernel
theorem d_String_charAt_21 : decode prog_22_method_56_code 21 = .ok (.invokestatic 498, 3) := by decide +kernel
theorem d_String_charAt_24 : decode prog_22_method_56_code 24 = .ok (.ireturn, 1) := by decide +kernel
theorem d_Latin_charAt_0 : decode prog_23_method_2_code 0 = .ok (.iload_n 1, 1) := by decide +kernel
theorem d_Latin_charAt_1 : decode prog_23_method_2_code 1 = .ok (.aload_n 0, 1) := by decide +kernel
theorem d_Latin_charAt_2 : decode prog_23_method_2_code 2 = .ok (.arraylength, 1) := by decide +kernel
theorem d_Latin_charAt_3 : decode prog_23_method_2_code 3 = .ok (.invokestatic 9, 3) := by decide +kernel
theorem d_Latin_charAt_6 : decode prog_23_method_2_code 6 = .ok (.aload_n 0, 1) := by decide +kernel
theorem d_Latin_charAt_7 : decode prog_23_method_2_code 7 = .ok (.iload_n 1, 1) := by decide +kernel
theorem d_Latin_charAt_8 : decode prog_23_method_2_code 8 = .ok (.baload, 1) := by decide +kernel
theorem d_Latin_charAt_9 : decode prog_23_method_2_code 9 = .ok (.sipush 255, 3) := by decide +kernel
theorem d_Latin_charAt_12 : decode prog_23_method_2_code 12 = .ok (.iand, 1) := by decide +kernel
theorem d_Latin_charAt_13 : decode prog_23_method_2_code 13 = .ok (.i2c, 1) := by decide +kernel
theorem d_Latin_charAt_14 : decode prog_23_method_2_code 14 = .ok (.ireturn, 1) := by decide +kernel
theorem d_String_checkIndex_0 : decode prog_22_method_155_code 0 = .ok (.iload_n 0, 1) := by decide +kernel
theorem d_String_checkIndex_1 : decode prog_22_method_155_code 1 = .ok (.iload_n 1, 1) := by decide +kernel
theorem d_String_checkIndex_2 : decode prog_22_method_155_code 2 = .ok (.getstatic 1053, 3) := by decide +kernel
theorem d_String_checkIndex_5 : decode prog_22_method_155_code 5 = .ok (.invokestatic 1059, 3) := by decide +kernel
theorem d_String_checkIndex_8 : decode prog_22_method_155_code 8 = .ok (.pop, 1) := by decide +kernel
theorem d_String_checkIndex_9 : decode prog_22_method_155_code 9 = .ok (.return_, 1) := by decide +kernel
theorem d_Pre_checkIndex_0 : decode prog_27_method_11_code 0 = .ok (.iload_n 0, 1) := by decide +kernel
theorem d_Pre_checkIndex_1 : decode prog_27_method_11_code 1 = .ok (.ifCond .lt 8, 3) := by decide +kernel
theorem d_Pre_checkIndex_4 : decode prog_27_method_11_code 4 = .ok (.iload_n 0, 1) := by decide +kernel
theorem d_Pre_checkIndex_5 : decode prog_27_method_11_code 5 = .ok (.iload_n 1, 1) := by decide +kernel
theorem d_Pre_checkIndex_6 : decode prog_27_method_11_code 6 = .ok (.if_icmp .lt 10, 3) := by decide +kernel
theorem d_Pre_checkIndex_9 : decode prog_27_method_11_code 9 = .ok (.aload_n 2, 1) := by decide +kernel
theorem d_Pre_checkIndex_10 : decode prog_27_method_11_code 10 = .ok (.iload_n 0, 1) := by decide +kernel
theorem d_Pre_checkIndex_11 : decode prog_27_method_11_code 11 = .ok (.iload_n 1, 1) := by decide +kernel
theorem d_Pre_checkIndex_12 : decode prog_27_method_11_code 12 = .ok (.invokestatic 95, 3) := by decide +kernel
theorem d_Pre_checkIndex_16 : decode prog_27_method_11_code 16 = .ok (.iload_n 0, 1) := by decide +kernel
theorem d_Pre_checkIndex_17 : decode prog_27_method_11_code 17 = .ok (.ireturn, 1) := by decide +kernel
theorem d_String_indexOf_0 : decode prog_22_method_79_code 0 = .ok (.aload_n 0, 1) := by decide +kernel
theorem d_String_indexOf_1 : decode prog_22_method_79_code 1 = .ok (.iload_n 1, 1) := by decide +kernel
theorem d_String_indexOf_2 : decode prog_22_method_79_code 2 = .ok (.iconst 0, 1) := by decide +kernel
theorem d_String_indexOf_3 : decode prog_22_method_79_code 3 = .ok (.invokevirtual 633, 3) := by decide +kernel
theorem d_String_indexOf_6 : decode prog_22_method_79_code 6 = .ok (.ireturn, 1) := by decide +kernel
theorem d_String_indexOf2_0 : decode prog_22_method_80_code 0 = .ok (.aload_n 0, 1) := by decide +kernel
theorem d_String_indexOf2_1 : decode prog_22_method_80_code 1 = .ok (.invokevirtual 492, 3) := by decide +kernel
theorem d_String_indexOf2_4 : decode prog_22_method_80_code 4 = .ok (.ifCond .eq 19, 3) := by decide +kernel
theorem d_String_indexOf2_7 : decode prog_22_method_80_code 7 = .ok (.aload_n 0, 1) := by decide +kernel
theorem d_String_indexOf2_8 : decode prog_22_method_80_code 8 = .ok (.getfield 9, 3) := by decide +kernel
theorem d_String_indexOf2_11 : decode prog_22_method_80_code 11 = .ok (.iload_n 1, 1) := by decide +kernel
theorem d_String_indexOf2_12 : decode prog_22_method_80_code 12 = .ok (.iload_n 2, 1) := by decide +kernel
theorem d_String_indexOf2_13 : decode prog_22_method_80_code 13 = .ok (.aload_n 0, 1) := by decide +kernel
theorem d_String_indexOf2_14 : decode prog_22_method_80_code 14 = .ok (.invokevirtual 505, 3) := by decide +kernel
theorem d_String_indexOf2_17 : decode prog_22_method_80_code 17 = .ok (.invokestatic 637, 3) := by decide +kernel
theorem d_String_indexOf2_20 : decode prog_22_method_80_code 20 = .ok (.goto 16, 3) := by decide +kernel
theorem d_String_indexOf2_23 : decode prog_22_method_80_code 23 = .ok (.aload_n 0, 1) := by decide +kernel
theorem d_String_indexOf2_24 : decode prog_22_method_80_code 24 = .ok (.getfield 9, 3) := by decide +kernel
theorem d_String_indexOf2_27 : decode prog_22_method_80_code 27 = .ok (.iload_n 1, 1) := by decide +kernel
theorem d_String_indexOf2_28 : decode prog_22_method_80_code 28 = .ok (.iload_n 2, 1) := by decide +kernel
theorem d_String_indexOf2_29 : decode prog_22_method_80_code 29 = .ok (.aload_n 0, 1) := by decide +kernel
theorem d_String_indexOf2_30 : decode prog_22_method_80_code 30 = .ok (.invokevirtual 505, 3) := by decide +kernel
theorem d_String_indexOf2_33 : decode prog_22_method_80_code 33 = .ok (.invokestatic 640, 3) := by decide +kernel
theorem d_String_indexOf2_36 : decode prog_22_method_80_code 36 = .ok (.ireturn, 1) := by decide +kernel
theorem d_Latin_indexOf_0 : decode prog_23_method_22_code 0 = .ok (.iload_n 1, 1) := by decide +kernel
theorem d_Latin_indexOf_1 : decode prog_23_method_22_code 1 = .ok (.invokestatic 88, 3) := by decide +kernel
theorem d_Latin_indexOf_4 : decode prog_23_method_22_code 4 = .ok (.ifCond .ne 5, 3) := by decide +kernel
theorem d_Latin_indexOf_7 : decode prog_23_method_22_code 7 = .ok (.iconst (-1), 1) := by decide +kernel
theorem d_Latin_indexOf_8 : decode prog_23_method_22_code 8 = .ok (.ireturn, 1) := by decide +kernel
theorem d_Latin_indexOf_9 : decode prog_23_method_22_code 9 = .ok (.iload_n 2, 1) := by decide +kernel
theorem d_Latin_indexOf_10 : decode prog_23_method_22_code 10 = .ok (.iconst 0, 1) := by decide +kernel
theorem d_Latin_indexOf_11 : decode prog_23_method_22_code 11 = .ok (.invokestatic 92, 3) := by decide +kernel
theorem d_Latin_indexOf_14 : decode prog_23_method_22_code 14 = .ok (.istore_n 2, 1) := by decide +kernel
theorem d_Latin_indexOf_15 : decode prog_23_method_22_code 15 = .ok (.iload_n 3, 1) := by decide +kernel
theorem d_Latin_indexOf_16 : decode prog_23_method_22_code 16 = .ok (.aload_n 0, 1) := by decide +kernel
theorem d_Latin_indexOf_17 : decode prog_23_method_22_code 17 = .ok (.arraylength, 1) := by decide +kernel
theorem d_Latin_indexOf_18 : decode prog_23_method_22_code 18 = .ok (.invokestatic 38, 3) := by decide +kernel
theorem d_Latin_indexOf_21 : decode prog_23_method_22_code 21 = .ok (.istore_n 3, 1) := by decide +kernel
theorem d_Latin_indexOf_22 : decode prog_23_method_22_code 22 = .ok (.iload_n 2, 1) := by decide +kernel
theorem d_Latin_indexOf_23 : decode prog_23_method_22_code 23 = .ok (.iload_n 3, 1) := by decide +kernel
theorem d_Latin_indexOf_24 : decode prog_23_method_22_code 24 = .ok (.if_icmp .lt 5, 3) := by decide +kernel
theorem d_Latin_indexOf_27 : decode prog_23_method_22_code 27 = .ok (.iconst (-1), 1) := by decide +kernel
theorem d_Latin_indexOf_28 : decode prog_23_method_22_code 28 = .ok (.ireturn, 1) := by decide +kernel
theorem d_Latin_indexOf_29 : decode prog_23_method_22_code 29 = .ok (.aload_n 0, 1) := by decide +kernel
theorem d_Latin_indexOf_30 : decode prog_23_method_22_code 30 = .ok (.iload_n 1, 1) := by decide +kernel
theorem d_Latin_indexOf_31 : decode prog_23_method_22_code 31 = .ok (.iload_n 2, 1) := by decide +kernel
theorem d_Latin_indexOf_32 : decode prog_23_method_22_code 32 = .ok (.iload_n 3, 1) := by decide +kernel
theorem d_Latin_indexOf_33 : decode prog_23_method_22_code 33 = .ok (.invokestatic 95, 3) := by decide +kernel
theorem d_Latin_indexOf_36 : decode prog_23_method_22_code 36 = .ok (.ireturn, 1) := by decide +kernel
theorem d_Latin_canEncode_0 : decode prog_23_method_4_code 0 = .ok (.iload_n 0, 1) := by decide +kernel
theorem d_Latin_canEncode_1 : decode prog_23_method_4_code 1 = .ok (.ifCond .lt 14, 3) := by decide +kernel
theorem d_Latin_canEncode_4 : decode prog_23_method_4_code 4 = .ok (.iload_n 0, 1) := by decide +kernel
theorem d_Latin_canEncode_5 : decode prog_23_method_4_code 5 = .ok (.sipush 255, 3) := by decide +kernel
theorem d_Latin_canEncode_8 : decode prog_23_method_4_code 8 = .ok (.if_icmp .gt 7, 3) := by decide +kernel
theorem d_Latin_canEncode_11 : decode prog_23_method_4_code 11 = .ok (.iconst 1, 1) := by decide +kernel
theorem d_Latin_canEncode_12 : decode prog_23_method_4_code 12 = .ok (.goto 4, 3) := by decide +kernel
theorem d_Latin_canEncode_15 : decode prog_23_method_4_code 15 = .ok (.iconst 0, 1) := by decide +kernel
theorem d_Latin_canEncode_16 : decode prog_23_method_4_code 16 = .ok (.ireturn, 1) := by decide +kernel
theorem d_Latin_indexOfChar_0 : decode prog_23_method_23_code 0 = .ok (.iload_n 1, 1) := by decide +kernel
theorem d_Latin_indexOfChar_1 : decode prog_23_method_23_code 1 = .ok (.i2b, 1) := by decide +kernel
theorem d_Latin_indexOfChar_2 : decode prog_23_method_23_code 2 = .ok (.istore 4, 2) := by decide +kernel
theorem d_Latin_indexOfChar_4 : decode prog_23_method_23_code 4 = .ok (.iload_n 2, 1) := by decide +kernel
theorem d_Latin_indexOfChar_5 : decode prog_23_method_23_code 5 = .ok (.istore 5, 2) := by decide +kernel
theorem d_Latin_indexOfChar_7 : decode prog_23_method_23_code 7 = .ok (.iload 5, 2) := by decide +kernel
theorem d_Latin_indexOfChar_9 : decode prog_23_method_23_code 9 = .ok (.iload_n 3, 1) := by decide +kernel
theorem d_Latin_indexOfChar_10 : decode prog_23_method_23_code 10 = .ok (.if_icmp .ge 21, 3) := by decide +kernel
theorem d_Latin_indexOfChar_13 : decode prog_23_method_23_code 13 = .ok (.aload_n 0, 1) := by decide +kernel
theorem d_Latin_indexOfChar_14 : decode prog_23_method_23_code 14 = .ok (.iload 5, 2) := by decide +kernel
theorem d_Latin_indexOfChar_16 : decode prog_23_method_23_code 16 = .ok (.baload, 1) := by decide +kernel
theorem d_Latin_indexOfChar_17 : decode prog_23_method_23_code 17 = .ok (.iload 4, 2) := by decide +kernel
theorem d_Latin_indexOfChar_19 : decode prog_23_method_23_code 19 = .ok (.if_icmp .ne 6, 3) := by decide +kernel
theorem d_Latin_indexOfChar_22 : decode prog_23_method_23_code 22 = .ok (.iload 5, 2) := by decide +kernel
theorem d_Latin_indexOfChar_24 : decode prog_23_method_23_code 24 = .ok (.ireturn, 1) := by decide +kernel
theorem d_Latin_indexOfChar_25 : decode prog_23_method_23_code 25 = .ok (.iinc 5 1, 3) := by decide +kernel
theorem d_Latin_indexOfChar_28 : decode prog_23_method_23_code 28 = .ok (.goto (-21), 3) := by decide +kernel
theorem d_Latin_indexOfChar_31 : decode prog_23_method_23_code 31 = .ok (.iconst (-1), 1) := by decide +kernel
theorem d_Latin_indexOfChar_32 : decode prog_23_method_23_code 32 = .ok (.ireturn, 1) := by decide +kernel
set_option maxHeartbeats 400000 in
theorem j_coder {G : xw_G} {F L : Nat} {h : xw_A} {q b n : Nat} {f : Nat → Int32} (hS : xw_Str G q b n f) (hF : 1 ≤ F) (hL : 20 ≤ L) : xw_Met G m_String_coder F L 0 0 [.ref q] h (fun v h' => v = some (.int 0) ∧ h = h') (fun _ _ => False) := by
  refine xw_Met.of rfl (by decide) (Nat.le_of_ble_eq_true rfl) ?_
  refine x_gst (C0 := "java/lang/String") (n := "COMPACT_STRINGS") (dd := "Z") (z := 1) d_String_coder_0 (List.mem_of_getElem? (i := 806) (by decide +kernel)) (List.mem_of_getElem? (i := 104) (by decide +kernel)) (by decide +kernel) (xw_in4 2 rfl rfl) ?_
  refine x_if_eq (tgt := 13) d_String_coder_3 (by decide) (fun z => absurd z (by decide)) (fun _ => ?_)
  refine x_aload_n d_String_coder_6 rfl rfl ?_
  refine x_strF hS.2.1 d_String_coder_7 (xw_in7 90 rfl rfl) ?_
  refine x_goto (tgt := 14) d_String_coder_10 (by decide) ?_
  exact x_zret d_String_coder_14 rfl rfl ⟨rfl, rfl⟩
set_option maxHeartbeats 400000 in
theorem j_isLatin1 {G : xw_G} {F L : Nat} {h : xw_A} {q b n : Nat} {f : Nat → Int32} (hS : xw_Str G q b n f) (hF : 1 ≤ F) (hL : 20 ≤ L) : xw_Met G m_String_isLatin1 F L 0 0 [.ref q] h (fun v h' => v = some (.int 1) ∧ h = h') (fun _ _ => False) := by
  refine xw_Met.of rfl (by decide) (Nat.le_of_ble_eq_true rfl) ?_
  refine x_gst (C0 := "java/lang/String") (n := "COMPACT_STRINGS") (dd := "Z") (z := 1) d_String_isLatin1_0 (List.mem_of_getElem? (i := 806) (by decide +kernel)) (List.mem_of_getElem? (i := 104) (by decide +kernel)) (by decide +kernel) (xw_in4 2 rfl rfl) ?_
  refine x_if_eq (tgt := 17) d_String_isLatin1_3 (by decide) (fun z => absurd z (by decide)) (fun _ => ?_)
  refine x_aload_n d_String_isLatin1_6 rfl rfl ?_
  refine x_strF hS.2.1 d_String_isLatin1_7 (xw_in7 90 rfl rfl) ?_
  refine x_if_ne (tgt := 17) d_String_isLatin1_10 (by decide) (fun z => absurd rfl z) (fun _ => ?_)
  refine x_iconst (v := 1) d_String_isLatin1_13 (by decide) ?_
  refine x_goto (tgt := 18) d_String_isLatin1_14 (by decide) ?_
  exact x_zret d_String_isLatin1_18 rfl rfl ⟨rfl, rfl⟩
theorem nI_sh0 {n : Nat} (h : n < 2 ^ 31) : nI n >>> ((0 : Int32) &&& 31) = nI n := (pk_shrN h _ 0 (by decide)).trans (by rw [Nat.pow_zero, Nat.div_one])
set_option maxHeartbeats 400000 in
theorem j_length {G : xw_G} {F L : Nat} {h : xw_A} {q b n : Nat} {f : Nat → Int32} (hS : xw_Str G q b n f) (hn : n < 2 ^ 31) (hF : 2 ≤ F) (hL : 60 ≤ L) : xw_Met G m_String_length F L 0 0 [.ref q] h (fun v h' => v = some (.int (nI n)) ∧ h = h') (fun _ _ => False) := by
  refine xw_Met.of rfl (by decide) (Nat.le_of_ble_eq_true rfl) ?_
  refine x_aload_n d_String_length_0 rfl rfl ?_
  refine x_strF hS.2.2.1 d_String_length_1 (xw_in7 89 rfl rfl) ?_
  refine x_strL hS.2.2.2 d_String_length_4 ?_
  refine x_aload_n d_String_length_5 rfl rfl ?_
  refine x_callVS (As := []) (b := q) (rest := [.int (nI n)]) (F1 := 1) (L1 := 20) (mc := 0) (ms := 0) d_String_length_6 cV_String_335 (j_coder hS (by omega) (by omega)) hS rfl ⟨by omega, by show 8 + (1 + 11) + 20 ≤ _; omega⟩ ⟨by omega, by omega⟩ (Nat.le_of_ble_eq_true rfl) (fun v h1 p => ?_)
  obtain ⟨rfl, rfl⟩ := p
  refine x_ishr d_String_length_9 ?_
  rw [nI_sh0 hn]
  exact x_iret d_String_length_10 rfl ⟨rfl, rfl⟩
set_option maxHeartbeats 400000 in
theorem j_preCheckN {G : xw_G} {F L : Nat} {h : xw_A} {i n : Nat} (hin : i < n) (hn : n < 2 ^ 31) (hF : 1 ≤ F) (hL : 20 ≤ L) : xw_Met G m_Pre_checkIndex F L 0 0 [.int (nI i), .int (nI n), .null] h (fun v h' => v = some (.int (nI i)) ∧ h = h') (fun _ _ => False) := by
  refine xw_Met.of rfl (by decide) (Nat.le_of_ble_eq_true rfl) ?_
  refine x_iload_n d_Pre_checkIndex_0 rfl rfl ?_
  refine x_if_lt (tgt := 9) d_Pre_checkIndex_1 (by decide) (fun z => absurd z (nI_pos (by omega))) (fun _ => ?_)
  refine x_iload_n d_Pre_checkIndex_4 rfl rfl ?_
  refine x_iload_n d_Pre_checkIndex_5 rfl rfl ?_
  refine x_icmp_lt (tgt := 16) d_Pre_checkIndex_6 (by decide) (fun _ => ?_) (fun z => absurd (nI_lt hin (by omega)) z)
  refine x_iload_n d_Pre_checkIndex_16 rfl rfl ?_
  exact x_iret d_Pre_checkIndex_17 rfl ⟨rfl, rfl⟩
set_option maxHeartbeats 400000 in
theorem j_preCheckR {G : xw_G} {F L : Nat} {h : xw_A} {a0 : Nat} {i n : Nat} (hin : i < n) (hn : n < 2 ^ 31) (hF : 1 ≤ F) (hL : 20 ≤ L) : xw_Met G m_Pre_checkIndex F L 0 0 [.int (nI i), .int (nI n), .ref a0] h (fun v h' => v = some (.int (nI i)) ∧ h = h') (fun _ _ => False) := by
  refine xw_Met.of rfl (by decide) (Nat.le_of_ble_eq_true rfl) ?_
  refine x_iload_n d_Pre_checkIndex_0 rfl rfl ?_
  refine x_if_lt (tgt := 9) d_Pre_checkIndex_1 (by decide) (fun z => absurd z (nI_pos (by omega))) (fun _ => ?_)
  refine x_iload_n d_Pre_checkIndex_4 rfl rfl ?_
  refine x_iload_n d_Pre_checkIndex_5 rfl rfl ?_
  refine x_icmp_lt (tgt := 16) d_Pre_checkIndex_6 (by decide) (fun _ => ?_) (fun z => absurd (nI_lt hin (by omega)) z)
  refine x_iload_n d_Pre_checkIndex_16 rfl rfl ?_
  exact x_iret d_Pre_checkIndex_17 rfl ⟨rfl, rfl⟩
set_option maxHeartbeats 400000 in
theorem j_checkIndex {G : xw_G} {F L : Nat} {h : xw_A} {i n : Nat} (hin : i < n) (hn : n < 2 ^ 31) (hF : 2 ≤ F) (hL : 60 ≤ L) : xw_Met G m_String_checkIndex F L 0 0 [.int (nI i), .int (nI n)] h (fun v h' => v = none ∧ h = h') (fun _ _ => False) := by
  refine xw_Met.of rfl (by decide) (Nat.le_of_ble_eq_true rfl) ?_
  refine x_iload_n d_String_checkIndex_0 rfl rfl ?_
  refine x_iload_n d_String_checkIndex_1 rfl rfl ?_
  refine x_gstq (C0 := "jdk/internal/util/Preconditions") (n := "SIOOBE_FORMATTER") (dd := "Ljava/util/function/BiFunction;") d_String_checkIndex_2 (List.mem_of_getElem? (i := 822) (by decide +kernel)) (List.mem_of_getElem? (i := 106) (by decide +kernel)) (by decide +kernel) (xw_in4 18 rfl rfl) (fun v0 hv0 => ?_)
  rcases hv0 with rfl | ⟨a0, rfl⟩
  · refine x_callS (As := [.int (nI i), .int (nI n), .null]) (rest := []) (F1 := 1) (L1 := 20) (mc := 0) (ms := 0) d_String_checkIndex_5 cS_String_1059 (j_preCheckN hin hn (by omega) (by omega)) ⟨by omega, by show 8 + (3 + 11) + 20 ≤ _; omega⟩ ⟨by omega, by omega⟩ (Nat.le_of_ble_eq_true rfl) (fun v h1 p => ?_)
    obtain ⟨rfl, rfl⟩ := p
    refine x_pop d_String_checkIndex_8 rfl ?_
    exact x_vret d_String_checkIndex_9 rfl ⟨rfl, rfl⟩
  · refine x_callS (As := [.int (nI i), .int (nI n), .ref a0]) (rest := []) (F1 := 1) (L1 := 20) (mc := 0) (ms := 0) d_String_checkIndex_5 cS_String_1059 (j_preCheckR hin hn (by omega) (by omega)) ⟨by omega, by show 8 + (3 + 11) + 20 ≤ _; omega⟩ ⟨by omega, by omega⟩ (Nat.le_of_ble_eq_true rfl) (fun v h1 p => ?_)
    obtain ⟨rfl, rfl⟩ := p
    refine x_pop d_String_checkIndex_8 rfl ?_
    exact x_vret d_String_checkIndex_9 rfl ⟨rfl, rfl⟩
theorem and255 (x : Int32) : ((x &&& 255).toUInt32 % 65536).toInt32 = x &&& 255 ∧ narrow .char (.int (x &&& 255)) = .int (x &&& 255) := by
  obtain ⟨j, hj, e⟩ := pk_andE x (m := 255) 8 (by decide)
  rw [e]
  have h9 : ∀ j, j < 256 → ((nI j).toUInt32 % 65536).toInt32 = nI j ∧ narrow .char (.int (nI j)) = .int (nI j) := by decide +kernel
  exact h9 j hj
set_option maxHeartbeats 400000 in
theorem j_lcharAt {G : xw_G} {F L : Nat} {h : xw_A} {b n : Nat} {f : Nat → Int32} (hT : va_T .byte b n (fun j => .int (f j)) (xw_g G) G.2.2.1 G.2.2.1.heap) (hn : n < 2 ^ 31) {i : Nat} (hin : i < n) (hF : 3 ≤ F) (hL : 110 ≤ L) : xw_Met G m_Latin_charAt F L 0 0 [.ref b, .int (nI i)] h (fun v h' => v = some (.int (f i &&& 255)) ∧ h = h') (fun _ _ => False) := by
  refine xw_Met.of rfl (by decide) (Nat.le_of_ble_eq_true rfl) ?_
  refine x_iload_n d_Latin_charAt_0 rfl rfl ?_
  refine x_aload_n d_Latin_charAt_1 rfl rfl ?_
  refine x_strL hT d_Latin_charAt_2 ?_
  refine x_callS (As := [.int (nI i), .int (nI n)]) (rest := []) (F1 := 2) (L1 := 60) (mc := 0) (ms := 0) d_Latin_charAt_3 cS_StringLatin1_9 (j_checkIndex hin hn (by omega) (by omega)) ⟨by omega, by show 8 + (2 + 11) + 60 ≤ _; omega⟩ ⟨by omega, by omega⟩ (Nat.le_of_ble_eq_true rfl) (fun v h1 p => ?_)
  obtain ⟨rfl, rfl⟩ := p
  refine x_aload_n d_Latin_charAt_6 rfl rfl ?_
  refine x_iload_n d_Latin_charAt_7 rfl rfl ?_
  refine x_strB hT d_Latin_charAt_8 (vp_in_nI hin hn) ?_
  refine x_sipush (v := 255) d_Latin_charAt_9 (by decide) ?_
  refine x_iand d_Latin_charAt_12 ?_
  rw [nI_clamp (by omega)]
  refine x_i2c d_Latin_charAt_13 (and255 _).1 ?_
  exact x_zret d_Latin_charAt_14 rfl (and255 _).2 ⟨rfl, rfl⟩
set_option maxHeartbeats 400000 in
theorem j_charAt {G : xw_G} {F L : Nat} {h : xw_A} {q b n : Nat} {f : Nat → Int32} (hS : xw_Str G q b n f) (hn : n < 2 ^ 31) {i : Nat} (hin : i < n) (hF : 4 ≤ F) (hL : 160 ≤ L) : xw_Met G m_String_charAt F L 0 0 [.ref q, .int (nI i)] h (fun v h' => v = some (.int (f i &&& 255)) ∧ h = h') (fun _ _ => False) := by
  refine xw_Met.of rfl (by decide) (Nat.le_of_ble_eq_true rfl) ?_
  refine x_aload_n d_String_charAt_0 rfl rfl ?_
  refine x_callVS (As := []) (b := q) (rest := []) (F1 := 1) (L1 := 20) (mc := 0) (ms := 0) d_String_charAt_1 cV_String_492 (j_isLatin1 hS (by omega) (by omega)) hS rfl ⟨by omega, by show 8 + (1 + 11) + 20 ≤ _; omega⟩ ⟨by omega, by omega⟩ (Nat.le_of_ble_eq_true rfl) (fun v h1 p => ?_)
  obtain ⟨rfl, rfl⟩ := p
  refine x_if_eq (tgt := 16) d_String_charAt_4 (by decide) (fun z => absurd z (by decide)) (fun _ => ?_)
  refine x_aload_n d_String_charAt_7 rfl rfl ?_
  refine x_strF hS.2.2.1 d_String_charAt_8 (xw_in7 89 rfl rfl) ?_
  refine x_iload_n d_String_charAt_11 rfl rfl ?_
  refine x_callS (As := [.ref b, .int (nI i)]) (rest := []) (F1 := 3) (L1 := 110) (mc := 0) (ms := 0) d_String_charAt_12 cS_String_495 (j_lcharAt hS.2.2.2 hn hin (by omega) (by omega)) ⟨by omega, by show 8 + (2 + 11) + 110 ≤ _; omega⟩ ⟨by omega, by omega⟩ (Nat.le_of_ble_eq_true rfl) (fun v h1 p => ?_)
  obtain ⟨rfl, rfl⟩ := p
  exact x_zret d_String_charAt_15 rfl (and255 _).2 ⟨rfl, rfl⟩
set_option maxHeartbeats 400000 in
theorem j_canEncode {G : xw_G} {F L : Nat} {h : xw_A} {c : Int32} (hF : 1 ≤ F) (hL : 20 ≤ L) : xw_Met G m_Latin_canEncode F L 0 0 [.int c] h (fun v h' => (∃ y : Int32, v = some (.int y) ∧ (¬ y = 0 ↔ (¬ c < 0 ∧ ¬ 255 < c))) ∧ h = h') (fun _ _ => False) := by
  refine xw_Met.of rfl (by decide) (Nat.le_of_ble_eq_true rfl) ?_
  refine x_iload_n d_Latin_canEncode_0 rfl rfl ?_
  refine x_if_lt (tgt := 15) d_Latin_canEncode_1 (by decide) (fun z1 => ?_) (fun z1 => ?_)
  · refine x_iconst (v := 0) d_Latin_canEncode_15 (by decide) ?_
    exact x_zret d_Latin_canEncode_16 rfl rfl ⟨⟨0, rfl, ⟨fun q => absurd rfl q, fun q => absurd z1 q.1⟩⟩, rfl⟩
  · refine x_iload_n d_Latin_canEncode_4 rfl rfl ?_
    refine x_sipush (v := 255) d_Latin_canEncode_5 (by decide) ?_
    refine x_icmp_gt (tgt := 15) d_Latin_canEncode_8 (by decide) (fun z2 => ?_) (fun z2 => ?_)
    · refine x_iconst (v := 0) d_Latin_canEncode_15 (by decide) ?_
      exact x_zret d_Latin_canEncode_16 rfl rfl ⟨⟨0, rfl, ⟨fun q => absurd rfl q, fun q => absurd z2 q.2⟩⟩, rfl⟩
    · refine x_iconst (v := 1) d_Latin_canEncode_11 (by decide) ?_
      refine x_goto (tgt := 16) d_Latin_canEncode_12 (by decide) ?_
      exact x_zret d_Latin_canEncode_16 rfl rfl ⟨⟨1, rfl, ⟨fun _ => ⟨z1, z2⟩, fun _ => by decide⟩⟩, rfl⟩
/-- the first place from i on at which c stands -/
def ixC (f : Nat → Int32) (c : Int32) : Nat → Nat → Int32
  | 0, _ => -1
  | d + 1, i => if f i = c then nI i else ixC f c d (i + 1)
set_option maxHeartbeats 400000 in
theorem lp_ixC {G : xw_G} {F L bc bs : Nat} {pr : Option Value → xw_A → Prop} {px : String → xw_A → Prop} {h : xw_A} {b n : Nat} {f : Nat → Int32} (hT : va_T .byte b n (fun j => .int (f j)) (xw_g G) G.2.2.1 G.2.2.1.heap) (hn : n < 2 ^ 31) {c x2 x1 : Int32} (kk : ∀ y, y = ixC f c n 0 → pr (some (.int y)) h) :
    ∀ (dd i : Nat), i + dd = n → ixC f c n 0 = ixC f c dd i → xw G m_Latin_indexOfChar F L bc bs pr px 7 [some (.ref b), some (.int x1), some (.int x2), some (.int (nI n)), some (.int c), some (.int (nI i))] [] h := by
  intro dd
  induction dd with
  | zero =>
    intro i hi he
    obtain rfl : i = n := by omega
    refine x_iload d_Latin_indexOfChar_7 rfl ?_
    refine x_iload_n d_Latin_indexOfChar_9 rfl rfl ?_
    refine x_icmp_ge (tgt := 31) d_Latin_indexOfChar_10 (by decide) (fun _ => ?_) (fun z => absurd (nI_le (Nat.le_refl _) (by omega)) z)
    refine x_iconst (v := -1) d_Latin_indexOfChar_31 (by decide) ?_
    exact x_iret d_Latin_indexOfChar_32 rfl (kk _ he.symm)
  | succ dd ih =>
    intro i hi he
    refine x_iload d_Latin_indexOfChar_7 rfl ?_
    refine x_iload_n d_Latin_indexOfChar_9 rfl rfl ?_
    refine x_icmp_ge (tgt := 31) d_Latin_indexOfChar_10 (by decide) (fun z => absurd z (nI_ge (b := n) (show i < n by omega) (by omega))) (fun _ => ?_)
    refine x_aload_n d_Latin_indexOfChar_13 rfl rfl ?_
    refine x_iload d_Latin_indexOfChar_14 rfl ?_
    refine x_strB hT d_Latin_indexOfChar_16 (vp_in_nI (by omega) hn) ?_
    rw [nI_clamp (by omega)]
    refine x_iload d_Latin_indexOfChar_17 rfl ?_
    rw [ixC] at he
    refine x_icmp_ne (tgt := 25) d_Latin_indexOfChar_19 (by decide) (fun z => ?_) (fun z => ?_)
    · rw [if_neg z] at he
      refine x_iinc (v := nI (i + 1)) d_Latin_indexOfChar_25 rfl (nI_1 i) (by decide) rfl ?_
      refine x_goto (tgt := 7) d_Latin_indexOfChar_28 (by decide) ?_
      exact ih (i + 1) (by omega) he
    · rw [if_pos z] at he
      refine x_iload d_Latin_indexOfChar_22 rfl ?_
      exact x_iret d_Latin_indexOfChar_24 rfl (kk _ he.symm)
set_option maxHeartbeats 400000 in
theorem j_indexOfChar {G : xw_G} {F L : Nat} {h : xw_A} {b n : Nat} {f : Nat → Int32} (hT : va_T .byte b n (fun j => .int (f j)) (xw_g G) G.2.2.1 G.2.2.1.heap) (hn : n < 2 ^ 31) {x : Int32} (hF : 1 ≤ F) (hL : 20 ≤ L) : xw_Met G m_Latin_indexOfChar F L 0 0 [.ref b, .int x, .int (nI 0), .int (nI n)] h (fun v h' => v = some (.int (ixC f (x.toInt8.toInt32) n 0)) ∧ h = h') (fun _ _ => False) := by
  refine xw_Met.of rfl (by decide) (Nat.le_of_ble_eq_true rfl) ?_
  refine x_iload_n d_Latin_indexOfChar_0 rfl rfl ?_
  refine x_i2b (v := x.toInt8.toInt32) d_Latin_indexOfChar_1 rfl ?_
  refine x_istore d_Latin_indexOfChar_2 (by decide) rfl ?_
  refine x_iload_n d_Latin_indexOfChar_4 rfl rfl ?_
  refine x_istore d_Latin_indexOfChar_5 (by decide) rfl ?_
  exact lp_ixC hT hn (fun y hy => ⟨by rw [hy], rfl⟩) n 0 (Nat.zero_add _) rfl
set_option maxHeartbeats 400000 in
theorem j_lindexOf {G : xw_G} {F L : Nat} {h : xw_A} {b n : Nat} {f : Nat → Int32} (hT : va_T .byte b n (fun j => .int (f j)) (xw_g G) G.2.2.1 G.2.2.1.heap) (hn : n < 2 ^ 31) {x : Int32} (hn0 : 0 < n) (hF : 2 ≤ F) (hL : 70 ≤ L) : xw_Met G m_Latin_indexOf F L 0 0 [.ref b, .int x, .int 0, .int (nI n)] h (fun v h' => (∃ y : Int32, v = some (.int y) ∧ (y = -1 ∨ ((¬ x < 0 ∧ ¬ 255 < x) ∧ y = ixC f (x.toInt8.toInt32) n 0)) ∧ ((¬ x < 0 ∧ ¬ 255 < x) → y = ixC f (x.toInt8.toInt32) n 0)) ∧ h = h') (fun _ _ => False) := by
  refine xw_Met.of rfl (by decide) (Nat.le_of_ble_eq_true rfl) ?_
  refine x_iload_n d_Latin_indexOf_0 rfl rfl ?_
  refine x_callS (As := [.int x]) (rest := []) (F1 := 1) (L1 := 20) (mc := 0) (ms := 0) d_Latin_indexOf_1 cS_StringLatin1_88 (j_canEncode (by omega) (by omega)) ⟨by omega, by show 8 + (1 + 11) + 20 ≤ _; omega⟩ ⟨by omega, by omega⟩ (Nat.le_of_ble_eq_true rfl) (fun v h1 p => ?_)
  obtain ⟨⟨y, rfl, hy⟩, rfl⟩ := p
  refine x_if_ne (tgt := 9) d_Latin_indexOf_4 (by decide) (fun z => ?_) (fun z => ?_)
  · refine x_iload_n d_Latin_indexOf_9 rfl rfl ?_
    refine x_iconst (v := 0) d_Latin_indexOf_10 (by decide) ?_
    refine x_mmax d_Latin_indexOf_11 cM_Latin_92 (by omega) (by show 0 + 13 ≤ _; omega) (fun z1 hz1 => ?_)
    obtain rfl : z1 = 0 := hz1.elim id id
    refine x_istore_n d_Latin_indexOf_14 rfl (by decide) rfl ?_
    refine x_iload_n d_Latin_indexOf_15 rfl rfl ?_
    refine x_aload_n d_Latin_indexOf_16 rfl rfl ?_
    refine x_strL hT d_Latin_indexOf_17 ?_
    refine x_mmin d_Latin_indexOf_18 cM_Latin_38 (by omega) (by show 0 + 13 ≤ _; omega) (fun z2 hz2 => ?_)
    obtain rfl : z2 = nI n := hz2.elim id id
    refine x_istore_n d_Latin_indexOf_21 rfl (by decide) rfl ?_
    refine x_iload_n d_Latin_indexOf_22 rfl rfl ?_
    refine x_iload_n d_Latin_indexOf_23 rfl rfl ?_
    refine x_icmp_lt (tgt := 29) d_Latin_indexOf_24 (by decide) (fun _ => ?_) (fun z => absurd (nI_lt (a := 0) hn0 (by omega)) z)
    refine x_aload_n d_Latin_indexOf_29 rfl rfl ?_
    refine x_iload_n d_Latin_indexOf_30 rfl rfl ?_
    refine x_iload_n d_Latin_indexOf_31 rfl rfl ?_
    refine x_iload_n d_Latin_indexOf_32 rfl rfl ?_
    refine x_callS (As := [.ref b, .int x, .int (nI 0), .int (nI n)]) (rest := []) (F1 := 1) (L1 := 20) (mc := 0) (ms := 0) d_Latin_indexOf_33 cS_StringLatin1_95 (j_indexOfChar hT hn (by omega) (by omega)) ⟨by omega, by show 8 + (6 + 11) + 20 ≤ _; omega⟩ ⟨by omega, by omega⟩ (Nat.le_of_ble_eq_true rfl) (fun v h1 p => ?_)
    obtain ⟨rfl, rfl⟩ := p
    exact x_iret d_Latin_indexOf_36 rfl ⟨⟨_, rfl, Or.inr ⟨hy.mp z, rfl⟩, fun _ => rfl⟩, rfl⟩
  · refine x_iconst (v := -1) d_Latin_indexOf_7 (by decide) ?_
    exact x_iret d_Latin_indexOf_8 rfl ⟨⟨-1, rfl, Or.inl rfl, fun q => absurd z (hy.mpr q)⟩, rfl⟩
set_option maxHeartbeats 400000 in
theorem j_indexOf2 {G : xw_G} {F L : Nat} {h : xw_A} {q b n : Nat} {f : Nat → Int32} (hS : xw_Str G q b n f) (hn : n < 2 ^ 31) (hn0 : 0 < n) {x : Int32} (hF : 3 ≤ F) (hL : 120 ≤ L) : xw_Met G m_String_indexOf2 F L 0 0 [.ref q, .int x, .int 0] h (fun v h' => (∃ y : Int32, v = some (.int y) ∧ (y = -1 ∨ ((¬ x < 0 ∧ ¬ 255 < x) ∧ y = ixC f (x.toInt8.toInt32) n 0)) ∧ ((¬ x < 0 ∧ ¬ 255 < x) → y = ixC f (x.toInt8.toInt32) n 0)) ∧ h = h') (fun _ _ => False) := by
  refine xw_Met.of rfl (by decide) (Nat.le_of_ble_eq_true rfl) ?_
  refine x_aload_n d_String_indexOf2_0 rfl rfl ?_
  refine x_callVS (As := []) (b := q) (rest := []) (F1 := 1) (L1 := 20) (mc := 0) (ms := 0) d_String_indexOf2_1 cV_String_492 (j_isLatin1 hS (by omega) (by omega)) hS rfl ⟨by omega, by show 8 + (1 + 11) + 20 ≤ _; omega⟩ ⟨by omega, by omega⟩ (Nat.le_of_ble_eq_true rfl) (fun v h1 p => ?_)
  obtain ⟨rfl, rfl⟩ := p
  refine x_if_eq (tgt := 23) d_String_indexOf2_4 (by decide) (fun z => absurd z (by decide)) (fun _ => ?_)
  refine x_aload_n d_String_indexOf2_7 rfl rfl ?_
  refine x_strF hS.2.2.1 d_String_indexOf2_8 (xw_in7 89 rfl rfl) ?_
  refine x_iload_n d_String_indexOf2_11 rfl rfl ?_
  refine x_iload_n d_String_indexOf2_12 rfl rfl ?_
  refine x_aload_n d_String_indexOf2_13 rfl rfl ?_
  refine x_callVS (As := []) (b := q) (rest := [.int 0, .int x, .ref b]) (F1 := 2) (L1 := 60) (mc := 0) (ms := 0) d_String_indexOf2_14 cV_String_505 (j_length hS hn (by omega) (by omega)) hS rfl ⟨by omega, by show 8 + (1 + 11) + 60 ≤ _; omega⟩ ⟨by omega, by omega⟩ (Nat.le_of_ble_eq_true rfl) (fun v h1 p => ?_)
  obtain ⟨rfl, rfl⟩ := p
  refine x_callS (As := [.ref b, .int x, .int 0, .int (nI n)]) (rest := []) (F1 := 2) (L1 := 70) (mc := 0) (ms := 0) d_String_indexOf2_17 cS_String_637 (j_lindexOf hS.2.2.2 hn hn0 (by omega) (by omega)) ⟨by omega, by show 8 + (4 + 11) + 70 ≤ _; omega⟩ ⟨by omega, by omega⟩ (Nat.le_of_ble_eq_true rfl) (fun v h1 p => ?_)
  obtain ⟨⟨y, rfl, hy⟩, rfl⟩ := p
  refine x_goto (tgt := 36) d_String_indexOf2_20 (by decide) ?_
  exact x_iret d_String_indexOf2_36 rfl ⟨⟨y, rfl, hy⟩, rfl⟩
set_option maxHeartbeats 400000 in
theorem j_indexOf {G : xw_G} {F L : Nat} {h : xw_A} {q b n : Nat} {f : Nat → Int32} (hS : xw_Str G q b n f) (hn : n < 2 ^ 31) (hn0 : 0 < n) {x : Int32} (hF : 4 ≤ F) (hL : 170 ≤ L) : xw_Met G m_String_indexOf F L 0 0 [.ref q, .int x] h (fun v h' => (∃ y : Int32, v = some (.int y) ∧ (y = -1 ∨ ((¬ x < 0 ∧ ¬ 255 < x) ∧ y = ixC f (x.toInt8.toInt32) n 0)) ∧ ((¬ x < 0 ∧ ¬ 255 < x) → y = ixC f (x.toInt8.toInt32) n 0)) ∧ h = h') (fun _ _ => False) := by
  refine xw_Met.of rfl (by decide) (Nat.le_of_ble_eq_true rfl) ?_
  refine x_aload_n d_String_indexOf_0 rfl rfl ?_
  refine x_iload_n d_String_indexOf_1 rfl rfl ?_
  refine x_iconst (v := 0) d_String_indexOf_2 (by decide) ?_
  refine x_callVS (As := [.int x, .int 0]) (b := q) (rest := []) (F1 := 3) (L1 := 120) (mc := 0) (ms := 0) d_String_indexOf_3 cV_String_633 (j_indexOf2 hS hn hn0 (by omega) (by omega)) hS rfl ⟨by omega, by show 8 + (3 + 11) + 120 ≤ _; omega⟩ ⟨by omega, by omega⟩ (Nat.le_of_ble_eq_true rfl) (fun v h1 p => ?_)
  obtain ⟨⟨y, rfl, hy⟩, rfl⟩ := p
  exact x_iret d_String_indexOf_6 rfl ⟨⟨y, rfl, hy⟩, rfl⟩
