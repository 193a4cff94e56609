/-! the law: its helpers, its decode rows, its calls: by program -/
abbrev m_Law_letters : xw_M := (⟨"PhraseShelfLaw", "letters", "(LPhraseShelf;J[J)I"⟩, method_3_code, 5, (Option.some Jvm.ClassFile.FieldType.int), [(0, 9, 12, 13), (0, 9, 16, 15)])
theorem d_Law_letters_0 : decode method_3_code 0 = .ok (.aload_n 3, 1) := by decide +kernel
theorem d_Law_letters_1 : decode method_3_code 1 = .ok (.iconst 0, 1) := by decide +kernel
theorem d_Law_letters_2 : decode method_3_code 2 = .ok (.aload_n 0, 1) := by decide +kernel
theorem d_Law_letters_3 : decode method_3_code 3 = .ok (.lload_n 1, 1) := by decide +kernel
theorem d_Law_letters_4 : decode method_3_code 4 = .ok (.invokevirtual 7, 3) := by decide +kernel
theorem d_Law_letters_7 : decode method_3_code 7 = .ok (.i2l, 1) := by decide +kernel
theorem d_Law_letters_8 : decode method_3_code 8 = .ok (.lastore, 1) := by decide +kernel
theorem d_Law_letters_9 : decode method_3_code 9 = .ok (.goto 11, 3) := by decide +kernel
theorem d_Law_letters_12 : decode method_3_code 12 = .ok (.astore 4, 2) := by decide +kernel
theorem d_Law_letters_14 : decode method_3_code 14 = .ok (.iconst 1, 1) := by decide +kernel
theorem d_Law_letters_15 : decode method_3_code 15 = .ok (.ireturn, 1) := by decide +kernel
theorem d_Law_letters_16 : decode method_3_code 16 = .ok (.astore 4, 2) := by decide +kernel
theorem d_Law_letters_18 : decode method_3_code 18 = .ok (.iconst 2, 1) := by decide +kernel
theorem d_Law_letters_19 : decode method_3_code 19 = .ok (.ireturn, 1) := by decide +kernel
theorem d_Law_letters_20 : decode method_3_code 20 = .ok (.iconst 0, 1) := by decide +kernel
theorem d_Law_letters_21 : decode method_3_code 21 = .ok (.ireturn, 1) := by decide +kernel
abbrev m_Law_set : xw_M := (⟨"PhraseShelfLaw", "set", "(LPhraseShelf;I[J)I"⟩, method_4_code, 4, (Option.some Jvm.ClassFile.FieldType.int), [(0, 9, 12, 13), (0, 9, 15, 15)])
theorem d_Law_set_0 : decode method_4_code 0 = .ok (.aload_n 2, 1) := by decide +kernel
theorem d_Law_set_1 : decode method_4_code 1 = .ok (.iconst 0, 1) := by decide +kernel
theorem d_Law_set_2 : decode method_4_code 2 = .ok (.aload_n 0, 1) := by decide +kernel
theorem d_Law_set_3 : decode method_4_code 3 = .ok (.iload_n 1, 1) := by decide +kernel
theorem d_Law_set_4 : decode method_4_code 4 = .ok (.invokevirtual 17, 3) := by decide +kernel
theorem d_Law_set_7 : decode method_4_code 7 = .ok (.i2l, 1) := by decide +kernel
theorem d_Law_set_8 : decode method_4_code 8 = .ok (.lastore, 1) := by decide +kernel
theorem d_Law_set_9 : decode method_4_code 9 = .ok (.goto 9, 3) := by decide +kernel
theorem d_Law_set_12 : decode method_4_code 12 = .ok (.astore_n 3, 1) := by decide +kernel
theorem d_Law_set_13 : decode method_4_code 13 = .ok (.iconst 1, 1) := by decide +kernel
theorem d_Law_set_14 : decode method_4_code 14 = .ok (.ireturn, 1) := by decide +kernel
theorem d_Law_set_15 : decode method_4_code 15 = .ok (.astore_n 3, 1) := by decide +kernel
theorem d_Law_set_16 : decode method_4_code 16 = .ok (.iconst 2, 1) := by decide +kernel
theorem d_Law_set_17 : decode method_4_code 17 = .ok (.ireturn, 1) := by decide +kernel
theorem d_Law_set_18 : decode method_4_code 18 = .ok (.iconst 0, 1) := by decide +kernel
theorem d_Law_set_19 : decode method_4_code 19 = .ok (.ireturn, 1) := by decide +kernel
abbrev m_Law_insert : xw_M := (⟨"PhraseShelfLaw", "insert", "(LPhraseShelf;[J)I"⟩, method_5_code, 3, (Option.some Jvm.ClassFile.FieldType.int), [(0, 8, 11, 15)])
theorem d_Law_insert_0 : decode method_5_code 0 = .ok (.aload_n 1, 1) := by decide +kernel
theorem d_Law_insert_1 : decode method_5_code 1 = .ok (.iconst 0, 1) := by decide +kernel
theorem d_Law_insert_2 : decode method_5_code 2 = .ok (.aload_n 0, 1) := by decide +kernel
theorem d_Law_insert_3 : decode method_5_code 3 = .ok (.invokevirtual 21, 3) := by decide +kernel
theorem d_Law_insert_6 : decode method_5_code 6 = .ok (.i2l, 1) := by decide +kernel
theorem d_Law_insert_7 : decode method_5_code 7 = .ok (.lastore, 1) := by decide +kernel
theorem d_Law_insert_8 : decode method_5_code 8 = .ok (.goto 6, 3) := by decide +kernel
theorem d_Law_insert_11 : decode method_5_code 11 = .ok (.astore_n 2, 1) := by decide +kernel
theorem d_Law_insert_12 : decode method_5_code 12 = .ok (.iconst 1, 1) := by decide +kernel
theorem d_Law_insert_13 : decode method_5_code 13 = .ok (.ireturn, 1) := by decide +kernel
theorem d_Law_insert_14 : decode method_5_code 14 = .ok (.iconst 0, 1) := by decide +kernel
theorem d_Law_insert_15 : decode method_5_code 15 = .ok (.ireturn, 1) := by decide +kernel
abbrev m_Law_replace : xw_M := (⟨"PhraseShelfLaw", "replace", "(LPhraseShelf;I[J)I"⟩, method_6_code, 4, (Option.some Jvm.ClassFile.FieldType.int), [(0, 9, 12, 28)])
theorem d_Law_replace_0 : decode method_6_code 0 = .ok (.aload_n 2, 1) := by decide +kernel
theorem d_Law_replace_1 : decode method_6_code 1 = .ok (.iconst 0, 1) := by decide +kernel
theorem d_Law_replace_2 : decode method_6_code 2 = .ok (.aload_n 0, 1) := by decide +kernel
theorem d_Law_replace_3 : decode method_6_code 3 = .ok (.iload_n 1, 1) := by decide +kernel
theorem d_Law_replace_4 : decode method_6_code 4 = .ok (.invokevirtual 25, 3) := by decide +kernel
theorem d_Law_replace_7 : decode method_6_code 7 = .ok (.i2l, 1) := by decide +kernel
theorem d_Law_replace_8 : decode method_6_code 8 = .ok (.lastore, 1) := by decide +kernel
theorem d_Law_replace_9 : decode method_6_code 9 = .ok (.goto 6, 3) := by decide +kernel
theorem d_Law_replace_12 : decode method_6_code 12 = .ok (.astore_n 3, 1) := by decide +kernel
theorem d_Law_replace_13 : decode method_6_code 13 = .ok (.iconst 1, 1) := by decide +kernel
theorem d_Law_replace_14 : decode method_6_code 14 = .ok (.ireturn, 1) := by decide +kernel
theorem d_Law_replace_15 : decode method_6_code 15 = .ok (.iconst 0, 1) := by decide +kernel
theorem d_Law_replace_16 : decode method_6_code 16 = .ok (.ireturn, 1) := by decide +kernel
abbrev m_Law_delete : xw_M := (⟨"PhraseShelfLaw", "delete", "(LPhraseShelf;I[J)I"⟩, method_7_code, 4, (Option.some Jvm.ClassFile.FieldType.int), [(0, 9, 12, 28)])
theorem d_Law_delete_0 : decode method_7_code 0 = .ok (.aload_n 2, 1) := by decide +kernel
theorem d_Law_delete_1 : decode method_7_code 1 = .ok (.iconst 0, 1) := by decide +kernel
theorem d_Law_delete_2 : decode method_7_code 2 = .ok (.aload_n 0, 1) := by decide +kernel
theorem d_Law_delete_3 : decode method_7_code 3 = .ok (.iload_n 1, 1) := by decide +kernel
theorem d_Law_delete_4 : decode method_7_code 4 = .ok (.invokevirtual 30, 3) := by decide +kernel
theorem d_Law_delete_7 : decode method_7_code 7 = .ok (.i2l, 1) := by decide +kernel
theorem d_Law_delete_8 : decode method_7_code 8 = .ok (.lastore, 1) := by decide +kernel
theorem d_Law_delete_9 : decode method_7_code 9 = .ok (.goto 6, 3) := by decide +kernel
theorem d_Law_delete_12 : decode method_7_code 12 = .ok (.astore_n 3, 1) := by decide +kernel
theorem d_Law_delete_13 : decode method_7_code 13 = .ok (.iconst 1, 1) := by decide +kernel
theorem d_Law_delete_14 : decode method_7_code 14 = .ok (.ireturn, 1) := by decide +kernel
theorem d_Law_delete_15 : decode method_7_code 15 = .ok (.iconst 0, 1) := by decide +kernel
theorem d_Law_delete_16 : decode method_7_code 16 = .ok (.ireturn, 1) := by decide +kernel
abbrev m_Law_begin : xw_M := (⟨"PhraseShelfLaw", "begin", "(LPhraseShelf;)I"⟩, method_8_code, 2, (Option.some Jvm.ClassFile.FieldType.int), [(0, 4, 7, 36)])
theorem d_Law_begin_0 : decode method_8_code 0 = .ok (.aload_n 0, 1) := by decide +kernel
theorem d_Law_begin_1 : decode method_8_code 1 = .ok (.invokevirtual 33, 3) := by decide +kernel
theorem d_Law_begin_4 : decode method_8_code 4 = .ok (.goto 6, 3) := by decide +kernel
theorem d_Law_begin_7 : decode method_8_code 7 = .ok (.astore_n 1, 1) := by decide +kernel
theorem d_Law_begin_8 : decode method_8_code 8 = .ok (.iconst 1, 1) := by decide +kernel
theorem d_Law_begin_9 : decode method_8_code 9 = .ok (.ireturn, 1) := by decide +kernel
theorem d_Law_begin_10 : decode method_8_code 10 = .ok (.iconst 0, 1) := by decide +kernel
theorem d_Law_begin_11 : decode method_8_code 11 = .ok (.ireturn, 1) := by decide +kernel
abbrev m_Law_commit : xw_M := (⟨"PhraseShelfLaw", "commit", "(LPhraseShelf;[J)I"⟩, method_9_code, 3, (Option.some Jvm.ClassFile.FieldType.int), [(0, 8, 11, 36)])
theorem d_Law_commit_0 : decode method_9_code 0 = .ok (.aload_n 1, 1) := by decide +kernel
theorem d_Law_commit_1 : decode method_9_code 1 = .ok (.iconst 0, 1) := by decide +kernel
theorem d_Law_commit_2 : decode method_9_code 2 = .ok (.aload_n 0, 1) := by decide +kernel
theorem d_Law_commit_3 : decode method_9_code 3 = .ok (.invokevirtual 38, 3) := by decide +kernel
theorem d_Law_commit_6 : decode method_9_code 6 = .ok (.i2l, 1) := by decide +kernel
theorem d_Law_commit_7 : decode method_9_code 7 = .ok (.lastore, 1) := by decide +kernel
theorem d_Law_commit_8 : decode method_9_code 8 = .ok (.goto 6, 3) := by decide +kernel
theorem d_Law_commit_11 : decode method_9_code 11 = .ok (.astore_n 2, 1) := by decide +kernel
theorem d_Law_commit_12 : decode method_9_code 12 = .ok (.iconst 1, 1) := by decide +kernel
theorem d_Law_commit_13 : decode method_9_code 13 = .ok (.ireturn, 1) := by decide +kernel
theorem d_Law_commit_14 : decode method_9_code 14 = .ok (.iconst 0, 1) := by decide +kernel
theorem d_Law_commit_15 : decode method_9_code 15 = .ok (.ireturn, 1) := by decide +kernel
abbrev m_Law_rollback : xw_M := (⟨"PhraseShelfLaw", "rollback", "(LPhraseShelf;[J)I"⟩, method_10_code, 3, (Option.some Jvm.ClassFile.FieldType.int), [(0, 8, 11, 36)])
theorem d_Law_rollback_0 : decode method_10_code 0 = .ok (.aload_n 1, 1) := by decide +kernel
theorem d_Law_rollback_1 : decode method_10_code 1 = .ok (.iconst 0, 1) := by decide +kernel
theorem d_Law_rollback_2 : decode method_10_code 2 = .ok (.aload_n 0, 1) := by decide +kernel
theorem d_Law_rollback_3 : decode method_10_code 3 = .ok (.invokevirtual 41, 3) := by decide +kernel
theorem d_Law_rollback_6 : decode method_10_code 6 = .ok (.i2l, 1) := by decide +kernel
theorem d_Law_rollback_7 : decode method_10_code 7 = .ok (.lastore, 1) := by decide +kernel
theorem d_Law_rollback_8 : decode method_10_code 8 = .ok (.goto 6, 3) := by decide +kernel
theorem d_Law_rollback_11 : decode method_10_code 11 = .ok (.astore_n 2, 1) := by decide +kernel
theorem d_Law_rollback_12 : decode method_10_code 12 = .ok (.iconst 1, 1) := by decide +kernel
theorem d_Law_rollback_13 : decode method_10_code 13 = .ok (.ireturn, 1) := by decide +kernel
theorem d_Law_rollback_14 : decode method_10_code 14 = .ok (.iconst 0, 1) := by decide +kernel
theorem d_Law_rollback_15 : decode method_10_code 15 = .ok (.ireturn, 1) := by decide +kernel
abbrev m_Law_ways : xw_M := (⟨"PhraseShelfLaw", "ways", "(LPhraseShelf;II)I"⟩, method_11_code, 4, (Option.some Jvm.ClassFile.FieldType.int), [(0, 6, 9, 13)])
theorem d_Law_ways_0 : decode method_11_code 0 = .ok (.aload_n 0, 1) := by decide +kernel
theorem d_Law_ways_1 : decode method_11_code 1 = .ok (.iload_n 1, 1) := by decide +kernel
theorem d_Law_ways_2 : decode method_11_code 2 = .ok (.iload_n 2, 1) := by decide +kernel
theorem d_Law_ways_3 : decode method_11_code 3 = .ok (.invokevirtual 44, 3) := by decide +kernel
theorem d_Law_ways_6 : decode method_11_code 6 = .ok (.goto 6, 3) := by decide +kernel
theorem d_Law_ways_9 : decode method_11_code 9 = .ok (.astore_n 3, 1) := by decide +kernel
theorem d_Law_ways_10 : decode method_11_code 10 = .ok (.iconst 1, 1) := by decide +kernel
theorem d_Law_ways_11 : decode method_11_code 11 = .ok (.ireturn, 1) := by decide +kernel
theorem d_Law_ways_12 : decode method_11_code 12 = .ok (.iconst 0, 1) := by decide +kernel
theorem d_Law_ways_13 : decode method_11_code 13 = .ok (.ireturn, 1) := by decide +kernel
abbrev m_Law_weight : xw_M := (⟨"PhraseShelfLaw", "weight", "(LPhraseShelf;II[J)I"⟩, method_12_code, 5, (Option.some Jvm.ClassFile.FieldType.int), [(0, 10, 13, 13)])
theorem d_Law_weight_0 : decode method_12_code 0 = .ok (.aload_n 3, 1) := by decide +kernel
theorem d_Law_weight_1 : decode method_12_code 1 = .ok (.iconst 0, 1) := by decide +kernel
theorem d_Law_weight_2 : decode method_12_code 2 = .ok (.aload_n 0, 1) := by decide +kernel
theorem d_Law_weight_3 : decode method_12_code 3 = .ok (.iload_n 1, 1) := by decide +kernel
theorem d_Law_weight_4 : decode method_12_code 4 = .ok (.iload_n 2, 1) := by decide +kernel
theorem d_Law_weight_5 : decode method_12_code 5 = .ok (.invokevirtual 48, 3) := by decide +kernel
theorem d_Law_weight_8 : decode method_12_code 8 = .ok (.i2l, 1) := by decide +kernel
theorem d_Law_weight_9 : decode method_12_code 9 = .ok (.lastore, 1) := by decide +kernel
theorem d_Law_weight_10 : decode method_12_code 10 = .ok (.goto 7, 3) := by decide +kernel
theorem d_Law_weight_13 : decode method_12_code 13 = .ok (.astore 4, 2) := by decide +kernel
theorem d_Law_weight_15 : decode method_12_code 15 = .ok (.iconst 1, 1) := by decide +kernel
theorem d_Law_weight_16 : decode method_12_code 16 = .ok (.ireturn, 1) := by decide +kernel
theorem d_Law_weight_17 : decode method_12_code 17 = .ok (.iconst 0, 1) := by decide +kernel
theorem d_Law_weight_18 : decode method_12_code 18 = .ok (.ireturn, 1) := by decide +kernel
abbrev m_Law_ask : xw_M := (⟨"PhraseShelfLaw", "ask", "(LPhraseShelf;[J)I"⟩, method_13_code, 3, (Option.some Jvm.ClassFile.FieldType.int), [(0, 8, 11, 13)])
theorem d_Law_ask_0 : decode method_13_code 0 = .ok (.aload_n 1, 1) := by decide +kernel
theorem d_Law_ask_1 : decode method_13_code 1 = .ok (.iconst 0, 1) := by decide +kernel
theorem d_Law_ask_2 : decode method_13_code 2 = .ok (.aload_n 0, 1) := by decide +kernel
theorem d_Law_ask_3 : decode method_13_code 3 = .ok (.invokevirtual 52, 3) := by decide +kernel
theorem d_Law_ask_6 : decode method_13_code 6 = .ok (.i2l, 1) := by decide +kernel
theorem d_Law_ask_7 : decode method_13_code 7 = .ok (.lastore, 1) := by decide +kernel
theorem d_Law_ask_8 : decode method_13_code 8 = .ok (.goto 6, 3) := by decide +kernel
theorem d_Law_ask_11 : decode method_13_code 11 = .ok (.astore_n 2, 1) := by decide +kernel
theorem d_Law_ask_12 : decode method_13_code 12 = .ok (.iconst 1, 1) := by decide +kernel
theorem d_Law_ask_13 : decode method_13_code 13 = .ok (.ireturn, 1) := by decide +kernel
theorem d_Law_ask_14 : decode method_13_code 14 = .ok (.iconst 0, 1) := by decide +kernel
theorem d_Law_ask_15 : decode method_13_code 15 = .ok (.ireturn, 1) := by decide +kernel
abbrev m_Law_answer : xw_M := (⟨"PhraseShelfLaw", "answer", "(LPhraseShelf;IZ[J)I"⟩, method_14_code, 5, (Option.some Jvm.ClassFile.FieldType.int), [(0, 10, 13, 15)])
theorem d_Law_answer_0 : decode method_14_code 0 = .ok (.aload_n 3, 1) := by decide +kernel
theorem d_Law_answer_1 : decode method_14_code 1 = .ok (.iconst 0, 1) := by decide +kernel
theorem d_Law_answer_2 : decode method_14_code 2 = .ok (.aload_n 0, 1) := by decide +kernel
theorem d_Law_answer_3 : decode method_14_code 3 = .ok (.iload_n 1, 1) := by decide +kernel
theorem d_Law_answer_4 : decode method_14_code 4 = .ok (.iload_n 2, 1) := by decide +kernel
theorem d_Law_answer_5 : decode method_14_code 5 = .ok (.invokevirtual 55, 3) := by decide +kernel
theorem d_Law_answer_8 : decode method_14_code 8 = .ok (.i2l, 1) := by decide +kernel
theorem d_Law_answer_9 : decode method_14_code 9 = .ok (.lastore, 1) := by decide +kernel
theorem d_Law_answer_10 : decode method_14_code 10 = .ok (.goto 7, 3) := by decide +kernel
theorem d_Law_answer_13 : decode method_14_code 13 = .ok (.astore 4, 2) := by decide +kernel
theorem d_Law_answer_15 : decode method_14_code 15 = .ok (.iconst 1, 1) := by decide +kernel
theorem d_Law_answer_16 : decode method_14_code 16 = .ok (.ireturn, 1) := by decide +kernel
theorem d_Law_answer_17 : decode method_14_code 17 = .ok (.iconst 0, 1) := by decide +kernel
theorem d_Law_answer_18 : decode method_14_code 18 = .ok (.ireturn, 1) := by decide +kernel
abbrev m_Law_score : xw_M := (⟨"PhraseShelfLaw", "score", "(LPhraseShelf;IZ[D)I"⟩, method_15_code, 5, (Option.some Jvm.ClassFile.FieldType.int), [(0, 9, 12, 15)])
theorem d_Law_score_0 : decode method_15_code 0 = .ok (.aload_n 3, 1) := by decide +kernel
theorem d_Law_score_1 : decode method_15_code 1 = .ok (.iconst 0, 1) := by decide +kernel
theorem d_Law_score_2 : decode method_15_code 2 = .ok (.aload_n 0, 1) := by decide +kernel
theorem d_Law_score_3 : decode method_15_code 3 = .ok (.iload_n 1, 1) := by decide +kernel
theorem d_Law_score_4 : decode method_15_code 4 = .ok (.iload_n 2, 1) := by decide +kernel
theorem d_Law_score_5 : decode method_15_code 5 = .ok (.invokevirtual 59, 3) := by decide +kernel
theorem d_Law_score_8 : decode method_15_code 8 = .ok (.dastore, 1) := by decide +kernel
theorem d_Law_score_9 : decode method_15_code 9 = .ok (.goto 7, 3) := by decide +kernel
theorem d_Law_score_12 : decode method_15_code 12 = .ok (.astore 4, 2) := by decide +kernel
theorem d_Law_score_14 : decode method_15_code 14 = .ok (.iconst 1, 1) := by decide +kernel
theorem d_Law_score_15 : decode method_15_code 15 = .ok (.ireturn, 1) := by decide +kernel
theorem d_Law_score_16 : decode method_15_code 16 = .ok (.iconst 0, 1) := by decide +kernel
theorem d_Law_score_17 : decode method_15_code 17 = .ok (.ireturn, 1) := by decide +kernel
abbrev m_Law_look : xw_M := (⟨"PhraseShelfLaw", "look", "(LPhraseShelf;II[J)I"⟩, method_16_code, 5, (Option.some Jvm.ClassFile.FieldType.int), [(0, 10, 13, 28), (0, 10, 17, 13)])
theorem d_Law_look_0 : decode method_16_code 0 = .ok (.aload_n 3, 1) := by decide +kernel
theorem d_Law_look_1 : decode method_16_code 1 = .ok (.iconst 0, 1) := by decide +kernel
theorem d_Law_look_2 : decode method_16_code 2 = .ok (.aload_n 0, 1) := by decide +kernel
theorem d_Law_look_3 : decode method_16_code 3 = .ok (.iload_n 1, 1) := by decide +kernel
theorem d_Law_look_4 : decode method_16_code 4 = .ok (.iload_n 2, 1) := by decide +kernel
theorem d_Law_look_5 : decode method_16_code 5 = .ok (.invokevirtual 63, 3) := by decide +kernel
theorem d_Law_look_8 : decode method_16_code 8 = .ok (.i2l, 1) := by decide +kernel
theorem d_Law_look_9 : decode method_16_code 9 = .ok (.lastore, 1) := by decide +kernel
theorem d_Law_look_10 : decode method_16_code 10 = .ok (.goto 11, 3) := by decide +kernel
theorem d_Law_look_13 : decode method_16_code 13 = .ok (.astore 4, 2) := by decide +kernel
theorem d_Law_look_15 : decode method_16_code 15 = .ok (.iconst 1, 1) := by decide +kernel
theorem d_Law_look_16 : decode method_16_code 16 = .ok (.ireturn, 1) := by decide +kernel
theorem d_Law_look_17 : decode method_16_code 17 = .ok (.astore 4, 2) := by decide +kernel
theorem d_Law_look_19 : decode method_16_code 19 = .ok (.iconst 2, 1) := by decide +kernel
theorem d_Law_look_20 : decode method_16_code 20 = .ok (.ireturn, 1) := by decide +kernel
theorem d_Law_look_21 : decode method_16_code 21 = .ok (.iconst 0, 1) := by decide +kernel
theorem d_Law_look_22 : decode method_16_code 22 = .ok (.ireturn, 1) := by decide +kernel
abbrev m_Law_segment : xw_M := (⟨"PhraseShelfLaw", "segment", "(LPhraseShelf;II[J)I"⟩, method_17_code, 5, (Option.some Jvm.ClassFile.FieldType.int), [(0, 10, 13, 15), (0, 10, 17, 13)])
theorem d_Law_segment_0 : decode method_17_code 0 = .ok (.aload_n 3, 1) := by decide +kernel
theorem d_Law_segment_1 : decode method_17_code 1 = .ok (.iconst 0, 1) := by decide +kernel
theorem d_Law_segment_2 : decode method_17_code 2 = .ok (.aload_n 0, 1) := by decide +kernel
theorem d_Law_segment_3 : decode method_17_code 3 = .ok (.iload_n 1, 1) := by decide +kernel
theorem d_Law_segment_4 : decode method_17_code 4 = .ok (.iload_n 2, 1) := by decide +kernel
theorem d_Law_segment_5 : decode method_17_code 5 = .ok (.invokevirtual 66, 3) := by decide +kernel
theorem d_Law_segment_8 : decode method_17_code 8 = .ok (.i2l, 1) := by decide +kernel
theorem d_Law_segment_9 : decode method_17_code 9 = .ok (.lastore, 1) := by decide +kernel
theorem d_Law_segment_10 : decode method_17_code 10 = .ok (.goto 11, 3) := by decide +kernel
theorem d_Law_segment_13 : decode method_17_code 13 = .ok (.astore 4, 2) := by decide +kernel
theorem d_Law_segment_15 : decode method_17_code 15 = .ok (.iconst 1, 1) := by decide +kernel
theorem d_Law_segment_16 : decode method_17_code 16 = .ok (.ireturn, 1) := by decide +kernel
theorem d_Law_segment_17 : decode method_17_code 17 = .ok (.astore 4, 2) := by decide +kernel
theorem d_Law_segment_19 : decode method_17_code 19 = .ok (.iconst 2, 1) := by decide +kernel
theorem d_Law_segment_20 : decode method_17_code 20 = .ok (.ireturn, 1) := by decide +kernel
theorem d_Law_segment_21 : decode method_17_code 21 = .ok (.iconst 0, 1) := by decide +kernel
theorem d_Law_segment_22 : decode method_17_code 22 = .ok (.ireturn, 1) := by decide +kernel
abbrev m_Law_count : xw_M := (⟨"PhraseShelfLaw", "count", "(LPhraseShelf;I[J)I"⟩, method_18_code, 4, (Option.some Jvm.ClassFile.FieldType.int), [(0, 9, 12, 13)])
theorem d_Law_count_0 : decode method_18_code 0 = .ok (.aload_n 2, 1) := by decide +kernel
theorem d_Law_count_1 : decode method_18_code 1 = .ok (.iconst 0, 1) := by decide +kernel
theorem d_Law_count_2 : decode method_18_code 2 = .ok (.aload_n 0, 1) := by decide +kernel
theorem d_Law_count_3 : decode method_18_code 3 = .ok (.iload_n 1, 1) := by decide +kernel
theorem d_Law_count_4 : decode method_18_code 4 = .ok (.invokevirtual 69, 3) := by decide +kernel
theorem d_Law_count_7 : decode method_18_code 7 = .ok (.i2l, 1) := by decide +kernel
theorem d_Law_count_8 : decode method_18_code 8 = .ok (.lastore, 1) := by decide +kernel
theorem d_Law_count_9 : decode method_18_code 9 = .ok (.goto 6, 3) := by decide +kernel
theorem d_Law_count_12 : decode method_18_code 12 = .ok (.astore_n 3, 1) := by decide +kernel
theorem d_Law_count_13 : decode method_18_code 13 = .ok (.iconst 1, 1) := by decide +kernel
theorem d_Law_count_14 : decode method_18_code 14 = .ok (.ireturn, 1) := by decide +kernel
theorem d_Law_count_15 : decode method_18_code 15 = .ok (.iconst 0, 1) := by decide +kernel
theorem d_Law_count_16 : decode method_18_code 16 = .ok (.ireturn, 1) := by decide +kernel
theorem d_Law_law_0 : decode code 0 = .ok (.new 8, 3) := by decide +kernel
theorem d_Law_law_3 : decode code 3 = .ok (.dup, 1) := by decide +kernel
theorem d_Law_law_4 : decode code 4 = .ok (.invokespecial 72, 3) := by decide +kernel
theorem d_Law_law_7 : decode code 7 = .ok (.astore_n 1, 1) := by decide +kernel
theorem d_Law_law_8 : decode code 8 = .ok (.new 73, 3) := by decide +kernel
theorem d_Law_law_11 : decode code 11 = .ok (.dup, 1) := by decide +kernel
theorem d_Law_law_12 : decode code 12 = .ok (.invokespecial 75, 3) := by decide +kernel
theorem d_Law_law_15 : decode code 15 = .ok (.astore_n 2, 1) := by decide +kernel
theorem d_Law_law_16 : decode code 16 = .ok (.iconst 1, 1) := by decide +kernel
theorem d_Law_law_17 : decode code 17 = .ok (.newarray .long, 2) := by decide +kernel
theorem d_Law_law_19 : decode code 19 = .ok (.astore_n 3, 1) := by decide +kernel
theorem d_Law_law_20 : decode code 20 = .ok (.iconst 1, 1) := by decide +kernel
theorem d_Law_law_21 : decode code 21 = .ok (.newarray .double, 2) := by decide +kernel
theorem d_Law_law_23 : decode code 23 = .ok (.astore 4, 2) := by decide +kernel
theorem d_Law_law_25 : decode code 25 = .ok (.iconst 0, 1) := by decide +kernel
theorem d_Law_law_26 : decode code 26 = .ok (.istore 5, 2) := by decide +kernel
theorem d_Law_law_28 : decode code 28 = .ok (.iload 5, 2) := by decide +kernel
theorem d_Law_law_30 : decode code 30 = .ok (.aload_n 0, 1) := by decide +kernel
theorem d_Law_law_31 : decode code 31 = .ok (.arraylength, 1) := by decide +kernel
theorem d_Law_law_32 : decode code 32 = .ok (.iconst 3, 1) := by decide +kernel
theorem d_Law_law_33 : decode code 33 = .ok (.isub, 1) := by decide +kernel
theorem d_Law_law_34 : decode code 34 = .ok (.if_icmp .gt 1117, 3) := by decide +kernel
theorem d_Law_law_37 : decode code 37 = .ok (.aload_n 0, 1) := by decide +kernel
theorem d_Law_law_38 : decode code 38 = .ok (.iload 5, 2) := by decide +kernel
theorem d_Law_law_40 : decode code 40 = .ok (.iaload, 1) := by decide +kernel
theorem d_Law_law_41 : decode code 41 = .ok (.bipush 31, 2) := by decide +kernel
theorem d_Law_law_43 : decode code 43 = .ok (.iand, 1) := by decide +kernel
theorem d_Law_law_44 : decode code 44 = .ok (.tableswitch 1101 0 19 #[96, 184, 197, 253, 297, 353, 409, 433, 477, 521, 534, 547, 595, 663, 707, 720, 804, 909, 977, 1045], 96) := by decide +kernel
theorem d_Law_law_140 : decode code 140 = .ok (.aload_n 1, 1) := by decide +kernel
theorem d_Law_law_141 : decode code 141 = .ok (.aload_n 0, 1) := by decide +kernel
theorem d_Law_law_142 : decode code 142 = .ok (.iload 5, 2) := by decide +kernel
theorem d_Law_law_144 : decode code 144 = .ok (.iconst 1, 1) := by decide +kernel
theorem d_Law_law_145 : decode code 145 = .ok (.iadd, 1) := by decide +kernel
theorem d_Law_law_146 : decode code 146 = .ok (.iaload, 1) := by decide +kernel
theorem d_Law_law_147 : decode code 147 = .ok (.i2l, 1) := by decide +kernel
theorem d_Law_law_148 : decode code 148 = .ok (.bipush 32, 2) := by decide +kernel
theorem d_Law_law_150 : decode code 150 = .ok (.lshl, 1) := by decide +kernel
theorem d_Law_law_151 : decode code 151 = .ok (.aload_n 0, 1) := by decide +kernel
theorem d_Law_law_152 : decode code 152 = .ok (.iload 5, 2) := by decide +kernel
theorem d_Law_law_154 : decode code 154 = .ok (.iconst 2, 1) := by decide +kernel
theorem d_Law_law_155 : decode code 155 = .ok (.iadd, 1) := by decide +kernel
theorem d_Law_law_156 : decode code 156 = .ok (.iaload, 1) := by decide +kernel
theorem d_Law_law_157 : decode code 157 = .ok (.i2l, 1) := by decide +kernel
theorem d_Law_law_158 : decode code 158 = .ok (.ldc2_w 76, 3) := by decide +kernel
theorem d_Law_law_161 : decode code 161 = .ok (.land, 1) := by decide +kernel
theorem d_Law_law_162 : decode code 162 = .ok (.lor, 1) := by decide +kernel
theorem d_Law_law_163 : decode code 163 = .ok (.aload_n 3, 1) := by decide +kernel
theorem d_Law_law_164 : decode code 164 = .ok (.invokestatic 78, 3) := by decide +kernel
theorem d_Law_law_167 : decode code 167 = .ok (.istore 6, 2) := by decide +kernel
theorem d_Law_law_169 : decode code 169 = .ok (.aload_n 2, 1) := by decide +kernel
theorem d_Law_law_170 : decode code 170 = .ok (.aload_n 0, 1) := by decide +kernel
theorem d_Law_law_171 : decode code 171 = .ok (.iload 5, 2) := by decide +kernel
theorem d_Law_law_173 : decode code 173 = .ok (.iconst 1, 1) := by decide +kernel
theorem d_Law_law_174 : decode code 174 = .ok (.iadd, 1) := by decide +kernel
theorem d_Law_law_175 : decode code 175 = .ok (.iaload, 1) := by decide +kernel
theorem d_Law_law_176 : decode code 176 = .ok (.i2l, 1) := by decide +kernel
theorem d_Law_law_177 : decode code 177 = .ok (.bipush 32, 2) := by decide +kernel
theorem d_Law_law_179 : decode code 179 = .ok (.lshl, 1) := by decide +kernel
theorem d_Law_law_180 : decode code 180 = .ok (.aload_n 0, 1) := by decide +kernel
theorem d_Law_law_181 : decode code 181 = .ok (.iload 5, 2) := by decide +kernel
theorem d_Law_law_183 : decode code 183 = .ok (.iconst 2, 1) := by decide +kernel
theorem d_Law_law_184 : decode code 184 = .ok (.iadd, 1) := by decide +kernel
theorem d_Law_law_185 : decode code 185 = .ok (.iaload, 1) := by decide +kernel
theorem d_Law_law_186 : decode code 186 = .ok (.i2l, 1) := by decide +kernel
theorem d_Law_law_187 : decode code 187 = .ok (.ldc2_w 76, 3) := by decide +kernel
theorem d_Law_law_190 : decode code 190 = .ok (.land, 1) := by decide +kernel
theorem d_Law_law_191 : decode code 191 = .ok (.lor, 1) := by decide +kernel
theorem d_Law_law_192 : decode code 192 = .ok (.invokevirtual 83, 3) := by decide +kernel
theorem d_Law_law_195 : decode code 195 = .ok (.istore 7, 2) := by decide +kernel
theorem d_Law_law_197 : decode code 197 = .ok (.aload_n 2, 1) := by decide +kernel
theorem d_Law_law_198 : decode code 198 = .ok (.invokevirtual 84, 3) := by decide +kernel
theorem d_Law_law_201 : decode code 201 = .ok (.iload 6, 2) := by decide +kernel
theorem d_Law_law_203 : decode code 203 = .ok (.if_icmp .eq 5, 3) := by decide +kernel
theorem d_Law_law_206 : decode code 206 = .ok (.iconst 0, 1) := by decide +kernel
theorem d_Law_law_207 : decode code 207 = .ok (.ireturn, 1) := by decide +kernel
theorem d_Law_law_208 : decode code 208 = .ok (.iload 6, 2) := by decide +kernel
theorem d_Law_law_210 : decode code 210 = .ok (.ifCond .ne 15, 3) := by decide +kernel
theorem d_Law_law_213 : decode code 213 = .ok (.aload_n 3, 1) := by decide +kernel
theorem d_Law_law_214 : decode code 214 = .ok (.iconst 0, 1) := by decide +kernel
theorem d_Law_law_215 : decode code 215 = .ok (.laload, 1) := by decide +kernel
theorem d_Law_law_216 : decode code 216 = .ok (.iload 7, 2) := by decide +kernel
theorem d_Law_law_218 : decode code 218 = .ok (.i2l, 1) := by decide +kernel
theorem d_Law_law_219 : decode code 219 = .ok (.lcmp, 1) := by decide +kernel
theorem d_Law_law_220 : decode code 220 = .ok (.ifCond .eq 5, 3) := by decide +kernel
theorem d_Law_law_223 : decode code 223 = .ok (.iconst 0, 1) := by decide +kernel
theorem d_Law_law_224 : decode code 224 = .ok (.ireturn, 1) := by decide +kernel
theorem d_Law_law_225 : decode code 225 = .ok (.goto 920, 3) := by decide +kernel
theorem d_Law_law_228 : decode code 228 = .ok (.aload_n 1, 1) := by decide +kernel
theorem d_Law_law_229 : decode code 229 = .ok (.invokevirtual 87, 3) := by decide +kernel
theorem d_Law_law_232 : decode code 232 = .ok (.aload_n 2, 1) := by decide +kernel
theorem d_Law_law_233 : decode code 233 = .ok (.invokevirtual 90, 3) := by decide +kernel
theorem d_Law_law_236 : decode code 236 = .ok (.if_icmp .eq 909, 3) := by decide +kernel
theorem d_Law_law_239 : decode code 239 = .ok (.iconst 0, 1) := by decide +kernel
theorem d_Law_law_240 : decode code 240 = .ok (.ireturn, 1) := by decide +kernel
theorem d_Law_law_241 : decode code 241 = .ok (.aload_n 1, 1) := by decide +kernel
theorem d_Law_law_242 : decode code 242 = .ok (.aload_n 0, 1) := by decide +kernel
theorem d_Law_law_243 : decode code 243 = .ok (.iload 5, 2) := by decide +kernel
theorem d_Law_law_245 : decode code 245 = .ok (.iconst 1, 1) := by decide +kernel
theorem d_Law_law_246 : decode code 246 = .ok (.iadd, 1) := by decide +kernel
theorem d_Law_law_247 : decode code 247 = .ok (.iaload, 1) := by decide +kernel
theorem d_Law_law_248 : decode code 248 = .ok (.aload_n 3, 1) := by decide +kernel
theorem d_Law_law_249 : decode code 249 = .ok (.invokestatic 91, 3) := by decide +kernel
theorem d_Law_law_252 : decode code 252 = .ok (.istore 6, 2) := by decide +kernel
theorem d_Law_law_254 : decode code 254 = .ok (.aload_n 2, 1) := by decide +kernel
theorem d_Law_law_255 : decode code 255 = .ok (.aload_n 0, 1) := by decide +kernel
theorem d_Law_law_256 : decode code 256 = .ok (.iload 5, 2) := by decide +kernel
theorem d_Law_law_258 : decode code 258 = .ok (.iconst 1, 1) := by decide +kernel
theorem d_Law_law_259 : decode code 259 = .ok (.iadd, 1) := by decide +kernel
theorem d_Law_law_260 : decode code 260 = .ok (.iaload, 1) := by decide +kernel
theorem d_Law_law_261 : decode code 261 = .ok (.invokevirtual 94, 3) := by decide +kernel
theorem d_Law_law_264 : decode code 264 = .ok (.istore 7, 2) := by decide +kernel
theorem d_Law_law_266 : decode code 266 = .ok (.aload_n 2, 1) := by decide +kernel
theorem d_Law_law_267 : decode code 267 = .ok (.invokevirtual 84, 3) := by decide +kernel
theorem d_Law_law_270 : decode code 270 = .ok (.iload 6, 2) := by decide +kernel
theorem d_Law_law_272 : decode code 272 = .ok (.if_icmp .eq 5, 3) := by decide +kernel
theorem d_Law_law_275 : decode code 275 = .ok (.iconst 0, 1) := by decide +kernel
theorem d_Law_law_276 : decode code 276 = .ok (.ireturn, 1) := by decide +kernel
theorem d_Law_law_277 : decode code 277 = .ok (.iload 6, 2) := by decide +kernel
theorem d_Law_law_279 : decode code 279 = .ok (.ifCond .ne 15, 3) := by decide +kernel
theorem d_Law_law_282 : decode code 282 = .ok (.aload_n 3, 1) := by decide +kernel
theorem d_Law_law_283 : decode code 283 = .ok (.iconst 0, 1) := by decide +kernel
theorem d_Law_law_284 : decode code 284 = .ok (.laload, 1) := by decide +kernel
theorem d_Law_law_285 : decode code 285 = .ok (.iload 7, 2) := by decide +kernel
theorem d_Law_law_287 : decode code 287 = .ok (.i2l, 1) := by decide +kernel
theorem d_Law_law_288 : decode code 288 = .ok (.lcmp, 1) := by decide +kernel
theorem d_Law_law_289 : decode code 289 = .ok (.ifCond .eq 5, 3) := by decide +kernel
theorem d_Law_law_292 : decode code 292 = .ok (.iconst 0, 1) := by decide +kernel
theorem d_Law_law_293 : decode code 293 = .ok (.ireturn, 1) := by decide +kernel
theorem d_Law_law_294 : decode code 294 = .ok (.goto 851, 3) := by decide +kernel
theorem d_Law_law_297 : decode code 297 = .ok (.aload_n 1, 1) := by decide +kernel
theorem d_Law_law_298 : decode code 298 = .ok (.aload_n 3, 1) := by decide +kernel
theorem d_Law_law_299 : decode code 299 = .ok (.invokestatic 95, 3) := by decide +kernel
theorem d_Law_law_302 : decode code 302 = .ok (.istore 6, 2) := by decide +kernel
theorem d_Law_law_304 : decode code 304 = .ok (.aload_n 2, 1) := by decide +kernel
theorem d_Law_law_305 : decode code 305 = .ok (.invokevirtual 98, 3) := by decide +kernel
theorem d_Law_law_308 : decode code 308 = .ok (.istore 7, 2) := by decide +kernel
theorem d_Law_law_310 : decode code 310 = .ok (.aload_n 2, 1) := by decide +kernel
theorem d_Law_law_311 : decode code 311 = .ok (.invokevirtual 84, 3) := by decide +kernel
theorem d_Law_law_314 : decode code 314 = .ok (.iload 6, 2) := by decide +kernel
theorem d_Law_law_316 : decode code 316 = .ok (.if_icmp .eq 5, 3) := by decide +kernel
theorem d_Law_law_319 : decode code 319 = .ok (.iconst 0, 1) := by decide +kernel
theorem d_Law_law_320 : decode code 320 = .ok (.ireturn, 1) := by decide +kernel
theorem d_Law_law_321 : decode code 321 = .ok (.iload 6, 2) := by decide +kernel
theorem d_Law_law_323 : decode code 323 = .ok (.ifCond .ne 15, 3) := by decide +kernel
theorem d_Law_law_326 : decode code 326 = .ok (.aload_n 3, 1) := by decide +kernel
theorem d_Law_law_327 : decode code 327 = .ok (.iconst 0, 1) := by decide +kernel
theorem d_Law_law_328 : decode code 328 = .ok (.laload, 1) := by decide +kernel
theorem d_Law_law_329 : decode code 329 = .ok (.iload 7, 2) := by decide +kernel
theorem d_Law_law_331 : decode code 331 = .ok (.i2l, 1) := by decide +kernel
theorem d_Law_law_332 : decode code 332 = .ok (.lcmp, 1) := by decide +kernel
theorem d_Law_law_333 : decode code 333 = .ok (.ifCond .eq 5, 3) := by decide +kernel
theorem d_Law_law_336 : decode code 336 = .ok (.iconst 0, 1) := by decide +kernel
theorem d_Law_law_337 : decode code 337 = .ok (.ireturn, 1) := by decide +kernel
theorem d_Law_law_338 : decode code 338 = .ok (.goto 807, 3) := by decide +kernel
theorem d_Law_law_341 : decode code 341 = .ok (.aload_n 1, 1) := by decide +kernel
theorem d_Law_law_342 : decode code 342 = .ok (.aload_n 0, 1) := by decide +kernel
theorem d_Law_law_343 : decode code 343 = .ok (.iload 5, 2) := by decide +kernel
theorem d_Law_law_345 : decode code 345 = .ok (.iconst 1, 1) := by decide +kernel
theorem d_Law_law_346 : decode code 346 = .ok (.iadd, 1) := by decide +kernel
theorem d_Law_law_347 : decode code 347 = .ok (.iaload, 1) := by decide +kernel
theorem d_Law_law_348 : decode code 348 = .ok (.aload_n 3, 1) := by decide +kernel
theorem d_Law_law_349 : decode code 349 = .ok (.invokestatic 99, 3) := by decide +kernel
theorem d_Law_law_352 : decode code 352 = .ok (.istore 6, 2) := by decide +kernel
theorem d_Law_law_354 : decode code 354 = .ok (.aload_n 2, 1) := by decide +kernel
theorem d_Law_law_355 : decode code 355 = .ok (.aload_n 0, 1) := by decide +kernel
theorem d_Law_law_356 : decode code 356 = .ok (.iload 5, 2) := by decide +kernel
theorem d_Law_law_358 : decode code 358 = .ok (.iconst 1, 1) := by decide +kernel
theorem d_Law_law_359 : decode code 359 = .ok (.iadd, 1) := by decide +kernel
theorem d_Law_law_360 : decode code 360 = .ok (.iaload, 1) := by decide +kernel
theorem d_Law_law_361 : decode code 361 = .ok (.invokevirtual 101, 3) := by decide +kernel
theorem d_Law_law_364 : decode code 364 = .ok (.istore 7, 2) := by decide +kernel
theorem d_Law_law_366 : decode code 366 = .ok (.aload_n 2, 1) := by decide +kernel
theorem d_Law_law_367 : decode code 367 = .ok (.invokevirtual 84, 3) := by decide +kernel
theorem d_Law_law_370 : decode code 370 = .ok (.iload 6, 2) := by decide +kernel
theorem d_Law_law_372 : decode code 372 = .ok (.if_icmp .eq 5, 3) := by decide +kernel
theorem d_Law_law_375 : decode code 375 = .ok (.iconst 0, 1) := by decide +kernel
theorem d_Law_law_376 : decode code 376 = .ok (.ireturn, 1) := by decide +kernel
theorem d_Law_law_377 : decode code 377 = .ok (.iload 6, 2) := by decide +kernel
theorem d_Law_law_379 : decode code 379 = .ok (.ifCond .ne 15, 3) := by decide +kernel
theorem d_Law_law_382 : decode code 382 = .ok (.aload_n 3, 1) := by decide +kernel
theorem d_Law_law_383 : decode code 383 = .ok (.iconst 0, 1) := by decide +kernel
theorem d_Law_law_384 : decode code 384 = .ok (.laload, 1) := by decide +kernel
theorem d_Law_law_385 : decode code 385 = .ok (.iload 7, 2) := by decide +kernel
theorem d_Law_law_387 : decode code 387 = .ok (.i2l, 1) := by decide +kernel
theorem d_Law_law_388 : decode code 388 = .ok (.lcmp, 1) := by decide +kernel
theorem d_Law_law_389 : decode code 389 = .ok (.ifCond .eq 5, 3) := by decide +kernel
theorem d_Law_law_392 : decode code 392 = .ok (.iconst 0, 1) := by decide +kernel
theorem d_Law_law_393 : decode code 393 = .ok (.ireturn, 1) := by decide +kernel
theorem d_Law_law_394 : decode code 394 = .ok (.goto 751, 3) := by decide +kernel
theorem d_Law_law_397 : decode code 397 = .ok (.aload_n 1, 1) := by decide +kernel
theorem d_Law_law_398 : decode code 398 = .ok (.aload_n 0, 1) := by decide +kernel
theorem d_Law_law_399 : decode code 399 = .ok (.iload 5, 2) := by decide +kernel
theorem d_Law_law_401 : decode code 401 = .ok (.iconst 1, 1) := by decide +kernel
theorem d_Law_law_402 : decode code 402 = .ok (.iadd, 1) := by decide +kernel
theorem d_Law_law_403 : decode code 403 = .ok (.iaload, 1) := by decide +kernel
theorem d_Law_law_404 : decode code 404 = .ok (.aload_n 3, 1) := by decide +kernel
theorem d_Law_law_405 : decode code 405 = .ok (.invokestatic 102, 3) := by decide +kernel
theorem d_Law_law_408 : decode code 408 = .ok (.istore 6, 2) := by decide +kernel
theorem d_Law_law_410 : decode code 410 = .ok (.aload_n 2, 1) := by decide +kernel
theorem d_Law_law_411 : decode code 411 = .ok (.aload_n 0, 1) := by decide +kernel
theorem d_Law_law_412 : decode code 412 = .ok (.iload 5, 2) := by decide +kernel
theorem d_Law_law_414 : decode code 414 = .ok (.iconst 1, 1) := by decide +kernel
theorem d_Law_law_415 : decode code 415 = .ok (.iadd, 1) := by decide +kernel
theorem d_Law_law_416 : decode code 416 = .ok (.iaload, 1) := by decide +kernel
theorem d_Law_law_417 : decode code 417 = .ok (.invokevirtual 104, 3) := by decide +kernel
theorem d_Law_law_420 : decode code 420 = .ok (.istore 7, 2) := by decide +kernel
theorem d_Law_law_422 : decode code 422 = .ok (.aload_n 2, 1) := by decide +kernel
theorem d_Law_law_423 : decode code 423 = .ok (.invokevirtual 84, 3) := by decide +kernel
theorem d_Law_law_426 : decode code 426 = .ok (.iload 6, 2) := by decide +kernel
theorem d_Law_law_428 : decode code 428 = .ok (.if_icmp .eq 5, 3) := by decide +kernel
theorem d_Law_law_431 : decode code 431 = .ok (.iconst 0, 1) := by decide +kernel
theorem d_Law_law_432 : decode code 432 = .ok (.ireturn, 1) := by decide +kernel
theorem d_Law_law_433 : decode code 433 = .ok (.iload 6, 2) := by decide +kernel
theorem d_Law_law_435 : decode code 435 = .ok (.ifCond .ne 15, 3) := by decide +kernel
theorem d_Law_law_438 : decode code 438 = .ok (.aload_n 3, 1) := by decide +kernel
theorem d_Law_law_439 : decode code 439 = .ok (.iconst 0, 1) := by decide +kernel
theorem d_Law_law_440 : decode code 440 = .ok (.laload, 1) := by decide +kernel
theorem d_Law_law_441 : decode code 441 = .ok (.iload 7, 2) := by decide +kernel
theorem d_Law_law_443 : decode code 443 = .ok (.i2l, 1) := by decide +kernel
theorem d_Law_law_444 : decode code 444 = .ok (.lcmp, 1) := by decide +kernel
theorem d_Law_law_445 : decode code 445 = .ok (.ifCond .eq 5, 3) := by decide +kernel
theorem d_Law_law_448 : decode code 448 = .ok (.iconst 0, 1) := by decide +kernel
theorem d_Law_law_449 : decode code 449 = .ok (.ireturn, 1) := by decide +kernel
theorem d_Law_law_450 : decode code 450 = .ok (.goto 695, 3) := by decide +kernel
theorem d_Law_law_453 : decode code 453 = .ok (.aload_n 1, 1) := by decide +kernel
theorem d_Law_law_454 : decode code 454 = .ok (.invokestatic 105, 3) := by decide +kernel
theorem d_Law_law_457 : decode code 457 = .ok (.istore 6, 2) := by decide +kernel
theorem d_Law_law_459 : decode code 459 = .ok (.aload_n 2, 1) := by decide +kernel
theorem d_Law_law_460 : decode code 460 = .ok (.invokevirtual 108, 3) := by decide +kernel
theorem d_Law_law_463 : decode code 463 = .ok (.aload_n 2, 1) := by decide +kernel
theorem d_Law_law_464 : decode code 464 = .ok (.invokevirtual 84, 3) := by decide +kernel
theorem d_Law_law_467 : decode code 467 = .ok (.iload 6, 2) := by decide +kernel
theorem d_Law_law_469 : decode code 469 = .ok (.if_icmp .eq 5, 3) := by decide +kernel
theorem d_Law_law_472 : decode code 472 = .ok (.iconst 0, 1) := by decide +kernel
theorem d_Law_law_473 : decode code 473 = .ok (.ireturn, 1) := by decide +kernel
theorem d_Law_law_474 : decode code 474 = .ok (.goto 671, 3) := by decide +kernel
theorem d_Law_law_477 : decode code 477 = .ok (.aload_n 1, 1) := by decide +kernel
theorem d_Law_law_478 : decode code 478 = .ok (.aload_n 3, 1) := by decide +kernel
theorem d_Law_law_479 : decode code 479 = .ok (.invokestatic 109, 3) := by decide +kernel
theorem d_Law_law_482 : decode code 482 = .ok (.istore 6, 2) := by decide +kernel
theorem d_Law_law_484 : decode code 484 = .ok (.aload_n 2, 1) := by decide +kernel
theorem d_Law_law_485 : decode code 485 = .ok (.invokevirtual 111, 3) := by decide +kernel
theorem d_Law_law_488 : decode code 488 = .ok (.istore 7, 2) := by decide +kernel
theorem d_Law_law_490 : decode code 490 = .ok (.aload_n 2, 1) := by decide +kernel
theorem d_Law_law_491 : decode code 491 = .ok (.invokevirtual 84, 3) := by decide +kernel
theorem d_Law_law_494 : decode code 494 = .ok (.iload 6, 2) := by decide +kernel
theorem d_Law_law_496 : decode code 496 = .ok (.if_icmp .eq 5, 3) := by decide +kernel
theorem d_Law_law_499 : decode code 499 = .ok (.iconst 0, 1) := by decide +kernel
theorem d_Law_law_500 : decode code 500 = .ok (.ireturn, 1) := by decide +kernel
theorem d_Law_law_501 : decode code 501 = .ok (.iload 6, 2) := by decide +kernel
theorem d_Law_law_503 : decode code 503 = .ok (.ifCond .ne 15, 3) := by decide +kernel
theorem d_Law_law_506 : decode code 506 = .ok (.aload_n 3, 1) := by decide +kernel
theorem d_Law_law_507 : decode code 507 = .ok (.iconst 0, 1) := by decide +kernel
theorem d_Law_law_508 : decode code 508 = .ok (.laload, 1) := by decide +kernel
theorem d_Law_law_509 : decode code 509 = .ok (.iload 7, 2) := by decide +kernel
theorem d_Law_law_511 : decode code 511 = .ok (.i2l, 1) := by decide +kernel
theorem d_Law_law_512 : decode code 512 = .ok (.lcmp, 1) := by decide +kernel
theorem d_Law_law_513 : decode code 513 = .ok (.ifCond .eq 5, 3) := by decide +kernel
theorem d_Law_law_516 : decode code 516 = .ok (.iconst 0, 1) := by decide +kernel
theorem d_Law_law_517 : decode code 517 = .ok (.ireturn, 1) := by decide +kernel
theorem d_Law_law_518 : decode code 518 = .ok (.goto 627, 3) := by decide +kernel
theorem d_Law_law_521 : decode code 521 = .ok (.aload_n 1, 1) := by decide +kernel
theorem d_Law_law_522 : decode code 522 = .ok (.aload_n 3, 1) := by decide +kernel
theorem d_Law_law_523 : decode code 523 = .ok (.invokestatic 112, 3) := by decide +kernel
theorem d_Law_law_526 : decode code 526 = .ok (.istore 6, 2) := by decide +kernel
theorem d_Law_law_528 : decode code 528 = .ok (.aload_n 2, 1) := by decide +kernel
theorem d_Law_law_529 : decode code 529 = .ok (.invokevirtual 114, 3) := by decide +kernel
theorem d_Law_law_532 : decode code 532 = .ok (.istore 7, 2) := by decide +kernel
theorem d_Law_law_534 : decode code 534 = .ok (.aload_n 2, 1) := by decide +kernel
theorem d_Law_law_535 : decode code 535 = .ok (.invokevirtual 84, 3) := by decide +kernel
theorem d_Law_law_538 : decode code 538 = .ok (.iload 6, 2) := by decide +kernel
theorem d_Law_law_540 : decode code 540 = .ok (.if_icmp .eq 5, 3) := by decide +kernel
theorem d_Law_law_543 : decode code 543 = .ok (.iconst 0, 1) := by decide +kernel
theorem d_Law_law_544 : decode code 544 = .ok (.ireturn, 1) := by decide +kernel
theorem d_Law_law_545 : decode code 545 = .ok (.iload 6, 2) := by decide +kernel
theorem d_Law_law_547 : decode code 547 = .ok (.ifCond .ne 15, 3) := by decide +kernel
theorem d_Law_law_550 : decode code 550 = .ok (.aload_n 3, 1) := by decide +kernel
theorem d_Law_law_551 : decode code 551 = .ok (.iconst 0, 1) := by decide +kernel
theorem d_Law_law_552 : decode code 552 = .ok (.laload, 1) := by decide +kernel
theorem d_Law_law_553 : decode code 553 = .ok (.iload 7, 2) := by decide +kernel
theorem d_Law_law_555 : decode code 555 = .ok (.i2l, 1) := by decide +kernel
theorem d_Law_law_556 : decode code 556 = .ok (.lcmp, 1) := by decide +kernel
theorem d_Law_law_557 : decode code 557 = .ok (.ifCond .eq 5, 3) := by decide +kernel
theorem d_Law_law_560 : decode code 560 = .ok (.iconst 0, 1) := by decide +kernel
theorem d_Law_law_561 : decode code 561 = .ok (.ireturn, 1) := by decide +kernel
theorem d_Law_law_562 : decode code 562 = .ok (.goto 583, 3) := by decide +kernel
theorem d_Law_law_565 : decode code 565 = .ok (.aload_n 1, 1) := by decide +kernel
theorem d_Law_law_566 : decode code 566 = .ok (.invokevirtual 115, 3) := by decide +kernel
theorem d_Law_law_569 : decode code 569 = .ok (.aload_n 2, 1) := by decide +kernel
theorem d_Law_law_570 : decode code 570 = .ok (.invokevirtual 118, 3) := by decide +kernel
theorem d_Law_law_573 : decode code 573 = .ok (.if_icmp .eq 572, 3) := by decide +kernel
theorem d_Law_law_576 : decode code 576 = .ok (.iconst 0, 1) := by decide +kernel
theorem d_Law_law_577 : decode code 577 = .ok (.ireturn, 1) := by decide +kernel
theorem d_Law_law_578 : decode code 578 = .ok (.aload_n 1, 1) := by decide +kernel
theorem d_Law_law_579 : decode code 579 = .ok (.invokevirtual 119, 3) := by decide +kernel
theorem d_Law_law_582 : decode code 582 = .ok (.aload_n 2, 1) := by decide +kernel
theorem d_Law_law_583 : decode code 583 = .ok (.invokevirtual 122, 3) := by decide +kernel
theorem d_Law_law_586 : decode code 586 = .ok (.if_icmp .eq 559, 3) := by decide +kernel
theorem d_Law_law_589 : decode code 589 = .ok (.iconst 0, 1) := by decide +kernel
theorem d_Law_law_590 : decode code 590 = .ok (.ireturn, 1) := by decide +kernel
theorem d_Law_law_591 : decode code 591 = .ok (.aload_n 1, 1) := by decide +kernel
theorem d_Law_law_592 : decode code 592 = .ok (.aload_n 0, 1) := by decide +kernel
theorem d_Law_law_593 : decode code 593 = .ok (.iload 5, 2) := by decide +kernel
theorem d_Law_law_595 : decode code 595 = .ok (.iconst 1, 1) := by decide +kernel
theorem d_Law_law_596 : decode code 596 = .ok (.iadd, 1) := by decide +kernel
theorem d_Law_law_597 : decode code 597 = .ok (.iaload, 1) := by decide +kernel
theorem d_Law_law_598 : decode code 598 = .ok (.aload_n 0, 1) := by decide +kernel
theorem d_Law_law_599 : decode code 599 = .ok (.iload 5, 2) := by decide +kernel
theorem d_Law_law_601 : decode code 601 = .ok (.iconst 2, 1) := by decide +kernel
theorem d_Law_law_602 : decode code 602 = .ok (.iadd, 1) := by decide +kernel
theorem d_Law_law_603 : decode code 603 = .ok (.iaload, 1) := by decide +kernel
theorem d_Law_law_604 : decode code 604 = .ok (.invokestatic 123, 3) := by decide +kernel
theorem d_Law_law_607 : decode code 607 = .ok (.istore 6, 2) := by decide +kernel
theorem d_Law_law_609 : decode code 609 = .ok (.aload_n 2, 1) := by decide +kernel
theorem d_Law_law_610 : decode code 610 = .ok (.aload_n 0, 1) := by decide +kernel
theorem d_Law_law_611 : decode code 611 = .ok (.iload 5, 2) := by decide +kernel
theorem d_Law_law_613 : decode code 613 = .ok (.iconst 1, 1) := by decide +kernel
theorem d_Law_law_614 : decode code 614 = .ok (.iadd, 1) := by decide +kernel
theorem d_Law_law_615 : decode code 615 = .ok (.iaload, 1) := by decide +kernel
theorem d_Law_law_616 : decode code 616 = .ok (.aload_n 0, 1) := by decide +kernel
theorem d_Law_law_617 : decode code 617 = .ok (.iload 5, 2) := by decide +kernel
theorem d_Law_law_619 : decode code 619 = .ok (.iconst 2, 1) := by decide +kernel
theorem d_Law_law_620 : decode code 620 = .ok (.iadd, 1) := by decide +kernel
theorem d_Law_law_621 : decode code 621 = .ok (.iaload, 1) := by decide +kernel
theorem d_Law_law_622 : decode code 622 = .ok (.invokevirtual 126, 3) := by decide +kernel
theorem d_Law_law_625 : decode code 625 = .ok (.aload_n 2, 1) := by decide +kernel
theorem d_Law_law_626 : decode code 626 = .ok (.invokevirtual 84, 3) := by decide +kernel
theorem d_Law_law_629 : decode code 629 = .ok (.iload 6, 2) := by decide +kernel
theorem d_Law_law_631 : decode code 631 = .ok (.if_icmp .eq 5, 3) := by decide +kernel
theorem d_Law_law_634 : decode code 634 = .ok (.iconst 0, 1) := by decide +kernel
theorem d_Law_law_635 : decode code 635 = .ok (.ireturn, 1) := by decide +kernel
theorem d_Law_law_636 : decode code 636 = .ok (.goto 509, 3) := by decide +kernel
theorem d_Law_law_639 : decode code 639 = .ok (.aload_n 1, 1) := by decide +kernel
theorem d_Law_law_640 : decode code 640 = .ok (.aload_n 0, 1) := by decide +kernel
theorem d_Law_law_641 : decode code 641 = .ok (.iload 5, 2) := by decide +kernel
theorem d_Law_law_643 : decode code 643 = .ok (.iconst 1, 1) := by decide +kernel
theorem d_Law_law_644 : decode code 644 = .ok (.iadd, 1) := by decide +kernel
theorem d_Law_law_645 : decode code 645 = .ok (.iaload, 1) := by decide +kernel
theorem d_Law_law_646 : decode code 646 = .ok (.aload_n 0, 1) := by decide +kernel
theorem d_Law_law_647 : decode code 647 = .ok (.iload 5, 2) := by decide +kernel
theorem d_Law_law_649 : decode code 649 = .ok (.iconst 2, 1) := by decide +kernel
theorem d_Law_law_650 : decode code 650 = .ok (.iadd, 1) := by decide +kernel
theorem d_Law_law_651 : decode code 651 = .ok (.iaload, 1) := by decide +kernel
theorem d_Law_law_652 : decode code 652 = .ok (.aload_n 3, 1) := by decide +kernel
theorem d_Law_law_653 : decode code 653 = .ok (.invokestatic 127, 3) := by decide +kernel
theorem d_Law_law_656 : decode code 656 = .ok (.istore 6, 2) := by decide +kernel
theorem d_Law_law_658 : decode code 658 = .ok (.aload_n 2, 1) := by decide +kernel
theorem d_Law_law_659 : decode code 659 = .ok (.aload_n 0, 1) := by decide +kernel
theorem d_Law_law_660 : decode code 660 = .ok (.iload 5, 2) := by decide +kernel
theorem d_Law_law_662 : decode code 662 = .ok (.iconst 1, 1) := by decide +kernel
theorem d_Law_law_663 : decode code 663 = .ok (.iadd, 1) := by decide +kernel
theorem d_Law_law_664 : decode code 664 = .ok (.iaload, 1) := by decide +kernel
theorem d_Law_law_665 : decode code 665 = .ok (.aload_n 0, 1) := by decide +kernel
theorem d_Law_law_666 : decode code 666 = .ok (.iload 5, 2) := by decide +kernel
theorem d_Law_law_668 : decode code 668 = .ok (.iconst 2, 1) := by decide +kernel
theorem d_Law_law_669 : decode code 669 = .ok (.iadd, 1) := by decide +kernel
theorem d_Law_law_670 : decode code 670 = .ok (.iaload, 1) := by decide +kernel
theorem d_Law_law_671 : decode code 671 = .ok (.invokevirtual 130, 3) := by decide +kernel
theorem d_Law_law_674 : decode code 674 = .ok (.istore 7, 2) := by decide +kernel
theorem d_Law_law_676 : decode code 676 = .ok (.aload_n 2, 1) := by decide +kernel
theorem d_Law_law_677 : decode code 677 = .ok (.invokevirtual 84, 3) := by decide +kernel
theorem d_Law_law_680 : decode code 680 = .ok (.iload 6, 2) := by decide +kernel
theorem d_Law_law_682 : decode code 682 = .ok (.if_icmp .eq 5, 3) := by decide +kernel
theorem d_Law_law_685 : decode code 685 = .ok (.iconst 0, 1) := by decide +kernel
theorem d_Law_law_686 : decode code 686 = .ok (.ireturn, 1) := by decide +kernel
theorem d_Law_law_687 : decode code 687 = .ok (.iload 6, 2) := by decide +kernel
theorem d_Law_law_689 : decode code 689 = .ok (.ifCond .ne 15, 3) := by decide +kernel
theorem d_Law_law_692 : decode code 692 = .ok (.aload_n 3, 1) := by decide +kernel
theorem d_Law_law_693 : decode code 693 = .ok (.iconst 0, 1) := by decide +kernel
theorem d_Law_law_694 : decode code 694 = .ok (.laload, 1) := by decide +kernel
theorem d_Law_law_695 : decode code 695 = .ok (.iload 7, 2) := by decide +kernel
theorem d_Law_law_697 : decode code 697 = .ok (.i2l, 1) := by decide +kernel
theorem d_Law_law_698 : decode code 698 = .ok (.lcmp, 1) := by decide +kernel
theorem d_Law_law_699 : decode code 699 = .ok (.ifCond .eq 5, 3) := by decide +kernel
theorem d_Law_law_702 : decode code 702 = .ok (.iconst 0, 1) := by decide +kernel
theorem d_Law_law_703 : decode code 703 = .ok (.ireturn, 1) := by decide +kernel
theorem d_Law_law_704 : decode code 704 = .ok (.goto 441, 3) := by decide +kernel
theorem d_Law_law_707 : decode code 707 = .ok (.aload_n 1, 1) := by decide +kernel
theorem d_Law_law_708 : decode code 708 = .ok (.aload_n 3, 1) := by decide +kernel
theorem d_Law_law_709 : decode code 709 = .ok (.invokestatic 131, 3) := by decide +kernel
theorem d_Law_law_712 : decode code 712 = .ok (.istore 6, 2) := by decide +kernel
theorem d_Law_law_714 : decode code 714 = .ok (.aload_n 2, 1) := by decide +kernel
theorem d_Law_law_715 : decode code 715 = .ok (.invokevirtual 133, 3) := by decide +kernel
theorem d_Law_law_718 : decode code 718 = .ok (.istore 7, 2) := by decide +kernel
theorem d_Law_law_720 : decode code 720 = .ok (.aload_n 2, 1) := by decide +kernel
theorem d_Law_law_721 : decode code 721 = .ok (.invokevirtual 84, 3) := by decide +kernel
theorem d_Law_law_724 : decode code 724 = .ok (.iload 6, 2) := by decide +kernel
theorem d_Law_law_726 : decode code 726 = .ok (.if_icmp .eq 5, 3) := by decide +kernel
theorem d_Law_law_729 : decode code 729 = .ok (.iconst 0, 1) := by decide +kernel
theorem d_Law_law_730 : decode code 730 = .ok (.ireturn, 1) := by decide +kernel
theorem d_Law_law_731 : decode code 731 = .ok (.iload 6, 2) := by decide +kernel
theorem d_Law_law_733 : decode code 733 = .ok (.ifCond .ne 15, 3) := by decide +kernel
theorem d_Law_law_736 : decode code 736 = .ok (.aload_n 3, 1) := by decide +kernel
theorem d_Law_law_737 : decode code 737 = .ok (.iconst 0, 1) := by decide +kernel
theorem d_Law_law_738 : decode code 738 = .ok (.laload, 1) := by decide +kernel
theorem d_Law_law_739 : decode code 739 = .ok (.iload 7, 2) := by decide +kernel
theorem d_Law_law_741 : decode code 741 = .ok (.i2l, 1) := by decide +kernel
theorem d_Law_law_742 : decode code 742 = .ok (.lcmp, 1) := by decide +kernel
theorem d_Law_law_743 : decode code 743 = .ok (.ifCond .eq 5, 3) := by decide +kernel
theorem d_Law_law_746 : decode code 746 = .ok (.iconst 0, 1) := by decide +kernel
theorem d_Law_law_747 : decode code 747 = .ok (.ireturn, 1) := by decide +kernel
theorem d_Law_law_748 : decode code 748 = .ok (.goto 397, 3) := by decide +kernel
theorem d_Law_law_751 : decode code 751 = .ok (.aload_n 1, 1) := by decide +kernel
theorem d_Law_law_752 : decode code 752 = .ok (.invokevirtual 134, 3) := by decide +kernel
theorem d_Law_law_755 : decode code 755 = .ok (.aload_n 2, 1) := by decide +kernel
theorem d_Law_law_756 : decode code 756 = .ok (.invokevirtual 137, 3) := by decide +kernel
theorem d_Law_law_759 : decode code 759 = .ok (.if_icmp .eq 386, 3) := by decide +kernel
theorem d_Law_law_762 : decode code 762 = .ok (.iconst 0, 1) := by decide +kernel
theorem d_Law_law_763 : decode code 763 = .ok (.ireturn, 1) := by decide +kernel
theorem d_Law_law_764 : decode code 764 = .ok (.aload_n 1, 1) := by decide +kernel
theorem d_Law_law_765 : decode code 765 = .ok (.aload_n 0, 1) := by decide +kernel
theorem d_Law_law_766 : decode code 766 = .ok (.iload 5, 2) := by decide +kernel
theorem d_Law_law_768 : decode code 768 = .ok (.iconst 1, 1) := by decide +kernel
theorem d_Law_law_769 : decode code 769 = .ok (.iadd, 1) := by decide +kernel
theorem d_Law_law_770 : decode code 770 = .ok (.iaload, 1) := by decide +kernel
theorem d_Law_law_771 : decode code 771 = .ok (.aload_n 0, 1) := by decide +kernel
theorem d_Law_law_772 : decode code 772 = .ok (.iload 5, 2) := by decide +kernel
theorem d_Law_law_774 : decode code 774 = .ok (.iconst 2, 1) := by decide +kernel
theorem d_Law_law_775 : decode code 775 = .ok (.iadd, 1) := by decide +kernel
theorem d_Law_law_776 : decode code 776 = .ok (.iaload, 1) := by decide +kernel
theorem d_Law_law_777 : decode code 777 = .ok (.ifCond .eq 7, 3) := by decide +kernel
theorem d_Law_law_780 : decode code 780 = .ok (.iconst 1, 1) := by decide +kernel
theorem d_Law_law_781 : decode code 781 = .ok (.goto 4, 3) := by decide +kernel
theorem d_Law_law_784 : decode code 784 = .ok (.iconst 0, 1) := by decide +kernel
theorem d_Law_law_785 : decode code 785 = .ok (.aload_n 3, 1) := by decide +kernel
theorem d_Law_law_786 : decode code 786 = .ok (.invokestatic 138, 3) := by decide +kernel
theorem d_Law_law_789 : decode code 789 = .ok (.istore 6, 2) := by decide +kernel
theorem d_Law_law_791 : decode code 791 = .ok (.aload_n 2, 1) := by decide +kernel
theorem d_Law_law_792 : decode code 792 = .ok (.aload_n 0, 1) := by decide +kernel
theorem d_Law_law_793 : decode code 793 = .ok (.iload 5, 2) := by decide +kernel
theorem d_Law_law_795 : decode code 795 = .ok (.iconst 1, 1) := by decide +kernel
theorem d_Law_law_796 : decode code 796 = .ok (.iadd, 1) := by decide +kernel
theorem d_Law_law_797 : decode code 797 = .ok (.iaload, 1) := by decide +kernel
theorem d_Law_law_798 : decode code 798 = .ok (.aload_n 0, 1) := by decide +kernel
theorem d_Law_law_799 : decode code 799 = .ok (.iload 5, 2) := by decide +kernel
theorem d_Law_law_801 : decode code 801 = .ok (.iconst 2, 1) := by decide +kernel
theorem d_Law_law_802 : decode code 802 = .ok (.iadd, 1) := by decide +kernel
theorem d_Law_law_803 : decode code 803 = .ok (.iaload, 1) := by decide +kernel
theorem d_Law_law_804 : decode code 804 = .ok (.ifCond .eq 7, 3) := by decide +kernel
theorem d_Law_law_807 : decode code 807 = .ok (.iconst 1, 1) := by decide +kernel
theorem d_Law_law_808 : decode code 808 = .ok (.goto 4, 3) := by decide +kernel
theorem d_Law_law_811 : decode code 811 = .ok (.iconst 0, 1) := by decide +kernel
theorem d_Law_law_812 : decode code 812 = .ok (.invokevirtual 141, 3) := by decide +kernel
theorem d_Law_law_815 : decode code 815 = .ok (.istore 7, 2) := by decide +kernel
theorem d_Law_law_817 : decode code 817 = .ok (.aload_n 2, 1) := by decide +kernel
theorem d_Law_law_818 : decode code 818 = .ok (.invokevirtual 84, 3) := by decide +kernel
theorem d_Law_law_821 : decode code 821 = .ok (.iload 6, 2) := by decide +kernel
theorem d_Law_law_823 : decode code 823 = .ok (.if_icmp .eq 5, 3) := by decide +kernel
theorem d_Law_law_826 : decode code 826 = .ok (.iconst 0, 1) := by decide +kernel
theorem d_Law_law_827 : decode code 827 = .ok (.ireturn, 1) := by decide +kernel
theorem d_Law_law_828 : decode code 828 = .ok (.iload 6, 2) := by decide +kernel
theorem d_Law_law_830 : decode code 830 = .ok (.ifCond .ne 15, 3) := by decide +kernel
theorem d_Law_law_833 : decode code 833 = .ok (.aload_n 3, 1) := by decide +kernel
theorem d_Law_law_834 : decode code 834 = .ok (.iconst 0, 1) := by decide +kernel
theorem d_Law_law_835 : decode code 835 = .ok (.laload, 1) := by decide +kernel
theorem d_Law_law_836 : decode code 836 = .ok (.iload 7, 2) := by decide +kernel
theorem d_Law_law_838 : decode code 838 = .ok (.i2l, 1) := by decide +kernel
theorem d_Law_law_839 : decode code 839 = .ok (.lcmp, 1) := by decide +kernel
theorem d_Law_law_840 : decode code 840 = .ok (.ifCond .eq 5, 3) := by decide +kernel
theorem d_Law_law_843 : decode code 843 = .ok (.iconst 0, 1) := by decide +kernel
theorem d_Law_law_844 : decode code 844 = .ok (.ireturn, 1) := by decide +kernel
theorem d_Law_law_845 : decode code 845 = .ok (.goto 300, 3) := by decide +kernel
theorem d_Law_law_848 : decode code 848 = .ok (.aload_n 1, 1) := by decide +kernel
theorem d_Law_law_849 : decode code 849 = .ok (.aload_n 0, 1) := by decide +kernel
theorem d_Law_law_850 : decode code 850 = .ok (.iload 5, 2) := by decide +kernel
theorem d_Law_law_852 : decode code 852 = .ok (.iconst 1, 1) := by decide +kernel
theorem d_Law_law_853 : decode code 853 = .ok (.iadd, 1) := by decide +kernel
theorem d_Law_law_854 : decode code 854 = .ok (.iaload, 1) := by decide +kernel
theorem d_Law_law_855 : decode code 855 = .ok (.aload_n 0, 1) := by decide +kernel
theorem d_Law_law_856 : decode code 856 = .ok (.iload 5, 2) := by decide +kernel
theorem d_Law_law_858 : decode code 858 = .ok (.iconst 2, 1) := by decide +kernel
theorem d_Law_law_859 : decode code 859 = .ok (.iadd, 1) := by decide +kernel
theorem d_Law_law_860 : decode code 860 = .ok (.iaload, 1) := by decide +kernel
theorem d_Law_law_861 : decode code 861 = .ok (.ifCond .eq 7, 3) := by decide +kernel
theorem d_Law_law_864 : decode code 864 = .ok (.iconst 1, 1) := by decide +kernel
theorem d_Law_law_865 : decode code 865 = .ok (.goto 4, 3) := by decide +kernel
theorem d_Law_law_868 : decode code 868 = .ok (.iconst 0, 1) := by decide +kernel
theorem d_Law_law_869 : decode code 869 = .ok (.aload 4, 2) := by decide +kernel
theorem d_Law_law_871 : decode code 871 = .ok (.invokestatic 142, 3) := by decide +kernel
theorem d_Law_law_874 : decode code 874 = .ok (.istore 6, 2) := by decide +kernel
theorem d_Law_law_876 : decode code 876 = .ok (.aload_n 2, 1) := by decide +kernel
theorem d_Law_law_877 : decode code 877 = .ok (.aload_n 0, 1) := by decide +kernel
theorem d_Law_law_878 : decode code 878 = .ok (.iload 5, 2) := by decide +kernel
theorem d_Law_law_880 : decode code 880 = .ok (.iconst 1, 1) := by decide +kernel
theorem d_Law_law_881 : decode code 881 = .ok (.iadd, 1) := by decide +kernel
theorem d_Law_law_882 : decode code 882 = .ok (.iaload, 1) := by decide +kernel
theorem d_Law_law_883 : decode code 883 = .ok (.aload_n 0, 1) := by decide +kernel
theorem d_Law_law_884 : decode code 884 = .ok (.iload 5, 2) := by decide +kernel
theorem d_Law_law_886 : decode code 886 = .ok (.iconst 2, 1) := by decide +kernel
theorem d_Law_law_887 : decode code 887 = .ok (.iadd, 1) := by decide +kernel
theorem d_Law_law_888 : decode code 888 = .ok (.iaload, 1) := by decide +kernel
theorem d_Law_law_889 : decode code 889 = .ok (.ifCond .eq 7, 3) := by decide +kernel
theorem d_Law_law_892 : decode code 892 = .ok (.iconst 1, 1) := by decide +kernel
theorem d_Law_law_893 : decode code 893 = .ok (.goto 4, 3) := by decide +kernel
theorem d_Law_law_896 : decode code 896 = .ok (.iconst 0, 1) := by decide +kernel
theorem d_Law_law_897 : decode code 897 = .ok (.invokevirtual 145, 3) := by decide +kernel
theorem d_Law_law_900 : decode code 900 = .ok (.dstore 7, 2) := by decide +kernel
theorem d_Law_law_902 : decode code 902 = .ok (.aload_n 2, 1) := by decide +kernel
theorem d_Law_law_903 : decode code 903 = .ok (.invokevirtual 84, 3) := by decide +kernel
theorem d_Law_law_906 : decode code 906 = .ok (.iload 6, 2) := by decide +kernel
theorem d_Law_law_908 : decode code 908 = .ok (.if_icmp .eq 5, 3) := by decide +kernel
theorem d_Law_law_911 : decode code 911 = .ok (.iconst 0, 1) := by decide +kernel
theorem d_Law_law_912 : decode code 912 = .ok (.ireturn, 1) := by decide +kernel
theorem d_Law_law_913 : decode code 913 = .ok (.iload 6, 2) := by decide +kernel
theorem d_Law_law_915 : decode code 915 = .ok (.ifCond .ne 35, 3) := by decide +kernel
theorem d_Law_law_918 : decode code 918 = .ok (.aload 4, 2) := by decide +kernel
theorem d_Law_law_920 : decode code 920 = .ok (.iconst 0, 1) := by decide +kernel
theorem d_Law_law_921 : decode code 921 = .ok (.daload, 1) := by decide +kernel
theorem d_Law_law_922 : decode code 922 = .ok (.dload 7, 2) := by decide +kernel
theorem d_Law_law_924 : decode code 924 = .ok (.dcmp .l, 1) := by decide +kernel
theorem d_Law_law_925 : decode code 925 = .ok (.ifCond .eq 25, 3) := by decide +kernel
theorem d_Law_law_928 : decode code 928 = .ok (.aload 4, 2) := by decide +kernel
theorem d_Law_law_930 : decode code 930 = .ok (.iconst 0, 1) := by decide +kernel
theorem d_Law_law_931 : decode code 931 = .ok (.daload, 1) := by decide +kernel
theorem d_Law_law_932 : decode code 932 = .ok (.aload 4, 2) := by decide +kernel
theorem d_Law_law_934 : decode code 934 = .ok (.iconst 0, 1) := by decide +kernel
theorem d_Law_law_935 : decode code 935 = .ok (.daload, 1) := by decide +kernel
theorem d_Law_law_936 : decode code 936 = .ok (.dcmp .l, 1) := by decide +kernel
theorem d_Law_law_937 : decode code 937 = .ok (.ifCond .eq 11, 3) := by decide +kernel
theorem d_Law_law_940 : decode code 940 = .ok (.dload 7, 2) := by decide +kernel
theorem d_Law_law_942 : decode code 942 = .ok (.dload 7, 2) := by decide +kernel
theorem d_Law_law_944 : decode code 944 = .ok (.dcmp .l, 1) := by decide +kernel
theorem d_Law_law_945 : decode code 945 = .ok (.ifCond .ne 5, 3) := by decide +kernel
theorem d_Law_law_948 : decode code 948 = .ok (.iconst 0, 1) := by decide +kernel
theorem d_Law_law_949 : decode code 949 = .ok (.ireturn, 1) := by decide +kernel
theorem d_Law_law_950 : decode code 950 = .ok (.goto 195, 3) := by decide +kernel
theorem d_Law_law_953 : decode code 953 = .ok (.aload_n 1, 1) := by decide +kernel
theorem d_Law_law_954 : decode code 954 = .ok (.aload_n 0, 1) := by decide +kernel
theorem d_Law_law_955 : decode code 955 = .ok (.iload 5, 2) := by decide +kernel
theorem d_Law_law_957 : decode code 957 = .ok (.iconst 1, 1) := by decide +kernel
theorem d_Law_law_958 : decode code 958 = .ok (.iadd, 1) := by decide +kernel
theorem d_Law_law_959 : decode code 959 = .ok (.iaload, 1) := by decide +kernel
theorem d_Law_law_960 : decode code 960 = .ok (.aload_n 0, 1) := by decide +kernel
theorem d_Law_law_961 : decode code 961 = .ok (.iload 5, 2) := by decide +kernel
theorem d_Law_law_963 : decode code 963 = .ok (.iconst 2, 1) := by decide +kernel
theorem d_Law_law_964 : decode code 964 = .ok (.iadd, 1) := by decide +kernel
theorem d_Law_law_965 : decode code 965 = .ok (.iaload, 1) := by decide +kernel
theorem d_Law_law_966 : decode code 966 = .ok (.aload_n 3, 1) := by decide +kernel
theorem d_Law_law_967 : decode code 967 = .ok (.invokestatic 146, 3) := by decide +kernel
theorem d_Law_law_970 : decode code 970 = .ok (.istore 6, 2) := by decide +kernel
theorem d_Law_law_972 : decode code 972 = .ok (.aload_n 2, 1) := by decide +kernel
theorem d_Law_law_973 : decode code 973 = .ok (.aload_n 0, 1) := by decide +kernel
theorem d_Law_law_974 : decode code 974 = .ok (.iload 5, 2) := by decide +kernel
theorem d_Law_law_976 : decode code 976 = .ok (.iconst 1, 1) := by decide +kernel
theorem d_Law_law_977 : decode code 977 = .ok (.iadd, 1) := by decide +kernel
theorem d_Law_law_978 : decode code 978 = .ok (.iaload, 1) := by decide +kernel
theorem d_Law_law_979 : decode code 979 = .ok (.aload_n 0, 1) := by decide +kernel
theorem d_Law_law_980 : decode code 980 = .ok (.iload 5, 2) := by decide +kernel
theorem d_Law_law_982 : decode code 982 = .ok (.iconst 2, 1) := by decide +kernel
theorem d_Law_law_983 : decode code 983 = .ok (.iadd, 1) := by decide +kernel
theorem d_Law_law_984 : decode code 984 = .ok (.iaload, 1) := by decide +kernel
theorem d_Law_law_985 : decode code 985 = .ok (.invokevirtual 148, 3) := by decide +kernel
theorem d_Law_law_988 : decode code 988 = .ok (.istore 7, 2) := by decide +kernel
theorem d_Law_law_990 : decode code 990 = .ok (.aload_n 2, 1) := by decide +kernel
theorem d_Law_law_991 : decode code 991 = .ok (.invokevirtual 84, 3) := by decide +kernel
theorem d_Law_law_994 : decode code 994 = .ok (.iload 6, 2) := by decide +kernel
theorem d_Law_law_996 : decode code 996 = .ok (.if_icmp .eq 5, 3) := by decide +kernel
theorem d_Law_law_999 : decode code 999 = .ok (.iconst 0, 1) := by decide +kernel
theorem d_Law_law_1000 : decode code 1000 = .ok (.ireturn, 1) := by decide +kernel
theorem d_Law_law_1001 : decode code 1001 = .ok (.iload 6, 2) := by decide +kernel
theorem d_Law_law_1003 : decode code 1003 = .ok (.ifCond .ne 15, 3) := by decide +kernel
theorem d_Law_law_1006 : decode code 1006 = .ok (.aload_n 3, 1) := by decide +kernel
theorem d_Law_law_1007 : decode code 1007 = .ok (.iconst 0, 1) := by decide +kernel
theorem d_Law_law_1008 : decode code 1008 = .ok (.laload, 1) := by decide +kernel
theorem d_Law_law_1009 : decode code 1009 = .ok (.iload 7, 2) := by decide +kernel
theorem d_Law_law_1011 : decode code 1011 = .ok (.i2l, 1) := by decide +kernel
theorem d_Law_law_1012 : decode code 1012 = .ok (.lcmp, 1) := by decide +kernel
theorem d_Law_law_1013 : decode code 1013 = .ok (.ifCond .eq 5, 3) := by decide +kernel
theorem d_Law_law_1016 : decode code 1016 = .ok (.iconst 0, 1) := by decide +kernel
theorem d_Law_law_1017 : decode code 1017 = .ok (.ireturn, 1) := by decide +kernel
theorem d_Law_law_1018 : decode code 1018 = .ok (.goto 127, 3) := by decide +kernel
theorem d_Law_law_1021 : decode code 1021 = .ok (.aload_n 1, 1) := by decide +kernel
theorem d_Law_law_1022 : decode code 1022 = .ok (.aload_n 0, 1) := by decide +kernel
theorem d_Law_law_1023 : decode code 1023 = .ok (.iload 5, 2) := by decide +kernel
theorem d_Law_law_1025 : decode code 1025 = .ok (.iconst 1, 1) := by decide +kernel
theorem d_Law_law_1026 : decode code 1026 = .ok (.iadd, 1) := by decide +kernel
theorem d_Law_law_1027 : decode code 1027 = .ok (.iaload, 1) := by decide +kernel
theorem d_Law_law_1028 : decode code 1028 = .ok (.aload_n 0, 1) := by decide +kernel
theorem d_Law_law_1029 : decode code 1029 = .ok (.iload 5, 2) := by decide +kernel
theorem d_Law_law_1031 : decode code 1031 = .ok (.iconst 2, 1) := by decide +kernel
theorem d_Law_law_1032 : decode code 1032 = .ok (.iadd, 1) := by decide +kernel
theorem d_Law_law_1033 : decode code 1033 = .ok (.iaload, 1) := by decide +kernel
theorem d_Law_law_1034 : decode code 1034 = .ok (.aload_n 3, 1) := by decide +kernel
theorem d_Law_law_1035 : decode code 1035 = .ok (.invokestatic 149, 3) := by decide +kernel
theorem d_Law_law_1038 : decode code 1038 = .ok (.istore 6, 2) := by decide +kernel
theorem d_Law_law_1040 : decode code 1040 = .ok (.aload_n 2, 1) := by decide +kernel
theorem d_Law_law_1041 : decode code 1041 = .ok (.aload_n 0, 1) := by decide +kernel
theorem d_Law_law_1042 : decode code 1042 = .ok (.iload 5, 2) := by decide +kernel
theorem d_Law_law_1044 : decode code 1044 = .ok (.iconst 1, 1) := by decide +kernel
theorem d_Law_law_1045 : decode code 1045 = .ok (.iadd, 1) := by decide +kernel
theorem d_Law_law_1046 : decode code 1046 = .ok (.iaload, 1) := by decide +kernel
theorem d_Law_law_1047 : decode code 1047 = .ok (.aload_n 0, 1) := by decide +kernel
theorem d_Law_law_1048 : decode code 1048 = .ok (.iload 5, 2) := by decide +kernel
theorem d_Law_law_1050 : decode code 1050 = .ok (.iconst 2, 1) := by decide +kernel
theorem d_Law_law_1051 : decode code 1051 = .ok (.iadd, 1) := by decide +kernel
theorem d_Law_law_1052 : decode code 1052 = .ok (.iaload, 1) := by decide +kernel
theorem d_Law_law_1053 : decode code 1053 = .ok (.invokevirtual 151, 3) := by decide +kernel
theorem d_Law_law_1056 : decode code 1056 = .ok (.istore 7, 2) := by decide +kernel
theorem d_Law_law_1058 : decode code 1058 = .ok (.aload_n 2, 1) := by decide +kernel
theorem d_Law_law_1059 : decode code 1059 = .ok (.invokevirtual 84, 3) := by decide +kernel
theorem d_Law_law_1062 : decode code 1062 = .ok (.iload 6, 2) := by decide +kernel
theorem d_Law_law_1064 : decode code 1064 = .ok (.if_icmp .eq 5, 3) := by decide +kernel
theorem d_Law_law_1067 : decode code 1067 = .ok (.iconst 0, 1) := by decide +kernel
theorem d_Law_law_1068 : decode code 1068 = .ok (.ireturn, 1) := by decide +kernel
theorem d_Law_law_1069 : decode code 1069 = .ok (.iload 6, 2) := by decide +kernel
theorem d_Law_law_1071 : decode code 1071 = .ok (.ifCond .ne 15, 3) := by decide +kernel
theorem d_Law_law_1074 : decode code 1074 = .ok (.aload_n 3, 1) := by decide +kernel
theorem d_Law_law_1075 : decode code 1075 = .ok (.iconst 0, 1) := by decide +kernel
theorem d_Law_law_1076 : decode code 1076 = .ok (.laload, 1) := by decide +kernel
theorem d_Law_law_1077 : decode code 1077 = .ok (.iload 7, 2) := by decide +kernel
theorem d_Law_law_1079 : decode code 1079 = .ok (.i2l, 1) := by decide +kernel
theorem d_Law_law_1080 : decode code 1080 = .ok (.lcmp, 1) := by decide +kernel
theorem d_Law_law_1081 : decode code 1081 = .ok (.ifCond .eq 5, 3) := by decide +kernel
theorem d_Law_law_1084 : decode code 1084 = .ok (.iconst 0, 1) := by decide +kernel
theorem d_Law_law_1085 : decode code 1085 = .ok (.ireturn, 1) := by decide +kernel
theorem d_Law_law_1086 : decode code 1086 = .ok (.goto 59, 3) := by decide +kernel
theorem d_Law_law_1089 : decode code 1089 = .ok (.aload_n 1, 1) := by decide +kernel
theorem d_Law_law_1090 : decode code 1090 = .ok (.aload_n 0, 1) := by decide +kernel
theorem d_Law_law_1091 : decode code 1091 = .ok (.iload 5, 2) := by decide +kernel
theorem d_Law_law_1093 : decode code 1093 = .ok (.iconst 1, 1) := by decide +kernel
theorem d_Law_law_1094 : decode code 1094 = .ok (.iadd, 1) := by decide +kernel
theorem d_Law_law_1095 : decode code 1095 = .ok (.iaload, 1) := by decide +kernel
theorem d_Law_law_1096 : decode code 1096 = .ok (.aload_n 3, 1) := by decide +kernel
theorem d_Law_law_1097 : decode code 1097 = .ok (.invokestatic 152, 3) := by decide +kernel
theorem d_Law_law_1100 : decode code 1100 = .ok (.istore 6, 2) := by decide +kernel
theorem d_Law_law_1102 : decode code 1102 = .ok (.aload_n 2, 1) := by decide +kernel
theorem d_Law_law_1103 : decode code 1103 = .ok (.aload_n 0, 1) := by decide +kernel
theorem d_Law_law_1104 : decode code 1104 = .ok (.iload 5, 2) := by decide +kernel
theorem d_Law_law_1106 : decode code 1106 = .ok (.iconst 1, 1) := by decide +kernel
theorem d_Law_law_1107 : decode code 1107 = .ok (.iadd, 1) := by decide +kernel
theorem d_Law_law_1108 : decode code 1108 = .ok (.iaload, 1) := by decide +kernel
theorem d_Law_law_1109 : decode code 1109 = .ok (.invokevirtual 154, 3) := by decide +kernel
theorem d_Law_law_1112 : decode code 1112 = .ok (.istore 7, 2) := by decide +kernel
theorem d_Law_law_1114 : decode code 1114 = .ok (.aload_n 2, 1) := by decide +kernel
theorem d_Law_law_1115 : decode code 1115 = .ok (.invokevirtual 84, 3) := by decide +kernel
theorem d_Law_law_1118 : decode code 1118 = .ok (.iload 6, 2) := by decide +kernel
theorem d_Law_law_1120 : decode code 1120 = .ok (.if_icmp .eq 5, 3) := by decide +kernel
theorem d_Law_law_1123 : decode code 1123 = .ok (.iconst 0, 1) := by decide +kernel
theorem d_Law_law_1124 : decode code 1124 = .ok (.ireturn, 1) := by decide +kernel
theorem d_Law_law_1125 : decode code 1125 = .ok (.iload 6, 2) := by decide +kernel
theorem d_Law_law_1127 : decode code 1127 = .ok (.ifCond .ne 15, 3) := by decide +kernel
theorem d_Law_law_1130 : decode code 1130 = .ok (.aload_n 3, 1) := by decide +kernel
theorem d_Law_law_1131 : decode code 1131 = .ok (.iconst 0, 1) := by decide +kernel
theorem d_Law_law_1132 : decode code 1132 = .ok (.laload, 1) := by decide +kernel
theorem d_Law_law_1133 : decode code 1133 = .ok (.iload 7, 2) := by decide +kernel
theorem d_Law_law_1135 : decode code 1135 = .ok (.i2l, 1) := by decide +kernel
theorem d_Law_law_1136 : decode code 1136 = .ok (.lcmp, 1) := by decide +kernel
theorem d_Law_law_1137 : decode code 1137 = .ok (.ifCond .eq 5, 3) := by decide +kernel
theorem d_Law_law_1140 : decode code 1140 = .ok (.iconst 0, 1) := by decide +kernel
theorem d_Law_law_1141 : decode code 1141 = .ok (.ireturn, 1) := by decide +kernel
theorem d_Law_law_1142 : decode code 1142 = .ok (.goto 3, 3) := by decide +kernel
theorem d_Law_law_1145 : decode code 1145 = .ok (.iinc 5 3, 3) := by decide +kernel
theorem d_Law_law_1148 : decode code 1148 = .ok (.goto (-1120), 3) := by decide +kernel
theorem d_Law_law_1151 : decode code 1151 = .ok (.iconst 1, 1) := by decide +kernel
theorem d_Law_law_1152 : decode code 1152 = .ok (.ireturn, 1) := by decide +kernel
theorem cH_Law_78 : xw_sSH "PhraseShelfLaw" 78 m_Law_letters 3 := ⟨List.forall_mem_cons.mpr ⟨xw_in2 145 rfl rfl, List.forall_mem_cons.mpr ⟨xw_in2 146 rfl rfl, List.forall_mem_cons.mpr ⟨xw_in1 0 rfl rfl, List.forall_mem_cons.mpr ⟨xw_in2 147 rfl rfl, (fun _ h => nomatch h)⟩⟩⟩⟩, by decide +kernel, by decide +kernel, by decide +kernel⟩
theorem cH_Law_91 : xw_sSH "PhraseShelfLaw" 91 m_Law_set 3 := ⟨List.forall_mem_cons.mpr ⟨xw_in3 5 rfl rfl, List.forall_mem_cons.mpr ⟨xw_in3 6 rfl rfl, List.forall_mem_cons.mpr ⟨xw_in1 0 rfl rfl, List.forall_mem_cons.mpr ⟨xw_in3 7 rfl rfl, (fun _ h => nomatch h)⟩⟩⟩⟩, by decide +kernel, by decide +kernel, by decide +kernel⟩
theorem cH_Law_95 : xw_sSH "PhraseShelfLaw" 95 m_Law_insert 2 := ⟨List.forall_mem_cons.mpr ⟨xw_in3 28 rfl rfl, List.forall_mem_cons.mpr ⟨xw_in3 29 rfl rfl, List.forall_mem_cons.mpr ⟨xw_in1 0 rfl rfl, List.forall_mem_cons.mpr ⟨xw_in3 30 rfl rfl, (fun _ h => nomatch h)⟩⟩⟩⟩, by decide +kernel, by decide +kernel, by decide +kernel⟩
theorem cH_Law_99 : xw_sSH "PhraseShelfLaw" 99 m_Law_replace 3 := ⟨List.forall_mem_cons.mpr ⟨xw_in3 91 rfl rfl, List.forall_mem_cons.mpr ⟨xw_in3 92 rfl rfl, List.forall_mem_cons.mpr ⟨xw_in1 0 rfl rfl, List.forall_mem_cons.mpr ⟨xw_in3 93 rfl rfl, (fun _ h => nomatch h)⟩⟩⟩⟩, by decide +kernel, by decide +kernel, by decide +kernel⟩
theorem cH_Law_102 : xw_sSH "PhraseShelfLaw" 102 m_Law_delete 3 := ⟨List.forall_mem_cons.mpr ⟨xw_in3 119 rfl rfl, List.forall_mem_cons.mpr ⟨xw_in3 120 rfl rfl, List.forall_mem_cons.mpr ⟨xw_in1 0 rfl rfl, List.forall_mem_cons.mpr ⟨xw_in3 121 rfl rfl, (fun _ h => nomatch h)⟩⟩⟩⟩, by decide +kernel, by decide +kernel, by decide +kernel⟩
theorem cH_Law_105 : xw_sSH "PhraseShelfLaw" 105 m_Law_begin 1 := ⟨List.forall_mem_cons.mpr ⟨xw_in3 134 rfl rfl, List.forall_mem_cons.mpr ⟨xw_in3 135 rfl rfl, List.forall_mem_cons.mpr ⟨xw_in1 0 rfl rfl, List.forall_mem_cons.mpr ⟨xw_in3 136 rfl rfl, (fun _ h => nomatch h)⟩⟩⟩⟩, by decide +kernel, by decide +kernel, by decide +kernel⟩
theorem cH_Law_109 : xw_sSH "PhraseShelfLaw" 109 m_Law_commit 2 := ⟨List.forall_mem_cons.mpr ⟨xw_in3 162 rfl rfl, List.forall_mem_cons.mpr ⟨xw_in3 163 rfl rfl, List.forall_mem_cons.mpr ⟨xw_in1 0 rfl rfl, List.forall_mem_cons.mpr ⟨xw_in3 164 rfl rfl, (fun _ h => nomatch h)⟩⟩⟩⟩, by decide +kernel, by decide +kernel, by decide +kernel⟩
theorem cH_Law_112 : xw_sSH "PhraseShelfLaw" 112 m_Law_rollback 2 := ⟨List.forall_mem_cons.mpr ⟨xw_in3 170 rfl rfl, List.forall_mem_cons.mpr ⟨xw_in3 171 rfl rfl, List.forall_mem_cons.mpr ⟨xw_in1 0 rfl rfl, List.forall_mem_cons.mpr ⟨xw_in3 172 rfl rfl, (fun _ h => nomatch h)⟩⟩⟩⟩, by decide +kernel, by decide +kernel, by decide +kernel⟩
theorem cH_Law_123 : xw_sSH "PhraseShelfLaw" 123 m_Law_ways 3 := ⟨List.forall_mem_cons.mpr ⟨xw_in3 181 rfl rfl, List.forall_mem_cons.mpr ⟨xw_in3 182 rfl rfl, List.forall_mem_cons.mpr ⟨xw_in1 0 rfl rfl, List.forall_mem_cons.mpr ⟨xw_in3 183 rfl rfl, (fun _ h => nomatch h)⟩⟩⟩⟩, by decide +kernel, by decide +kernel, by decide +kernel⟩
theorem cH_Law_127 : xw_sSH "PhraseShelfLaw" 127 m_Law_weight 4 := ⟨List.forall_mem_cons.mpr ⟨xw_in3 189 rfl rfl, List.forall_mem_cons.mpr ⟨xw_in3 190 rfl rfl, List.forall_mem_cons.mpr ⟨xw_in1 0 rfl rfl, List.forall_mem_cons.mpr ⟨xw_in3 191 rfl rfl, (fun _ h => nomatch h)⟩⟩⟩⟩, by decide +kernel, by decide +kernel, by decide +kernel⟩
theorem cH_Law_131 : xw_sSH "PhraseShelfLaw" 131 m_Law_ask 2 := ⟨List.forall_mem_cons.mpr ⟨xw_in3 197 rfl rfl, List.forall_mem_cons.mpr ⟨xw_in3 198 rfl rfl, List.forall_mem_cons.mpr ⟨xw_in1 0 rfl rfl, List.forall_mem_cons.mpr ⟨xw_in3 199 rfl rfl, (fun _ h => nomatch h)⟩⟩⟩⟩, by decide +kernel, by decide +kernel, by decide +kernel⟩
theorem cH_Law_138 : xw_sSH "PhraseShelfLaw" 138 m_Law_answer 4 := ⟨List.forall_mem_cons.mpr ⟨xw_in5 54 rfl rfl, List.forall_mem_cons.mpr ⟨xw_in5 55 rfl rfl, List.forall_mem_cons.mpr ⟨xw_in1 0 rfl rfl, List.forall_mem_cons.mpr ⟨xw_in5 56 rfl rfl, (fun _ h => nomatch h)⟩⟩⟩⟩, by decide +kernel, by decide +kernel, by decide +kernel⟩
theorem cH_Law_142 : xw_sSH "PhraseShelfLaw" 142 m_Law_score 4 := ⟨List.forall_mem_cons.mpr ⟨xw_in5 70 rfl rfl, List.forall_mem_cons.mpr ⟨xw_in5 71 rfl rfl, List.forall_mem_cons.mpr ⟨xw_in1 0 rfl rfl, List.forall_mem_cons.mpr ⟨xw_in5 72 rfl rfl, (fun _ h => nomatch h)⟩⟩⟩⟩, by decide +kernel, by decide +kernel, by decide +kernel⟩
theorem cH_Law_146 : xw_sSH "PhraseShelfLaw" 146 m_Law_look 4 := ⟨List.forall_mem_cons.mpr ⟨xw_in5 77 rfl rfl, List.forall_mem_cons.mpr ⟨xw_in5 78 rfl rfl, List.forall_mem_cons.mpr ⟨xw_in1 0 rfl rfl, List.forall_mem_cons.mpr ⟨xw_in5 79 rfl rfl, (fun _ h => nomatch h)⟩⟩⟩⟩, by decide +kernel, by decide +kernel, by decide +kernel⟩
theorem cH_Law_149 : xw_sSH "PhraseShelfLaw" 149 m_Law_segment 4 := ⟨List.forall_mem_cons.mpr ⟨xw_in5 85 rfl rfl, List.forall_mem_cons.mpr ⟨xw_in5 86 rfl rfl, List.forall_mem_cons.mpr ⟨xw_in1 0 rfl rfl, List.forall_mem_cons.mpr ⟨xw_in5 87 rfl rfl, (fun _ h => nomatch h)⟩⟩⟩⟩, by decide +kernel, by decide +kernel, by decide +kernel⟩
theorem cH_Law_152 : xw_sSH "PhraseShelfLaw" 152 m_Law_count 3 := ⟨List.forall_mem_cons.mpr ⟨xw_in5 94 rfl rfl, List.forall_mem_cons.mpr ⟨xw_in5 95 rfl rfl, List.forall_mem_cons.mpr ⟨xw_in1 0 rfl rfl, List.forall_mem_cons.mpr ⟨xw_in5 96 rfl rfl, (fun _ h => nomatch h)⟩⟩⟩⟩, by decide +kernel, by decide +kernel, by decide +kernel⟩
