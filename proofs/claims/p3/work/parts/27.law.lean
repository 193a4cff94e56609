/-! the law: its helpers, its decode rows, its calls: by program -/
abbrev m_Law_letters : xw_M := (⟨"PhraseShelfLaw", "letters", "(LPhraseShelf;J[J)I"⟩, method_3_code, 5, (Option.some Jvm.ClassFile.FieldType.int), [(0, 9, 12, 13), (0, 9, 16, 15)])
theorem d_Law_letters_0 : decode method_3_code 0 = .ok (.aload_n 3, 1) := by decide +kernel
theorem d_Law_letters_1 : decode method_3_code 1 = .ok (.iconst 0, 1) := by decide +kernel
theorem d_Law_letters_2 : decode method_3_code 2 = .ok (.aload_n 0, 1) := by decide +kernel
theorem d_Law_letters_3 : decode method_3_code 3 = .ok (.lload_n 1, 1) := by decide +kernel
theorem d_Law_letters_4 : decode method_3_code 4 = .ok (.invokevirtual 7, 3) := by decide +kernel
theorem d_Law_letters_7 : decode method_3_code 7 = .ok (.i2l, 1) := by decide +kernel
theorem d_Law_letters_8 : decode method_3_code 8 = .ok (.lastore, 1) := by decide +kernel
theorem d_Law_letters_9 : decode method_3_code 9 = .ok (.goto 11, 3) := by decide +kernel
theorem d_Law_letters_12 : decode method_3_code 12 = .ok (.astore 4, 2) := by decide +kernel
theorem d_Law_letters_14 : decode method_3_code 14 = .ok (.iconst 1, 1) := by decide +kernel
theorem d_Law_letters_15 : decode method_3_code 15 = .ok (.ireturn, 1) := by decide +kernel
theorem d_Law_letters_16 : decode method_3_code 16 = .ok (.astore 4, 2) := by decide +kernel
theorem d_Law_letters_18 : decode method_3_code 18 = .ok (.iconst 2, 1) := by decide +kernel
theorem d_Law_letters_19 : decode method_3_code 19 = .ok (.ireturn, 1) := by decide +kernel
theorem d_Law_letters_20 : decode method_3_code 20 = .ok (.iconst 0, 1) := by decide +kernel
theorem d_Law_letters_21 : decode method_3_code 21 = .ok (.ireturn, 1) := by decide +kernel
abbrev m_Law_set : xw_M := (⟨"PhraseShelfLaw", "set", "(LPhraseShelf;I[J)I"⟩, method_4_code, 4, (Option.some Jvm.ClassFile.FieldType.int), [(0, 9, 12, 13), (0, 9, 15, 15)])
theorem d_Law_set_0 : decode method_4_code 0 = .ok (.aload_n 2, 1) := by decide +kernel
theorem d_Law_set_1 : decode method_4_code 1 = .ok (.iconst 0, 1) := by decide +kernel
theorem d_Law_set_2 : decode method_4_code 2 = .ok (.aload_n 0, 1) := by decide +kernel
theorem d_Law_set_3 : decode method_4_code 3 = .ok (.iload_n 1, 1) := by decide +kernel
theorem d_Law_set_4 : decode method_4_code 4 = .ok (.invokevirtual 17, 3) := by decide +kernel
theorem d_Law_set_7 : decode method_4_code 7 = .ok (.i2l, 1) := by decide +kernel
theorem d_Law_set_8 : decode method_4_code 8 = .ok (.lastore, 1) := by decide +kernel
theorem d_Law_set_9 : decode method_4_code 9 = .ok (.goto 9, 3) := by decide +kernel
theorem d_Law_set_12 : decode method_4_code 12 = .ok (.astore_n 3, 1) := by decide +kernel
theorem d_Law_set_13 : decode method_4_code 13 = .ok (.iconst 1, 1) := by decide +kernel
theorem d_Law_set_14 : decode method_4_code 14 = .ok (.ireturn, 1) := by decide +kernel
theorem d_Law_set_15 : decode method_4_code 15 = .ok (.astore_n 3, 1) := by decide +kernel
theorem d_Law_set_16 : decode method_4_code 16 = .ok (.iconst 2, 1) := by decide +kernel
theorem d_Law_set_17 : decode method_4_code 17 = .ok (.ireturn, 1) := by decide +kernel
theorem d_Law_set_18 : decode method_4_code 18 = .ok (.iconst 0, 1) := by decide +kernel
theorem d_Law_set_19 : decode method_4_code 19 = .ok (.ireturn, 1) := by decide +kernel
abbrev m_Law_insert : xw_M := (⟨"PhraseShelfLaw", "insert", "(LPhraseShelf;[J)I"⟩, method_5_code, 3, (Option.some Jvm.ClassFile.FieldType.int), [(0, 8, 11, 15)])
theorem d_Law_insert_0 : decode method_5_code 0 = .ok (.aload_n 1, 1) := by decide +kernel
theorem d_Law_insert_1 : decode method_5_code 1 = .ok (.iconst 0, 1) := by decide +kernel
theorem d_Law_insert_2 : decode method_5_code 2 = .ok (.aload_n 0, 1) := by decide +kernel
theorem d_Law_insert_3 : decode method_5_code 3 = .ok (.invokevirtual 21, 3) := by decide +kernel
theorem d_Law_insert_6 : decode method_5_code 6 = .ok (.i2l, 1) := by decide +kernel
theorem d_Law_insert_7 : decode method_5_code 7 = .ok (.lastore, 1) := by decide +kernel
theorem d_Law_insert_8 : decode method_5_code 8 = .ok (.goto 6, 3) := by decide +kernel
theorem d_Law_insert_11 : decode method_5_code 11 = .ok (.astore_n 2, 1) := by decide +kernel
theorem d_Law_insert_12 : decode method_5_code 12 = .ok (.iconst 1, 1) := by decide +kernel
theorem d_Law_insert_13 : decode method_5_code 13 = .ok (.ireturn, 1) := by decide +kernel
theorem d_Law_insert_14 : decode method_5_code 14 = .ok (.iconst 0, 1) := by decide +kernel
theorem d_Law_insert_15 : decode method_5_code 15 = .ok (.ireturn, 1) := by decide +kernel
abbrev m_Law_replace : xw_M := (⟨"PhraseShelfLaw", "replace", "(LPhraseShelf;I[J)I"⟩, method_6_code, 4, (Option.some Jvm.ClassFile.FieldType.int), [(0, 9, 12, 28)])
theorem d_Law_replace_0 : decode method_6_code 0 = .ok (.aload_n 2, 1) := by decide +kernel
theorem d_Law_replace_1 : decode method_6_code 1 = .ok (.iconst 0, 1) := by decide +kernel
theorem d_Law_replace_2 : decode method_6_code 2 = .ok (.aload_n 0, 1) := by decide +kernel
theorem d_Law_replace_3 : decode method_6_code 3 = .ok (.iload_n 1, 1) := by decide +kernel
theorem d_Law_replace_4 : decode method_6_code 4 = .ok (.invokevirtual 25, 3) := by decide +kernel
theorem d_Law_replace_7 : decode method_6_code 7 = .ok (.i2l, 1) := by decide +kernel
theorem d_Law_replace_8 : decode method_6_code 8 = .ok (.lastore, 1) := by decide +kernel
theorem d_Law_replace_9 : decode method_6_code 9 = .ok (.goto 6, 3) := by decide +kernel
theorem d_Law_replace_12 : decode method_6_code 12 = .ok (.astore_n 3, 1) := by decide +kernel
theorem d_Law_replace_13 : decode method_6_code 13 = .ok (.iconst 1, 1) := by decide +kernel
theorem d_Law_replace_14 : decode method_6_code 14 = .ok (.ireturn, 1) := by decide +kernel
theorem d_Law_replace_15 : decode method_6_code 15 = .ok (.iconst 0, 1) := by decide +kernel
theorem d_Law_replace_16 : decode method_6_code 16 = .ok (.ireturn, 1) := by decide +kernel
abbrev m_Law_delete : xw_M := (⟨"PhraseShelfLaw", "delete", "(LPhraseShelf;I[J)I"⟩, method_7_code, 4, (Option.some Jvm.ClassFile.FieldType.int), [(0, 9, 12, 28)])
theorem d_Law_delete_0 : decode method_7_code 0 = .ok (.aload_n 2, 1) := by decide +kernel
theorem d_Law_delete_1 : decode method_7_code 1 = .ok (.iconst 0, 1) := by decide +kernel
theorem d_Law_delete_2 : decode method_7_code 2 = .ok (.aload_n 0, 1) := by decide +kernel
theorem d_Law_delete_3 : decode method_7_code 3 = .ok (.iload_n 1, 1) := by decide +kernel
theorem d_Law_delete_4 : decode method_7_code 4 = .ok (.invokevirtual 30, 3) := by decide +kernel
theorem d_Law_delete_7 : decode method_7_code 7 = .ok (.i2l, 1) := by decide +kernel
theorem d_Law_delete_8 : decode method_7_code 8 = .ok (.lastore, 1) := by decide +kernel
theorem d_Law_delete_9 : decode method_7_code 9 = .ok (.goto 6, 3) := by decide +kernel
theorem d_Law_delete_12 : decode method_7_code 12 = .ok (.astore_n 3, 1) := by decide +kernel
theorem d_Law_delete_13 : decode method_7_code 13 = .ok (.iconst 1, 1) := by decide +kernel
theorem d_Law_delete_14 : decode method_7_code 14 = .ok (.ireturn, 1) := by decide +kernel
theorem d_Law_delete_15 : decode method_7_code 15 = .ok (.iconst 0, 1) := by decide +kernel
theorem d_Law_delete_16 : decode method_7_code 16 = .ok (.ireturn, 1) := by decide +kernel
abbrev m_Law_begin : xw_M := (⟨"PhraseShelfLaw", "begin", "(LPhraseShelf;)I"⟩, method_8_code, 2, (Option.some Jvm.ClassFile.FieldType.int), [(0, 4, 7, 36)])
theorem d_Law_begin_0 : decode method_8_code 0 = .ok (.aload_n 0, 1) := by decide +kernel
theorem d_Law_begin_1 : decode method_8_code 1 = .ok (.invokevirtual 33, 3) := by decide +kernel
theorem d_Law_begin_4 : decode method_8_code 4 = .ok (.goto 6, 3) := by decide +kernel
theorem d_Law_begin_7 : decode method_8_code 7 = .ok (.astore_n 1, 1) := by decide +kernel
theorem d_Law_begin_8 : decode method_8_code 8 = .ok (.iconst 1, 1) := by decide +kernel
theorem d_Law_begin_9 : decode method_8_code 9 = .ok (.ireturn, 1) := by decide +kernel
theorem d_Law_begin_10 : decode method_8_code 10 = .ok (.iconst 0, 1) := by decide +kernel
theorem d_Law_begin_11 : decode method_8_code 11 = .ok (.ireturn, 1) := by decide +kernel
abbrev m_Law_commit : xw_M := (⟨"PhraseShelfLaw", "commit", "(LPhraseShelf;[J)I"⟩, method_9_code, 3, (Option.some Jvm.ClassFile.FieldType.int), [(0, 8, 11, 36)])
theorem d_Law_commit_0 : decode method_9_code 0 = .ok (.aload_n 1, 1) := by decide +kernel
theorem d_Law_commit_1 : decode method_9_code 1 = .ok (.iconst 0, 1) := by decide +kernel
theorem d_Law_commit_2 : decode method_9_code 2 = .ok (.aload_n 0, 1) := by decide +kernel
theorem d_Law_commit_3 : decode method_9_code 3 = .ok (.invokevirtual 38, 3) := by decide +kernel
theorem d_Law_commit_6 : decode method_9_code 6 = .ok (.i2l, 1) := by decide +kernel
theorem d_Law_commit_7 : decode method_9_code 7 = .ok (.lastore, 1) := by decide +kernel
theorem d_Law_commit_8 : decode method_9_code 8 = .ok (.goto 6, 3) := by decide +kernel
theorem d_Law_commit_11 : decode method_9_code 11 = .ok (.astore_n 2, 1) := by decide +kernel
theorem d_Law_commit_12 : decode method_9_code 12 = .ok (.iconst 1, 1) := by decide +kernel
theorem d_Law_commit_13 : decode method_9_code 13 = .ok (.ireturn, 1) := by decide +kernel
theorem d_Law_commit_14 : decode method_9_code 14 = .ok (.iconst 0, 1) := by decide +kernel
theorem d_Law_commit_15 : decode method_9_code 15 = .ok (.ireturn, 1) := by decide +kernel
abbrev m_Law_rollback : xw_M := (⟨"PhraseShelfLaw", "rollback", "(LPhraseShelf;[J)I"⟩, method_10_code, 3, (Option.some Jvm.ClassFile.FieldType.int), [(0, 8, 11, 36)])
theorem d_Law_rollback_0 : decode method_10_code 0 = .ok (.aload_n 1, 1) := by decide +kernel
theorem d_Law_rollback_1 : decode method_10_code 1 = .ok (.iconst 0, 1) := by decide +kernel
theorem d_Law_rollback_2 : decode method_10_code 2 = .ok (.aload_n 0, 1) := by decide +kernel
theorem d_Law_rollback_3 : decode method_10_code 3 = .ok (.invokevirtual 41, 3) := by decide +kernel
theorem d_Law_rollback_6 : decode method_10_code 6 = .ok (.i2l, 1) := by decide +kernel
theorem d_Law_rollback_7 : decode method_10_code 7 = .ok (.lastore, 1) := by decide +kernel
theorem d_Law_rollback_8 : decode method_10_code 8 = .ok (.goto 6, 3) := by decide +kernel
theorem d_Law_rollback_11 : decode method_10_code 11 = .ok (.astore_n 2, 1) := by decide +kernel
theorem d_Law_rollback_12 : decode method_10_code 12 = .ok (.iconst 1, 1) := by decide +kernel
theorem d_Law_rollback_13 : decode method_10_code 13 = .ok (.ireturn, 1) := by decide +kernel
theorem d_Law_rollback_14 : decode method_10_code 14 = .ok (.iconst 0, 1) := by decide +kernel
theorem d_Law_rollback_15 : decode method_10_code 15 = .ok (.ireturn, 1) := by decide +kernel
abbrev m_Law_ways : xw_M := (⟨"PhraseShelfLaw", "ways", "(LPhraseShelf;II)I"⟩, method_11_code, 4, (Option.some Jvm.ClassFile.FieldType.int), [(0, 6, 9, 13)])
theorem d_Law_ways_0 : decode method_11_code 0 = .ok (.aload_n 0, 1) := by decide +kernel
theorem d_Law_ways_1 : decode method_11_code 1 = .ok (.iload_n 1, 1) := by decide +kernel
theorem d_Law_ways_2 : decode method_11_code 2 = .ok (.iload_n 2, 1) := by decide +kernel
theorem d_Law_ways_3 : decode method_11_code 3 = .ok (.invokevirtual 44, 3) := by decide +kernel
theorem d_Law_ways_6 : decode method_11_code 6 = .ok (.goto 6, 3) := by decide +kernel
theorem d_Law_ways_9 : decode method_11_code 9 = .ok (.astore_n 3, 1) := by decide +kernel
theorem d_Law_ways_10 : decode method_11_code 10 = .ok (.iconst 1, 1) := by decide +kernel
theorem d_Law_ways_11 : decode method_11_code 11 = .ok (.ireturn, 1) := by decide +kernel
theorem d_Law_ways_12 : decode method_11_code 12 = .ok (.iconst 0, 1) := by decide +kernel
theorem d_Law_ways_13 : decode method_11_code 13 = .ok (.ireturn, 1) := by decide +kernel
abbrev m_Law_weight : xw_M := (⟨"PhraseShelfLaw", "weight", "(LPhraseShelf;II[J)I"⟩, method_12_code, 5, (Option.some Jvm.ClassFile.FieldType.int), [(0, 10, 13, 13)])
theorem d_Law_weight_0 : decode method_12_code 0 = .ok (.aload_n 3, 1) := by decide +kernel
theorem d_Law_weight_1 : decode method_12_code 1 = .ok (.iconst 0, 1) := by decide +kernel
theorem d_Law_weight_2 : decode method_12_code 2 = .ok (.aload_n 0, 1) := by decide +kernel
theorem d_Law_weight_3 : decode method_12_code 3 = .ok (.iload_n 1, 1) := by decide +kernel
theorem d_Law_weight_4 : decode method_12_code 4 = .ok (.iload_n 2, 1) := by decide +kernel
theorem d_Law_weight_5 : decode method_12_code 5 = .ok (.invokevirtual 48, 3) := by decide +kernel
theorem d_Law_weight_8 : decode method_12_code 8 = .ok (.i2l, 1) := by decide +kernel
theorem d_Law_weight_9 : decode method_12_code 9 = .ok (.lastore, 1) := by decide +kernel
theorem d_Law_weight_10 : decode method_12_code 10 = .ok (.goto 7, 3) := by decide +kernel
theorem d_Law_weight_13 : decode method_12_code 13 = .ok (.astore 4, 2) := by decide +kernel
theorem d_Law_weight_15 : decode method_12_code 15 = .ok (.iconst 1, 1) := by decide +kernel
theorem d_Law_weight_16 : decode method_12_code 16 = .ok (.ireturn, 1) := by decide +kernel
theorem d_Law_weight_17 : decode method_12_code 17 = .ok (.iconst 0, 1) := by decide +kernel
theorem d_Law_weight_18 : decode method_12_code 18 = .ok (.ireturn, 1) := by decide +kernel
abbrev m_Law_ask : xw_M := (⟨"PhraseShelfLaw", "ask", "(LPhraseShelf;[J)I"⟩, method_13_code, 3, (Option.some Jvm.ClassFile.FieldType.int), [(0, 8, 11, 13)])
theorem d_Law_ask_0 : decode method_13_code 0 = .ok (.aload_n 1, 1) := by decide +kernel
theorem d_Law_ask_1 : decode method_13_code 1 = .ok (.iconst 0, 1) := by decide +kernel
theorem d_Law_ask_2 : decode method_13_code 2 = .ok (.aload_n 0, 1) := by decide +kernel
theorem d_Law_ask_3 : decode method_13_code 3 = .ok (.invokevirtual 52, 3) := by decide +kernel
theorem d_Law_ask_6 : decode method_13_code 6 = .ok (.i2l, 1) := by decide +kernel
theorem d_Law_ask_7 : decode method_13_code 7 = .ok (.lastore, 1) := by decide +kernel
theorem d_Law_ask_8 : decode method_13_code 8 = .ok (.goto 6, 3) := by decide +kernel
theorem d_Law_ask_11 : decode method_13_code 11 = .ok (.astore_n 2, 1) := by decide +kernel
theorem d_Law_ask_12 : decode method_13_code 12 = .ok (.iconst 1, 1) := by decide +kernel
theorem d_Law_ask_13 : decode method_13_code 13 = .ok (.ireturn, 1) := by decide +kernel
theorem d_Law_ask_14 : decode method_13_code 14 = .ok (.iconst 0, 1) := by decide +kernel
theorem d_Law_ask_15 : decode method_13_code 15 = .ok (.ireturn, 1) := by decide +kernel
abbrev m_Law_answer : xw_M := (⟨"PhraseShelfLaw", "answer", "(LPhraseShelf;IZ[J)I"⟩, method_14_code, 5, (Option.some Jvm.ClassFile.FieldType.int), [(0, 10, 13, 15)])
theorem d_Law_answer_0 : decode method_14_code 0 = .ok (.aload_n 3, 1) := by decide +kernel
theorem d_Law_answer_1 : decode method_14_code 1 = .ok (.iconst 0, 1) := by decide +kernel
theorem d_Law_answer_2 : decode method_14_code 2 = .ok (.aload_n 0, 1) := by decide +kernel
theorem d_Law_answer_3 : decode method_14_code 3 = .ok (.iload_n 1, 1) := by decide +kernel
theorem d_Law_answer_4 : decode method_14_code 4 = .ok (.iload_n 2, 1) := by decide +kernel
theorem d_Law_answer_5 : decode method_14_code 5 = .ok (.invokevirtual 55, 3) := by decide +kernel
theorem d_Law_answer_8 : decode method_14_code 8 = .ok (.i2l, 1) := by decide +kernel
theorem d_Law_answer_9 : decode method_14_code 9 = .ok (.lastore, 1) := by decide +kernel
theorem d_Law_answer_10 : decode method_14_code 10 = .ok (.goto 7, 3) := by decide +kernel
theorem d_Law_answer_13 : decode method_14_code 13 = .ok (.astore 4, 2) := by decide +kernel
theorem d_Law_answer_15 : decode method_14_code 15 = .ok (.iconst 1, 1) := by decide +kernel
theorem d_Law_answer_16 : decode method_14_code 16 = .ok (.ireturn, 1) := by decide +kernel
theorem d_Law_answer_17 : decode method_14_code 17 = .ok (.iconst 0, 1) := by decide +kernel
theorem d_Law_answer_18 : decode method_14_code 18 = .ok (.ireturn, 1) := by decide +kernel
abbrev m_Law_score : xw_M := (⟨"PhraseShelfLaw", "score", "(LPhraseShelf;IZ[D)I"⟩, method_15_code, 5, (Option.some Jvm.ClassFile.FieldType.int), [(0, 9, 12, 15)])
theorem d_Law_score_0 : decode method_15_code 0 = .ok (.aload_n 3, 1) := by decide +kernel
theorem d_Law_score_1 : decode method_15_code 1 = .ok (.iconst 0, 1) := by decide +kernel
theorem d_Law_score_2 : decode method_15_code 2 = .ok (.aload_n 0, 1) := by decide +kernel
theorem d_Law_score_3 : decode method_15_code 3 = .ok (.iload_n 1, 1) := by decide +kernel
theorem d_Law_score_4 : decode method_15_code 4 = .ok (.iload_n 2, 1) := by decide +kernel
theorem d_Law_score_5 : decode method_15_code 5 = .ok (.invokevirtual 59, 3) := by decide +kernel
theorem d_Law_score_8 : decode method_15_code 8 = .ok (.dastore, 1) := by decide +kernel
theorem d_Law_score_9 : decode method_15_code 9 = .ok (.goto 7, 3) := by decide +kernel
theorem d_Law_score_12 : decode method_15_code 12 = .ok (.astore 4, 2) := by decide +kernel
theorem d_Law_score_14 : decode method_15_code 14 = .ok (.iconst 1, 1) := by decide +kernel
theorem d_Law_score_15 : decode method_15_code 15 = .ok (.ireturn, 1) := by decide +kernel
theorem d_Law_score_16 : decode method_15_code 16 = .ok (.iconst 0, 1) := by decide +kernel
theorem d_Law_score_17 : decode method_15_code 17 = .ok (.ireturn, 1) := by decide +kernel
abbrev m_Law_look : xw_M := (⟨"PhraseShelfLaw", "look", "(LPhraseShelf;II[J)I"⟩, method_16_code, 5, (Option.some Jvm.ClassFile.FieldType.int), [(0, 10, 13, 28), (0, 10, 17, 13)])
theorem d_Law_look_0 : decode method_16_code 0 = .ok (.aload_n 3, 1) := by decide +kernel
theorem d_Law_look_1 : decode method_16_code 1 = .ok (.iconst 0, 1) := by decide +kernel
theorem d_Law_look_2 : decode method_16_code 2 = .ok (.aload_n 0, 1) := by decide +kernel
theorem d_Law_look_3 : decode method_16_code 3 = .ok (.iload_n 1, 1) := by decide +kernel
theorem d_Law_look_4 : decode method_16_code 4 = .ok (.iload_n 2, 1) := by decide +kernel
theorem d_Law_look_5 : decode method_16_code 5 = .ok (.invokevirtual 63, 3) := by decide +kernel
theorem d_Law_look_8 : decode method_16_code 8 = .ok (.i2l, 1) := by decide +kernel
theorem d_Law_look_9 : decode method_16_code 9 = .ok (.lastore, 1) := by decide +kernel
theorem d_Law_look_10 : decode method_16_code 10 = .ok (.goto 11, 3) := by decide +kernel
theorem d_Law_look_13 : decode method_16_code 13 = .ok (.astore 4, 2) := by decide +kernel
theorem d_Law_look_15 : decode method_16_code 15 = .ok (.iconst 1, 1) := by decide +kernel
theorem d_Law_look_16 : decode method_16_code 16 = .ok (.ireturn, 1) := by decide +kernel
theorem d_Law_look_17 : decode method_16_code 17 = .ok (.astore 4, 2) := by decide +kernel
theorem d_Law_look_19 : decode method_16_code 19 = .ok (.iconst 2, 1) := by decide +kernel
theorem d_Law_look_20 : decode method_16_code 20 = .ok (.ireturn, 1) := by decide +kernel
theorem d_Law_look_21 : decode method_16_code 21 = .ok (.iconst 0, 1) := by decide +kernel
theorem d_Law_look_22 : decode method_16_code 22 = .ok (.ireturn, 1) := by decide +kernel
abbrev m_Law_segment : xw_M := (⟨"PhraseShelfLaw", "segment", "(LPhraseShelf;II[J)I"⟩, method_17_code, 5, (Option.some Jvm.ClassFile.FieldType.int), [(0, 10, 13, 15), (0, 10, 17, 13)])
theorem d_Law_segment_0 : decode method_17_code 0 = .ok (.aload_n 3, 1) := by decide +kernel
theorem d_Law_segment_1 : decode method_17_code 1 = .ok (.iconst 0, 1) := by decide +kernel
theorem d_Law_segment_2 : decode method_17_code 2 = .ok (.aload_n 0, 1) := by decide +kernel
theorem d_Law_segment_3 : decode method_17_code 3 = .ok (.iload_n 1, 1) := by decide +kernel
theorem d_Law_segment_4 : decode method_17_code 4 = .ok (.iload_n 2, 1) := by decide +kernel
theorem d_Law_segment_5 : decode method_17_code 5 = .ok (.invokevirtual 66, 3) := by decide +kernel
theorem d_Law_segment_8 : decode method_17_code 8 = .ok (.i2l, 1) := by decide +kernel
theorem d_Law_segment_9 : decode method_17_code 9 = .ok (.lastore, 1) := by decide +kernel
theorem d_Law_segment_10 : decode method_17_code 10 = .ok (.goto 11, 3) := by decide +kernel
theorem d_Law_segment_13 : decode method_17_code 13 = .ok (.astore 4, 2) := by decide +kernel
theorem d_Law_segment_15 : decode method_17_code 15 = .ok (.iconst 1, 1) := by decide +kernel
theorem d_Law_segment_16 : decode method_17_code 16 = .ok (.ireturn, 1) := by decide +kernel
theorem d_Law_segment_17 : decode method_17_code 17 = .ok (.astore 4, 2) := by decide +kernel
theorem d_Law_segment_19 : decode method_17_code 19 = .ok (.iconst 2, 1) := by decide +kernel
theorem d_Law_segment_20 : decode method_17_code 20 = .ok (.ireturn, 1) := by decide +kernel
theorem d_Law_segment_21 : decode method_17_code 21 = .ok (.iconst 0, 1) := by decide +kernel
theorem d_Law_segment_22 : decode method_17_code 22 = .ok (.ireturn, 1) := by decide +kernel
abbrev m_Law_count : xw_M := (⟨"PhraseShelfLaw", "count", "(LPhraseShelf;I[J)I"⟩, method_18_code, 4, (Option.some Jvm.ClassFile.FieldType.int), [(0, 9, 12, 13)])
theorem d_Law_count_0 : decode method_18_code 0 = .ok (.aload_n 2, 1) := by decide +kernel
theorem d_Law_count_1 : decode method_18_code 1 = .ok (.iconst 0, 1) := by decide +kernel
theorem d_Law_count_2 : decode method_18_code 2 = .ok (.aload_n 0, 1) := by decide +kernel
theorem d_Law_count_3 : decode method_18_code 3 = .ok (.iload_n 1, 1) := by decide +kernel
theorem d_Law_count_4 : decode method_18_code 4 = .ok (.invokevirtual 69, 3) := by decide +kernel
theorem d_Law_count_7 : decode method_18_code 7 = .ok (.i2l, 1) := by decide +kernel
theorem d_Law_count_8 : decode method_18_code 8 = .ok (.lastore, 1) := by decide +kernel
theorem d_Law_count_9 : decode method_18_code 9 = .ok (.goto 6, 3) := by decide +kernel
theorem d_Law_count_12 : decode method_18_code 12 = .ok (.astore_n 3, 1) := by decide +kernel
theorem d_Law_count_13 : decode method_18_code 13 = .ok (.iconst 1, 1) := by decide +kernel
theorem d_Law_count_14 : decode method_18_code 14 = .ok (.ireturn, 1) := by decide +kernel
theorem d_Law_count_15 : decode method_18_code 15 = .ok (.iconst 0, 1) := by decide +kernel
theorem d_Law_count_16 : decode method_18_code 16 = .ok (.ireturn, 1) := by decide +kernel
theorem d_Law_law_0 : decode code 0 = .ok (.new 8, 3) := by decide +kernel
theorem d_Law_law_3 : decode code 3 = .ok (.dup, 1) := by decide +kernel
theorem d_Law_law_4 : decode code 4 = .ok (.invokespecial 72, 3) := by decide +kernel
theorem d_Law_law_7 : decode code 7 = .ok (.astore_n 1, 1) := by decide +kernel
theorem d_Law_law_8 : decode code 8 = .ok (.new 73, 3) := by decide +kernel
theorem d_Law_law_11 : decode code 11 = .ok (.dup, 1) := by decide +kernel
theorem d_Law_law_12 : decode code 12 = .ok (.invokespecial 75, 3) := by decide +kernel
theorem d_Law_law_15 : decode code 15 = .ok (.astore_n 2, 1) := by decide +kernel
theorem d_Law_law_16 : decode code 16 = .ok (.iconst 1, 1) := by decide +kernel
theorem d_Law_law_17 : decode code 17 = .ok (.newarray .long, 2) := by decide +kernel
theorem d_Law_law_19 : decode code 19 = .ok (.astore_n 3, 1) := by decide +kernel
theorem d_Law_law_20 : decode code 20 = .ok (.iconst 1, 1) := by decide +kernel
theorem d_Law_law_21 : decode code 21 = .ok (.newarray .double, 2) := by decide +kernel
theorem d_Law_law_23 : decode code 23 = .ok (.astore 4, 2) := by decide +kernel
theorem d_Law_law_25 : decode code 25 = .ok (.iconst 0, 1) := by decide +kernel
theorem d_Law_law_26 : decode code 26 = .ok (.istore 5, 2) := by decide +kernel
theorem d_Law_law_28 : decode code 28 = .ok (.iload 5, 2) := by decide +kernel
theorem d_Law_law_30 : decode code 30 = .ok (.aload_n 0, 1) := by decide +kernel
theorem d_Law_law_31 : decode code 31 = .ok (.arraylength, 1) := by decide +kernel
theorem d_Law_law_32 : decode code 32 = .ok (.iconst 3, 1) := by decide +kernel
theorem d_Law_law_33 : decode code 33 = .ok (.isub, 1) := by decide +kernel
theorem d_Law_law_34 : decode code 34 = .ok (.if_icmp .gt 683, 3) := by decide +kernel
theorem d_Law_law_37 : decode code 37 = .ok (.aload_n 0, 1) := by decide +kernel
theorem d_Law_law_38 : decode code 38 = .ok (.iload 5, 2) := by decide +kernel
theorem d_Law_law_40 : decode code 40 = .ok (.iaload, 1) := by decide +kernel
theorem d_Law_law_41 : decode code 41 = .ok (.bipush 31, 2) := by decide +kernel
theorem d_Law_law_43 : decode code 43 = .ok (.iand, 1) := by decide +kernel
theorem d_Law_law_44 : decode code 44 = .ok (.tableswitch 667 0 19 #[96, 156, 169, 197, 213, 241, 269, 282, 298, 314, 327, 340, 377, 417, 433, 446, 502, 559, 599, 639], 96) := by decide +kernel
theorem d_Law_law_140 : decode code 140 = .ok (.aload_n 1, 1) := by decide +kernel
theorem d_Law_law_141 : decode code 141 = .ok (.aload_n 0, 1) := by decide +kernel
theorem d_Law_law_142 : decode code 142 = .ok (.iload 5, 2) := by decide +kernel
theorem d_Law_law_144 : decode code 144 = .ok (.iconst 1, 1) := by decide +kernel
theorem d_Law_law_145 : decode code 145 = .ok (.iadd, 1) := by decide +kernel
theorem d_Law_law_146 : decode code 146 = .ok (.iaload, 1) := by decide +kernel
theorem d_Law_law_147 : decode code 147 = .ok (.i2l, 1) := by decide +kernel
theorem d_Law_law_148 : decode code 148 = .ok (.bipush 32, 2) := by decide +kernel
theorem d_Law_law_150 : decode code 150 = .ok (.lshl, 1) := by decide +kernel
theorem d_Law_law_151 : decode code 151 = .ok (.aload_n 0, 1) := by decide +kernel
theorem d_Law_law_152 : decode code 152 = .ok (.iload 5, 2) := by decide +kernel
theorem d_Law_law_154 : decode code 154 = .ok (.iconst 2, 1) := by decide +kernel
theorem d_Law_law_155 : decode code 155 = .ok (.iadd, 1) := by decide +kernel
theorem d_Law_law_156 : decode code 156 = .ok (.iaload, 1) := by decide +kernel
theorem d_Law_law_157 : decode code 157 = .ok (.i2l, 1) := by decide +kernel
theorem d_Law_law_158 : decode code 158 = .ok (.ldc2_w 76, 3) := by decide +kernel
theorem d_Law_law_161 : decode code 161 = .ok (.land, 1) := by decide +kernel
theorem d_Law_law_162 : decode code 162 = .ok (.lor, 1) := by decide +kernel
theorem d_Law_law_163 : decode code 163 = .ok (.aload_n 3, 1) := by decide +kernel
theorem d_Law_law_164 : decode code 164 = .ok (.invokestatic 78, 3) := by decide +kernel
theorem d_Law_law_167 : decode code 167 = .ok (.istore 6, 2) := by decide +kernel
theorem d_Law_law_169 : decode code 169 = .ok (.aload_n 2, 1) := by decide +kernel
theorem d_Law_law_170 : decode code 170 = .ok (.aload_n 0, 1) := by decide +kernel
theorem d_Law_law_171 : decode code 171 = .ok (.iload 5, 2) := by decide +kernel
theorem d_Law_law_173 : decode code 173 = .ok (.iconst 1, 1) := by decide +kernel
theorem d_Law_law_174 : decode code 174 = .ok (.iadd, 1) := by decide +kernel
theorem d_Law_law_175 : decode code 175 = .ok (.iaload, 1) := by decide +kernel
theorem d_Law_law_176 : decode code 176 = .ok (.i2l, 1) := by decide +kernel
theorem d_Law_law_177 : decode code 177 = .ok (.bipush 32, 2) := by decide +kernel
theorem d_Law_law_179 : decode code 179 = .ok (.lshl, 1) := by decide +kernel
theorem d_Law_law_180 : decode code 180 = .ok (.aload_n 0, 1) := by decide +kernel
theorem d_Law_law_181 : decode code 181 = .ok (.iload 5, 2) := by decide +kernel
theorem d_Law_law_183 : decode code 183 = .ok (.iconst 2, 1) := by decide +kernel
theorem d_Law_law_184 : decode code 184 = .ok (.iadd, 1) := by decide +kernel
theorem d_Law_law_185 : decode code 185 = .ok (.iaload, 1) := by decide +kernel
theorem d_Law_law_186 : decode code 186 = .ok (.i2l, 1) := by decide +kernel
theorem d_Law_law_187 : decode code 187 = .ok (.ldc2_w 76, 3) := by decide +kernel
theorem d_Law_law_190 : decode code 190 = .ok (.land, 1) := by decide +kernel
theorem d_Law_law_191 : decode code 191 = .ok (.lor, 1) := by decide +kernel
theorem d_Law_law_192 : decode code 192 = .ok (.invokevirtual 83, 3) := by decide +kernel
theorem d_Law_law_195 : decode code 195 = .ok (.istore 7, 2) := by decide +kernel
theorem d_Law_law_197 : decode code 197 = .ok (.goto 514, 3) := by decide +kernel
theorem d_Law_law_200 : decode code 200 = .ok (.aload_n 1, 1) := by decide +kernel
theorem d_Law_law_201 : decode code 201 = .ok (.invokevirtual 84, 3) := by decide +kernel
theorem d_Law_law_204 : decode code 204 = .ok (.aload_n 2, 1) := by decide +kernel
theorem d_Law_law_205 : decode code 205 = .ok (.invokevirtual 87, 3) := by decide +kernel
theorem d_Law_law_208 : decode code 208 = .ok (.if_icmp .eq 503, 3) := by decide +kernel
theorem d_Law_law_211 : decode code 211 = .ok (.iconst 0, 1) := by decide +kernel
theorem d_Law_law_212 : decode code 212 = .ok (.ireturn, 1) := by decide +kernel
theorem d_Law_law_213 : decode code 213 = .ok (.aload_n 1, 1) := by decide +kernel
theorem d_Law_law_214 : decode code 214 = .ok (.aload_n 0, 1) := by decide +kernel
theorem d_Law_law_215 : decode code 215 = .ok (.iload 5, 2) := by decide +kernel
theorem d_Law_law_217 : decode code 217 = .ok (.iconst 1, 1) := by decide +kernel
theorem d_Law_law_218 : decode code 218 = .ok (.iadd, 1) := by decide +kernel
theorem d_Law_law_219 : decode code 219 = .ok (.iaload, 1) := by decide +kernel
theorem d_Law_law_220 : decode code 220 = .ok (.aload_n 3, 1) := by decide +kernel
theorem d_Law_law_221 : decode code 221 = .ok (.invokestatic 88, 3) := by decide +kernel
theorem d_Law_law_224 : decode code 224 = .ok (.istore 6, 2) := by decide +kernel
theorem d_Law_law_226 : decode code 226 = .ok (.aload_n 2, 1) := by decide +kernel
theorem d_Law_law_227 : decode code 227 = .ok (.aload_n 0, 1) := by decide +kernel
theorem d_Law_law_228 : decode code 228 = .ok (.iload 5, 2) := by decide +kernel
theorem d_Law_law_230 : decode code 230 = .ok (.iconst 1, 1) := by decide +kernel
theorem d_Law_law_231 : decode code 231 = .ok (.iadd, 1) := by decide +kernel
theorem d_Law_law_232 : decode code 232 = .ok (.iaload, 1) := by decide +kernel
theorem d_Law_law_233 : decode code 233 = .ok (.invokevirtual 91, 3) := by decide +kernel
theorem d_Law_law_236 : decode code 236 = .ok (.istore 7, 2) := by decide +kernel
theorem d_Law_law_238 : decode code 238 = .ok (.goto 473, 3) := by decide +kernel
theorem d_Law_law_241 : decode code 241 = .ok (.aload_n 1, 1) := by decide +kernel
theorem d_Law_law_242 : decode code 242 = .ok (.aload_n 3, 1) := by decide +kernel
theorem d_Law_law_243 : decode code 243 = .ok (.invokestatic 92, 3) := by decide +kernel
theorem d_Law_law_246 : decode code 246 = .ok (.istore 6, 2) := by decide +kernel
theorem d_Law_law_248 : decode code 248 = .ok (.aload_n 2, 1) := by decide +kernel
theorem d_Law_law_249 : decode code 249 = .ok (.invokevirtual 95, 3) := by decide +kernel
theorem d_Law_law_252 : decode code 252 = .ok (.istore 7, 2) := by decide +kernel
theorem d_Law_law_254 : decode code 254 = .ok (.goto 457, 3) := by decide +kernel
theorem d_Law_law_257 : decode code 257 = .ok (.aload_n 1, 1) := by decide +kernel
theorem d_Law_law_258 : decode code 258 = .ok (.aload_n 0, 1) := by decide +kernel
theorem d_Law_law_259 : decode code 259 = .ok (.iload 5, 2) := by decide +kernel
theorem d_Law_law_261 : decode code 261 = .ok (.iconst 1, 1) := by decide +kernel
theorem d_Law_law_262 : decode code 262 = .ok (.iadd, 1) := by decide +kernel
theorem d_Law_law_263 : decode code 263 = .ok (.iaload, 1) := by decide +kernel
theorem d_Law_law_264 : decode code 264 = .ok (.aload_n 3, 1) := by decide +kernel
theorem d_Law_law_265 : decode code 265 = .ok (.invokestatic 96, 3) := by decide +kernel
theorem d_Law_law_268 : decode code 268 = .ok (.istore 6, 2) := by decide +kernel
theorem d_Law_law_270 : decode code 270 = .ok (.aload_n 2, 1) := by decide +kernel
theorem d_Law_law_271 : decode code 271 = .ok (.aload_n 0, 1) := by decide +kernel
theorem d_Law_law_272 : decode code 272 = .ok (.iload 5, 2) := by decide +kernel
theorem d_Law_law_274 : decode code 274 = .ok (.iconst 1, 1) := by decide +kernel
theorem d_Law_law_275 : decode code 275 = .ok (.iadd, 1) := by decide +kernel
theorem d_Law_law_276 : decode code 276 = .ok (.iaload, 1) := by decide +kernel
theorem d_Law_law_277 : decode code 277 = .ok (.invokevirtual 98, 3) := by decide +kernel
theorem d_Law_law_280 : decode code 280 = .ok (.istore 7, 2) := by decide +kernel
theorem d_Law_law_282 : decode code 282 = .ok (.goto 429, 3) := by decide +kernel
theorem d_Law_law_285 : decode code 285 = .ok (.aload_n 1, 1) := by decide +kernel
theorem d_Law_law_286 : decode code 286 = .ok (.aload_n 0, 1) := by decide +kernel
theorem d_Law_law_287 : decode code 287 = .ok (.iload 5, 2) := by decide +kernel
theorem d_Law_law_289 : decode code 289 = .ok (.iconst 1, 1) := by decide +kernel
theorem d_Law_law_290 : decode code 290 = .ok (.iadd, 1) := by decide +kernel
theorem d_Law_law_291 : decode code 291 = .ok (.iaload, 1) := by decide +kernel
theorem d_Law_law_292 : decode code 292 = .ok (.aload_n 3, 1) := by decide +kernel
theorem d_Law_law_293 : decode code 293 = .ok (.invokestatic 99, 3) := by decide +kernel
theorem d_Law_law_296 : decode code 296 = .ok (.istore 6, 2) := by decide +kernel
theorem d_Law_law_298 : decode code 298 = .ok (.aload_n 2, 1) := by decide +kernel
theorem d_Law_law_299 : decode code 299 = .ok (.aload_n 0, 1) := by decide +kernel
theorem d_Law_law_300 : decode code 300 = .ok (.iload 5, 2) := by decide +kernel
theorem d_Law_law_302 : decode code 302 = .ok (.iconst 1, 1) := by decide +kernel
theorem d_Law_law_303 : decode code 303 = .ok (.iadd, 1) := by decide +kernel
theorem d_Law_law_304 : decode code 304 = .ok (.iaload, 1) := by decide +kernel
theorem d_Law_law_305 : decode code 305 = .ok (.invokevirtual 101, 3) := by decide +kernel
theorem d_Law_law_308 : decode code 308 = .ok (.istore 7, 2) := by decide +kernel
theorem d_Law_law_310 : decode code 310 = .ok (.goto 401, 3) := by decide +kernel
theorem d_Law_law_313 : decode code 313 = .ok (.aload_n 1, 1) := by decide +kernel
theorem d_Law_law_314 : decode code 314 = .ok (.invokestatic 102, 3) := by decide +kernel
theorem d_Law_law_317 : decode code 317 = .ok (.istore 6, 2) := by decide +kernel
theorem d_Law_law_319 : decode code 319 = .ok (.aload_n 2, 1) := by decide +kernel
theorem d_Law_law_320 : decode code 320 = .ok (.invokevirtual 105, 3) := by decide +kernel
theorem d_Law_law_323 : decode code 323 = .ok (.goto 388, 3) := by decide +kernel
theorem d_Law_law_326 : decode code 326 = .ok (.aload_n 1, 1) := by decide +kernel
theorem d_Law_law_327 : decode code 327 = .ok (.aload_n 3, 1) := by decide +kernel
theorem d_Law_law_328 : decode code 328 = .ok (.invokestatic 106, 3) := by decide +kernel
theorem d_Law_law_331 : decode code 331 = .ok (.istore 6, 2) := by decide +kernel
theorem d_Law_law_333 : decode code 333 = .ok (.aload_n 2, 1) := by decide +kernel
theorem d_Law_law_334 : decode code 334 = .ok (.invokevirtual 108, 3) := by decide +kernel
theorem d_Law_law_337 : decode code 337 = .ok (.istore 7, 2) := by decide +kernel
theorem d_Law_law_339 : decode code 339 = .ok (.goto 372, 3) := by decide +kernel
theorem d_Law_law_342 : decode code 342 = .ok (.aload_n 1, 1) := by decide +kernel
theorem d_Law_law_343 : decode code 343 = .ok (.aload_n 3, 1) := by decide +kernel
theorem d_Law_law_344 : decode code 344 = .ok (.invokestatic 109, 3) := by decide +kernel
theorem d_Law_law_347 : decode code 347 = .ok (.istore 6, 2) := by decide +kernel
theorem d_Law_law_349 : decode code 349 = .ok (.aload_n 2, 1) := by decide +kernel
theorem d_Law_law_350 : decode code 350 = .ok (.invokevirtual 111, 3) := by decide +kernel
theorem d_Law_law_353 : decode code 353 = .ok (.istore 7, 2) := by decide +kernel
theorem d_Law_law_355 : decode code 355 = .ok (.goto 356, 3) := by decide +kernel
theorem d_Law_law_358 : decode code 358 = .ok (.aload_n 1, 1) := by decide +kernel
theorem d_Law_law_359 : decode code 359 = .ok (.invokevirtual 112, 3) := by decide +kernel
theorem d_Law_law_362 : decode code 362 = .ok (.pop, 1) := by decide +kernel
theorem d_Law_law_363 : decode code 363 = .ok (.aload_n 2, 1) := by decide +kernel
theorem d_Law_law_364 : decode code 364 = .ok (.invokevirtual 115, 3) := by decide +kernel
theorem d_Law_law_367 : decode code 367 = .ok (.pop, 1) := by decide +kernel
theorem d_Law_law_368 : decode code 368 = .ok (.goto 343, 3) := by decide +kernel
theorem d_Law_law_371 : decode code 371 = .ok (.aload_n 1, 1) := by decide +kernel
theorem d_Law_law_372 : decode code 372 = .ok (.invokevirtual 116, 3) := by decide +kernel
theorem d_Law_law_375 : decode code 375 = .ok (.pop, 1) := by decide +kernel
theorem d_Law_law_376 : decode code 376 = .ok (.aload_n 2, 1) := by decide +kernel
theorem d_Law_law_377 : decode code 377 = .ok (.invokevirtual 119, 3) := by decide +kernel
theorem d_Law_law_380 : decode code 380 = .ok (.pop, 1) := by decide +kernel
theorem d_Law_law_381 : decode code 381 = .ok (.goto 330, 3) := by decide +kernel
theorem d_Law_law_384 : decode code 384 = .ok (.aload_n 1, 1) := by decide +kernel
theorem d_Law_law_385 : decode code 385 = .ok (.aload_n 0, 1) := by decide +kernel
theorem d_Law_law_386 : decode code 386 = .ok (.iload 5, 2) := by decide +kernel
theorem d_Law_law_388 : decode code 388 = .ok (.iconst 1, 1) := by decide +kernel
theorem d_Law_law_389 : decode code 389 = .ok (.iadd, 1) := by decide +kernel
theorem d_Law_law_390 : decode code 390 = .ok (.iaload, 1) := by decide +kernel
theorem d_Law_law_391 : decode code 391 = .ok (.aload_n 0, 1) := by decide +kernel
theorem d_Law_law_392 : decode code 392 = .ok (.iload 5, 2) := by decide +kernel
theorem d_Law_law_394 : decode code 394 = .ok (.iconst 2, 1) := by decide +kernel
theorem d_Law_law_395 : decode code 395 = .ok (.iadd, 1) := by decide +kernel
theorem d_Law_law_396 : decode code 396 = .ok (.iaload, 1) := by decide +kernel
theorem d_Law_law_397 : decode code 397 = .ok (.invokestatic 120, 3) := by decide +kernel
theorem d_Law_law_400 : decode code 400 = .ok (.istore 6, 2) := by decide +kernel
theorem d_Law_law_402 : decode code 402 = .ok (.aload_n 2, 1) := by decide +kernel
theorem d_Law_law_403 : decode code 403 = .ok (.aload_n 0, 1) := by decide +kernel
theorem d_Law_law_404 : decode code 404 = .ok (.iload 5, 2) := by decide +kernel
theorem d_Law_law_406 : decode code 406 = .ok (.iconst 1, 1) := by decide +kernel
theorem d_Law_law_407 : decode code 407 = .ok (.iadd, 1) := by decide +kernel
theorem d_Law_law_408 : decode code 408 = .ok (.iaload, 1) := by decide +kernel
theorem d_Law_law_409 : decode code 409 = .ok (.aload_n 0, 1) := by decide +kernel
theorem d_Law_law_410 : decode code 410 = .ok (.iload 5, 2) := by decide +kernel
theorem d_Law_law_412 : decode code 412 = .ok (.iconst 2, 1) := by decide +kernel
theorem d_Law_law_413 : decode code 413 = .ok (.iadd, 1) := by decide +kernel
theorem d_Law_law_414 : decode code 414 = .ok (.iaload, 1) := by decide +kernel
theorem d_Law_law_415 : decode code 415 = .ok (.invokevirtual 123, 3) := by decide +kernel
theorem d_Law_law_418 : decode code 418 = .ok (.goto 293, 3) := by decide +kernel
theorem d_Law_law_421 : decode code 421 = .ok (.aload_n 1, 1) := by decide +kernel
theorem d_Law_law_422 : decode code 422 = .ok (.aload_n 0, 1) := by decide +kernel
theorem d_Law_law_423 : decode code 423 = .ok (.iload 5, 2) := by decide +kernel
theorem d_Law_law_425 : decode code 425 = .ok (.iconst 1, 1) := by decide +kernel
theorem d_Law_law_426 : decode code 426 = .ok (.iadd, 1) := by decide +kernel
theorem d_Law_law_427 : decode code 427 = .ok (.iaload, 1) := by decide +kernel
theorem d_Law_law_428 : decode code 428 = .ok (.aload_n 0, 1) := by decide +kernel
theorem d_Law_law_429 : decode code 429 = .ok (.iload 5, 2) := by decide +kernel
theorem d_Law_law_431 : decode code 431 = .ok (.iconst 2, 1) := by decide +kernel
theorem d_Law_law_432 : decode code 432 = .ok (.iadd, 1) := by decide +kernel
theorem d_Law_law_433 : decode code 433 = .ok (.iaload, 1) := by decide +kernel
theorem d_Law_law_434 : decode code 434 = .ok (.aload_n 3, 1) := by decide +kernel
theorem d_Law_law_435 : decode code 435 = .ok (.invokestatic 124, 3) := by decide +kernel
theorem d_Law_law_438 : decode code 438 = .ok (.istore 6, 2) := by decide +kernel
theorem d_Law_law_440 : decode code 440 = .ok (.aload_n 2, 1) := by decide +kernel
theorem d_Law_law_441 : decode code 441 = .ok (.aload_n 0, 1) := by decide +kernel
theorem d_Law_law_442 : decode code 442 = .ok (.iload 5, 2) := by decide +kernel
theorem d_Law_law_444 : decode code 444 = .ok (.iconst 1, 1) := by decide +kernel
theorem d_Law_law_445 : decode code 445 = .ok (.iadd, 1) := by decide +kernel
theorem d_Law_law_446 : decode code 446 = .ok (.iaload, 1) := by decide +kernel
theorem d_Law_law_447 : decode code 447 = .ok (.aload_n 0, 1) := by decide +kernel
theorem d_Law_law_448 : decode code 448 = .ok (.iload 5, 2) := by decide +kernel
theorem d_Law_law_450 : decode code 450 = .ok (.iconst 2, 1) := by decide +kernel
theorem d_Law_law_451 : decode code 451 = .ok (.iadd, 1) := by decide +kernel
theorem d_Law_law_452 : decode code 452 = .ok (.iaload, 1) := by decide +kernel
theorem d_Law_law_453 : decode code 453 = .ok (.invokevirtual 127, 3) := by decide +kernel
theorem d_Law_law_456 : decode code 456 = .ok (.istore 7, 2) := by decide +kernel
theorem d_Law_law_458 : decode code 458 = .ok (.goto 253, 3) := by decide +kernel
theorem d_Law_law_461 : decode code 461 = .ok (.aload_n 1, 1) := by decide +kernel
theorem d_Law_law_462 : decode code 462 = .ok (.aload_n 3, 1) := by decide +kernel
theorem d_Law_law_463 : decode code 463 = .ok (.invokestatic 128, 3) := by decide +kernel
theorem d_Law_law_466 : decode code 466 = .ok (.istore 6, 2) := by decide +kernel
theorem d_Law_law_468 : decode code 468 = .ok (.aload_n 2, 1) := by decide +kernel
theorem d_Law_law_469 : decode code 469 = .ok (.invokevirtual 130, 3) := by decide +kernel
theorem d_Law_law_472 : decode code 472 = .ok (.istore 7, 2) := by decide +kernel
theorem d_Law_law_474 : decode code 474 = .ok (.goto 237, 3) := by decide +kernel
theorem d_Law_law_477 : decode code 477 = .ok (.aload_n 1, 1) := by decide +kernel
theorem d_Law_law_478 : decode code 478 = .ok (.invokevirtual 131, 3) := by decide +kernel
theorem d_Law_law_481 : decode code 481 = .ok (.pop, 1) := by decide +kernel
theorem d_Law_law_482 : decode code 482 = .ok (.aload_n 2, 1) := by decide +kernel
theorem d_Law_law_483 : decode code 483 = .ok (.invokevirtual 134, 3) := by decide +kernel
theorem d_Law_law_486 : decode code 486 = .ok (.pop, 1) := by decide +kernel
theorem d_Law_law_487 : decode code 487 = .ok (.goto 224, 3) := by decide +kernel
theorem d_Law_law_490 : decode code 490 = .ok (.aload_n 1, 1) := by decide +kernel
theorem d_Law_law_491 : decode code 491 = .ok (.aload_n 0, 1) := by decide +kernel
theorem d_Law_law_492 : decode code 492 = .ok (.iload 5, 2) := by decide +kernel
theorem d_Law_law_494 : decode code 494 = .ok (.iconst 1, 1) := by decide +kernel
theorem d_Law_law_495 : decode code 495 = .ok (.iadd, 1) := by decide +kernel
theorem d_Law_law_496 : decode code 496 = .ok (.iaload, 1) := by decide +kernel
theorem d_Law_law_497 : decode code 497 = .ok (.aload_n 0, 1) := by decide +kernel
theorem d_Law_law_498 : decode code 498 = .ok (.iload 5, 2) := by decide +kernel
theorem d_Law_law_500 : decode code 500 = .ok (.iconst 2, 1) := by decide +kernel
theorem d_Law_law_501 : decode code 501 = .ok (.iadd, 1) := by decide +kernel
theorem d_Law_law_502 : decode code 502 = .ok (.iaload, 1) := by decide +kernel
theorem d_Law_law_503 : decode code 503 = .ok (.ifCond .eq 7, 3) := by decide +kernel
theorem d_Law_law_506 : decode code 506 = .ok (.iconst 1, 1) := by decide +kernel
theorem d_Law_law_507 : decode code 507 = .ok (.goto 4, 3) := by decide +kernel
theorem d_Law_law_510 : decode code 510 = .ok (.iconst 0, 1) := by decide +kernel
theorem d_Law_law_511 : decode code 511 = .ok (.aload_n 3, 1) := by decide +kernel
theorem d_Law_law_512 : decode code 512 = .ok (.invokestatic 135, 3) := by decide +kernel
theorem d_Law_law_515 : decode code 515 = .ok (.istore 6, 2) := by decide +kernel
theorem d_Law_law_517 : decode code 517 = .ok (.aload_n 2, 1) := by decide +kernel
theorem d_Law_law_518 : decode code 518 = .ok (.aload_n 0, 1) := by decide +kernel
theorem d_Law_law_519 : decode code 519 = .ok (.iload 5, 2) := by decide +kernel
theorem d_Law_law_521 : decode code 521 = .ok (.iconst 1, 1) := by decide +kernel
theorem d_Law_law_522 : decode code 522 = .ok (.iadd, 1) := by decide +kernel
theorem d_Law_law_523 : decode code 523 = .ok (.iaload, 1) := by decide +kernel
theorem d_Law_law_524 : decode code 524 = .ok (.aload_n 0, 1) := by decide +kernel
theorem d_Law_law_525 : decode code 525 = .ok (.iload 5, 2) := by decide +kernel
theorem d_Law_law_527 : decode code 527 = .ok (.iconst 2, 1) := by decide +kernel
theorem d_Law_law_528 : decode code 528 = .ok (.iadd, 1) := by decide +kernel
theorem d_Law_law_529 : decode code 529 = .ok (.iaload, 1) := by decide +kernel
theorem d_Law_law_530 : decode code 530 = .ok (.ifCond .eq 7, 3) := by decide +kernel
theorem d_Law_law_533 : decode code 533 = .ok (.iconst 1, 1) := by decide +kernel
theorem d_Law_law_534 : decode code 534 = .ok (.goto 4, 3) := by decide +kernel
theorem d_Law_law_537 : decode code 537 = .ok (.iconst 0, 1) := by decide +kernel
theorem d_Law_law_538 : decode code 538 = .ok (.invokevirtual 138, 3) := by decide +kernel
theorem d_Law_law_541 : decode code 541 = .ok (.istore 7, 2) := by decide +kernel
theorem d_Law_law_543 : decode code 543 = .ok (.goto 168, 3) := by decide +kernel
theorem d_Law_law_546 : decode code 546 = .ok (.aload_n 1, 1) := by decide +kernel
theorem d_Law_law_547 : decode code 547 = .ok (.aload_n 0, 1) := by decide +kernel
theorem d_Law_law_548 : decode code 548 = .ok (.iload 5, 2) := by decide +kernel
theorem d_Law_law_550 : decode code 550 = .ok (.iconst 1, 1) := by decide +kernel
theorem d_Law_law_551 : decode code 551 = .ok (.iadd, 1) := by decide +kernel
theorem d_Law_law_552 : decode code 552 = .ok (.iaload, 1) := by decide +kernel
theorem d_Law_law_553 : decode code 553 = .ok (.aload_n 0, 1) := by decide +kernel
theorem d_Law_law_554 : decode code 554 = .ok (.iload 5, 2) := by decide +kernel
theorem d_Law_law_556 : decode code 556 = .ok (.iconst 2, 1) := by decide +kernel
theorem d_Law_law_557 : decode code 557 = .ok (.iadd, 1) := by decide +kernel
theorem d_Law_law_558 : decode code 558 = .ok (.iaload, 1) := by decide +kernel
theorem d_Law_law_559 : decode code 559 = .ok (.ifCond .eq 7, 3) := by decide +kernel
theorem d_Law_law_562 : decode code 562 = .ok (.iconst 1, 1) := by decide +kernel
theorem d_Law_law_563 : decode code 563 = .ok (.goto 4, 3) := by decide +kernel
theorem d_Law_law_566 : decode code 566 = .ok (.iconst 0, 1) := by decide +kernel
theorem d_Law_law_567 : decode code 567 = .ok (.aload 4, 2) := by decide +kernel
theorem d_Law_law_569 : decode code 569 = .ok (.invokestatic 139, 3) := by decide +kernel
theorem d_Law_law_572 : decode code 572 = .ok (.istore 6, 2) := by decide +kernel
theorem d_Law_law_574 : decode code 574 = .ok (.aload_n 2, 1) := by decide +kernel
theorem d_Law_law_575 : decode code 575 = .ok (.aload_n 0, 1) := by decide +kernel
theorem d_Law_law_576 : decode code 576 = .ok (.iload 5, 2) := by decide +kernel
theorem d_Law_law_578 : decode code 578 = .ok (.iconst 1, 1) := by decide +kernel
theorem d_Law_law_579 : decode code 579 = .ok (.iadd, 1) := by decide +kernel
theorem d_Law_law_580 : decode code 580 = .ok (.iaload, 1) := by decide +kernel
theorem d_Law_law_581 : decode code 581 = .ok (.aload_n 0, 1) := by decide +kernel
theorem d_Law_law_582 : decode code 582 = .ok (.iload 5, 2) := by decide +kernel
theorem d_Law_law_584 : decode code 584 = .ok (.iconst 2, 1) := by decide +kernel
theorem d_Law_law_585 : decode code 585 = .ok (.iadd, 1) := by decide +kernel
theorem d_Law_law_586 : decode code 586 = .ok (.iaload, 1) := by decide +kernel
theorem d_Law_law_587 : decode code 587 = .ok (.ifCond .eq 7, 3) := by decide +kernel
theorem d_Law_law_590 : decode code 590 = .ok (.iconst 1, 1) := by decide +kernel
theorem d_Law_law_591 : decode code 591 = .ok (.goto 4, 3) := by decide +kernel
theorem d_Law_law_594 : decode code 594 = .ok (.iconst 0, 1) := by decide +kernel
theorem d_Law_law_595 : decode code 595 = .ok (.invokevirtual 142, 3) := by decide +kernel
theorem d_Law_law_598 : decode code 598 = .ok (.dstore 7, 2) := by decide +kernel
theorem d_Law_law_600 : decode code 600 = .ok (.goto 111, 3) := by decide +kernel
theorem d_Law_law_603 : decode code 603 = .ok (.aload_n 1, 1) := by decide +kernel
theorem d_Law_law_604 : decode code 604 = .ok (.aload_n 0, 1) := by decide +kernel
theorem d_Law_law_605 : decode code 605 = .ok (.iload 5, 2) := by decide +kernel
theorem d_Law_law_607 : decode code 607 = .ok (.iconst 1, 1) := by decide +kernel
theorem d_Law_law_608 : decode code 608 = .ok (.iadd, 1) := by decide +kernel
theorem d_Law_law_609 : decode code 609 = .ok (.iaload, 1) := by decide +kernel
theorem d_Law_law_610 : decode code 610 = .ok (.aload_n 0, 1) := by decide +kernel
theorem d_Law_law_611 : decode code 611 = .ok (.iload 5, 2) := by decide +kernel
theorem d_Law_law_613 : decode code 613 = .ok (.iconst 2, 1) := by decide +kernel
theorem d_Law_law_614 : decode code 614 = .ok (.iadd, 1) := by decide +kernel
theorem d_Law_law_615 : decode code 615 = .ok (.iaload, 1) := by decide +kernel
theorem d_Law_law_616 : decode code 616 = .ok (.aload_n 3, 1) := by decide +kernel
theorem d_Law_law_617 : decode code 617 = .ok (.invokestatic 143, 3) := by decide +kernel
theorem d_Law_law_620 : decode code 620 = .ok (.istore 6, 2) := by decide +kernel
theorem d_Law_law_622 : decode code 622 = .ok (.aload_n 2, 1) := by decide +kernel
theorem d_Law_law_623 : decode code 623 = .ok (.aload_n 0, 1) := by decide +kernel
theorem d_Law_law_624 : decode code 624 = .ok (.iload 5, 2) := by decide +kernel
theorem d_Law_law_626 : decode code 626 = .ok (.iconst 1, 1) := by decide +kernel
theorem d_Law_law_627 : decode code 627 = .ok (.iadd, 1) := by decide +kernel
theorem d_Law_law_628 : decode code 628 = .ok (.iaload, 1) := by decide +kernel
theorem d_Law_law_629 : decode code 629 = .ok (.aload_n 0, 1) := by decide +kernel
theorem d_Law_law_630 : decode code 630 = .ok (.iload 5, 2) := by decide +kernel
theorem d_Law_law_632 : decode code 632 = .ok (.iconst 2, 1) := by decide +kernel
theorem d_Law_law_633 : decode code 633 = .ok (.iadd, 1) := by decide +kernel
theorem d_Law_law_634 : decode code 634 = .ok (.iaload, 1) := by decide +kernel
theorem d_Law_law_635 : decode code 635 = .ok (.invokevirtual 145, 3) := by decide +kernel
theorem d_Law_law_638 : decode code 638 = .ok (.istore 7, 2) := by decide +kernel
theorem d_Law_law_640 : decode code 640 = .ok (.goto 71, 3) := by decide +kernel
theorem d_Law_law_643 : decode code 643 = .ok (.aload_n 1, 1) := by decide +kernel
theorem d_Law_law_644 : decode code 644 = .ok (.aload_n 0, 1) := by decide +kernel
theorem d_Law_law_645 : decode code 645 = .ok (.iload 5, 2) := by decide +kernel
theorem d_Law_law_647 : decode code 647 = .ok (.iconst 1, 1) := by decide +kernel
theorem d_Law_law_648 : decode code 648 = .ok (.iadd, 1) := by decide +kernel
theorem d_Law_law_649 : decode code 649 = .ok (.iaload, 1) := by decide +kernel
theorem d_Law_law_650 : decode code 650 = .ok (.aload_n 0, 1) := by decide +kernel
theorem d_Law_law_651 : decode code 651 = .ok (.iload 5, 2) := by decide +kernel
theorem d_Law_law_653 : decode code 653 = .ok (.iconst 2, 1) := by decide +kernel
theorem d_Law_law_654 : decode code 654 = .ok (.iadd, 1) := by decide +kernel
theorem d_Law_law_655 : decode code 655 = .ok (.iaload, 1) := by decide +kernel
theorem d_Law_law_656 : decode code 656 = .ok (.aload_n 3, 1) := by decide +kernel
theorem d_Law_law_657 : decode code 657 = .ok (.invokestatic 146, 3) := by decide +kernel
theorem d_Law_law_660 : decode code 660 = .ok (.istore 6, 2) := by decide +kernel
theorem d_Law_law_662 : decode code 662 = .ok (.aload_n 2, 1) := by decide +kernel
theorem d_Law_law_663 : decode code 663 = .ok (.aload_n 0, 1) := by decide +kernel
theorem d_Law_law_664 : decode code 664 = .ok (.iload 5, 2) := by decide +kernel
theorem d_Law_law_666 : decode code 666 = .ok (.iconst 1, 1) := by decide +kernel
theorem d_Law_law_667 : decode code 667 = .ok (.iadd, 1) := by decide +kernel
theorem d_Law_law_668 : decode code 668 = .ok (.iaload, 1) := by decide +kernel
theorem d_Law_law_669 : decode code 669 = .ok (.aload_n 0, 1) := by decide +kernel
theorem d_Law_law_670 : decode code 670 = .ok (.iload 5, 2) := by decide +kernel
theorem d_Law_law_672 : decode code 672 = .ok (.iconst 2, 1) := by decide +kernel
theorem d_Law_law_673 : decode code 673 = .ok (.iadd, 1) := by decide +kernel
theorem d_Law_law_674 : decode code 674 = .ok (.iaload, 1) := by decide +kernel
theorem d_Law_law_675 : decode code 675 = .ok (.invokevirtual 148, 3) := by decide +kernel
theorem d_Law_law_678 : decode code 678 = .ok (.istore 7, 2) := by decide +kernel
theorem d_Law_law_680 : decode code 680 = .ok (.goto 31, 3) := by decide +kernel
theorem d_Law_law_683 : decode code 683 = .ok (.aload_n 1, 1) := by decide +kernel
theorem d_Law_law_684 : decode code 684 = .ok (.aload_n 0, 1) := by decide +kernel
theorem d_Law_law_685 : decode code 685 = .ok (.iload 5, 2) := by decide +kernel
theorem d_Law_law_687 : decode code 687 = .ok (.iconst 1, 1) := by decide +kernel
theorem d_Law_law_688 : decode code 688 = .ok (.iadd, 1) := by decide +kernel
theorem d_Law_law_689 : decode code 689 = .ok (.iaload, 1) := by decide +kernel
theorem d_Law_law_690 : decode code 690 = .ok (.aload_n 3, 1) := by decide +kernel
theorem d_Law_law_691 : decode code 691 = .ok (.invokestatic 149, 3) := by decide +kernel
theorem d_Law_law_694 : decode code 694 = .ok (.istore 6, 2) := by decide +kernel
theorem d_Law_law_696 : decode code 696 = .ok (.aload_n 2, 1) := by decide +kernel
theorem d_Law_law_697 : decode code 697 = .ok (.aload_n 0, 1) := by decide +kernel
theorem d_Law_law_698 : decode code 698 = .ok (.iload 5, 2) := by decide +kernel
theorem d_Law_law_700 : decode code 700 = .ok (.iconst 1, 1) := by decide +kernel
theorem d_Law_law_701 : decode code 701 = .ok (.iadd, 1) := by decide +kernel
theorem d_Law_law_702 : decode code 702 = .ok (.iaload, 1) := by decide +kernel
theorem d_Law_law_703 : decode code 703 = .ok (.invokevirtual 151, 3) := by decide +kernel
theorem d_Law_law_706 : decode code 706 = .ok (.istore 7, 2) := by decide +kernel
theorem d_Law_law_708 : decode code 708 = .ok (.goto 3, 3) := by decide +kernel
theorem d_Law_law_711 : decode code 711 = .ok (.iinc 5 3, 3) := by decide +kernel
theorem d_Law_law_714 : decode code 714 = .ok (.goto (-686), 3) := by decide +kernel
theorem d_Law_law_717 : decode code 717 = .ok (.iconst 1, 1) := by decide +kernel
theorem d_Law_law_718 : decode code 718 = .ok (.ireturn, 1) := by decide +kernel
theorem cH_Law_78 : xw_sSH "PhraseShelfLaw" 78 m_Law_letters 3 := ⟨List.forall_mem_cons.mpr ⟨xw_in2 145 rfl rfl, List.forall_mem_cons.mpr ⟨xw_in2 146 rfl rfl, List.forall_mem_cons.mpr ⟨xw_in1 0 rfl rfl, List.forall_mem_cons.mpr ⟨xw_in2 147 rfl rfl, (fun _ h => nomatch h)⟩⟩⟩⟩, by decide +kernel, by decide +kernel, by decide +kernel⟩
theorem cH_Law_88 : xw_sSH "PhraseShelfLaw" 88 m_Law_set 3 := ⟨List.forall_mem_cons.mpr ⟨xw_in3 5 rfl rfl, List.forall_mem_cons.mpr ⟨xw_in3 6 rfl rfl, List.forall_mem_cons.mpr ⟨xw_in1 0 rfl rfl, List.forall_mem_cons.mpr ⟨xw_in3 7 rfl rfl, (fun _ h => nomatch h)⟩⟩⟩⟩, by decide +kernel, by decide +kernel, by decide +kernel⟩
theorem cH_Law_92 : xw_sSH "PhraseShelfLaw" 92 m_Law_insert 2 := ⟨List.forall_mem_cons.mpr ⟨xw_in3 28 rfl rfl, List.forall_mem_cons.mpr ⟨xw_in3 29 rfl rfl, List.forall_mem_cons.mpr ⟨xw_in1 0 rfl rfl, List.forall_mem_cons.mpr ⟨xw_in3 30 rfl rfl, (fun _ h => nomatch h)⟩⟩⟩⟩, by decide +kernel, by decide +kernel, by decide +kernel⟩
theorem cH_Law_96 : xw_sSH "PhraseShelfLaw" 96 m_Law_replace 3 := ⟨List.forall_mem_cons.mpr ⟨xw_in3 91 rfl rfl, List.forall_mem_cons.mpr ⟨xw_in3 92 rfl rfl, List.forall_mem_cons.mpr ⟨xw_in1 0 rfl rfl, List.forall_mem_cons.mpr ⟨xw_in3 93 rfl rfl, (fun _ h => nomatch h)⟩⟩⟩⟩, by decide +kernel, by decide +kernel, by decide +kernel⟩
theorem cH_Law_99 : xw_sSH "PhraseShelfLaw" 99 m_Law_delete 3 := ⟨List.forall_mem_cons.mpr ⟨xw_in3 119 rfl rfl, List.forall_mem_cons.mpr ⟨xw_in3 120 rfl rfl, List.forall_mem_cons.mpr ⟨xw_in1 0 rfl rfl, List.forall_mem_cons.mpr ⟨xw_in3 121 rfl rfl, (fun _ h => nomatch h)⟩⟩⟩⟩, by decide +kernel, by decide +kernel, by decide +kernel⟩
theorem cH_Law_102 : xw_sSH "PhraseShelfLaw" 102 m_Law_begin 1 := ⟨List.forall_mem_cons.mpr ⟨xw_in3 134 rfl rfl, List.forall_mem_cons.mpr ⟨xw_in3 135 rfl rfl, List.forall_mem_cons.mpr ⟨xw_in1 0 rfl rfl, List.forall_mem_cons.mpr ⟨xw_in3 136 rfl rfl, (fun _ h => nomatch h)⟩⟩⟩⟩, by decide +kernel, by decide +kernel, by decide +kernel⟩
theorem cH_Law_106 : xw_sSH "PhraseShelfLaw" 106 m_Law_commit 2 := ⟨List.forall_mem_cons.mpr ⟨xw_in3 162 rfl rfl, List.forall_mem_cons.mpr ⟨xw_in3 163 rfl rfl, List.forall_mem_cons.mpr ⟨xw_in1 0 rfl rfl, List.forall_mem_cons.mpr ⟨xw_in3 164 rfl rfl, (fun _ h => nomatch h)⟩⟩⟩⟩, by decide +kernel, by decide +kernel, by decide +kernel⟩
theorem cH_Law_109 : xw_sSH "PhraseShelfLaw" 109 m_Law_rollback 2 := ⟨List.forall_mem_cons.mpr ⟨xw_in3 170 rfl rfl, List.forall_mem_cons.mpr ⟨xw_in3 171 rfl rfl, List.forall_mem_cons.mpr ⟨xw_in1 0 rfl rfl, List.forall_mem_cons.mpr ⟨xw_in3 172 rfl rfl, (fun _ h => nomatch h)⟩⟩⟩⟩, by decide +kernel, by decide +kernel, by decide +kernel⟩
theorem cH_Law_120 : xw_sSH "PhraseShelfLaw" 120 m_Law_ways 3 := ⟨List.forall_mem_cons.mpr ⟨xw_in3 181 rfl rfl, List.forall_mem_cons.mpr ⟨xw_in3 182 rfl rfl, List.forall_mem_cons.mpr ⟨xw_in1 0 rfl rfl, List.forall_mem_cons.mpr ⟨xw_in3 183 rfl rfl, (fun _ h => nomatch h)⟩⟩⟩⟩, by decide +kernel, by decide +kernel, by decide +kernel⟩
theorem cH_Law_124 : xw_sSH "PhraseShelfLaw" 124 m_Law_weight 4 := ⟨List.forall_mem_cons.mpr ⟨xw_in3 189 rfl rfl, List.forall_mem_cons.mpr ⟨xw_in3 190 rfl rfl, List.forall_mem_cons.mpr ⟨xw_in1 0 rfl rfl, List.forall_mem_cons.mpr ⟨xw_in3 191 rfl rfl, (fun _ h => nomatch h)⟩⟩⟩⟩, by decide +kernel, by decide +kernel, by decide +kernel⟩
theorem cH_Law_128 : xw_sSH "PhraseShelfLaw" 128 m_Law_ask 2 := ⟨List.forall_mem_cons.mpr ⟨xw_in3 197 rfl rfl, List.forall_mem_cons.mpr ⟨xw_in3 198 rfl rfl, List.forall_mem_cons.mpr ⟨xw_in1 0 rfl rfl, List.forall_mem_cons.mpr ⟨xw_in3 199 rfl rfl, (fun _ h => nomatch h)⟩⟩⟩⟩, by decide +kernel, by decide +kernel, by decide +kernel⟩
theorem cH_Law_135 : xw_sSH "PhraseShelfLaw" 135 m_Law_answer 4 := ⟨List.forall_mem_cons.mpr ⟨xw_in5 54 rfl rfl, List.forall_mem_cons.mpr ⟨xw_in5 55 rfl rfl, List.forall_mem_cons.mpr ⟨xw_in1 0 rfl rfl, List.forall_mem_cons.mpr ⟨xw_in5 56 rfl rfl, (fun _ h => nomatch h)⟩⟩⟩⟩, by decide +kernel, by decide +kernel, by decide +kernel⟩
theorem cH_Law_139 : xw_sSH "PhraseShelfLaw" 139 m_Law_score 4 := ⟨List.forall_mem_cons.mpr ⟨xw_in5 70 rfl rfl, List.forall_mem_cons.mpr ⟨xw_in5 71 rfl rfl, List.forall_mem_cons.mpr ⟨xw_in1 0 rfl rfl, List.forall_mem_cons.mpr ⟨xw_in5 72 rfl rfl, (fun _ h => nomatch h)⟩⟩⟩⟩, by decide +kernel, by decide +kernel, by decide +kernel⟩
theorem cH_Law_143 : xw_sSH "PhraseShelfLaw" 143 m_Law_look 4 := ⟨List.forall_mem_cons.mpr ⟨xw_in5 77 rfl rfl, List.forall_mem_cons.mpr ⟨xw_in5 78 rfl rfl, List.forall_mem_cons.mpr ⟨xw_in1 0 rfl rfl, List.forall_mem_cons.mpr ⟨xw_in5 79 rfl rfl, (fun _ h => nomatch h)⟩⟩⟩⟩, by decide +kernel, by decide +kernel, by decide +kernel⟩
theorem cH_Law_146 : xw_sSH "PhraseShelfLaw" 146 m_Law_segment 4 := ⟨List.forall_mem_cons.mpr ⟨xw_in5 85 rfl rfl, List.forall_mem_cons.mpr ⟨xw_in5 86 rfl rfl, List.forall_mem_cons.mpr ⟨xw_in1 0 rfl rfl, List.forall_mem_cons.mpr ⟨xw_in5 87 rfl rfl, (fun _ h => nomatch h)⟩⟩⟩⟩, by decide +kernel, by decide +kernel, by decide +kernel⟩
theorem cH_Law_149 : xw_sSH "PhraseShelfLaw" 149 m_Law_count 3 := ⟨List.forall_mem_cons.mpr ⟨xw_in5 94 rfl rfl, List.forall_mem_cons.mpr ⟨xw_in5 95 rfl rfl, List.forall_mem_cons.mpr ⟨xw_in1 0 rfl rfl, List.forall_mem_cons.mpr ⟨xw_in5 96 rfl rfl, (fun _ h => nomatch h)⟩⟩⟩⟩, by decide +kernel, by decide +kernel, by decide +kernel⟩
