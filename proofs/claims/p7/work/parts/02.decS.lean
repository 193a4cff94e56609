/-! rows that decode: by program -/
theorem d_Shelf_init_0 : decode prog_1_method_1_code 0 = .ok (.aload_n 0, 1) := by decide +kernel
theorem d_Shelf_init_1 : decode prog_1_method_1_code 1 = .ok (.invokespecial 1, 3) := by decide +kernel
theorem d_Shelf_init_4 : decode prog_1_method_1_code 4 = .ok (.aload_n 0, 1) := by decide +kernel
theorem d_Shelf_init_5 : decode prog_1_method_1_code 5 = .ok (.bipush 96, 2) := by decide +kernel
theorem d_Shelf_init_7 : decode prog_1_method_1_code 7 = .ok (.newarray .char, 2) := by decide +kernel
theorem d_Shelf_init_9 : decode prog_1_method_1_code 9 = .ok (.putfield 9, 3) := by decide +kernel
theorem d_Shelf_init_12 : decode prog_1_method_1_code 12 = .ok (.aload_n 0, 1) := by decide +kernel
theorem d_Shelf_init_13 : decode prog_1_method_1_code 13 = .ok (.iconst 2, 1) := by decide +kernel
theorem d_Shelf_init_14 : decode prog_1_method_1_code 14 = .ok (.anewarray 13, 3) := by decide +kernel
theorem d_Shelf_init_17 : decode prog_1_method_1_code 17 = .ok (.putfield 15, 3) := by decide +kernel
theorem d_Shelf_init_20 : decode prog_1_method_1_code 20 = .ok (.aload_n 0, 1) := by decide +kernel
theorem d_Shelf_init_21 : decode prog_1_method_1_code 21 = .ok (.iconst 2, 1) := by decide +kernel
theorem d_Shelf_init_22 : decode prog_1_method_1_code 22 = .ok (.newarray .int, 2) := by decide +kernel
theorem d_Shelf_init_24 : decode prog_1_method_1_code 24 = .ok (.putfield 19, 3) := by decide +kernel
theorem d_Shelf_init_27 : decode prog_1_method_1_code 27 = .ok (.aload_n 0, 1) := by decide +kernel
theorem d_Shelf_init_28 : decode prog_1_method_1_code 28 = .ok (.new 23, 3) := by decide +kernel
theorem d_Shelf_init_31 : decode prog_1_method_1_code 31 = .ok (.dup, 1) := by decide +kernel
theorem d_Shelf_init_32 : decode prog_1_method_1_code 32 = .ok (.invokespecial 25, 3) := by decide +kernel
theorem d_Shelf_init_35 : decode prog_1_method_1_code 35 = .ok (.putfield 26, 3) := by decide +kernel
theorem d_Shelf_init_38 : decode prog_1_method_1_code 38 = .ok (.aload_n 0, 1) := by decide +kernel
theorem d_Shelf_init_39 : decode prog_1_method_1_code 39 = .ok (.new 23, 3) := by decide +kernel
theorem d_Shelf_init_42 : decode prog_1_method_1_code 42 = .ok (.dup, 1) := by decide +kernel
theorem d_Shelf_init_43 : decode prog_1_method_1_code 43 = .ok (.invokespecial 25, 3) := by decide +kernel
theorem d_Shelf_init_46 : decode prog_1_method_1_code 46 = .ok (.putfield 30, 3) := by decide +kernel
theorem d_Shelf_init_49 : decode prog_1_method_1_code 49 = .ok (.aload_n 0, 1) := by decide +kernel
theorem d_Shelf_init_50 : decode prog_1_method_1_code 50 = .ok (.new 33, 3) := by decide +kernel
theorem d_Shelf_init_53 : decode prog_1_method_1_code 53 = .ok (.dup, 1) := by decide +kernel
theorem d_Shelf_init_54 : decode prog_1_method_1_code 54 = .ok (.invokespecial 35, 3) := by decide +kernel
theorem d_Shelf_init_57 : decode prog_1_method_1_code 57 = .ok (.putfield 36, 3) := by decide +kernel
theorem d_Shelf_init_60 : decode prog_1_method_1_code 60 = .ok (.aload_n 0, 1) := by decide +kernel
theorem d_Shelf_init_61 : decode prog_1_method_1_code 61 = .ok (.new 40, 3) := by decide +kernel
theorem d_Shelf_init_64 : decode prog_1_method_1_code 64 = .ok (.dup, 1) := by decide +kernel
theorem d_Shelf_init_65 : decode prog_1_method_1_code 65 = .ok (.invokespecial 42, 3) := by decide +kernel
theorem d_Shelf_init_68 : decode prog_1_method_1_code 68 = .ok (.putfield 43, 3) := by decide +kernel
theorem d_Shelf_init_71 : decode prog_1_method_1_code 71 = .ok (.aload_n 0, 1) := by decide +kernel
theorem d_Shelf_init_72 : decode prog_1_method_1_code 72 = .ok (.new 47, 3) := by decide +kernel
theorem d_Shelf_init_75 : decode prog_1_method_1_code 75 = .ok (.dup, 1) := by decide +kernel
theorem d_Shelf_init_76 : decode prog_1_method_1_code 76 = .ok (.invokespecial 49, 3) := by decide +kernel
theorem d_Shelf_init_79 : decode prog_1_method_1_code 79 = .ok (.putfield 50, 3) := by decide +kernel
theorem d_Shelf_init_82 : decode prog_1_method_1_code 82 = .ok (.iconst 0, 1) := by decide +kernel
theorem d_Shelf_init_83 : decode prog_1_method_1_code 83 = .ok (.istore_n 1, 1) := by decide +kernel
theorem d_Shelf_init_84 : decode prog_1_method_1_code 84 = .ok (.iload_n 1, 1) := by decide +kernel
theorem d_Shelf_init_85 : decode prog_1_method_1_code 85 = .ok (.iconst 2, 1) := by decide +kernel
theorem d_Shelf_init_86 : decode prog_1_method_1_code 86 = .ok (.if_icmp .ge 30, 3) := by decide +kernel
theorem d_Shelf_init_89 : decode prog_1_method_1_code 89 = .ok (.aload_n 0, 1) := by decide +kernel
theorem d_Shelf_init_90 : decode prog_1_method_1_code 90 = .ok (.getfield 15, 3) := by decide +kernel
theorem d_Shelf_init_93 : decode prog_1_method_1_code 93 = .ok (.iload_n 1, 1) := by decide +kernel
theorem d_Shelf_init_94 : decode prog_1_method_1_code 94 = .ok (.new 13, 3) := by decide +kernel
theorem d_Shelf_init_97 : decode prog_1_method_1_code 97 = .ok (.dup, 1) := by decide +kernel
theorem d_Shelf_init_98 : decode prog_1_method_1_code 98 = .ok (.iconst 0, 1) := by decide +kernel
theorem d_Shelf_init_99 : decode prog_1_method_1_code 99 = .ok (.invokespecial 54, 3) := by decide +kernel
theorem d_Shelf_init_102 : decode prog_1_method_1_code 102 = .ok (.aastore, 1) := by decide +kernel
theorem d_Shelf_init_103 : decode prog_1_method_1_code 103 = .ok (.aload_n 0, 1) := by decide +kernel
theorem d_Shelf_init_104 : decode prog_1_method_1_code 104 = .ok (.getfield 19, 3) := by decide +kernel
theorem d_Shelf_init_107 : decode prog_1_method_1_code 107 = .ok (.iload_n 1, 1) := by decide +kernel
theorem d_Shelf_init_108 : decode prog_1_method_1_code 108 = .ok (.iconst 1, 1) := by decide +kernel
theorem d_Shelf_init_109 : decode prog_1_method_1_code 109 = .ok (.iastore, 1) := by decide +kernel
theorem d_Shelf_init_110 : decode prog_1_method_1_code 110 = .ok (.iinc 1 1, 3) := by decide +kernel
theorem d_Shelf_init_113 : decode prog_1_method_1_code 113 = .ok (.goto (-29), 3) := by decide +kernel
theorem d_Shelf_init_116 : decode prog_1_method_1_code 116 = .ok (.aload_n 0, 1) := by decide +kernel
theorem d_Shelf_init_117 : decode prog_1_method_1_code 117 = .ok (.iconst 3, 1) := by decide +kernel
theorem d_Shelf_init_118 : decode prog_1_method_1_code 118 = .ok (.putfield 57, 3) := by decide +kernel
theorem d_Shelf_init_121 : decode prog_1_method_1_code 121 = .ok (.aload_n 0, 1) := by decide +kernel
theorem d_Shelf_init_122 : decode prog_1_method_1_code 122 = .ok (.bipush 20, 2) := by decide +kernel
theorem d_Shelf_init_124 : decode prog_1_method_1_code 124 = .ok (.putfield 61, 3) := by decide +kernel
theorem d_Shelf_init_127 : decode prog_1_method_1_code 127 = .ok (.aload_n 0, 1) := by decide +kernel
theorem d_Shelf_init_128 : decode prog_1_method_1_code 128 = .ok (.iconst (-1), 1) := by decide +kernel
theorem d_Shelf_init_129 : decode prog_1_method_1_code 129 = .ok (.putfield 64, 3) := by decide +kernel
theorem d_Shelf_init_132 : decode prog_1_method_1_code 132 = .ok (.return_, 1) := by decide +kernel
theorem d_Store_init_0 : decode prog_9_method_1_code 0 = .ok (.aload_n 0, 1) := by decide +kernel
theorem d_Store_init_1 : decode prog_9_method_1_code 1 = .ok (.invokespecial 3, 3) := by decide +kernel
theorem d_Store_init_4 : decode prog_9_method_1_code 4 = .ok (.aload_n 0, 1) := by decide +kernel
theorem d_Store_init_5 : decode prog_9_method_1_code 5 = .ok (.bipush 25, 2) := by decide +kernel
theorem d_Store_init_7 : decode prog_9_method_1_code 7 = .ok (.anewarray 9, 3) := by decide +kernel
theorem d_Store_init_10 : decode prog_9_method_1_code 10 = .ok (.putfield 11, 3) := by decide +kernel
theorem d_Store_init_13 : decode prog_9_method_1_code 13 = .ok (.aload_n 0, 1) := by decide +kernel
theorem d_Store_init_14 : decode prog_9_method_1_code 14 = .ok (.sipush 201, 3) := by decide +kernel
theorem d_Store_init_17 : decode prog_9_method_1_code 17 = .ok (.anewarray 9, 3) := by decide +kernel
theorem d_Store_init_20 : decode prog_9_method_1_code 20 = .ok (.putfield 17, 3) := by decide +kernel
theorem d_Store_init_23 : decode prog_9_method_1_code 23 = .ok (.aload_n 0, 1) := by decide +kernel
theorem d_Store_init_24 : decode prog_9_method_1_code 24 = .ok (.sipush 512, 3) := by decide +kernel
theorem d_Store_init_27 : decode prog_9_method_1_code 27 = .ok (.anewarray 20, 3) := by decide +kernel
theorem d_Store_init_30 : decode prog_9_method_1_code 30 = .ok (.putfield 22, 3) := by decide +kernel
theorem d_Store_init_33 : decode prog_9_method_1_code 33 = .ok (.aload_n 0, 1) := by decide +kernel
theorem d_Store_init_34 : decode prog_9_method_1_code 34 = .ok (.bipush 24, 2) := by decide +kernel
theorem d_Store_init_36 : decode prog_9_method_1_code 36 = .ok (.anewarray 9, 3) := by decide +kernel
theorem d_Store_init_39 : decode prog_9_method_1_code 39 = .ok (.putfield 26, 3) := by decide +kernel
theorem d_Store_init_42 : decode prog_9_method_1_code 42 = .ok (.return_, 1) := by decide +kernel
theorem d_Question_init_0 : decode prog_6_method_1_code 0 = .ok (.aload_n 0, 1) := by decide +kernel
theorem d_Question_init_1 : decode prog_6_method_1_code 1 = .ok (.invokespecial 5, 3) := by decide +kernel
theorem d_Question_init_4 : decode prog_6_method_1_code 4 = .ok (.aload_n 0, 1) := by decide +kernel
theorem d_Question_init_5 : decode prog_6_method_1_code 5 = .ok (.new 11, 3) := by decide +kernel
theorem d_Question_init_8 : decode prog_6_method_1_code 8 = .ok (.dup, 1) := by decide +kernel
theorem d_Question_init_9 : decode prog_6_method_1_code 9 = .ok (.bipush 96, 2) := by decide +kernel
theorem d_Question_init_11 : decode prog_6_method_1_code 11 = .ok (.invokespecial 13, 3) := by decide +kernel
theorem d_Question_init_14 : decode prog_6_method_1_code 14 = .ok (.putfield 16, 3) := by decide +kernel
theorem d_Question_init_17 : decode prog_6_method_1_code 17 = .ok (.aload_n 0, 1) := by decide +kernel
theorem d_Question_init_18 : decode prog_6_method_1_code 18 = .ok (.bipush 12, 2) := by decide +kernel
theorem d_Question_init_20 : decode prog_6_method_1_code 20 = .ok (.anewarray 22, 3) := by decide +kernel
theorem d_Question_init_23 : decode prog_6_method_1_code 23 = .ok (.putfield 24, 3) := by decide +kernel
theorem d_Question_init_26 : decode prog_6_method_1_code 26 = .ok (.aload_n 0, 1) := by decide +kernel
theorem d_Question_init_27 : decode prog_6_method_1_code 27 = .ok (.bipush 24, 2) := by decide +kernel
theorem d_Question_init_29 : decode prog_6_method_1_code 29 = .ok (.anewarray 28, 3) := by decide +kernel
theorem d_Question_init_32 : decode prog_6_method_1_code 32 = .ok (.putfield 30, 3) := by decide +kernel
theorem d_Question_init_35 : decode prog_6_method_1_code 35 = .ok (.aload_n 0, 1) := by decide +kernel
theorem d_Question_init_36 : decode prog_6_method_1_code 36 = .ok (.new 1, 3) := by decide +kernel
theorem d_Question_init_39 : decode prog_6_method_1_code 39 = .ok (.dup, 1) := by decide +kernel
theorem d_Question_init_40 : decode prog_6_method_1_code 40 = .ok (.invokespecial 34, 3) := by decide +kernel
theorem d_Question_init_43 : decode prog_6_method_1_code 43 = .ok (.putfield 35, 3) := by decide +kernel
theorem d_Question_init_46 : decode prog_6_method_1_code 46 = .ok (.iconst 0, 1) := by decide +kernel
theorem d_Question_init_47 : decode prog_6_method_1_code 47 = .ok (.istore_n 1, 1) := by decide +kernel
theorem d_Question_init_48 : decode prog_6_method_1_code 48 = .ok (.iload_n 1, 1) := by decide +kernel
theorem d_Question_init_49 : decode prog_6_method_1_code 49 = .ok (.bipush 12, 2) := by decide +kernel
theorem d_Question_init_51 : decode prog_6_method_1_code 51 = .ok (.if_icmp .ge 22, 3) := by decide +kernel
theorem d_Question_init_54 : decode prog_6_method_1_code 54 = .ok (.aload_n 0, 1) := by decide +kernel
theorem d_Question_init_55 : decode prog_6_method_1_code 55 = .ok (.getfield 24, 3) := by decide +kernel
theorem d_Question_init_58 : decode prog_6_method_1_code 58 = .ok (.iload_n 1, 1) := by decide +kernel
theorem d_Question_init_59 : decode prog_6_method_1_code 59 = .ok (.new 22, 3) := by decide +kernel
theorem d_Question_init_62 : decode prog_6_method_1_code 62 = .ok (.dup, 1) := by decide +kernel
theorem d_Question_init_63 : decode prog_6_method_1_code 63 = .ok (.invokespecial 39, 3) := by decide +kernel
theorem d_Question_init_66 : decode prog_6_method_1_code 66 = .ok (.aastore, 1) := by decide +kernel
theorem d_Question_init_67 : decode prog_6_method_1_code 67 = .ok (.iinc 1 1, 3) := by decide +kernel
theorem d_Question_init_70 : decode prog_6_method_1_code 70 = .ok (.goto (-22), 3) := by decide +kernel
theorem d_Question_init_73 : decode prog_6_method_1_code 73 = .ok (.iconst 0, 1) := by decide +kernel
theorem d_Question_init_74 : decode prog_6_method_1_code 74 = .ok (.istore_n 1, 1) := by decide +kernel
theorem d_Question_init_75 : decode prog_6_method_1_code 75 = .ok (.iload_n 1, 1) := by decide +kernel
theorem d_Question_init_76 : decode prog_6_method_1_code 76 = .ok (.bipush 24, 2) := by decide +kernel
theorem d_Question_init_78 : decode prog_6_method_1_code 78 = .ok (.if_icmp .ge 22, 3) := by decide +kernel
theorem d_Question_init_81 : decode prog_6_method_1_code 81 = .ok (.aload_n 0, 1) := by decide +kernel
theorem d_Question_init_82 : decode prog_6_method_1_code 82 = .ok (.getfield 30, 3) := by decide +kernel
theorem d_Question_init_85 : decode prog_6_method_1_code 85 = .ok (.iload_n 1, 1) := by decide +kernel
theorem d_Question_init_86 : decode prog_6_method_1_code 86 = .ok (.new 28, 3) := by decide +kernel
theorem d_Question_init_89 : decode prog_6_method_1_code 89 = .ok (.dup, 1) := by decide +kernel
theorem d_Question_init_90 : decode prog_6_method_1_code 90 = .ok (.invokespecial 40, 3) := by decide +kernel
theorem d_Question_init_93 : decode prog_6_method_1_code 93 = .ok (.aastore, 1) := by decide +kernel
theorem d_Question_init_94 : decode prog_6_method_1_code 94 = .ok (.iinc 1 1, 3) := by decide +kernel
theorem d_Question_init_97 : decode prog_6_method_1_code 97 = .ok (.goto (-22), 3) := by decide +kernel
theorem d_Question_init_100 : decode prog_6_method_1_code 100 = .ok (.return_, 1) := by decide +kernel
theorem d_Tokens_init_0 : decode prog_10_method_1_code 0 = .ok (.aload_n 0, 1) := by decide +kernel
theorem d_Tokens_init_1 : decode prog_10_method_1_code 1 = .ok (.invokespecial 1, 3) := by decide +kernel
theorem d_Tokens_init_4 : decode prog_10_method_1_code 4 = .ok (.aload_n 0, 1) := by decide +kernel
theorem d_Tokens_init_5 : decode prog_10_method_1_code 5 = .ok (.iload_n 1, 1) := by decide +kernel
theorem d_Tokens_init_6 : decode prog_10_method_1_code 6 = .ok (.newarray .char, 2) := by decide +kernel
theorem d_Tokens_init_8 : decode prog_10_method_1_code 8 = .ok (.putfield 7, 3) := by decide +kernel
theorem d_Tokens_init_11 : decode prog_10_method_1_code 11 = .ok (.aload_n 0, 1) := by decide +kernel
theorem d_Tokens_init_12 : decode prog_10_method_1_code 12 = .ok (.iload_n 1, 1) := by decide +kernel
theorem d_Tokens_init_13 : decode prog_10_method_1_code 13 = .ok (.iconst 1, 1) := by decide +kernel
theorem d_Tokens_init_14 : decode prog_10_method_1_code 14 = .ok (.iadd, 1) := by decide +kernel
theorem d_Tokens_init_15 : decode prog_10_method_1_code 15 = .ok (.iconst 2, 1) := by decide +kernel
theorem d_Tokens_init_16 : decode prog_10_method_1_code 16 = .ok (.idiv, 1) := by decide +kernel
theorem d_Tokens_init_17 : decode prog_10_method_1_code 17 = .ok (.iconst 1, 1) := by decide +kernel
theorem d_Tokens_init_18 : decode prog_10_method_1_code 18 = .ok (.iadd, 1) := by decide +kernel
theorem d_Tokens_init_19 : decode prog_10_method_1_code 19 = .ok (.newarray .int, 2) := by decide +kernel
theorem d_Tokens_init_21 : decode prog_10_method_1_code 21 = .ok (.putfield 13, 3) := by decide +kernel
theorem d_Tokens_init_24 : decode prog_10_method_1_code 24 = .ok (.return_, 1) := by decide +kernel
theorem d_Parts_init_0 : decode prog_4_method_1_code 0 = .ok (.aload_n 0, 1) := by decide +kernel
theorem d_Parts_init_1 : decode prog_4_method_1_code 1 = .ok (.invokespecial 3, 3) := by decide +kernel
theorem d_Parts_init_4 : decode prog_4_method_1_code 4 = .ok (.aload_n 0, 1) := by decide +kernel
theorem d_Parts_init_5 : decode prog_4_method_1_code 5 = .ok (.bipush 97, 2) := by decide +kernel
theorem d_Parts_init_7 : decode prog_4_method_1_code 7 = .ok (.newarray .int, 2) := by decide +kernel
theorem d_Parts_init_9 : decode prog_4_method_1_code 9 = .ok (.putfield 9, 3) := by decide +kernel
theorem d_Parts_init_12 : decode prog_4_method_1_code 12 = .ok (.aload_n 0, 1) := by decide +kernel
theorem d_Parts_init_13 : decode prog_4_method_1_code 13 = .ok (.bipush 97, 2) := by decide +kernel
theorem d_Parts_init_15 : decode prog_4_method_1_code 15 = .ok (.newarray .int, 2) := by decide +kernel
theorem d_Parts_init_17 : decode prog_4_method_1_code 17 = .ok (.putfield 15, 3) := by decide +kernel
theorem d_Parts_init_20 : decode prog_4_method_1_code 20 = .ok (.aload_n 0, 1) := by decide +kernel
theorem d_Parts_init_21 : decode prog_4_method_1_code 21 = .ok (.bipush 97, 2) := by decide +kernel
theorem d_Parts_init_23 : decode prog_4_method_1_code 23 = .ok (.newarray .int, 2) := by decide +kernel
theorem d_Parts_init_25 : decode prog_4_method_1_code 25 = .ok (.putfield 18, 3) := by decide +kernel
theorem d_Parts_init_28 : decode prog_4_method_1_code 28 = .ok (.return_, 1) := by decide +kernel
theorem d_Phrase_init_0 : decode prog_5_method_1_code 0 = .ok (.aload_n 0, 1) := by decide +kernel
theorem d_Phrase_init_1 : decode prog_5_method_1_code 1 = .ok (.invokespecial 1, 3) := by decide +kernel
theorem d_Phrase_init_4 : decode prog_5_method_1_code 4 = .ok (.return_, 1) := by decide +kernel
theorem d_Node_init_0 : decode prog_3_method_1_code 0 = .ok (.aload_n 0, 1) := by decide +kernel
theorem d_Node_init_1 : decode prog_3_method_1_code 1 = .ok (.invokespecial 1, 3) := by decide +kernel
theorem d_Node_init_4 : decode prog_3_method_1_code 4 = .ok (.return_, 1) := by decide +kernel
theorem d_Standing_init_0 : decode prog_8_method_1_code 0 = .ok (.aload_n 0, 1) := by decide +kernel
theorem d_Standing_init_1 : decode prog_8_method_1_code 1 = .ok (.invokespecial 3, 3) := by decide +kernel
theorem d_Standing_init_4 : decode prog_8_method_1_code 4 = .ok (.aload_n 0, 1) := by decide +kernel
theorem d_Standing_init_5 : decode prog_8_method_1_code 5 = .ok (.sipush 576, 3) := by decide +kernel
theorem d_Standing_init_8 : decode prog_8_method_1_code 8 = .ok (.newarray .int, 2) := by decide +kernel
theorem d_Standing_init_10 : decode prog_8_method_1_code 10 = .ok (.putfield 9, 3) := by decide +kernel
theorem d_Standing_init_13 : decode prog_8_method_1_code 13 = .ok (.return_, 1) := by decide +kernel
theorem d_Answers_init_0 : decode prog_2_method_1_code 0 = .ok (.aload_n 0, 1) := by decide +kernel
theorem d_Answers_init_1 : decode prog_2_method_1_code 1 = .ok (.invokespecial 3, 3) := by decide +kernel
theorem d_Answers_init_4 : decode prog_2_method_1_code 4 = .ok (.aload_n 0, 1) := by decide +kernel
theorem d_Answers_init_5 : decode prog_2_method_1_code 5 = .ok (.bipush 24, 2) := by decide +kernel
theorem d_Answers_init_7 : decode prog_2_method_1_code 7 = .ok (.newarray .int, 2) := by decide +kernel
theorem d_Answers_init_9 : decode prog_2_method_1_code 9 = .ok (.putfield 9, 3) := by decide +kernel
theorem d_Answers_init_12 : decode prog_2_method_1_code 12 = .ok (.aload_n 0, 1) := by decide +kernel
theorem d_Answers_init_13 : decode prog_2_method_1_code 13 = .ok (.bipush 24, 2) := by decide +kernel
theorem d_Answers_init_15 : decode prog_2_method_1_code 15 = .ok (.newarray .double, 2) := by decide +kernel
theorem d_Answers_init_17 : decode prog_2_method_1_code 17 = .ok (.putfield 15, 3) := by decide +kernel
theorem d_Answers_init_20 : decode prog_2_method_1_code 20 = .ok (.aload_n 0, 1) := by decide +kernel
theorem d_Answers_init_21 : decode prog_2_method_1_code 21 = .ok (.bipush 24, 2) := by decide +kernel
theorem d_Answers_init_23 : decode prog_2_method_1_code 23 = .ok (.newarray .int, 2) := by decide +kernel
theorem d_Answers_init_25 : decode prog_2_method_1_code 25 = .ok (.putfield 19, 3) := by decide +kernel
theorem d_Answers_init_28 : decode prog_2_method_1_code 28 = .ok (.aload_n 0, 1) := by decide +kernel
theorem d_Answers_init_29 : decode prog_2_method_1_code 29 = .ok (.bipush 24, 2) := by decide +kernel
theorem d_Answers_init_31 : decode prog_2_method_1_code 31 = .ok (.newarray .int, 2) := by decide +kernel
theorem d_Answers_init_33 : decode prog_2_method_1_code 33 = .ok (.putfield 22, 3) := by decide +kernel
theorem d_Answers_init_36 : decode prog_2_method_1_code 36 = .ok (.return_, 1) := by decide +kernel
theorem d_Shelf_drop_0 : decode prog_1_method_3_code 0 = .ok (.aload_n 0, 1) := by decide +kernel
theorem d_Shelf_drop_1 : decode prog_1_method_3_code 1 = .ok (.getfield 78, 3) := by decide +kernel
theorem d_Shelf_drop_4 : decode prog_1_method_3_code 4 = .ok (.istore_n 1, 1) := by decide +kernel
theorem d_Shelf_drop_5 : decode prog_1_method_3_code 5 = .ok (.aload_n 0, 1) := by decide +kernel
theorem d_Shelf_drop_6 : decode prog_1_method_3_code 6 = .ok (.iconst 0, 1) := by decide +kernel
theorem d_Shelf_drop_7 : decode prog_1_method_3_code 7 = .ok (.putfield 78, 3) := by decide +kernel
theorem d_Shelf_drop_10 : decode prog_1_method_3_code 10 = .ok (.iload_n 1, 1) := by decide +kernel
theorem d_Shelf_drop_11 : decode prog_1_method_3_code 11 = .ok (.ireturn, 1) := by decide +kernel
theorem d_Shelf_flush_0 : decode prog_1_method_11_code 0 = .ok (.aload_n 0, 1) := by decide +kernel
theorem d_Shelf_flush_1 : decode prog_1_method_11_code 1 = .ok (.getfield 26, 3) := by decide +kernel
theorem d_Shelf_flush_4 : decode prog_1_method_11_code 4 = .ok (.aload_n 0, 1) := by decide +kernel
theorem d_Shelf_flush_5 : decode prog_1_method_11_code 5 = .ok (.getfield 57, 3) := by decide +kernel
theorem d_Shelf_flush_8 : decode prog_1_method_11_code 8 = .ok (.invokevirtual 147, 3) := by decide +kernel
theorem d_Shelf_flush_11 : decode prog_1_method_11_code 11 = .ok (.aload_n 0, 1) := by decide +kernel
theorem d_Shelf_flush_12 : decode prog_1_method_11_code 12 = .ok (.getfield 26, 3) := by decide +kernel
theorem d_Shelf_flush_15 : decode prog_1_method_11_code 15 = .ok (.getfield 150, 3) := by decide +kernel
theorem d_Shelf_flush_18 : decode prog_1_method_11_code 18 = .ok (.ireturn, 1) := by decide +kernel
theorem d_Store_flushPending_0 : decode prog_9_method_8_code 0 = .ok (.aload_n 0, 1) := by decide +kernel
theorem d_Store_flushPending_1 : decode prog_9_method_8_code 1 = .ok (.iconst 0, 1) := by decide +kernel
theorem d_Store_flushPending_2 : decode prog_9_method_8_code 2 = .ok (.putfield 51, 3) := by decide +kernel
theorem d_Store_flushPending_5 : decode prog_9_method_8_code 5 = .ok (.iconst 0, 1) := by decide +kernel
theorem d_Store_flushPending_6 : decode prog_9_method_8_code 6 = .ok (.istore_n 2, 1) := by decide +kernel
theorem d_Store_flushPending_7 : decode prog_9_method_8_code 7 = .ok (.iload_n 2, 1) := by decide +kernel
theorem d_Store_flushPending_8 : decode prog_9_method_8_code 8 = .ok (.aload_n 0, 1) := by decide +kernel
theorem d_Store_flushPending_9 : decode prog_9_method_8_code 9 = .ok (.getfield 45, 3) := by decide +kernel
theorem d_Store_flushPending_12 : decode prog_9_method_8_code 12 = .ok (.if_icmp .ge 19, 3) := by decide +kernel
theorem d_Store_flushPending_15 : decode prog_9_method_8_code 15 = .ok (.aload_n 0, 1) := by decide +kernel
theorem d_Store_flushPending_16 : decode prog_9_method_8_code 16 = .ok (.aload_n 0, 1) := by decide +kernel
theorem d_Store_flushPending_17 : decode prog_9_method_8_code 17 = .ok (.getfield 17, 3) := by decide +kernel
theorem d_Store_flushPending_20 : decode prog_9_method_8_code 20 = .ok (.iload_n 2, 1) := by decide +kernel
theorem d_Store_flushPending_21 : decode prog_9_method_8_code 21 = .ok (.aaload, 1) := by decide +kernel
theorem d_Store_flushPending_22 : decode prog_9_method_8_code 22 = .ok (.invokevirtual 54, 3) := by decide +kernel
theorem d_Store_flushPending_25 : decode prog_9_method_8_code 25 = .ok (.iinc 2 1, 3) := by decide +kernel
theorem d_Store_flushPending_28 : decode prog_9_method_8_code 28 = .ok (.goto (-21), 3) := by decide +kernel
theorem d_Store_flushPending_31 : decode prog_9_method_8_code 31 = .ok (.aload_n 0, 1) := by decide +kernel
theorem d_Store_flushPending_32 : decode prog_9_method_8_code 32 = .ok (.iconst 0, 1) := by decide +kernel
theorem d_Store_flushPending_33 : decode prog_9_method_8_code 33 = .ok (.putfield 45, 3) := by decide +kernel
theorem d_Store_flushPending_36 : decode prog_9_method_8_code 36 = .ok (.aload_n 0, 1) := by decide +kernel
theorem d_Store_flushPending_37 : decode prog_9_method_8_code 37 = .ok (.iconst 0, 1) := by decide +kernel
theorem d_Store_flushPending_38 : decode prog_9_method_8_code 38 = .ok (.putfield 48, 3) := by decide +kernel
theorem d_Store_flushPending_41 : decode prog_9_method_8_code 41 = .ok (.aload_n 0, 1) := by decide +kernel
theorem d_Store_flushPending_42 : decode prog_9_method_8_code 42 = .ok (.iconst 0, 1) := by decide +kernel
theorem d_Store_flushPending_43 : decode prog_9_method_8_code 43 = .ok (.invokevirtual 58, 3) := by decide +kernel
theorem d_Store_flushPending_46 : decode prog_9_method_8_code 46 = .ok (.iconst 0, 1) := by decide +kernel
theorem d_Store_flushPending_47 : decode prog_9_method_8_code 47 = .ok (.istore_n 2, 1) := by decide +kernel
theorem d_Store_flushPending_48 : decode prog_9_method_8_code 48 = .ok (.iload_n 2, 1) := by decide +kernel
theorem d_Store_flushPending_49 : decode prog_9_method_8_code 49 = .ok (.iconst 5, 1) := by decide +kernel
theorem d_Store_flushPending_50 : decode prog_9_method_8_code 50 = .ok (.if_icmp .ge 27, 3) := by decide +kernel
theorem d_Store_flushPending_53 : decode prog_9_method_8_code 53 = .ok (.aload_n 0, 1) := by decide +kernel
theorem d_Store_flushPending_54 : decode prog_9_method_8_code 54 = .ok (.iload_n 2, 1) := by decide +kernel
theorem d_Store_flushPending_55 : decode prog_9_method_8_code 55 = .ok (.invokevirtual 62, 3) := by decide +kernel
theorem d_Store_flushPending_58 : decode prog_9_method_8_code 58 = .ok (.iload_n 1, 1) := by decide +kernel
theorem d_Store_flushPending_59 : decode prog_9_method_8_code 59 = .ok (.if_icmp .le 12, 3) := by decide +kernel
theorem d_Store_flushPending_62 : decode prog_9_method_8_code 62 = .ok (.aload_n 0, 1) := by decide +kernel
theorem d_Store_flushPending_63 : decode prog_9_method_8_code 63 = .ok (.iload_n 2, 1) := by decide +kernel
theorem d_Store_flushPending_64 : decode prog_9_method_8_code 64 = .ok (.iload_n 2, 1) := by decide +kernel
theorem d_Store_flushPending_65 : decode prog_9_method_8_code 65 = .ok (.iload_n 2, 1) := by decide +kernel
theorem d_Store_flushPending_66 : decode prog_9_method_8_code 66 = .ok (.iconst 1, 1) := by decide +kernel
theorem d_Store_flushPending_67 : decode prog_9_method_8_code 67 = .ok (.iadd, 1) := by decide +kernel
theorem d_Store_flushPending_68 : decode prog_9_method_8_code 68 = .ok (.invokevirtual 66, 3) := by decide +kernel
theorem d_Store_flushPending_71 : decode prog_9_method_8_code 71 = .ok (.iinc 2 1, 3) := by decide +kernel
theorem d_Store_flushPending_74 : decode prog_9_method_8_code 74 = .ok (.goto (-26), 3) := by decide +kernel
theorem d_Store_flushPending_77 : decode prog_9_method_8_code 77 = .ok (.return_, 1) := by decide +kernel
theorem d_Store_gatherLive_0 : decode prog_9_method_13_code 0 = .ok (.aload_n 0, 1) := by decide +kernel
theorem d_Store_gatherLive_1 : decode prog_9_method_13_code 1 = .ok (.getfield 11, 3) := by decide +kernel
theorem d_Store_gatherLive_4 : decode prog_9_method_13_code 4 = .ok (.aload_n 1, 1) := by decide +kernel
theorem d_Store_gatherLive_5 : decode prog_9_method_13_code 5 = .ok (.getfield 89, 3) := by decide +kernel
theorem d_Store_gatherLive_8 : decode prog_9_method_13_code 8 = .ok (.aaload, 1) := by decide +kernel
theorem d_Store_gatherLive_9 : decode prog_9_method_13_code 9 = .ok (.astore_n 2, 1) := by decide +kernel
theorem d_Store_gatherLive_10 : decode prog_9_method_13_code 10 = .ok (.aload_n 2, 1) := by decide +kernel
theorem d_Store_gatherLive_11 : decode prog_9_method_13_code 11 = .ok (.ifnull 18, 3) := by decide +kernel
theorem d_Store_gatherLive_14 : decode prog_9_method_13_code 14 = .ok (.aload_n 2, 1) := by decide +kernel
theorem d_Store_gatherLive_15 : decode prog_9_method_13_code 15 = .ok (.getfield 92, 3) := by decide +kernel
theorem d_Store_gatherLive_18 : decode prog_9_method_13_code 18 = .ok (.aload_n 1, 1) := by decide +kernel
theorem d_Store_gatherLive_19 : decode prog_9_method_13_code 19 = .ok (.getfield 92, 3) := by decide +kernel
theorem d_Store_gatherLive_22 : decode prog_9_method_13_code 22 = .ok (.if_icmp .ne 7, 3) := by decide +kernel
theorem d_Store_gatherLive_25 : decode prog_9_method_13_code 25 = .ok (.iconst 1, 1) := by decide +kernel
theorem d_Store_gatherLive_26 : decode prog_9_method_13_code 26 = .ok (.goto 4, 3) := by decide +kernel
theorem d_Store_gatherLive_29 : decode prog_9_method_13_code 29 = .ok (.iconst 0, 1) := by decide +kernel
theorem d_Store_gatherLive_30 : decode prog_9_method_13_code 30 = .ok (.istore_n 3, 1) := by decide +kernel
theorem d_Store_gatherLive_31 : decode prog_9_method_13_code 31 = .ok (.iload_n 3, 1) := by decide +kernel
theorem d_Store_gatherLive_32 : decode prog_9_method_13_code 32 = .ok (.ifCond .eq 35, 3) := by decide +kernel
theorem d_Store_gatherLive_35 : decode prog_9_method_13_code 35 = .ok (.aload_n 0, 1) := by decide +kernel
theorem d_Store_gatherLive_36 : decode prog_9_method_13_code 36 = .ok (.getfield 51, 3) := by decide +kernel
theorem d_Store_gatherLive_39 : decode prog_9_method_13_code 39 = .ok (.aload_n 0, 1) := by decide +kernel
theorem d_Store_gatherLive_40 : decode prog_9_method_13_code 40 = .ok (.getfield 26, 3) := by decide +kernel
theorem d_Store_gatherLive_43 : decode prog_9_method_13_code 43 = .ok (.arraylength, 1) := by decide +kernel
theorem d_Store_gatherLive_44 : decode prog_9_method_13_code 44 = .ok (.if_icmp .ge 23, 3) := by decide +kernel
theorem d_Store_gatherLive_47 : decode prog_9_method_13_code 47 = .ok (.aload_n 0, 1) := by decide +kernel
theorem d_Store_gatherLive_48 : decode prog_9_method_13_code 48 = .ok (.getfield 26, 3) := by decide +kernel
theorem d_Store_gatherLive_51 : decode prog_9_method_13_code 51 = .ok (.aload_n 0, 1) := by decide +kernel
theorem d_Store_gatherLive_52 : decode prog_9_method_13_code 52 = .ok (.getfield 51, 3) := by decide +kernel
theorem d_Store_gatherLive_55 : decode prog_9_method_13_code 55 = .ok (.aload_n 1, 1) := by decide +kernel
theorem d_Store_gatherLive_56 : decode prog_9_method_13_code 56 = .ok (.aastore, 1) := by decide +kernel
theorem d_Store_gatherLive_57 : decode prog_9_method_13_code 57 = .ok (.aload_n 0, 1) := by decide +kernel
theorem d_Store_gatherLive_58 : decode prog_9_method_13_code 58 = .ok (.dup, 1) := by decide +kernel
theorem d_Store_gatherLive_59 : decode prog_9_method_13_code 59 = .ok (.getfield 51, 3) := by decide +kernel
theorem d_Store_gatherLive_62 : decode prog_9_method_13_code 62 = .ok (.iconst 1, 1) := by decide +kernel
theorem d_Store_gatherLive_63 : decode prog_9_method_13_code 63 = .ok (.iadd, 1) := by decide +kernel
theorem d_Store_gatherLive_64 : decode prog_9_method_13_code 64 = .ok (.putfield 51, 3) := by decide +kernel
theorem d_Store_gatherLive_67 : decode prog_9_method_13_code 67 = .ok (.return_, 1) := by decide +kernel
theorem d_Store_addSegment_0 : decode prog_9_method_14_code 0 = .ok (.aload_n 0, 1) := by decide +kernel
theorem d_Store_addSegment_1 : decode prog_9_method_14_code 1 = .ok (.getfield 51, 3) := by decide +kernel
theorem d_Store_addSegment_4 : decode prog_9_method_14_code 4 = .ok (.ifCond .le 58, 3) := by decide +kernel
theorem d_Store_addSegment_7 : decode prog_9_method_14_code 7 = .ok (.aload_n 0, 1) := by decide +kernel
theorem d_Store_addSegment_8 : decode prog_9_method_14_code 8 = .ok (.getfield 70, 3) := by decide +kernel
theorem d_Store_addSegment_11 : decode prog_9_method_14_code 11 = .ok (.sipush 512, 3) := by decide +kernel
theorem d_Store_addSegment_14 : decode prog_9_method_14_code 14 = .ok (.if_icmp .ge 48, 3) := by decide +kernel
theorem d_Store_addSegment_17 : decode prog_9_method_14_code 17 = .ok (.aload_n 0, 1) := by decide +kernel
theorem d_Store_addSegment_18 : decode prog_9_method_14_code 18 = .ok (.getfield 22, 3) := by decide +kernel
theorem d_Store_addSegment_21 : decode prog_9_method_14_code 21 = .ok (.aload_n 0, 1) := by decide +kernel
theorem d_Store_addSegment_22 : decode prog_9_method_14_code 22 = .ok (.getfield 70, 3) := by decide +kernel
theorem d_Store_addSegment_25 : decode prog_9_method_14_code 25 = .ok (.new 20, 3) := by decide +kernel
theorem d_Store_addSegment_28 : decode prog_9_method_14_code 28 = .ok (.dup, 1) := by decide +kernel
theorem d_Store_addSegment_29 : decode prog_9_method_14_code 29 = .ok (.iload_n 1, 1) := by decide +kernel
theorem d_Store_addSegment_30 : decode prog_9_method_14_code 30 = .ok (.aload_n 0, 1) := by decide +kernel
theorem d_Store_addSegment_31 : decode prog_9_method_14_code 31 = .ok (.getfield 26, 3) := by decide +kernel
theorem d_Store_addSegment_34 : decode prog_9_method_14_code 34 = .ok (.aload_n 0, 1) := by decide +kernel
theorem d_Store_addSegment_35 : decode prog_9_method_14_code 35 = .ok (.getfield 51, 3) := by decide +kernel
theorem d_Store_addSegment_38 : decode prog_9_method_14_code 38 = .ok (.invokespecial 95, 3) := by decide +kernel
theorem d_Store_addSegment_41 : decode prog_9_method_14_code 41 = .ok (.aastore, 1) := by decide +kernel
theorem d_Store_addSegment_42 : decode prog_9_method_14_code 42 = .ok (.aload_n 0, 1) := by decide +kernel
theorem d_Store_addSegment_43 : decode prog_9_method_14_code 43 = .ok (.dup, 1) := by decide +kernel
theorem d_Store_addSegment_44 : decode prog_9_method_14_code 44 = .ok (.getfield 70, 3) := by decide +kernel
theorem d_Store_addSegment_47 : decode prog_9_method_14_code 47 = .ok (.iconst 1, 1) := by decide +kernel
theorem d_Store_addSegment_48 : decode prog_9_method_14_code 48 = .ok (.iadd, 1) := by decide +kernel
theorem d_Store_addSegment_49 : decode prog_9_method_14_code 49 = .ok (.putfield 70, 3) := by decide +kernel
theorem d_Store_addSegment_52 : decode prog_9_method_14_code 52 = .ok (.aload_n 0, 1) := by decide +kernel
theorem d_Store_addSegment_53 : decode prog_9_method_14_code 53 = .ok (.dup, 1) := by decide +kernel
theorem d_Store_addSegment_54 : decode prog_9_method_14_code 54 = .ok (.getfield 98, 3) := by decide +kernel
theorem d_Store_addSegment_57 : decode prog_9_method_14_code 57 = .ok (.iconst 1, 1) := by decide +kernel
theorem d_Store_addSegment_58 : decode prog_9_method_14_code 58 = .ok (.iadd, 1) := by decide +kernel
theorem d_Store_addSegment_59 : decode prog_9_method_14_code 59 = .ok (.putfield 98, 3) := by decide +kernel
theorem d_Store_addSegment_62 : decode prog_9_method_14_code 62 = .ok (.return_, 1) := by decide +kernel
theorem d_Segment_init_0 : decode prog_7_method_1_code 0 = .ok (.aload_n 0, 1) := by decide +kernel
theorem d_Segment_init_1 : decode prog_7_method_1_code 1 = .ok (.invokespecial 1, 3) := by decide +kernel
theorem d_Segment_init_4 : decode prog_7_method_1_code 4 = .ok (.aload_n 0, 1) := by decide +kernel
theorem d_Segment_init_5 : decode prog_7_method_1_code 5 = .ok (.iload_n 1, 1) := by decide +kernel
theorem d_Segment_init_6 : decode prog_7_method_1_code 6 = .ok (.putfield 7, 3) := by decide +kernel
theorem d_Segment_init_9 : decode prog_7_method_1_code 9 = .ok (.aload_n 0, 1) := by decide +kernel
theorem d_Segment_init_10 : decode prog_7_method_1_code 10 = .ok (.iload_n 3, 1) := by decide +kernel
theorem d_Segment_init_11 : decode prog_7_method_1_code 11 = .ok (.anewarray 13, 3) := by decide +kernel
theorem d_Segment_init_14 : decode prog_7_method_1_code 14 = .ok (.putfield 15, 3) := by decide +kernel
theorem d_Segment_init_17 : decode prog_7_method_1_code 17 = .ok (.iconst 0, 1) := by decide +kernel
theorem d_Segment_init_18 : decode prog_7_method_1_code 18 = .ok (.istore 4, 2) := by decide +kernel
theorem d_Segment_init_20 : decode prog_7_method_1_code 20 = .ok (.iconst 0, 1) := by decide +kernel
theorem d_Segment_init_21 : decode prog_7_method_1_code 21 = .ok (.istore 5, 2) := by decide +kernel
theorem d_Segment_init_23 : decode prog_7_method_1_code 23 = .ok (.iload 5, 2) := by decide +kernel
theorem d_Segment_init_25 : decode prog_7_method_1_code 25 = .ok (.iload_n 3, 1) := by decide +kernel
theorem d_Segment_init_26 : decode prog_7_method_1_code 26 = .ok (.if_icmp .ge 32, 3) := by decide +kernel
theorem d_Segment_init_29 : decode prog_7_method_1_code 29 = .ok (.aload_n 0, 1) := by decide +kernel
theorem d_Segment_init_30 : decode prog_7_method_1_code 30 = .ok (.getfield 15, 3) := by decide +kernel
theorem d_Segment_init_33 : decode prog_7_method_1_code 33 = .ok (.iload 5, 2) := by decide +kernel
theorem d_Segment_init_35 : decode prog_7_method_1_code 35 = .ok (.aload_n 2, 1) := by decide +kernel
theorem d_Segment_init_36 : decode prog_7_method_1_code 36 = .ok (.iload 5, 2) := by decide +kernel
theorem d_Segment_init_38 : decode prog_7_method_1_code 38 = .ok (.aaload, 1) := by decide +kernel
theorem d_Segment_init_39 : decode prog_7_method_1_code 39 = .ok (.aastore, 1) := by decide +kernel
theorem d_Segment_init_40 : decode prog_7_method_1_code 40 = .ok (.iload 4, 2) := by decide +kernel
theorem d_Segment_init_42 : decode prog_7_method_1_code 42 = .ok (.aload_n 2, 1) := by decide +kernel
theorem d_Segment_init_43 : decode prog_7_method_1_code 43 = .ok (.iload 5, 2) := by decide +kernel
theorem d_Segment_init_45 : decode prog_7_method_1_code 45 = .ok (.aaload, 1) := by decide +kernel
theorem d_Segment_init_46 : decode prog_7_method_1_code 46 = .ok (.getfield 19, 3) := by decide +kernel
theorem d_Segment_init_49 : decode prog_7_method_1_code 49 = .ok (.iadd, 1) := by decide +kernel
theorem d_Segment_init_50 : decode prog_7_method_1_code 50 = .ok (.istore 4, 2) := by decide +kernel
theorem d_Segment_init_52 : decode prog_7_method_1_code 52 = .ok (.iinc 5 1, 3) := by decide +kernel
theorem d_Segment_init_55 : decode prog_7_method_1_code 55 = .ok (.goto (-32), 3) := by decide +kernel
theorem d_Segment_init_58 : decode prog_7_method_1_code 58 = .ok (.aload_n 0, 1) := by decide +kernel
theorem d_Segment_init_59 : decode prog_7_method_1_code 59 = .ok (.iload 4, 2) := by decide +kernel
theorem d_Segment_init_61 : decode prog_7_method_1_code 61 = .ok (.putfield 22, 3) := by decide +kernel
theorem d_Segment_init_64 : decode prog_7_method_1_code 64 = .ok (.return_, 1) := by decide +kernel
theorem d_Store_segmentsOf_0 : decode prog_9_method_10_code 0 = .ok (.iconst 0, 1) := by decide +kernel
theorem d_Store_segmentsOf_1 : decode prog_9_method_10_code 1 = .ok (.istore_n 2, 1) := by decide +kernel
theorem d_Store_segmentsOf_2 : decode prog_9_method_10_code 2 = .ok (.iconst 0, 1) := by decide +kernel
theorem d_Store_segmentsOf_3 : decode prog_9_method_10_code 3 = .ok (.istore_n 3, 1) := by decide +kernel
theorem d_Store_segmentsOf_4 : decode prog_9_method_10_code 4 = .ok (.iload_n 3, 1) := by decide +kernel
theorem d_Store_segmentsOf_5 : decode prog_9_method_10_code 5 = .ok (.aload_n 0, 1) := by decide +kernel
theorem d_Store_segmentsOf_6 : decode prog_9_method_10_code 6 = .ok (.getfield 70, 3) := by decide +kernel
theorem d_Store_segmentsOf_9 : decode prog_9_method_10_code 9 = .ok (.if_icmp .ge 25, 3) := by decide +kernel
theorem d_Store_segmentsOf_12 : decode prog_9_method_10_code 12 = .ok (.aload_n 0, 1) := by decide +kernel
theorem d_Store_segmentsOf_13 : decode prog_9_method_10_code 13 = .ok (.getfield 22, 3) := by decide +kernel
theorem d_Store_segmentsOf_16 : decode prog_9_method_10_code 16 = .ok (.iload_n 3, 1) := by decide +kernel
theorem d_Store_segmentsOf_17 : decode prog_9_method_10_code 17 = .ok (.aaload, 1) := by decide +kernel
theorem d_Store_segmentsOf_18 : decode prog_9_method_10_code 18 = .ok (.getfield 73, 3) := by decide +kernel
theorem d_Store_segmentsOf_21 : decode prog_9_method_10_code 21 = .ok (.iload_n 1, 1) := by decide +kernel
theorem d_Store_segmentsOf_22 : decode prog_9_method_10_code 22 = .ok (.if_icmp .ne 6, 3) := by decide +kernel
theorem d_Store_segmentsOf_25 : decode prog_9_method_10_code 25 = .ok (.iinc 2 1, 3) := by decide +kernel
theorem d_Store_segmentsOf_28 : decode prog_9_method_10_code 28 = .ok (.iinc 3 1, 3) := by decide +kernel
theorem d_Store_segmentsOf_31 : decode prog_9_method_10_code 31 = .ok (.goto (-27), 3) := by decide +kernel
theorem d_Store_segmentsOf_34 : decode prog_9_method_10_code 34 = .ok (.iload_n 2, 1) := by decide +kernel
theorem d_Store_segmentsOf_35 : decode prog_9_method_10_code 35 = .ok (.ireturn, 1) := by decide +kernel
theorem d_Store_mergeLevels_0 : decode prog_9_method_11_code 0 = .ok (.aload_n 0, 1) := by decide +kernel
theorem d_Store_mergeLevels_1 : decode prog_9_method_11_code 1 = .ok (.iconst 0, 1) := by decide +kernel
theorem d_Store_mergeLevels_2 : decode prog_9_method_11_code 2 = .ok (.putfield 51, 3) := by decide +kernel
theorem d_Store_mergeLevels_5 : decode prog_9_method_11_code 5 = .ok (.iconst 0, 1) := by decide +kernel
theorem d_Store_mergeLevels_6 : decode prog_9_method_11_code 6 = .ok (.istore 4, 2) := by decide +kernel
theorem d_Store_mergeLevels_8 : decode prog_9_method_11_code 8 = .ok (.iconst 0, 1) := by decide +kernel
theorem d_Store_mergeLevels_9 : decode prog_9_method_11_code 9 = .ok (.istore 5, 2) := by decide +kernel
theorem d_Store_mergeLevels_11 : decode prog_9_method_11_code 11 = .ok (.iload 5, 2) := by decide +kernel
theorem d_Store_mergeLevels_13 : decode prog_9_method_11_code 13 = .ok (.aload_n 0, 1) := by decide +kernel
theorem d_Store_mergeLevels_14 : decode prog_9_method_11_code 14 = .ok (.getfield 70, 3) := by decide +kernel
theorem d_Store_mergeLevels_17 : decode prog_9_method_11_code 17 = .ok (.if_icmp .ge 57, 3) := by decide +kernel
theorem d_Store_mergeLevels_20 : decode prog_9_method_11_code 20 = .ok (.aload_n 0, 1) := by decide +kernel
theorem d_Store_mergeLevels_21 : decode prog_9_method_11_code 21 = .ok (.getfield 22, 3) := by decide +kernel
theorem d_Store_mergeLevels_24 : decode prog_9_method_11_code 24 = .ok (.iload 5, 2) := by decide +kernel
theorem d_Store_mergeLevels_26 : decode prog_9_method_11_code 26 = .ok (.aaload, 1) := by decide +kernel
theorem d_Store_mergeLevels_27 : decode prog_9_method_11_code 27 = .ok (.astore 6, 2) := by decide +kernel
theorem d_Store_mergeLevels_29 : decode prog_9_method_11_code 29 = .ok (.aload 6, 2) := by decide +kernel
theorem d_Store_mergeLevels_31 : decode prog_9_method_11_code 31 = .ok (.getfield 73, 3) := by decide +kernel
theorem d_Store_mergeLevels_34 : decode prog_9_method_11_code 34 = .ok (.iload_n 1, 1) := by decide +kernel
theorem d_Store_mergeLevels_35 : decode prog_9_method_11_code 35 = .ok (.if_icmp .lt 12, 3) := by decide +kernel
theorem d_Store_mergeLevels_38 : decode prog_9_method_11_code 38 = .ok (.aload 6, 2) := by decide +kernel
theorem d_Store_mergeLevels_40 : decode prog_9_method_11_code 40 = .ok (.getfield 73, 3) := by decide +kernel
theorem d_Store_mergeLevels_43 : decode prog_9_method_11_code 43 = .ok (.iload_n 2, 1) := by decide +kernel
theorem d_Store_mergeLevels_44 : decode prog_9_method_11_code 44 = .ok (.if_icmp .le 18, 3) := by decide +kernel
theorem d_Store_mergeLevels_47 : decode prog_9_method_11_code 47 = .ok (.aload_n 0, 1) := by decide +kernel
theorem d_Store_mergeLevels_48 : decode prog_9_method_11_code 48 = .ok (.getfield 22, 3) := by decide +kernel
theorem d_Store_mergeLevels_51 : decode prog_9_method_11_code 51 = .ok (.iload 4, 2) := by decide +kernel
theorem d_Store_mergeLevels_53 : decode prog_9_method_11_code 53 = .ok (.aload 6, 2) := by decide +kernel
theorem d_Store_mergeLevels_55 : decode prog_9_method_11_code 55 = .ok (.aastore, 1) := by decide +kernel
theorem d_Store_mergeLevels_56 : decode prog_9_method_11_code 56 = .ok (.iinc 4 1, 3) := by decide +kernel
theorem d_Store_mergeLevels_59 : decode prog_9_method_11_code 59 = .ok (.goto 9, 3) := by decide +kernel
theorem d_Store_mergeLevels_62 : decode prog_9_method_11_code 62 = .ok (.aload_n 0, 1) := by decide +kernel
theorem d_Store_mergeLevels_63 : decode prog_9_method_11_code 63 = .ok (.aload 6, 2) := by decide +kernel
theorem d_Store_mergeLevels_65 : decode prog_9_method_11_code 65 = .ok (.invokevirtual 82, 3) := by decide +kernel
theorem d_Store_mergeLevels_68 : decode prog_9_method_11_code 68 = .ok (.iinc 5 1, 3) := by decide +kernel
theorem d_Store_mergeLevels_71 : decode prog_9_method_11_code 71 = .ok (.goto (-60), 3) := by decide +kernel
theorem d_Store_mergeLevels_74 : decode prog_9_method_11_code 74 = .ok (.aload_n 0, 1) := by decide +kernel
theorem d_Store_mergeLevels_75 : decode prog_9_method_11_code 75 = .ok (.iload 4, 2) := by decide +kernel
theorem d_Store_mergeLevels_77 : decode prog_9_method_11_code 77 = .ok (.putfield 70, 3) := by decide +kernel
theorem d_Store_mergeLevels_80 : decode prog_9_method_11_code 80 = .ok (.aload_n 0, 1) := by decide +kernel
theorem d_Store_mergeLevels_81 : decode prog_9_method_11_code 81 = .ok (.iload_n 3, 1) := by decide +kernel
theorem d_Store_mergeLevels_82 : decode prog_9_method_11_code 82 = .ok (.invokevirtual 58, 3) := by decide +kernel
theorem d_Store_mergeLevels_85 : decode prog_9_method_11_code 85 = .ok (.return_, 1) := by decide +kernel
theorem d_Store_gatherAllLive_0 : decode prog_9_method_12_code 0 = .ok (.iconst 0, 1) := by decide +kernel
theorem d_Store_gatherAllLive_1 : decode prog_9_method_12_code 1 = .ok (.istore_n 2, 1) := by decide +kernel
theorem d_Store_gatherAllLive_2 : decode prog_9_method_12_code 2 = .ok (.iload_n 2, 1) := by decide +kernel
theorem d_Store_gatherAllLive_3 : decode prog_9_method_12_code 3 = .ok (.aload_n 1, 1) := by decide +kernel
theorem d_Store_gatherAllLive_4 : decode prog_9_method_12_code 4 = .ok (.getfield 86, 3) := by decide +kernel
theorem d_Store_gatherAllLive_7 : decode prog_9_method_12_code 7 = .ok (.arraylength, 1) := by decide +kernel
theorem d_Store_gatherAllLive_8 : decode prog_9_method_12_code 8 = .ok (.if_icmp .ge 19, 3) := by decide +kernel
theorem d_Store_gatherAllLive_11 : decode prog_9_method_12_code 11 = .ok (.aload_n 0, 1) := by decide +kernel
theorem d_Store_gatherAllLive_12 : decode prog_9_method_12_code 12 = .ok (.aload_n 1, 1) := by decide +kernel
theorem d_Store_gatherAllLive_13 : decode prog_9_method_12_code 13 = .ok (.getfield 86, 3) := by decide +kernel
theorem d_Store_gatherAllLive_16 : decode prog_9_method_12_code 16 = .ok (.iload_n 2, 1) := by decide +kernel
theorem d_Store_gatherAllLive_17 : decode prog_9_method_12_code 17 = .ok (.aaload, 1) := by decide +kernel
theorem d_Store_gatherAllLive_18 : decode prog_9_method_12_code 18 = .ok (.invokevirtual 54, 3) := by decide +kernel
theorem d_Store_gatherAllLive_21 : decode prog_9_method_12_code 21 = .ok (.iinc 2 1, 3) := by decide +kernel
theorem d_Store_gatherAllLive_24 : decode prog_9_method_12_code 24 = .ok (.goto (-22), 3) := by decide +kernel
theorem d_Store_gatherAllLive_27 : decode prog_9_method_12_code 27 = .ok (.return_, 1) := by decide +kernel
theorem d_Shelf_optimize_0 : decode prog_1_method_12_code 0 = .ok (.aload_n 0, 1) := by decide +kernel
theorem d_Shelf_optimize_1 : decode prog_1_method_12_code 1 = .ok (.getfield 26, 3) := by decide +kernel
theorem d_Shelf_optimize_4 : decode prog_1_method_12_code 4 = .ok (.invokevirtual 156, 3) := by decide +kernel
theorem d_Shelf_optimize_7 : decode prog_1_method_12_code 7 = .ok (.ireturn, 1) := by decide +kernel
theorem d_Store_mergeAll_0 : decode prog_9_method_9_code 0 = .ok (.aload_n 0, 1) := by decide +kernel
theorem d_Store_mergeAll_1 : decode prog_9_method_9_code 1 = .ok (.getfield 70, 3) := by decide +kernel
theorem d_Store_mergeAll_4 : decode prog_9_method_9_code 4 = .ok (.istore_n 1, 1) := by decide +kernel
theorem d_Store_mergeAll_5 : decode prog_9_method_9_code 5 = .ok (.iconst 0, 1) := by decide +kernel
theorem d_Store_mergeAll_6 : decode prog_9_method_9_code 6 = .ok (.istore_n 2, 1) := by decide +kernel
theorem d_Store_mergeAll_7 : decode prog_9_method_9_code 7 = .ok (.iconst 0, 1) := by decide +kernel
theorem d_Store_mergeAll_8 : decode prog_9_method_9_code 8 = .ok (.istore_n 3, 1) := by decide +kernel
theorem d_Store_mergeAll_9 : decode prog_9_method_9_code 9 = .ok (.iload_n 3, 1) := by decide +kernel
theorem d_Store_mergeAll_10 : decode prog_9_method_9_code 10 = .ok (.aload_n 0, 1) := by decide +kernel
theorem d_Store_mergeAll_11 : decode prog_9_method_9_code 11 = .ok (.getfield 70, 3) := by decide +kernel
theorem d_Store_mergeAll_14 : decode prog_9_method_9_code 14 = .ok (.if_icmp .ge 23, 3) := by decide +kernel
theorem d_Store_mergeAll_17 : decode prog_9_method_9_code 17 = .ok (.iload_n 2, 1) := by decide +kernel
theorem d_Store_mergeAll_18 : decode prog_9_method_9_code 18 = .ok (.aload_n 0, 1) := by decide +kernel
theorem d_Store_mergeAll_19 : decode prog_9_method_9_code 19 = .ok (.getfield 22, 3) := by decide +kernel
theorem d_Store_mergeAll_22 : decode prog_9_method_9_code 22 = .ok (.iload_n 3, 1) := by decide +kernel
theorem d_Store_mergeAll_23 : decode prog_9_method_9_code 23 = .ok (.aaload, 1) := by decide +kernel
theorem d_Store_mergeAll_24 : decode prog_9_method_9_code 24 = .ok (.getfield 73, 3) := by decide +kernel
theorem d_Store_mergeAll_27 : decode prog_9_method_9_code 27 = .ok (.invokestatic 76, 3) := by decide +kernel
theorem d_Store_mergeAll_30 : decode prog_9_method_9_code 30 = .ok (.istore_n 2, 1) := by decide +kernel
theorem d_Store_mergeAll_31 : decode prog_9_method_9_code 31 = .ok (.iinc 3 1, 3) := by decide +kernel
theorem d_Store_mergeAll_34 : decode prog_9_method_9_code 34 = .ok (.goto (-25), 3) := by decide +kernel
theorem d_Store_mergeAll_37 : decode prog_9_method_9_code 37 = .ok (.aload_n 0, 1) := by decide +kernel
theorem d_Store_mergeAll_38 : decode prog_9_method_9_code 38 = .ok (.iconst 0, 1) := by decide +kernel
theorem d_Store_mergeAll_39 : decode prog_9_method_9_code 39 = .ok (.iconst 5, 1) := by decide +kernel
theorem d_Store_mergeAll_40 : decode prog_9_method_9_code 40 = .ok (.iload_n 2, 1) := by decide +kernel
theorem d_Store_mergeAll_41 : decode prog_9_method_9_code 41 = .ok (.invokevirtual 66, 3) := by decide +kernel
theorem d_Store_mergeAll_44 : decode prog_9_method_9_code 44 = .ok (.iload_n 1, 1) := by decide +kernel
theorem d_Store_mergeAll_45 : decode prog_9_method_9_code 45 = .ok (.ireturn, 1) := by decide +kernel
theorem d_Shelf_wrong_0 : decode prog_1_method_16_code 0 = .ok (.aload_n 0, 1) := by decide +kernel
theorem d_Shelf_wrong_1 : decode prog_1_method_16_code 1 = .ok (.getfield 64, 3) := by decide +kernel
theorem d_Shelf_wrong_4 : decode prog_1_method_16_code 4 = .ok (.ireturn, 1) := by decide +kernel
theorem d_Shelf_letters_0 : decode prog_1_method_2_code 0 = .ok (.lload_n 1, 1) := by decide +kernel
theorem d_Shelf_letters_1 : decode prog_1_method_2_code 1 = .ok (.invokestatic 67, 3) := by decide +kernel
theorem d_Shelf_letters_4 : decode prog_1_method_2_code 4 = .ok (.istore_n 3, 1) := by decide +kernel
theorem d_Shelf_letters_5 : decode prog_1_method_2_code 5 = .ok (.iload_n 3, 1) := by decide +kernel
theorem d_Shelf_letters_6 : decode prog_1_method_2_code 6 = .ok (.ifCond .ne 13, 3) := by decide +kernel
theorem d_Shelf_letters_9 : decode prog_1_method_2_code 9 = .ok (.new 71, 3) := by decide +kernel
theorem d_Shelf_letters_12 : decode prog_1_method_2_code 12 = .ok (.dup, 1) := by decide +kernel
theorem d_Shelf_letters_13 : decode prog_1_method_2_code 13 = .ok (.ldc 73, 2) := by decide +kernel
theorem d_Shelf_letters_15 : decode prog_1_method_2_code 15 = .ok (.invokespecial 75, 3) := by decide +kernel
theorem d_Shelf_letters_18 : decode prog_1_method_2_code 18 = .ok (.athrow, 1) := by decide +kernel
theorem d_Shelf_letters_19 : decode prog_1_method_2_code 19 = .ok (.aload_n 0, 1) := by decide +kernel
theorem d_Shelf_letters_20 : decode prog_1_method_2_code 20 = .ok (.getfield 78, 3) := by decide +kernel
theorem d_Shelf_letters_23 : decode prog_1_method_2_code 23 = .ok (.iload_n 3, 1) := by decide +kernel
theorem d_Shelf_letters_24 : decode prog_1_method_2_code 24 = .ok (.iadd, 1) := by decide +kernel
theorem d_Shelf_letters_25 : decode prog_1_method_2_code 25 = .ok (.bipush 96, 2) := by decide +kernel
theorem d_Shelf_letters_27 : decode prog_1_method_2_code 27 = .ok (.if_icmp .le 13, 3) := by decide +kernel
theorem d_Shelf_letters_30 : decode prog_1_method_2_code 30 = .ok (.new 81, 3) := by decide +kernel
theorem d_Shelf_letters_33 : decode prog_1_method_2_code 33 = .ok (.dup, 1) := by decide +kernel
theorem d_Shelf_letters_34 : decode prog_1_method_2_code 34 = .ok (.ldc 83, 2) := by decide +kernel
theorem d_Shelf_letters_36 : decode prog_1_method_2_code 36 = .ok (.invokespecial 85, 3) := by decide +kernel
theorem d_Shelf_letters_39 : decode prog_1_method_2_code 39 = .ok (.athrow, 1) := by decide +kernel
theorem d_Shelf_letters_40 : decode prog_1_method_2_code 40 = .ok (.iconst 0, 1) := by decide +kernel
theorem d_Shelf_letters_41 : decode prog_1_method_2_code 41 = .ok (.istore 4, 2) := by decide +kernel
theorem d_Shelf_letters_43 : decode prog_1_method_2_code 43 = .ok (.iload 4, 2) := by decide +kernel
theorem d_Shelf_letters_45 : decode prog_1_method_2_code 45 = .ok (.iload_n 3, 1) := by decide +kernel
theorem d_Shelf_letters_46 : decode prog_1_method_2_code 46 = .ok (.if_icmp .ge 28, 3) := by decide +kernel
theorem d_Shelf_letters_49 : decode prog_1_method_2_code 49 = .ok (.aload_n 0, 1) := by decide +kernel
theorem d_Shelf_letters_50 : decode prog_1_method_2_code 50 = .ok (.getfield 9, 3) := by decide +kernel
theorem d_Shelf_letters_53 : decode prog_1_method_2_code 53 = .ok (.aload_n 0, 1) := by decide +kernel
theorem d_Shelf_letters_54 : decode prog_1_method_2_code 54 = .ok (.getfield 78, 3) := by decide +kernel
theorem d_Shelf_letters_57 : decode prog_1_method_2_code 57 = .ok (.iload 4, 2) := by decide +kernel
theorem d_Shelf_letters_59 : decode prog_1_method_2_code 59 = .ok (.iadd, 1) := by decide +kernel
theorem d_Shelf_letters_60 : decode prog_1_method_2_code 60 = .ok (.lload_n 1, 1) := by decide +kernel
theorem d_Shelf_letters_61 : decode prog_1_method_2_code 61 = .ok (.iload 4, 2) := by decide +kernel
theorem d_Shelf_letters_63 : decode prog_1_method_2_code 63 = .ok (.invokestatic 86, 3) := by decide +kernel
theorem d_Shelf_letters_66 : decode prog_1_method_2_code 66 = .ok (.i2c, 1) := by decide +kernel
theorem d_Shelf_letters_67 : decode prog_1_method_2_code 67 = .ok (.castore, 1) := by decide +kernel
theorem d_Shelf_letters_68 : decode prog_1_method_2_code 68 = .ok (.iinc 4 1, 3) := by decide +kernel
theorem d_Shelf_letters_71 : decode prog_1_method_2_code 71 = .ok (.goto (-28), 3) := by decide +kernel
theorem d_Shelf_letters_74 : decode prog_1_method_2_code 74 = .ok (.aload_n 0, 1) := by decide +kernel
theorem d_Shelf_letters_75 : decode prog_1_method_2_code 75 = .ok (.dup, 1) := by decide +kernel
theorem d_Shelf_letters_76 : decode prog_1_method_2_code 76 = .ok (.getfield 78, 3) := by decide +kernel
theorem d_Shelf_letters_79 : decode prog_1_method_2_code 79 = .ok (.iload_n 3, 1) := by decide +kernel
theorem d_Shelf_letters_80 : decode prog_1_method_2_code 80 = .ok (.iadd, 1) := by decide +kernel
theorem d_Shelf_letters_81 : decode prog_1_method_2_code 81 = .ok (.putfield 78, 3) := by decide +kernel
theorem d_Shelf_letters_84 : decode prog_1_method_2_code 84 = .ok (.aload_n 0, 1) := by decide +kernel
theorem d_Shelf_letters_85 : decode prog_1_method_2_code 85 = .ok (.getfield 78, 3) := by decide +kernel
theorem d_Shelf_letters_88 : decode prog_1_method_2_code 88 = .ok (.ireturn, 1) := by decide +kernel
theorem d_Shelf_lettersIn_0 : decode prog_1_method_23_code 0 = .ok (.iconst 0, 1) := by decide +kernel
theorem d_Shelf_lettersIn_1 : decode prog_1_method_23_code 1 = .ok (.istore_n 2, 1) := by decide +kernel
theorem d_Shelf_lettersIn_2 : decode prog_1_method_23_code 2 = .ok (.iload_n 2, 1) := by decide +kernel
theorem d_Shelf_lettersIn_3 : decode prog_1_method_23_code 3 = .ok (.bipush 8, 2) := by decide +kernel
theorem d_Shelf_lettersIn_5 : decode prog_1_method_23_code 5 = .ok (.if_icmp .ge 35, 3) := by decide +kernel
theorem d_Shelf_lettersIn_8 : decode prog_1_method_23_code 8 = .ok (.lload_n 0, 1) := by decide +kernel
theorem d_Shelf_lettersIn_9 : decode prog_1_method_23_code 9 = .ok (.iload_n 2, 1) := by decide +kernel
theorem d_Shelf_lettersIn_10 : decode prog_1_method_23_code 10 = .ok (.invokestatic 86, 3) := by decide +kernel
theorem d_Shelf_lettersIn_13 : decode prog_1_method_23_code 13 = .ok (.istore_n 3, 1) := by decide +kernel
theorem d_Shelf_lettersIn_14 : decode prog_1_method_23_code 14 = .ok (.iload_n 3, 1) := by decide +kernel
theorem d_Shelf_lettersIn_15 : decode prog_1_method_23_code 15 = .ok (.ifCond .ne 5, 3) := by decide +kernel
theorem d_Shelf_lettersIn_18 : decode prog_1_method_23_code 18 = .ok (.iload_n 2, 1) := by decide +kernel
theorem d_Shelf_lettersIn_19 : decode prog_1_method_23_code 19 = .ok (.ireturn, 1) := by decide +kernel
theorem d_Shelf_lettersIn_20 : decode prog_1_method_23_code 20 = .ok (.iload_n 3, 1) := by decide +kernel
theorem d_Shelf_lettersIn_21 : decode prog_1_method_23_code 21 = .ok (.bipush 32, 2) := by decide +kernel
theorem d_Shelf_lettersIn_23 : decode prog_1_method_23_code 23 = .ok (.if_icmp .lt 9, 3) := by decide +kernel
theorem d_Shelf_lettersIn_26 : decode prog_1_method_23_code 26 = .ok (.iload_n 3, 1) := by decide +kernel
theorem d_Shelf_lettersIn_27 : decode prog_1_method_23_code 27 = .ok (.bipush 126, 2) := by decide +kernel
theorem d_Shelf_lettersIn_29 : decode prog_1_method_23_code 29 = .ok (.if_icmp .le 5, 3) := by decide +kernel
theorem d_Shelf_lettersIn_32 : decode prog_1_method_23_code 32 = .ok (.iconst 0, 1) := by decide +kernel
theorem d_Shelf_lettersIn_33 : decode prog_1_method_23_code 33 = .ok (.ireturn, 1) := by decide +kernel
theorem d_Shelf_lettersIn_34 : decode prog_1_method_23_code 34 = .ok (.iinc 2 1, 3) := by decide +kernel
theorem d_Shelf_lettersIn_37 : decode prog_1_method_23_code 37 = .ok (.goto (-35), 3) := by decide +kernel
theorem d_Shelf_lettersIn_40 : decode prog_1_method_23_code 40 = .ok (.bipush 8, 2) := by decide +kernel
theorem d_Shelf_lettersIn_42 : decode prog_1_method_23_code 42 = .ok (.ireturn, 1) := by decide +kernel
theorem d_Shelf_octet_0 : decode prog_1_method_24_code 0 = .ok (.lload_n 0, 1) := by decide +kernel
theorem d_Shelf_octet_1 : decode prog_1_method_24_code 1 = .ok (.bipush 8, 2) := by decide +kernel
theorem d_Shelf_octet_3 : decode prog_1_method_24_code 3 = .ok (.iload_n 2, 1) := by decide +kernel
theorem d_Shelf_octet_4 : decode prog_1_method_24_code 4 = .ok (.imul, 1) := by decide +kernel
theorem d_Shelf_octet_5 : decode prog_1_method_24_code 5 = .ok (.lushr, 1) := by decide +kernel
theorem d_Shelf_octet_6 : decode prog_1_method_24_code 6 = .ok (.l2i, 1) := by decide +kernel
theorem d_Shelf_octet_7 : decode prog_1_method_24_code 7 = .ok (.sipush 255, 3) := by decide +kernel
theorem d_Shelf_octet_10 : decode prog_1_method_24_code 10 = .ok (.iand, 1) := by decide +kernel
theorem d_Shelf_octet_11 : decode prog_1_method_24_code 11 = .ok (.ireturn, 1) := by decide +kernel
theorem d_Shelf_set_0 : decode prog_1_method_4_code 0 = .ok (.iload_n 1, 1) := by decide +kernel
theorem d_Shelf_set_1 : decode prog_1_method_4_code 1 = .ok (.invokestatic 90, 3) := by decide +kernel
theorem d_Shelf_set_4 : decode prog_1_method_4_code 4 = .ok (.ifCond .ne 13, 3) := by decide +kernel
theorem d_Shelf_set_7 : decode prog_1_method_4_code 7 = .ok (.new 71, 3) := by decide +kernel
theorem d_Shelf_set_10 : decode prog_1_method_4_code 10 = .ok (.dup, 1) := by decide +kernel
theorem d_Shelf_set_11 : decode prog_1_method_4_code 11 = .ok (.ldc 94, 2) := by decide +kernel
theorem d_Shelf_set_13 : decode prog_1_method_4_code 13 = .ok (.invokespecial 75, 3) := by decide +kernel
theorem d_Shelf_set_16 : decode prog_1_method_4_code 16 = .ok (.athrow, 1) := by decide +kernel
theorem d_Shelf_set_17 : decode prog_1_method_4_code 17 = .ok (.aload_n 0, 1) := by decide +kernel
theorem d_Shelf_set_18 : decode prog_1_method_4_code 18 = .ok (.getfield 78, 3) := by decide +kernel
theorem d_Shelf_set_21 : decode prog_1_method_4_code 21 = .ok (.bipush 48, 2) := by decide +kernel
theorem d_Shelf_set_23 : decode prog_1_method_4_code 23 = .ok (.if_icmp .le 13, 3) := by decide +kernel
theorem d_Shelf_set_26 : decode prog_1_method_4_code 26 = .ok (.new 81, 3) := by decide +kernel
theorem d_Shelf_set_29 : decode prog_1_method_4_code 29 = .ok (.dup, 1) := by decide +kernel
theorem d_Shelf_set_30 : decode prog_1_method_4_code 30 = .ok (.ldc 96, 2) := by decide +kernel
theorem d_Shelf_set_32 : decode prog_1_method_4_code 32 = .ok (.invokespecial 85, 3) := by decide +kernel
theorem d_Shelf_set_35 : decode prog_1_method_4_code 35 = .ok (.athrow, 1) := by decide +kernel
theorem d_Shelf_set_36 : decode prog_1_method_4_code 36 = .ok (.new 13, 3) := by decide +kernel
theorem d_Shelf_set_39 : decode prog_1_method_4_code 39 = .ok (.dup, 1) := by decide +kernel
theorem d_Shelf_set_40 : decode prog_1_method_4_code 40 = .ok (.aload_n 0, 1) := by decide +kernel
theorem d_Shelf_set_41 : decode prog_1_method_4_code 41 = .ok (.getfield 78, 3) := by decide +kernel
theorem d_Shelf_set_44 : decode prog_1_method_4_code 44 = .ok (.invokespecial 54, 3) := by decide +kernel
theorem d_Shelf_set_47 : decode prog_1_method_4_code 47 = .ok (.astore_n 2, 1) := by decide +kernel
theorem d_Shelf_set_48 : decode prog_1_method_4_code 48 = .ok (.aload_n 2, 1) := by decide +kernel
theorem d_Shelf_set_49 : decode prog_1_method_4_code 49 = .ok (.aload_n 0, 1) := by decide +kernel
theorem d_Shelf_set_50 : decode prog_1_method_4_code 50 = .ok (.getfield 9, 3) := by decide +kernel
theorem d_Shelf_set_53 : decode prog_1_method_4_code 53 = .ok (.iconst 0, 1) := by decide +kernel
theorem d_Shelf_set_54 : decode prog_1_method_4_code 54 = .ok (.aload_n 0, 1) := by decide +kernel
theorem d_Shelf_set_55 : decode prog_1_method_4_code 55 = .ok (.getfield 78, 3) := by decide +kernel
theorem d_Shelf_set_58 : decode prog_1_method_4_code 58 = .ok (.invokevirtual 98, 3) := by decide +kernel
theorem d_Shelf_set_61 : decode prog_1_method_4_code 61 = .ok (.aload_n 0, 1) := by decide +kernel
theorem d_Shelf_set_62 : decode prog_1_method_4_code 62 = .ok (.getfield 15, 3) := by decide +kernel
theorem d_Shelf_set_65 : decode prog_1_method_4_code 65 = .ok (.iload_n 1, 1) := by decide +kernel
theorem d_Shelf_set_66 : decode prog_1_method_4_code 66 = .ok (.aload_n 2, 1) := by decide +kernel
theorem d_Shelf_set_67 : decode prog_1_method_4_code 67 = .ok (.aastore, 1) := by decide +kernel
theorem d_Shelf_set_68 : decode prog_1_method_4_code 68 = .ok (.aload_n 0, 1) := by decide +kernel
theorem d_Shelf_set_69 : decode prog_1_method_4_code 69 = .ok (.iconst 0, 1) := by decide +kernel
theorem d_Shelf_set_70 : decode prog_1_method_4_code 70 = .ok (.putfield 78, 3) := by decide +kernel
theorem d_Shelf_set_73 : decode prog_1_method_4_code 73 = .ok (.aload_n 2, 1) := by decide +kernel
theorem d_Shelf_set_74 : decode prog_1_method_4_code 74 = .ok (.getfield 102, 3) := by decide +kernel
theorem d_Shelf_set_77 : decode prog_1_method_4_code 77 = .ok (.ireturn, 1) := by decide +kernel
theorem d_Shelf_isColumn_0 : decode prog_1_method_25_code 0 = .ok (.iload_n 0, 1) := by decide +kernel
theorem d_Shelf_isColumn_1 : decode prog_1_method_25_code 1 = .ok (.ifCond .lt 12, 3) := by decide +kernel
theorem d_Shelf_isColumn_4 : decode prog_1_method_25_code 4 = .ok (.iload_n 0, 1) := by decide +kernel
theorem d_Shelf_isColumn_5 : decode prog_1_method_25_code 5 = .ok (.iconst 2, 1) := by decide +kernel
theorem d_Shelf_isColumn_6 : decode prog_1_method_25_code 6 = .ok (.if_icmp .ge 7, 3) := by decide +kernel
theorem d_Shelf_isColumn_9 : decode prog_1_method_25_code 9 = .ok (.iconst 1, 1) := by decide +kernel
theorem d_Shelf_isColumn_10 : decode prog_1_method_25_code 10 = .ok (.goto 4, 3) := by decide +kernel
theorem d_Shelf_isColumn_13 : decode prog_1_method_25_code 13 = .ok (.iconst 0, 1) := by decide +kernel
theorem d_Shelf_isColumn_14 : decode prog_1_method_25_code 14 = .ok (.ireturn, 1) := by decide +kernel
theorem d_Tokens_gather_0 : decode prog_10_method_2_code 0 = .ok (.iconst 0, 1) := by decide +kernel
theorem d_Tokens_gather_1 : decode prog_10_method_2_code 1 = .ok (.istore 4, 2) := by decide +kernel
theorem d_Tokens_gather_3 : decode prog_10_method_2_code 3 = .ok (.iload_n 2, 1) := by decide +kernel
theorem d_Tokens_gather_4 : decode prog_10_method_2_code 4 = .ok (.istore 5, 2) := by decide +kernel
theorem d_Tokens_gather_6 : decode prog_10_method_2_code 6 = .ok (.iload 5, 2) := by decide +kernel
theorem d_Tokens_gather_8 : decode prog_10_method_2_code 8 = .ok (.iload_n 3, 1) := by decide +kernel
theorem d_Tokens_gather_9 : decode prog_10_method_2_code 9 = .ok (.if_icmp .ge 89, 3) := by decide +kernel
theorem d_Tokens_gather_12 : decode prog_10_method_2_code 12 = .ok (.aload_n 1, 1) := by decide +kernel
theorem d_Tokens_gather_13 : decode prog_10_method_2_code 13 = .ok (.iload 5, 2) := by decide +kernel
theorem d_Tokens_gather_15 : decode prog_10_method_2_code 15 = .ok (.caload, 1) := by decide +kernel
theorem d_Tokens_gather_16 : decode prog_10_method_2_code 16 = .ok (.invokestatic 17, 3) := by decide +kernel
theorem d_Tokens_gather_19 : decode prog_10_method_2_code 19 = .ok (.istore 6, 2) := by decide +kernel
theorem d_Tokens_gather_21 : decode prog_10_method_2_code 21 = .ok (.iload 6, 2) := by decide +kernel
theorem d_Tokens_gather_23 : decode prog_10_method_2_code 23 = .ok (.ifCond .eq 65, 3) := by decide +kernel
theorem d_Tokens_gather_26 : decode prog_10_method_2_code 26 = .ok (.iload 4, 2) := by decide +kernel
theorem d_Tokens_gather_28 : decode prog_10_method_2_code 28 = .ok (.ifCond .ne 17, 3) := by decide +kernel
theorem d_Tokens_gather_31 : decode prog_10_method_2_code 31 = .ok (.aload_n 0, 1) := by decide +kernel
theorem d_Tokens_gather_32 : decode prog_10_method_2_code 32 = .ok (.getfield 23, 3) := by decide +kernel
theorem d_Tokens_gather_35 : decode prog_10_method_2_code 35 = .ok (.iconst 1, 1) := by decide +kernel
theorem d_Tokens_gather_36 : decode prog_10_method_2_code 36 = .ok (.iadd, 1) := by decide +kernel
theorem d_Tokens_gather_37 : decode prog_10_method_2_code 37 = .ok (.aload_n 0, 1) := by decide +kernel
theorem d_Tokens_gather_38 : decode prog_10_method_2_code 38 = .ok (.getfield 13, 3) := by decide +kernel
theorem d_Tokens_gather_41 : decode prog_10_method_2_code 41 = .ok (.arraylength, 1) := by decide +kernel
theorem d_Tokens_gather_42 : decode prog_10_method_2_code 42 = .ok (.if_icmp .ge 46, 3) := by decide +kernel
theorem d_Tokens_gather_45 : decode prog_10_method_2_code 45 = .ok (.iload 4, 2) := by decide +kernel
theorem d_Tokens_gather_47 : decode prog_10_method_2_code 47 = .ok (.ifCond .ne 33, 3) := by decide +kernel
theorem d_Tokens_gather_50 : decode prog_10_method_2_code 50 = .ok (.aload_n 0, 1) := by decide +kernel
theorem d_Tokens_gather_51 : decode prog_10_method_2_code 51 = .ok (.dup, 1) := by decide +kernel
theorem d_Tokens_gather_52 : decode prog_10_method_2_code 52 = .ok (.getfield 23, 3) := by decide +kernel
theorem d_Tokens_gather_55 : decode prog_10_method_2_code 55 = .ok (.iconst 1, 1) := by decide +kernel
theorem d_Tokens_gather_56 : decode prog_10_method_2_code 56 = .ok (.iadd, 1) := by decide +kernel
theorem d_Tokens_gather_57 : decode prog_10_method_2_code 57 = .ok (.putfield 23, 3) := by decide +kernel
theorem d_Tokens_gather_60 : decode prog_10_method_2_code 60 = .ok (.aload_n 0, 1) := by decide +kernel
theorem d_Tokens_gather_61 : decode prog_10_method_2_code 61 = .ok (.getfield 13, 3) := by decide +kernel
theorem d_Tokens_gather_64 : decode prog_10_method_2_code 64 = .ok (.aload_n 0, 1) := by decide +kernel
theorem d_Tokens_gather_65 : decode prog_10_method_2_code 65 = .ok (.getfield 23, 3) := by decide +kernel
theorem d_Tokens_gather_68 : decode prog_10_method_2_code 68 = .ok (.aload_n 0, 1) := by decide +kernel
theorem d_Tokens_gather_69 : decode prog_10_method_2_code 69 = .ok (.getfield 13, 3) := by decide +kernel
theorem d_Tokens_gather_72 : decode prog_10_method_2_code 72 = .ok (.aload_n 0, 1) := by decide +kernel
theorem d_Tokens_gather_73 : decode prog_10_method_2_code 73 = .ok (.getfield 23, 3) := by decide +kernel
theorem d_Tokens_gather_76 : decode prog_10_method_2_code 76 = .ok (.iconst 1, 1) := by decide +kernel
theorem d_Tokens_gather_77 : decode prog_10_method_2_code 77 = .ok (.isub, 1) := by decide +kernel
theorem d_Tokens_gather_78 : decode prog_10_method_2_code 78 = .ok (.iaload, 1) := by decide +kernel
theorem d_Tokens_gather_79 : decode prog_10_method_2_code 79 = .ok (.iastore, 1) := by decide +kernel
theorem d_Tokens_gather_80 : decode prog_10_method_2_code 80 = .ok (.aload_n 0, 1) := by decide +kernel
theorem d_Tokens_gather_81 : decode prog_10_method_2_code 81 = .ok (.aload_n 1, 1) := by decide +kernel
theorem d_Tokens_gather_82 : decode prog_10_method_2_code 82 = .ok (.iload 5, 2) := by decide +kernel
theorem d_Tokens_gather_84 : decode prog_10_method_2_code 84 = .ok (.caload, 1) := by decide +kernel
theorem d_Tokens_gather_85 : decode prog_10_method_2_code 85 = .ok (.invokevirtual 27, 3) := by decide +kernel
theorem d_Tokens_gather_88 : decode prog_10_method_2_code 88 = .ok (.iload 6, 2) := by decide +kernel
theorem d_Tokens_gather_90 : decode prog_10_method_2_code 90 = .ok (.istore 4, 2) := by decide +kernel
theorem d_Tokens_gather_92 : decode prog_10_method_2_code 92 = .ok (.iinc 5 1, 3) := by decide +kernel
theorem d_Tokens_gather_95 : decode prog_10_method_2_code 95 = .ok (.goto (-89), 3) := by decide +kernel
theorem d_Tokens_gather_98 : decode prog_10_method_2_code 98 = .ok (.return_, 1) := by decide +kernel
theorem d_Shelf_isWord_0 : decode prog_1_method_26_code 0 = .ok (.iload_n 0, 1) := by decide +kernel
theorem d_Shelf_isWord_1 : decode prog_1_method_26_code 1 = .ok (.bipush 97, 2) := by decide +kernel
theorem d_Shelf_isWord_3 : decode prog_1_method_26_code 3 = .ok (.if_icmp .lt 9, 3) := by decide +kernel
theorem d_Shelf_isWord_6 : decode prog_1_method_26_code 6 = .ok (.iload_n 0, 1) := by decide +kernel
theorem d_Shelf_isWord_7 : decode prog_1_method_26_code 7 = .ok (.bipush 122, 2) := by decide +kernel
theorem d_Shelf_isWord_9 : decode prog_1_method_26_code 9 = .ok (.if_icmp .le 27, 3) := by decide +kernel
theorem d_Shelf_isWord_12 : decode prog_1_method_26_code 12 = .ok (.iload_n 0, 1) := by decide +kernel
theorem d_Shelf_isWord_13 : decode prog_1_method_26_code 13 = .ok (.bipush 65, 2) := by decide +kernel
theorem d_Shelf_isWord_15 : decode prog_1_method_26_code 15 = .ok (.if_icmp .lt 9, 3) := by decide +kernel
theorem d_Shelf_isWord_18 : decode prog_1_method_26_code 18 = .ok (.iload_n 0, 1) := by decide +kernel
theorem d_Shelf_isWord_19 : decode prog_1_method_26_code 19 = .ok (.bipush 90, 2) := by decide +kernel
theorem d_Shelf_isWord_21 : decode prog_1_method_26_code 21 = .ok (.if_icmp .le 15, 3) := by decide +kernel
theorem d_Shelf_isWord_24 : decode prog_1_method_26_code 24 = .ok (.iload_n 0, 1) := by decide +kernel
theorem d_Shelf_isWord_25 : decode prog_1_method_26_code 25 = .ok (.bipush 48, 2) := by decide +kernel
theorem d_Shelf_isWord_27 : decode prog_1_method_26_code 27 = .ok (.if_icmp .lt 13, 3) := by decide +kernel
theorem d_Shelf_isWord_30 : decode prog_1_method_26_code 30 = .ok (.iload_n 0, 1) := by decide +kernel
theorem d_Shelf_isWord_31 : decode prog_1_method_26_code 31 = .ok (.bipush 57, 2) := by decide +kernel
theorem d_Shelf_isWord_33 : decode prog_1_method_26_code 33 = .ok (.if_icmp .gt 7, 3) := by decide +kernel
theorem d_Shelf_isWord_36 : decode prog_1_method_26_code 36 = .ok (.iconst 1, 1) := by decide +kernel
theorem d_Shelf_isWord_37 : decode prog_1_method_26_code 37 = .ok (.goto 4, 3) := by decide +kernel
theorem d_Shelf_isWord_40 : decode prog_1_method_26_code 40 = .ok (.iconst 0, 1) := by decide +kernel
theorem d_Shelf_isWord_41 : decode prog_1_method_26_code 41 = .ok (.ireturn, 1) := by decide +kernel
theorem d_Tokens_addLetter_0 : decode prog_10_method_3_code 0 = .ok (.aload_n 0, 1) := by decide +kernel
theorem d_Tokens_addLetter_1 : decode prog_10_method_3_code 1 = .ok (.getfield 13, 3) := by decide +kernel
theorem d_Tokens_addLetter_4 : decode prog_10_method_3_code 4 = .ok (.aload_n 0, 1) := by decide +kernel
theorem d_Tokens_addLetter_5 : decode prog_10_method_3_code 5 = .ok (.getfield 23, 3) := by decide +kernel
theorem d_Tokens_addLetter_8 : decode prog_10_method_3_code 8 = .ok (.iaload, 1) := by decide +kernel
theorem d_Tokens_addLetter_9 : decode prog_10_method_3_code 9 = .ok (.istore_n 2, 1) := by decide +kernel
theorem d_Tokens_addLetter_10 : decode prog_10_method_3_code 10 = .ok (.iload_n 2, 1) := by decide +kernel
theorem d_Tokens_addLetter_11 : decode prog_10_method_3_code 11 = .ok (.aload_n 0, 1) := by decide +kernel
theorem d_Tokens_addLetter_12 : decode prog_10_method_3_code 12 = .ok (.getfield 7, 3) := by decide +kernel
theorem d_Tokens_addLetter_15 : decode prog_10_method_3_code 15 = .ok (.arraylength, 1) := by decide +kernel
theorem d_Tokens_addLetter_16 : decode prog_10_method_3_code 16 = .ok (.if_icmp .ge 45, 3) := by decide +kernel
theorem d_Tokens_addLetter_19 : decode prog_10_method_3_code 19 = .ok (.aload_n 0, 1) := by decide +kernel
theorem d_Tokens_addLetter_20 : decode prog_10_method_3_code 20 = .ok (.getfield 7, 3) := by decide +kernel
theorem d_Tokens_addLetter_23 : decode prog_10_method_3_code 23 = .ok (.iload_n 2, 1) := by decide +kernel
theorem d_Tokens_addLetter_24 : decode prog_10_method_3_code 24 = .ok (.iload_n 1, 1) := by decide +kernel
theorem d_Tokens_addLetter_25 : decode prog_10_method_3_code 25 = .ok (.bipush 65, 2) := by decide +kernel
theorem d_Tokens_addLetter_27 : decode prog_10_method_3_code 27 = .ok (.if_icmp .lt 20, 3) := by decide +kernel
theorem d_Tokens_addLetter_30 : decode prog_10_method_3_code 30 = .ok (.iload_n 1, 1) := by decide +kernel
theorem d_Tokens_addLetter_31 : decode prog_10_method_3_code 31 = .ok (.bipush 90, 2) := by decide +kernel
theorem d_Tokens_addLetter_33 : decode prog_10_method_3_code 33 = .ok (.if_icmp .gt 14, 3) := by decide +kernel
theorem d_Tokens_addLetter_36 : decode prog_10_method_3_code 36 = .ok (.iload_n 1, 1) := by decide +kernel
theorem d_Tokens_addLetter_37 : decode prog_10_method_3_code 37 = .ok (.bipush 65, 2) := by decide +kernel
theorem d_Tokens_addLetter_39 : decode prog_10_method_3_code 39 = .ok (.isub, 1) := by decide +kernel
theorem d_Tokens_addLetter_40 : decode prog_10_method_3_code 40 = .ok (.bipush 97, 2) := by decide +kernel
theorem d_Tokens_addLetter_42 : decode prog_10_method_3_code 42 = .ok (.iadd, 1) := by decide +kernel
theorem d_Tokens_addLetter_43 : decode prog_10_method_3_code 43 = .ok (.i2c, 1) := by decide +kernel
theorem d_Tokens_addLetter_44 : decode prog_10_method_3_code 44 = .ok (.goto 4, 3) := by decide +kernel
theorem d_Tokens_addLetter_47 : decode prog_10_method_3_code 47 = .ok (.iload_n 1, 1) := by decide +kernel
theorem d_Tokens_addLetter_48 : decode prog_10_method_3_code 48 = .ok (.castore, 1) := by decide +kernel
theorem d_Tokens_addLetter_49 : decode prog_10_method_3_code 49 = .ok (.aload_n 0, 1) := by decide +kernel
theorem d_Tokens_addLetter_50 : decode prog_10_method_3_code 50 = .ok (.getfield 13, 3) := by decide +kernel
theorem d_Tokens_addLetter_53 : decode prog_10_method_3_code 53 = .ok (.aload_n 0, 1) := by decide +kernel
theorem d_Tokens_addLetter_54 : decode prog_10_method_3_code 54 = .ok (.getfield 23, 3) := by decide +kernel
theorem d_Tokens_addLetter_57 : decode prog_10_method_3_code 57 = .ok (.iload_n 2, 1) := by decide +kernel
theorem d_Tokens_addLetter_58 : decode prog_10_method_3_code 58 = .ok (.iconst 1, 1) := by decide +kernel
theorem d_Tokens_addLetter_59 : decode prog_10_method_3_code 59 = .ok (.iadd, 1) := by decide +kernel
theorem d_Tokens_addLetter_60 : decode prog_10_method_3_code 60 = .ok (.iastore, 1) := by decide +kernel
theorem d_Tokens_addLetter_61 : decode prog_10_method_3_code 61 = .ok (.return_, 1) := by decide +kernel
theorem d_Shelf_insert_0 : decode prog_1_method_5_code 0 = .ok (.aload_n 0, 1) := by decide +kernel
theorem d_Shelf_insert_1 : decode prog_1_method_5_code 1 = .ok (.getfield 26, 3) := by decide +kernel
theorem d_Shelf_insert_4 : decode prog_1_method_5_code 4 = .ok (.invokevirtual 105, 3) := by decide +kernel
theorem d_Shelf_insert_7 : decode prog_1_method_5_code 7 = .ok (.istore_n 1, 1) := by decide +kernel
theorem d_Shelf_insert_8 : decode prog_1_method_5_code 8 = .ok (.iload_n 1, 1) := by decide +kernel
theorem d_Shelf_insert_9 : decode prog_1_method_5_code 9 = .ok (.ifCond .ne 13, 3) := by decide +kernel
theorem d_Shelf_insert_12 : decode prog_1_method_5_code 12 = .ok (.new 81, 3) := by decide +kernel
theorem d_Shelf_insert_15 : decode prog_1_method_5_code 15 = .ok (.dup, 1) := by decide +kernel
theorem d_Shelf_insert_16 : decode prog_1_method_5_code 16 = .ok (.ldc 109, 2) := by decide +kernel
theorem d_Shelf_insert_18 : decode prog_1_method_5_code 18 = .ok (.invokespecial 85, 3) := by decide +kernel
theorem d_Shelf_insert_21 : decode prog_1_method_5_code 21 = .ok (.athrow, 1) := by decide +kernel
theorem d_Shelf_insert_22 : decode prog_1_method_5_code 22 = .ok (.aload_n 0, 1) := by decide +kernel
theorem d_Shelf_insert_23 : decode prog_1_method_5_code 23 = .ok (.iload_n 1, 1) := by decide +kernel
theorem d_Shelf_insert_24 : decode prog_1_method_5_code 24 = .ok (.invokevirtual 111, 3) := by decide +kernel
theorem d_Shelf_insert_27 : decode prog_1_method_5_code 27 = .ok (.pop, 1) := by decide +kernel
theorem d_Shelf_insert_28 : decode prog_1_method_5_code 28 = .ok (.iload_n 1, 1) := by decide +kernel
theorem d_Shelf_insert_29 : decode prog_1_method_5_code 29 = .ok (.ireturn, 1) := by decide +kernel
theorem d_Store_freeRow_0 : decode prog_9_method_5_code 0 = .ok (.iconst 1, 1) := by decide +kernel
theorem d_Store_freeRow_1 : decode prog_9_method_5_code 1 = .ok (.istore_n 1, 1) := by decide +kernel
theorem d_Store_freeRow_2 : decode prog_9_method_5_code 2 = .ok (.iload_n 1, 1) := by decide +kernel
theorem d_Store_freeRow_3 : decode prog_9_method_5_code 3 = .ok (.bipush 24, 2) := by decide +kernel
theorem d_Store_freeRow_5 : decode prog_9_method_5_code 5 = .ok (.if_icmp .gt 20, 3) := by decide +kernel
theorem d_Store_freeRow_8 : decode prog_9_method_5_code 8 = .ok (.aload_n 0, 1) := by decide +kernel
theorem d_Store_freeRow_9 : decode prog_9_method_5_code 9 = .ok (.getfield 11, 3) := by decide +kernel
theorem d_Store_freeRow_12 : decode prog_9_method_5_code 12 = .ok (.iload_n 1, 1) := by decide +kernel
theorem d_Store_freeRow_13 : decode prog_9_method_5_code 13 = .ok (.aaload, 1) := by decide +kernel
theorem d_Store_freeRow_14 : decode prog_9_method_5_code 14 = .ok (.ifnonnull 5, 3) := by decide +kernel
theorem d_Store_freeRow_17 : decode prog_9_method_5_code 17 = .ok (.iload_n 1, 1) := by decide +kernel
theorem d_Store_freeRow_18 : decode prog_9_method_5_code 18 = .ok (.ireturn, 1) := by decide +kernel
theorem d_Store_freeRow_19 : decode prog_9_method_5_code 19 = .ok (.iinc 1 1, 3) := by decide +kernel
theorem d_Store_freeRow_22 : decode prog_9_method_5_code 22 = .ok (.goto (-20), 3) := by decide +kernel
theorem d_Store_freeRow_25 : decode prog_9_method_5_code 25 = .ok (.iconst 0, 1) := by decide +kernel
theorem d_Store_freeRow_26 : decode prog_9_method_5_code 26 = .ok (.ireturn, 1) := by decide +kernel
theorem d_Shelf_giveTexts_0 : decode prog_1_method_22_code 0 = .ok (.aload_n 0, 1) := by decide +kernel
theorem d_Shelf_giveTexts_1 : decode prog_1_method_22_code 1 = .ok (.getfield 26, 3) := by decide +kernel
theorem d_Shelf_giveTexts_4 : decode prog_1_method_22_code 4 = .ok (.iload_n 1, 1) := by decide +kernel
theorem d_Shelf_giveTexts_5 : decode prog_1_method_22_code 5 = .ok (.aload_n 0, 1) := by decide +kernel
theorem d_Shelf_giveTexts_6 : decode prog_1_method_22_code 6 = .ok (.getfield 15, 3) := by decide +kernel
theorem d_Shelf_giveTexts_9 : decode prog_1_method_22_code 9 = .ok (.iconst 0, 1) := by decide +kernel
theorem d_Shelf_giveTexts_10 : decode prog_1_method_22_code 10 = .ok (.aaload, 1) := by decide +kernel
theorem d_Shelf_giveTexts_11 : decode prog_1_method_22_code 11 = .ok (.aload_n 0, 1) := by decide +kernel
theorem d_Shelf_giveTexts_12 : decode prog_1_method_22_code 12 = .ok (.getfield 15, 3) := by decide +kernel
theorem d_Shelf_giveTexts_15 : decode prog_1_method_22_code 15 = .ok (.iconst 1, 1) := by decide +kernel
theorem d_Shelf_giveTexts_16 : decode prog_1_method_22_code 16 = .ok (.aaload, 1) := by decide +kernel
theorem d_Shelf_giveTexts_17 : decode prog_1_method_22_code 17 = .ok (.invokevirtual 252, 3) := by decide +kernel
theorem d_Shelf_giveTexts_20 : decode prog_1_method_22_code 20 = .ok (.istore_n 2, 1) := by decide +kernel
theorem d_Shelf_giveTexts_21 : decode prog_1_method_22_code 21 = .ok (.aload_n 0, 1) := by decide +kernel
theorem d_Shelf_giveTexts_22 : decode prog_1_method_22_code 22 = .ok (.getfield 26, 3) := by decide +kernel
theorem d_Shelf_giveTexts_25 : decode prog_1_method_22_code 25 = .ok (.getfield 241, 3) := by decide +kernel
theorem d_Shelf_giveTexts_28 : decode prog_1_method_22_code 28 = .ok (.aload_n 0, 1) := by decide +kernel
theorem d_Shelf_giveTexts_29 : decode prog_1_method_22_code 29 = .ok (.getfield 61, 3) := by decide +kernel
theorem d_Shelf_giveTexts_32 : decode prog_1_method_22_code 32 = .ok (.if_icmp .le 14, 3) := by decide +kernel
theorem d_Shelf_giveTexts_35 : decode prog_1_method_22_code 35 = .ok (.aload_n 0, 1) := by decide +kernel
theorem d_Shelf_giveTexts_36 : decode prog_1_method_22_code 36 = .ok (.getfield 26, 3) := by decide +kernel
theorem d_Shelf_giveTexts_39 : decode prog_1_method_22_code 39 = .ok (.aload_n 0, 1) := by decide +kernel
theorem d_Shelf_giveTexts_40 : decode prog_1_method_22_code 40 = .ok (.getfield 57, 3) := by decide +kernel
theorem d_Shelf_giveTexts_43 : decode prog_1_method_22_code 43 = .ok (.invokevirtual 147, 3) := by decide +kernel
theorem d_Shelf_giveTexts_46 : decode prog_1_method_22_code 46 = .ok (.iload_n 2, 1) := by decide +kernel
theorem d_Shelf_giveTexts_47 : decode prog_1_method_22_code 47 = .ok (.ireturn, 1) := by decide +kernel
theorem d_Store_putVersion_0 : decode prog_9_method_7_code 0 = .ok (.aload_n 0, 1) := by decide +kernel
theorem d_Store_putVersion_1 : decode prog_9_method_7_code 1 = .ok (.dup, 1) := by decide +kernel
theorem d_Store_putVersion_2 : decode prog_9_method_7_code 2 = .ok (.getfield 33, 3) := by decide +kernel
theorem d_Store_putVersion_5 : decode prog_9_method_7_code 5 = .ok (.iconst 1, 1) := by decide +kernel
theorem d_Store_putVersion_6 : decode prog_9_method_7_code 6 = .ok (.iadd, 1) := by decide +kernel
theorem d_Store_putVersion_7 : decode prog_9_method_7_code 7 = .ok (.putfield 33, 3) := by decide +kernel
theorem d_Store_putVersion_10 : decode prog_9_method_7_code 10 = .ok (.aload_n 2, 1) := by decide +kernel
theorem d_Store_putVersion_11 : decode prog_9_method_7_code 11 = .ok (.invokevirtual 37, 3) := by decide +kernel
theorem d_Store_putVersion_14 : decode prog_9_method_7_code 14 = .ok (.aload_n 3, 1) := by decide +kernel
theorem d_Store_putVersion_15 : decode prog_9_method_7_code 15 = .ok (.invokevirtual 37, 3) := by decide +kernel
theorem d_Store_putVersion_18 : decode prog_9_method_7_code 18 = .ok (.iadd, 1) := by decide +kernel
theorem d_Store_putVersion_19 : decode prog_9_method_7_code 19 = .ok (.istore 4, 2) := by decide +kernel
theorem d_Store_putVersion_21 : decode prog_9_method_7_code 21 = .ok (.new 9, 3) := by decide +kernel
theorem d_Store_putVersion_24 : decode prog_9_method_7_code 24 = .ok (.dup, 1) := by decide +kernel
theorem d_Store_putVersion_25 : decode prog_9_method_7_code 25 = .ok (.aload_n 0, 1) := by decide +kernel
theorem d_Store_putVersion_26 : decode prog_9_method_7_code 26 = .ok (.getfield 33, 3) := by decide +kernel
theorem d_Store_putVersion_29 : decode prog_9_method_7_code 29 = .ok (.iload_n 1, 1) := by decide +kernel
theorem d_Store_putVersion_30 : decode prog_9_method_7_code 30 = .ok (.aload_n 2, 1) := by decide +kernel
theorem d_Store_putVersion_31 : decode prog_9_method_7_code 31 = .ok (.aload_n 3, 1) := by decide +kernel
theorem d_Store_putVersion_32 : decode prog_9_method_7_code 32 = .ok (.iload 4, 2) := by decide +kernel
theorem d_Store_putVersion_34 : decode prog_9_method_7_code 34 = .ok (.invokespecial 42, 3) := by decide +kernel
theorem d_Store_putVersion_37 : decode prog_9_method_7_code 37 = .ok (.astore 5, 2) := by decide +kernel
theorem d_Store_putVersion_39 : decode prog_9_method_7_code 39 = .ok (.aload_n 0, 1) := by decide +kernel
theorem d_Store_putVersion_40 : decode prog_9_method_7_code 40 = .ok (.getfield 11, 3) := by decide +kernel
theorem d_Store_putVersion_43 : decode prog_9_method_7_code 43 = .ok (.iload_n 1, 1) := by decide +kernel
theorem d_Store_putVersion_44 : decode prog_9_method_7_code 44 = .ok (.aload 5, 2) := by decide +kernel
theorem d_Store_putVersion_46 : decode prog_9_method_7_code 46 = .ok (.aastore, 1) := by decide +kernel
theorem d_Store_putVersion_47 : decode prog_9_method_7_code 47 = .ok (.iload 4, 2) := by decide +kernel
theorem d_Store_putVersion_49 : decode prog_9_method_7_code 49 = .ok (.ifCond .le 47, 3) := by decide +kernel
theorem d_Store_putVersion_52 : decode prog_9_method_7_code 52 = .ok (.aload_n 0, 1) := by decide +kernel
theorem d_Store_putVersion_53 : decode prog_9_method_7_code 53 = .ok (.getfield 45, 3) := by decide +kernel
theorem d_Store_putVersion_56 : decode prog_9_method_7_code 56 = .ok (.aload_n 0, 1) := by decide +kernel
theorem d_Store_putVersion_57 : decode prog_9_method_7_code 57 = .ok (.getfield 17, 3) := by decide +kernel
theorem d_Store_putVersion_60 : decode prog_9_method_7_code 60 = .ok (.arraylength, 1) := by decide +kernel
theorem d_Store_putVersion_61 : decode prog_9_method_7_code 61 = .ok (.if_icmp .ge 35, 3) := by decide +kernel
theorem d_Store_putVersion_64 : decode prog_9_method_7_code 64 = .ok (.aload_n 0, 1) := by decide +kernel
theorem d_Store_putVersion_65 : decode prog_9_method_7_code 65 = .ok (.getfield 17, 3) := by decide +kernel
theorem d_Store_putVersion_68 : decode prog_9_method_7_code 68 = .ok (.aload_n 0, 1) := by decide +kernel
theorem d_Store_putVersion_69 : decode prog_9_method_7_code 69 = .ok (.getfield 45, 3) := by decide +kernel
theorem d_Store_putVersion_72 : decode prog_9_method_7_code 72 = .ok (.aload 5, 2) := by decide +kernel
theorem d_Store_putVersion_74 : decode prog_9_method_7_code 74 = .ok (.aastore, 1) := by decide +kernel
theorem d_Store_putVersion_75 : decode prog_9_method_7_code 75 = .ok (.aload_n 0, 1) := by decide +kernel
theorem d_Store_putVersion_76 : decode prog_9_method_7_code 76 = .ok (.dup, 1) := by decide +kernel
theorem d_Store_putVersion_77 : decode prog_9_method_7_code 77 = .ok (.getfield 45, 3) := by decide +kernel
theorem d_Store_putVersion_80 : decode prog_9_method_7_code 80 = .ok (.iconst 1, 1) := by decide +kernel
theorem d_Store_putVersion_81 : decode prog_9_method_7_code 81 = .ok (.iadd, 1) := by decide +kernel
theorem d_Store_putVersion_82 : decode prog_9_method_7_code 82 = .ok (.putfield 45, 3) := by decide +kernel
theorem d_Store_putVersion_85 : decode prog_9_method_7_code 85 = .ok (.aload_n 0, 1) := by decide +kernel
theorem d_Store_putVersion_86 : decode prog_9_method_7_code 86 = .ok (.dup, 1) := by decide +kernel
theorem d_Store_putVersion_87 : decode prog_9_method_7_code 87 = .ok (.getfield 48, 3) := by decide +kernel
theorem d_Store_putVersion_90 : decode prog_9_method_7_code 90 = .ok (.iload 4, 2) := by decide +kernel
theorem d_Store_putVersion_92 : decode prog_9_method_7_code 92 = .ok (.iadd, 1) := by decide +kernel
theorem d_Store_putVersion_93 : decode prog_9_method_7_code 93 = .ok (.putfield 48, 3) := by decide +kernel
theorem d_Store_putVersion_96 : decode prog_9_method_7_code 96 = .ok (.iload 4, 2) := by decide +kernel
theorem d_Store_putVersion_98 : decode prog_9_method_7_code 98 = .ok (.ireturn, 1) := by decide +kernel
theorem d_Tokens_different_0 : decode prog_10_method_6_code 0 = .ok (.iconst 0, 1) := by decide +kernel
theorem d_Tokens_different_1 : decode prog_10_method_6_code 1 = .ok (.istore_n 1, 1) := by decide +kernel
theorem d_Tokens_different_2 : decode prog_10_method_6_code 2 = .ok (.iconst 0, 1) := by decide +kernel
theorem d_Tokens_different_3 : decode prog_10_method_6_code 3 = .ok (.istore_n 2, 1) := by decide +kernel
theorem d_Tokens_different_4 : decode prog_10_method_6_code 4 = .ok (.iload_n 2, 1) := by decide +kernel
theorem d_Tokens_different_5 : decode prog_10_method_6_code 5 = .ok (.aload_n 0, 1) := by decide +kernel
theorem d_Tokens_different_6 : decode prog_10_method_6_code 6 = .ok (.getfield 23, 3) := by decide +kernel
theorem d_Tokens_different_9 : decode prog_10_method_6_code 9 = .ok (.if_icmp .ge 20, 3) := by decide +kernel
theorem d_Tokens_different_12 : decode prog_10_method_6_code 12 = .ok (.aload_n 0, 1) := by decide +kernel
theorem d_Tokens_different_13 : decode prog_10_method_6_code 13 = .ok (.iload_n 2, 1) := by decide +kernel
theorem d_Tokens_different_14 : decode prog_10_method_6_code 14 = .ok (.invokevirtual 35, 3) := by decide +kernel
theorem d_Tokens_different_17 : decode prog_10_method_6_code 17 = .ok (.ifCond .ne 6, 3) := by decide +kernel
theorem d_Tokens_different_20 : decode prog_10_method_6_code 20 = .ok (.iinc 1 1, 3) := by decide +kernel
theorem d_Tokens_different_23 : decode prog_10_method_6_code 23 = .ok (.iinc 2 1, 3) := by decide +kernel
theorem d_Tokens_different_26 : decode prog_10_method_6_code 26 = .ok (.goto (-22), 3) := by decide +kernel
theorem d_Tokens_different_29 : decode prog_10_method_6_code 29 = .ok (.iload_n 1, 1) := by decide +kernel
theorem d_Tokens_different_30 : decode prog_10_method_6_code 30 = .ok (.ireturn, 1) := by decide +kernel
theorem d_Tokens_isEarlier_0 : decode prog_10_method_7_code 0 = .ok (.iconst 0, 1) := by decide +kernel
theorem d_Tokens_isEarlier_1 : decode prog_10_method_7_code 1 = .ok (.istore_n 2, 1) := by decide +kernel
theorem d_Tokens_isEarlier_2 : decode prog_10_method_7_code 2 = .ok (.iload_n 2, 1) := by decide +kernel
theorem d_Tokens_isEarlier_3 : decode prog_10_method_7_code 3 = .ok (.iload_n 1, 1) := by decide +kernel
theorem d_Tokens_isEarlier_4 : decode prog_10_method_7_code 4 = .ok (.if_icmp .ge 22, 3) := by decide +kernel
theorem d_Tokens_isEarlier_7 : decode prog_10_method_7_code 7 = .ok (.aload_n 0, 1) := by decide +kernel
theorem d_Tokens_isEarlier_8 : decode prog_10_method_7_code 8 = .ok (.iload_n 1, 1) := by decide +kernel
theorem d_Tokens_isEarlier_9 : decode prog_10_method_7_code 9 = .ok (.aload_n 0, 1) := by decide +kernel
theorem d_Tokens_isEarlier_10 : decode prog_10_method_7_code 10 = .ok (.iload_n 2, 1) := by decide +kernel
theorem d_Tokens_isEarlier_11 : decode prog_10_method_7_code 11 = .ok (.iconst 0, 1) := by decide +kernel
theorem d_Tokens_isEarlier_12 : decode prog_10_method_7_code 12 = .ok (.invokevirtual 39, 3) := by decide +kernel
theorem d_Tokens_isEarlier_15 : decode prog_10_method_7_code 15 = .ok (.ifCond .eq 5, 3) := by decide +kernel
theorem d_Tokens_isEarlier_18 : decode prog_10_method_7_code 18 = .ok (.iconst 1, 1) := by decide +kernel
theorem d_Tokens_isEarlier_19 : decode prog_10_method_7_code 19 = .ok (.ireturn, 1) := by decide +kernel
theorem d_Tokens_isEarlier_20 : decode prog_10_method_7_code 20 = .ok (.iinc 2 1, 3) := by decide +kernel
theorem d_Tokens_isEarlier_23 : decode prog_10_method_7_code 23 = .ok (.goto (-21), 3) := by decide +kernel
theorem d_Tokens_isEarlier_26 : decode prog_10_method_7_code 26 = .ok (.iconst 0, 1) := by decide +kernel
theorem d_Tokens_isEarlier_27 : decode prog_10_method_7_code 27 = .ok (.ireturn, 1) := by decide +kernel
theorem d_Tokens_fits_0 : decode prog_10_method_5_code 0 = .ok (.aload_n 0, 1) := by decide +kernel
theorem d_Tokens_fits_1 : decode prog_10_method_5_code 1 = .ok (.iload_n 1, 1) := by decide +kernel
theorem d_Tokens_fits_2 : decode prog_10_method_5_code 2 = .ok (.invokevirtual 31, 3) := by decide +kernel
theorem d_Tokens_fits_5 : decode prog_10_method_5_code 5 = .ok (.istore 5, 2) := by decide +kernel
theorem d_Tokens_fits_7 : decode prog_10_method_5_code 7 = .ok (.aload_n 2, 1) := by decide +kernel
theorem d_Tokens_fits_8 : decode prog_10_method_5_code 8 = .ok (.iload_n 3, 1) := by decide +kernel
theorem d_Tokens_fits_9 : decode prog_10_method_5_code 9 = .ok (.invokevirtual 31, 3) := by decide +kernel
theorem d_Tokens_fits_12 : decode prog_10_method_5_code 12 = .ok (.istore 6, 2) := by decide +kernel
theorem d_Tokens_fits_14 : decode prog_10_method_5_code 14 = .ok (.iload 5, 2) := by decide +kernel
theorem d_Tokens_fits_16 : decode prog_10_method_5_code 16 = .ok (.iload 6, 2) := by decide +kernel
theorem d_Tokens_fits_18 : decode prog_10_method_5_code 18 = .ok (.if_icmp .gt 15, 3) := by decide +kernel
theorem d_Tokens_fits_21 : decode prog_10_method_5_code 21 = .ok (.iload 5, 2) := by decide +kernel
theorem d_Tokens_fits_23 : decode prog_10_method_5_code 23 = .ok (.iload 6, 2) := by decide +kernel
theorem d_Tokens_fits_25 : decode prog_10_method_5_code 25 = .ok (.if_icmp .ge 10, 3) := by decide +kernel
theorem d_Tokens_fits_28 : decode prog_10_method_5_code 28 = .ok (.iload 4, 2) := by decide +kernel
theorem d_Tokens_fits_30 : decode prog_10_method_5_code 30 = .ok (.ifCond .ne 5, 3) := by decide +kernel
theorem d_Tokens_fits_33 : decode prog_10_method_5_code 33 = .ok (.iconst 0, 1) := by decide +kernel
theorem d_Tokens_fits_34 : decode prog_10_method_5_code 34 = .ok (.ireturn, 1) := by decide +kernel
theorem d_Tokens_fits_35 : decode prog_10_method_5_code 35 = .ok (.iconst 0, 1) := by decide +kernel
theorem d_Tokens_fits_36 : decode prog_10_method_5_code 36 = .ok (.istore 7, 2) := by decide +kernel
theorem d_Tokens_fits_38 : decode prog_10_method_5_code 38 = .ok (.iload 7, 2) := by decide +kernel
theorem d_Tokens_fits_40 : decode prog_10_method_5_code 40 = .ok (.iload 5, 2) := by decide +kernel
theorem d_Tokens_fits_42 : decode prog_10_method_5_code 42 = .ok (.if_icmp .ge 42, 3) := by decide +kernel
theorem d_Tokens_fits_45 : decode prog_10_method_5_code 45 = .ok (.aload_n 0, 1) := by decide +kernel
theorem d_Tokens_fits_46 : decode prog_10_method_5_code 46 = .ok (.getfield 7, 3) := by decide +kernel
theorem d_Tokens_fits_49 : decode prog_10_method_5_code 49 = .ok (.aload_n 0, 1) := by decide +kernel
theorem d_Tokens_fits_50 : decode prog_10_method_5_code 50 = .ok (.getfield 13, 3) := by decide +kernel
theorem d_Tokens_fits_53 : decode prog_10_method_5_code 53 = .ok (.iload_n 1, 1) := by decide +kernel
theorem d_Tokens_fits_54 : decode prog_10_method_5_code 54 = .ok (.iaload, 1) := by decide +kernel
theorem d_Tokens_fits_55 : decode prog_10_method_5_code 55 = .ok (.iload 7, 2) := by decide +kernel
theorem d_Tokens_fits_57 : decode prog_10_method_5_code 57 = .ok (.iadd, 1) := by decide +kernel
theorem d_Tokens_fits_58 : decode prog_10_method_5_code 58 = .ok (.caload, 1) := by decide +kernel
theorem d_Tokens_fits_59 : decode prog_10_method_5_code 59 = .ok (.aload_n 2, 1) := by decide +kernel
theorem d_Tokens_fits_60 : decode prog_10_method_5_code 60 = .ok (.getfield 7, 3) := by decide +kernel
theorem d_Tokens_fits_63 : decode prog_10_method_5_code 63 = .ok (.aload_n 2, 1) := by decide +kernel
theorem d_Tokens_fits_64 : decode prog_10_method_5_code 64 = .ok (.getfield 13, 3) := by decide +kernel
theorem d_Tokens_fits_67 : decode prog_10_method_5_code 67 = .ok (.iload_n 3, 1) := by decide +kernel
theorem d_Tokens_fits_68 : decode prog_10_method_5_code 68 = .ok (.iaload, 1) := by decide +kernel
theorem d_Tokens_fits_69 : decode prog_10_method_5_code 69 = .ok (.iload 7, 2) := by decide +kernel
theorem d_Tokens_fits_71 : decode prog_10_method_5_code 71 = .ok (.iadd, 1) := by decide +kernel
theorem d_Tokens_fits_72 : decode prog_10_method_5_code 72 = .ok (.caload, 1) := by decide +kernel
theorem d_Tokens_fits_73 : decode prog_10_method_5_code 73 = .ok (.if_icmp .eq 5, 3) := by decide +kernel
theorem d_Tokens_fits_76 : decode prog_10_method_5_code 76 = .ok (.iconst 0, 1) := by decide +kernel
theorem d_Tokens_fits_77 : decode prog_10_method_5_code 77 = .ok (.ireturn, 1) := by decide +kernel
theorem d_Tokens_fits_78 : decode prog_10_method_5_code 78 = .ok (.iinc 7 1, 3) := by decide +kernel
theorem d_Tokens_fits_81 : decode prog_10_method_5_code 81 = .ok (.goto (-43), 3) := by decide +kernel
theorem d_Tokens_fits_84 : decode prog_10_method_5_code 84 = .ok (.iconst 1, 1) := by decide +kernel
theorem d_Tokens_fits_85 : decode prog_10_method_5_code 85 = .ok (.ireturn, 1) := by decide +kernel
theorem d_Tokens_lengthOf_0 : decode prog_10_method_4_code 0 = .ok (.aload_n 0, 1) := by decide +kernel
theorem d_Tokens_lengthOf_1 : decode prog_10_method_4_code 1 = .ok (.getfield 13, 3) := by decide +kernel
theorem d_Tokens_lengthOf_4 : decode prog_10_method_4_code 4 = .ok (.iload_n 1, 1) := by decide +kernel
theorem d_Tokens_lengthOf_5 : decode prog_10_method_4_code 5 = .ok (.iconst 1, 1) := by decide +kernel
theorem d_Tokens_lengthOf_6 : decode prog_10_method_4_code 6 = .ok (.iadd, 1) := by decide +kernel
theorem d_Tokens_lengthOf_7 : decode prog_10_method_4_code 7 = .ok (.iaload, 1) := by decide +kernel
theorem d_Tokens_lengthOf_8 : decode prog_10_method_4_code 8 = .ok (.aload_n 0, 1) := by decide +kernel
theorem d_Tokens_lengthOf_9 : decode prog_10_method_4_code 9 = .ok (.getfield 13, 3) := by decide +kernel
theorem d_Tokens_lengthOf_12 : decode prog_10_method_4_code 12 = .ok (.iload_n 1, 1) := by decide +kernel
theorem d_Tokens_lengthOf_13 : decode prog_10_method_4_code 13 = .ok (.iaload, 1) := by decide +kernel
theorem d_Tokens_lengthOf_14 : decode prog_10_method_4_code 14 = .ok (.isub, 1) := by decide +kernel
theorem d_Tokens_lengthOf_15 : decode prog_10_method_4_code 15 = .ok (.ireturn, 1) := by decide +kernel
theorem d_Version_init_0 : decode prog_11_method_1_code 0 = .ok (.aload_n 0, 1) := by decide +kernel
theorem d_Version_init_1 : decode prog_11_method_1_code 1 = .ok (.invokespecial 1, 3) := by decide +kernel
theorem d_Version_init_4 : decode prog_11_method_1_code 4 = .ok (.aload_n 0, 1) := by decide +kernel
theorem d_Version_init_5 : decode prog_11_method_1_code 5 = .ok (.iload_n 1, 1) := by decide +kernel
theorem d_Version_init_6 : decode prog_11_method_1_code 6 = .ok (.putfield 7, 3) := by decide +kernel
theorem d_Version_init_9 : decode prog_11_method_1_code 9 = .ok (.aload_n 0, 1) := by decide +kernel
theorem d_Version_init_10 : decode prog_11_method_1_code 10 = .ok (.iload_n 2, 1) := by decide +kernel
theorem d_Version_init_11 : decode prog_11_method_1_code 11 = .ok (.putfield 13, 3) := by decide +kernel
theorem d_Version_init_14 : decode prog_11_method_1_code 14 = .ok (.aload_n 0, 1) := by decide +kernel
theorem d_Version_init_15 : decode prog_11_method_1_code 15 = .ok (.aload_n 3, 1) := by decide +kernel
theorem d_Version_init_16 : decode prog_11_method_1_code 16 = .ok (.putfield 16, 3) := by decide +kernel
theorem d_Version_init_19 : decode prog_11_method_1_code 19 = .ok (.aload_n 0, 1) := by decide +kernel
theorem d_Version_init_20 : decode prog_11_method_1_code 20 = .ok (.aload 4, 2) := by decide +kernel
theorem d_Version_init_22 : decode prog_11_method_1_code 22 = .ok (.putfield 20, 3) := by decide +kernel
theorem d_Version_init_25 : decode prog_11_method_1_code 25 = .ok (.aload_n 0, 1) := by decide +kernel
theorem d_Version_init_26 : decode prog_11_method_1_code 26 = .ok (.iload 5, 2) := by decide +kernel
theorem d_Version_init_28 : decode prog_11_method_1_code 28 = .ok (.putfield 23, 3) := by decide +kernel
theorem d_Version_init_31 : decode prog_11_method_1_code 31 = .ok (.return_, 1) := by decide +kernel
theorem d_Shelf_replace_0 : decode prog_1_method_6_code 0 = .ok (.aload_n 0, 1) := by decide +kernel
theorem d_Shelf_replace_1 : decode prog_1_method_6_code 1 = .ok (.getfield 26, 3) := by decide +kernel
theorem d_Shelf_replace_4 : decode prog_1_method_6_code 4 = .ok (.iload_n 1, 1) := by decide +kernel
theorem d_Shelf_replace_5 : decode prog_1_method_6_code 5 = .ok (.invokevirtual 115, 3) := by decide +kernel
theorem d_Shelf_replace_8 : decode prog_1_method_6_code 8 = .ok (.ifnonnull 13, 3) := by decide +kernel
theorem d_Shelf_replace_11 : decode prog_1_method_6_code 11 = .ok (.new 119, 3) := by decide +kernel
theorem d_Shelf_replace_14 : decode prog_1_method_6_code 14 = .ok (.dup, 1) := by decide +kernel
theorem d_Shelf_replace_15 : decode prog_1_method_6_code 15 = .ok (.ldc 121, 2) := by decide +kernel
theorem d_Shelf_replace_17 : decode prog_1_method_6_code 17 = .ok (.invokespecial 123, 3) := by decide +kernel
theorem d_Shelf_replace_20 : decode prog_1_method_6_code 20 = .ok (.athrow, 1) := by decide +kernel
theorem d_Shelf_replace_21 : decode prog_1_method_6_code 21 = .ok (.aload_n 0, 1) := by decide +kernel
theorem d_Shelf_replace_22 : decode prog_1_method_6_code 22 = .ok (.iload_n 1, 1) := by decide +kernel
theorem d_Shelf_replace_23 : decode prog_1_method_6_code 23 = .ok (.invokevirtual 111, 3) := by decide +kernel
theorem d_Shelf_replace_26 : decode prog_1_method_6_code 26 = .ok (.ireturn, 1) := by decide +kernel
theorem d_Store_versionOf_0 : decode prog_9_method_2_code 0 = .ok (.iload_n 1, 1) := by decide +kernel
theorem d_Store_versionOf_1 : decode prog_9_method_2_code 1 = .ok (.iconst 1, 1) := by decide +kernel
theorem d_Store_versionOf_2 : decode prog_9_method_2_code 2 = .ok (.if_icmp .lt 18, 3) := by decide +kernel
theorem d_Store_versionOf_5 : decode prog_9_method_2_code 5 = .ok (.iload_n 1, 1) := by decide +kernel
theorem d_Store_versionOf_6 : decode prog_9_method_2_code 6 = .ok (.bipush 24, 2) := by decide +kernel
theorem d_Store_versionOf_8 : decode prog_9_method_2_code 8 = .ok (.if_icmp .gt 12, 3) := by decide +kernel
theorem d_Store_versionOf_11 : decode prog_9_method_2_code 11 = .ok (.aload_n 0, 1) := by decide +kernel
theorem d_Store_versionOf_12 : decode prog_9_method_2_code 12 = .ok (.getfield 11, 3) := by decide +kernel
theorem d_Store_versionOf_15 : decode prog_9_method_2_code 15 = .ok (.iload_n 1, 1) := by decide +kernel
theorem d_Store_versionOf_16 : decode prog_9_method_2_code 16 = .ok (.aaload, 1) := by decide +kernel
theorem d_Store_versionOf_17 : decode prog_9_method_2_code 17 = .ok (.goto 4, 3) := by decide +kernel
theorem d_Store_versionOf_20 : decode prog_9_method_2_code 20 = .ok (.aconst_null, 1) := by decide +kernel
theorem d_Store_versionOf_21 : decode prog_9_method_2_code 21 = .ok (.areturn, 1) := by decide +kernel
theorem d_Shelf_delete_0 : decode prog_1_method_7_code 0 = .ok (.aload_n 0, 1) := by decide +kernel
theorem d_Shelf_delete_1 : decode prog_1_method_7_code 1 = .ok (.getfield 26, 3) := by decide +kernel
theorem d_Shelf_delete_4 : decode prog_1_method_7_code 4 = .ok (.iload_n 1, 1) := by decide +kernel
theorem d_Shelf_delete_5 : decode prog_1_method_7_code 5 = .ok (.invokevirtual 115, 3) := by decide +kernel
theorem d_Shelf_delete_8 : decode prog_1_method_7_code 8 = .ok (.astore_n 2, 1) := by decide +kernel
theorem d_Shelf_delete_9 : decode prog_1_method_7_code 9 = .ok (.aload_n 2, 1) := by decide +kernel
theorem d_Shelf_delete_10 : decode prog_1_method_7_code 10 = .ok (.ifnonnull 13, 3) := by decide +kernel
theorem d_Shelf_delete_13 : decode prog_1_method_7_code 13 = .ok (.new 119, 3) := by decide +kernel
theorem d_Shelf_delete_16 : decode prog_1_method_7_code 16 = .ok (.dup, 1) := by decide +kernel
theorem d_Shelf_delete_17 : decode prog_1_method_7_code 17 = .ok (.ldc 121, 2) := by decide +kernel
theorem d_Shelf_delete_19 : decode prog_1_method_7_code 19 = .ok (.invokespecial 123, 3) := by decide +kernel
theorem d_Shelf_delete_22 : decode prog_1_method_7_code 22 = .ok (.athrow, 1) := by decide +kernel
theorem d_Shelf_delete_23 : decode prog_1_method_7_code 23 = .ok (.aload_n 0, 1) := by decide +kernel
theorem d_Shelf_delete_24 : decode prog_1_method_7_code 24 = .ok (.getfield 26, 3) := by decide +kernel
theorem d_Shelf_delete_27 : decode prog_1_method_7_code 27 = .ok (.iload_n 1, 1) := by decide +kernel
theorem d_Shelf_delete_28 : decode prog_1_method_7_code 28 = .ok (.invokevirtual 124, 3) := by decide +kernel
theorem d_Shelf_delete_31 : decode prog_1_method_7_code 31 = .ok (.aload_n 2, 1) := by decide +kernel
theorem d_Shelf_delete_32 : decode prog_1_method_7_code 32 = .ok (.invokevirtual 127, 3) := by decide +kernel
theorem d_Shelf_delete_35 : decode prog_1_method_7_code 35 = .ok (.ireturn, 1) := by decide +kernel
theorem d_Store_clearRow_0 : decode prog_9_method_6_code 0 = .ok (.iload_n 1, 1) := by decide +kernel
theorem d_Store_clearRow_1 : decode prog_9_method_6_code 1 = .ok (.iconst 1, 1) := by decide +kernel
theorem d_Store_clearRow_2 : decode prog_9_method_6_code 2 = .ok (.if_icmp .lt 16, 3) := by decide +kernel
theorem d_Store_clearRow_5 : decode prog_9_method_6_code 5 = .ok (.iload_n 1, 1) := by decide +kernel
theorem d_Store_clearRow_6 : decode prog_9_method_6_code 6 = .ok (.bipush 24, 2) := by decide +kernel
theorem d_Store_clearRow_8 : decode prog_9_method_6_code 8 = .ok (.if_icmp .gt 10, 3) := by decide +kernel
theorem d_Store_clearRow_11 : decode prog_9_method_6_code 11 = .ok (.aload_n 0, 1) := by decide +kernel
theorem d_Store_clearRow_12 : decode prog_9_method_6_code 12 = .ok (.getfield 11, 3) := by decide +kernel
theorem d_Store_clearRow_15 : decode prog_9_method_6_code 15 = .ok (.iload_n 1, 1) := by decide +kernel
theorem d_Store_clearRow_16 : decode prog_9_method_6_code 16 = .ok (.aconst_null, 1) := by decide +kernel
theorem d_Store_clearRow_17 : decode prog_9_method_6_code 17 = .ok (.aastore, 1) := by decide +kernel
theorem d_Store_clearRow_18 : decode prog_9_method_6_code 18 = .ok (.return_, 1) := by decide +kernel
theorem d_Version_tokens_0 : decode prog_11_method_3_code 0 = .ok (.aload_n 0, 1) := by decide +kernel
theorem d_Version_tokens_1 : decode prog_11_method_3_code 1 = .ok (.getfield 16, 3) := by decide +kernel
theorem d_Version_tokens_4 : decode prog_11_method_3_code 4 = .ok (.getfield 26, 3) := by decide +kernel
theorem d_Version_tokens_7 : decode prog_11_method_3_code 7 = .ok (.aload_n 0, 1) := by decide +kernel
theorem d_Version_tokens_8 : decode prog_11_method_3_code 8 = .ok (.getfield 20, 3) := by decide +kernel
theorem d_Version_tokens_11 : decode prog_11_method_3_code 11 = .ok (.getfield 26, 3) := by decide +kernel
theorem d_Version_tokens_14 : decode prog_11_method_3_code 14 = .ok (.iadd, 1) := by decide +kernel
theorem d_Version_tokens_15 : decode prog_11_method_3_code 15 = .ok (.ireturn, 1) := by decide +kernel
theorem d_Shelf_begin_0 : decode prog_1_method_8_code 0 = .ok (.aload_n 0, 1) := by decide +kernel
theorem d_Shelf_begin_1 : decode prog_1_method_8_code 1 = .ok (.getfield 132, 3) := by decide +kernel
theorem d_Shelf_begin_4 : decode prog_1_method_8_code 4 = .ok (.ifCond .eq 13, 3) := by decide +kernel
theorem d_Shelf_begin_7 : decode prog_1_method_8_code 7 = .ok (.new 136, 3) := by decide +kernel
theorem d_Shelf_begin_10 : decode prog_1_method_8_code 10 = .ok (.dup, 1) := by decide +kernel
theorem d_Shelf_begin_11 : decode prog_1_method_8_code 11 = .ok (.ldc 138, 2) := by decide +kernel
theorem d_Shelf_begin_13 : decode prog_1_method_8_code 13 = .ok (.invokespecial 140, 3) := by decide +kernel
theorem d_Shelf_begin_16 : decode prog_1_method_8_code 16 = .ok (.athrow, 1) := by decide +kernel
theorem d_Shelf_begin_17 : decode prog_1_method_8_code 17 = .ok (.aload_n 0, 1) := by decide +kernel
theorem d_Shelf_begin_18 : decode prog_1_method_8_code 18 = .ok (.getfield 30, 3) := by decide +kernel
theorem d_Shelf_begin_21 : decode prog_1_method_8_code 21 = .ok (.aload_n 0, 1) := by decide +kernel
theorem d_Shelf_begin_22 : decode prog_1_method_8_code 22 = .ok (.getfield 26, 3) := by decide +kernel
theorem d_Shelf_begin_25 : decode prog_1_method_8_code 25 = .ok (.invokevirtual 141, 3) := by decide +kernel
theorem d_Shelf_begin_28 : decode prog_1_method_8_code 28 = .ok (.aload_n 0, 1) := by decide +kernel
theorem d_Shelf_begin_29 : decode prog_1_method_8_code 29 = .ok (.iconst 1, 1) := by decide +kernel
theorem d_Shelf_begin_30 : decode prog_1_method_8_code 30 = .ok (.putfield 132, 3) := by decide +kernel
theorem d_Shelf_begin_33 : decode prog_1_method_8_code 33 = .ok (.return_, 1) := by decide +kernel
theorem d_Store_copyFrom_0 : decode prog_9_method_15_code 0 = .ok (.iconst 1, 1) := by decide +kernel
theorem d_Store_copyFrom_1 : decode prog_9_method_15_code 1 = .ok (.istore_n 2, 1) := by decide +kernel
theorem d_Store_copyFrom_2 : decode prog_9_method_15_code 2 = .ok (.iload_n 2, 1) := by decide +kernel
theorem d_Store_copyFrom_3 : decode prog_9_method_15_code 3 = .ok (.bipush 24, 2) := by decide +kernel
theorem d_Store_copyFrom_5 : decode prog_9_method_15_code 5 = .ok (.if_icmp .gt 21, 3) := by decide +kernel
theorem d_Store_copyFrom_8 : decode prog_9_method_15_code 8 = .ok (.aload_n 0, 1) := by decide +kernel
theorem d_Store_copyFrom_9 : decode prog_9_method_15_code 9 = .ok (.getfield 11, 3) := by decide +kernel
theorem d_Store_copyFrom_12 : decode prog_9_method_15_code 12 = .ok (.iload_n 2, 1) := by decide +kernel
theorem d_Store_copyFrom_13 : decode prog_9_method_15_code 13 = .ok (.aload_n 1, 1) := by decide +kernel
theorem d_Store_copyFrom_14 : decode prog_9_method_15_code 14 = .ok (.getfield 11, 3) := by decide +kernel
theorem d_Store_copyFrom_17 : decode prog_9_method_15_code 17 = .ok (.iload_n 2, 1) := by decide +kernel
theorem d_Store_copyFrom_18 : decode prog_9_method_15_code 18 = .ok (.aaload, 1) := by decide +kernel
theorem d_Store_copyFrom_19 : decode prog_9_method_15_code 19 = .ok (.aastore, 1) := by decide +kernel
theorem d_Store_copyFrom_20 : decode prog_9_method_15_code 20 = .ok (.iinc 2 1, 3) := by decide +kernel
theorem d_Store_copyFrom_23 : decode prog_9_method_15_code 23 = .ok (.goto (-21), 3) := by decide +kernel
theorem d_Store_copyFrom_26 : decode prog_9_method_15_code 26 = .ok (.aload_n 0, 1) := by decide +kernel
theorem d_Store_copyFrom_27 : decode prog_9_method_15_code 27 = .ok (.aload_n 1, 1) := by decide +kernel
theorem d_Store_copyFrom_28 : decode prog_9_method_15_code 28 = .ok (.getfield 45, 3) := by decide +kernel
theorem d_Store_copyFrom_31 : decode prog_9_method_15_code 31 = .ok (.putfield 45, 3) := by decide +kernel
theorem d_Store_copyFrom_34 : decode prog_9_method_15_code 34 = .ok (.iconst 0, 1) := by decide +kernel
theorem d_Store_copyFrom_35 : decode prog_9_method_15_code 35 = .ok (.istore_n 2, 1) := by decide +kernel
theorem d_Store_copyFrom_36 : decode prog_9_method_15_code 36 = .ok (.iload_n 2, 1) := by decide +kernel
theorem d_Store_copyFrom_37 : decode prog_9_method_15_code 37 = .ok (.aload_n 0, 1) := by decide +kernel
theorem d_Store_copyFrom_38 : decode prog_9_method_15_code 38 = .ok (.getfield 45, 3) := by decide +kernel
theorem d_Store_copyFrom_41 : decode prog_9_method_15_code 41 = .ok (.if_icmp .ge 21, 3) := by decide +kernel
theorem d_Store_copyFrom_44 : decode prog_9_method_15_code 44 = .ok (.aload_n 0, 1) := by decide +kernel
theorem d_Store_copyFrom_45 : decode prog_9_method_15_code 45 = .ok (.getfield 17, 3) := by decide +kernel
theorem d_Store_copyFrom_48 : decode prog_9_method_15_code 48 = .ok (.iload_n 2, 1) := by decide +kernel
theorem d_Store_copyFrom_49 : decode prog_9_method_15_code 49 = .ok (.aload_n 1, 1) := by decide +kernel
theorem d_Store_copyFrom_50 : decode prog_9_method_15_code 50 = .ok (.getfield 17, 3) := by decide +kernel
theorem d_Store_copyFrom_53 : decode prog_9_method_15_code 53 = .ok (.iload_n 2, 1) := by decide +kernel
theorem d_Store_copyFrom_54 : decode prog_9_method_15_code 54 = .ok (.aaload, 1) := by decide +kernel
theorem d_Store_copyFrom_55 : decode prog_9_method_15_code 55 = .ok (.aastore, 1) := by decide +kernel
theorem d_Store_copyFrom_56 : decode prog_9_method_15_code 56 = .ok (.iinc 2 1, 3) := by decide +kernel
theorem d_Store_copyFrom_59 : decode prog_9_method_15_code 59 = .ok (.goto (-23), 3) := by decide +kernel
theorem d_Store_copyFrom_62 : decode prog_9_method_15_code 62 = .ok (.aload_n 0, 1) := by decide +kernel
theorem d_Store_copyFrom_63 : decode prog_9_method_15_code 63 = .ok (.aload_n 1, 1) := by decide +kernel
theorem d_Store_copyFrom_64 : decode prog_9_method_15_code 64 = .ok (.getfield 48, 3) := by decide +kernel
theorem d_Store_copyFrom_67 : decode prog_9_method_15_code 67 = .ok (.putfield 48, 3) := by decide +kernel
theorem d_Store_copyFrom_70 : decode prog_9_method_15_code 70 = .ok (.aload_n 0, 1) := by decide +kernel
theorem d_Store_copyFrom_71 : decode prog_9_method_15_code 71 = .ok (.aload_n 1, 1) := by decide +kernel
theorem d_Store_copyFrom_72 : decode prog_9_method_15_code 72 = .ok (.getfield 70, 3) := by decide +kernel
theorem d_Store_copyFrom_75 : decode prog_9_method_15_code 75 = .ok (.putfield 70, 3) := by decide +kernel
theorem d_Store_copyFrom_78 : decode prog_9_method_15_code 78 = .ok (.iconst 0, 1) := by decide +kernel
theorem d_Store_copyFrom_79 : decode prog_9_method_15_code 79 = .ok (.istore_n 2, 1) := by decide +kernel
theorem d_Store_copyFrom_80 : decode prog_9_method_15_code 80 = .ok (.iload_n 2, 1) := by decide +kernel
theorem d_Store_copyFrom_81 : decode prog_9_method_15_code 81 = .ok (.aload_n 0, 1) := by decide +kernel
theorem d_Store_copyFrom_82 : decode prog_9_method_15_code 82 = .ok (.getfield 70, 3) := by decide +kernel
theorem d_Store_copyFrom_85 : decode prog_9_method_15_code 85 = .ok (.if_icmp .ge 21, 3) := by decide +kernel
theorem d_Store_copyFrom_88 : decode prog_9_method_15_code 88 = .ok (.aload_n 0, 1) := by decide +kernel
theorem d_Store_copyFrom_89 : decode prog_9_method_15_code 89 = .ok (.getfield 22, 3) := by decide +kernel
theorem d_Store_copyFrom_92 : decode prog_9_method_15_code 92 = .ok (.iload_n 2, 1) := by decide +kernel
theorem d_Store_copyFrom_93 : decode prog_9_method_15_code 93 = .ok (.aload_n 1, 1) := by decide +kernel
theorem d_Store_copyFrom_94 : decode prog_9_method_15_code 94 = .ok (.getfield 22, 3) := by decide +kernel
theorem d_Store_copyFrom_97 : decode prog_9_method_15_code 97 = .ok (.iload_n 2, 1) := by decide +kernel
theorem d_Store_copyFrom_98 : decode prog_9_method_15_code 98 = .ok (.aaload, 1) := by decide +kernel
theorem d_Store_copyFrom_99 : decode prog_9_method_15_code 99 = .ok (.aastore, 1) := by decide +kernel
theorem d_Store_copyFrom_100 : decode prog_9_method_15_code 100 = .ok (.iinc 2 1, 3) := by decide +kernel
theorem d_Store_copyFrom_103 : decode prog_9_method_15_code 103 = .ok (.goto (-23), 3) := by decide +kernel
theorem d_Store_copyFrom_106 : decode prog_9_method_15_code 106 = .ok (.return_, 1) := by decide +kernel
theorem d_Shelf_commit_0 : decode prog_1_method_9_code 0 = .ok (.aload_n 0, 1) := by decide +kernel
theorem d_Shelf_commit_1 : decode prog_1_method_9_code 1 = .ok (.getfield 132, 3) := by decide +kernel
theorem d_Shelf_commit_4 : decode prog_1_method_9_code 4 = .ok (.ifCond .ne 13, 3) := by decide +kernel
theorem d_Shelf_commit_7 : decode prog_1_method_9_code 7 = .ok (.new 136, 3) := by decide +kernel
theorem d_Shelf_commit_10 : decode prog_1_method_9_code 10 = .ok (.dup, 1) := by decide +kernel
theorem d_Shelf_commit_11 : decode prog_1_method_9_code 11 = .ok (.ldc 145, 2) := by decide +kernel
theorem d_Shelf_commit_13 : decode prog_1_method_9_code 13 = .ok (.invokespecial 140, 3) := by decide +kernel
theorem d_Shelf_commit_16 : decode prog_1_method_9_code 16 = .ok (.athrow, 1) := by decide +kernel
theorem d_Shelf_commit_17 : decode prog_1_method_9_code 17 = .ok (.aload_n 0, 1) := by decide +kernel
theorem d_Shelf_commit_18 : decode prog_1_method_9_code 18 = .ok (.iconst 0, 1) := by decide +kernel
theorem d_Shelf_commit_19 : decode prog_1_method_9_code 19 = .ok (.putfield 132, 3) := by decide +kernel
theorem d_Shelf_commit_22 : decode prog_1_method_9_code 22 = .ok (.aload_n 0, 1) := by decide +kernel
theorem d_Shelf_commit_23 : decode prog_1_method_9_code 23 = .ok (.getfield 26, 3) := by decide +kernel
theorem d_Shelf_commit_26 : decode prog_1_method_9_code 26 = .ok (.aload_n 0, 1) := by decide +kernel
theorem d_Shelf_commit_27 : decode prog_1_method_9_code 27 = .ok (.getfield 57, 3) := by decide +kernel
theorem d_Shelf_commit_30 : decode prog_1_method_9_code 30 = .ok (.invokevirtual 147, 3) := by decide +kernel
theorem d_Shelf_commit_33 : decode prog_1_method_9_code 33 = .ok (.aload_n 0, 1) := by decide +kernel
theorem d_Shelf_commit_34 : decode prog_1_method_9_code 34 = .ok (.getfield 26, 3) := by decide +kernel
theorem d_Shelf_commit_37 : decode prog_1_method_9_code 37 = .ok (.getfield 150, 3) := by decide +kernel
theorem d_Shelf_commit_40 : decode prog_1_method_9_code 40 = .ok (.ireturn, 1) := by decide +kernel
theorem d_Shelf_rollback_0 : decode prog_1_method_10_code 0 = .ok (.aload_n 0, 1) := by decide +kernel
theorem d_Shelf_rollback_1 : decode prog_1_method_10_code 1 = .ok (.getfield 132, 3) := by decide +kernel
theorem d_Shelf_rollback_4 : decode prog_1_method_10_code 4 = .ok (.ifCond .ne 13, 3) := by decide +kernel
theorem d_Shelf_rollback_7 : decode prog_1_method_10_code 7 = .ok (.new 136, 3) := by decide +kernel
theorem d_Shelf_rollback_10 : decode prog_1_method_10_code 10 = .ok (.dup, 1) := by decide +kernel
theorem d_Shelf_rollback_11 : decode prog_1_method_10_code 11 = .ok (.ldc 145, 2) := by decide +kernel
theorem d_Shelf_rollback_13 : decode prog_1_method_10_code 13 = .ok (.invokespecial 140, 3) := by decide +kernel
theorem d_Shelf_rollback_16 : decode prog_1_method_10_code 16 = .ok (.athrow, 1) := by decide +kernel
theorem d_Shelf_rollback_17 : decode prog_1_method_10_code 17 = .ok (.aload_n 0, 1) := by decide +kernel
theorem d_Shelf_rollback_18 : decode prog_1_method_10_code 18 = .ok (.iconst 0, 1) := by decide +kernel
theorem d_Shelf_rollback_19 : decode prog_1_method_10_code 19 = .ok (.putfield 132, 3) := by decide +kernel
theorem d_Shelf_rollback_22 : decode prog_1_method_10_code 22 = .ok (.aload_n 0, 1) := by decide +kernel
theorem d_Shelf_rollback_23 : decode prog_1_method_10_code 23 = .ok (.getfield 26, 3) := by decide +kernel
theorem d_Shelf_rollback_26 : decode prog_1_method_10_code 26 = .ok (.aload_n 0, 1) := by decide +kernel
theorem d_Shelf_rollback_27 : decode prog_1_method_10_code 27 = .ok (.getfield 30, 3) := by decide +kernel
theorem d_Shelf_rollback_30 : decode prog_1_method_10_code 30 = .ok (.invokevirtual 141, 3) := by decide +kernel
theorem d_Shelf_rollback_33 : decode prog_1_method_10_code 33 = .ok (.aload_n 0, 1) := by decide +kernel
theorem d_Shelf_rollback_34 : decode prog_1_method_10_code 34 = .ok (.getfield 26, 3) := by decide +kernel
theorem d_Shelf_rollback_37 : decode prog_1_method_10_code 37 = .ok (.invokevirtual 153, 3) := by decide +kernel
theorem d_Shelf_rollback_40 : decode prog_1_method_10_code 40 = .ok (.ireturn, 1) := by decide +kernel
theorem d_Store_rowCount_0 : decode prog_9_method_3_code 0 = .ok (.iconst 0, 1) := by decide +kernel
theorem d_Store_rowCount_1 : decode prog_9_method_3_code 1 = .ok (.istore_n 1, 1) := by decide +kernel
theorem d_Store_rowCount_2 : decode prog_9_method_3_code 2 = .ok (.iconst 1, 1) := by decide +kernel
theorem d_Store_rowCount_3 : decode prog_9_method_3_code 3 = .ok (.istore_n 2, 1) := by decide +kernel
theorem d_Store_rowCount_4 : decode prog_9_method_3_code 4 = .ok (.iload_n 2, 1) := by decide +kernel
theorem d_Store_rowCount_5 : decode prog_9_method_3_code 5 = .ok (.bipush 24, 2) := by decide +kernel
theorem d_Store_rowCount_7 : decode prog_9_method_3_code 7 = .ok (.if_icmp .gt 21, 3) := by decide +kernel
theorem d_Store_rowCount_10 : decode prog_9_method_3_code 10 = .ok (.aload_n 0, 1) := by decide +kernel
theorem d_Store_rowCount_11 : decode prog_9_method_3_code 11 = .ok (.getfield 11, 3) := by decide +kernel
theorem d_Store_rowCount_14 : decode prog_9_method_3_code 14 = .ok (.iload_n 2, 1) := by decide +kernel
theorem d_Store_rowCount_15 : decode prog_9_method_3_code 15 = .ok (.aaload, 1) := by decide +kernel
theorem d_Store_rowCount_16 : decode prog_9_method_3_code 16 = .ok (.ifnull 6, 3) := by decide +kernel
theorem d_Store_rowCount_19 : decode prog_9_method_3_code 19 = .ok (.iinc 1 1, 3) := by decide +kernel
theorem d_Store_rowCount_22 : decode prog_9_method_3_code 22 = .ok (.iinc 2 1, 3) := by decide +kernel
theorem d_Store_rowCount_25 : decode prog_9_method_3_code 25 = .ok (.goto (-21), 3) := by decide +kernel
theorem d_Store_rowCount_28 : decode prog_9_method_3_code 28 = .ok (.iload_n 1, 1) := by decide +kernel
theorem d_Store_rowCount_29 : decode prog_9_method_3_code 29 = .ok (.ireturn, 1) := by decide +kernel
theorem d_Shelf_ways_0 : decode prog_1_method_13_code 0 = .ok (.iload_n 1, 1) := by decide +kernel
theorem d_Shelf_ways_1 : decode prog_1_method_13_code 1 = .ok (.iconst 1, 1) := by decide +kernel
theorem d_Shelf_ways_2 : decode prog_1_method_13_code 2 = .ok (.if_icmp .lt 20, 3) := by decide +kernel
theorem d_Shelf_ways_5 : decode prog_1_method_13_code 5 = .ok (.iload_n 1, 1) := by decide +kernel
theorem d_Shelf_ways_6 : decode prog_1_method_13_code 6 = .ok (.bipush 9, 2) := by decide +kernel
theorem d_Shelf_ways_8 : decode prog_1_method_13_code 8 = .ok (.if_icmp .gt 14, 3) := by decide +kernel
theorem d_Shelf_ways_11 : decode prog_1_method_13_code 11 = .ok (.iload_n 2, 1) := by decide +kernel
theorem d_Shelf_ways_12 : decode prog_1_method_13_code 12 = .ok (.ifCond .lt 10, 3) := by decide +kernel
theorem d_Shelf_ways_15 : decode prog_1_method_13_code 15 = .ok (.iload_n 2, 1) := by decide +kernel
theorem d_Shelf_ways_16 : decode prog_1_method_13_code 16 = .ok (.sipush 200, 3) := by decide +kernel
theorem d_Shelf_ways_19 : decode prog_1_method_13_code 19 = .ok (.if_icmp .le 13, 3) := by decide +kernel
theorem d_Shelf_ways_22 : decode prog_1_method_13_code 22 = .ok (.new 71, 3) := by decide +kernel
theorem d_Shelf_ways_25 : decode prog_1_method_13_code 25 = .ok (.dup, 1) := by decide +kernel
theorem d_Shelf_ways_26 : decode prog_1_method_13_code 26 = .ok (.ldc 159, 2) := by decide +kernel
theorem d_Shelf_ways_28 : decode prog_1_method_13_code 28 = .ok (.invokespecial 75, 3) := by decide +kernel
theorem d_Shelf_ways_31 : decode prog_1_method_13_code 31 = .ok (.athrow, 1) := by decide +kernel
theorem d_Shelf_ways_32 : decode prog_1_method_13_code 32 = .ok (.aload_n 0, 1) := by decide +kernel
theorem d_Shelf_ways_33 : decode prog_1_method_13_code 33 = .ok (.iload_n 1, 1) := by decide +kernel
theorem d_Shelf_ways_34 : decode prog_1_method_13_code 34 = .ok (.putfield 57, 3) := by decide +kernel
theorem d_Shelf_ways_37 : decode prog_1_method_13_code 37 = .ok (.aload_n 0, 1) := by decide +kernel
theorem d_Shelf_ways_38 : decode prog_1_method_13_code 38 = .ok (.iload_n 2, 1) := by decide +kernel
theorem d_Shelf_ways_39 : decode prog_1_method_13_code 39 = .ok (.putfield 61, 3) := by decide +kernel
theorem d_Shelf_ways_42 : decode prog_1_method_13_code 42 = .ok (.return_, 1) := by decide +kernel
theorem d_Shelf_weight_0 : decode prog_1_method_14_code 0 = .ok (.iload_n 1, 1) := by decide +kernel
theorem d_Shelf_weight_1 : decode prog_1_method_14_code 1 = .ok (.invokestatic 90, 3) := by decide +kernel
theorem d_Shelf_weight_4 : decode prog_1_method_14_code 4 = .ok (.ifCond .eq 13, 3) := by decide +kernel
theorem d_Shelf_weight_7 : decode prog_1_method_14_code 7 = .ok (.iload_n 2, 1) := by decide +kernel
theorem d_Shelf_weight_8 : decode prog_1_method_14_code 8 = .ok (.ifCond .lt 9, 3) := by decide +kernel
theorem d_Shelf_weight_11 : decode prog_1_method_14_code 11 = .ok (.iload_n 2, 1) := by decide +kernel
theorem d_Shelf_weight_12 : decode prog_1_method_14_code 12 = .ok (.bipush 9, 2) := by decide +kernel
theorem d_Shelf_weight_14 : decode prog_1_method_14_code 14 = .ok (.if_icmp .le 13, 3) := by decide +kernel
theorem d_Shelf_weight_17 : decode prog_1_method_14_code 17 = .ok (.new 71, 3) := by decide +kernel
theorem d_Shelf_weight_20 : decode prog_1_method_14_code 20 = .ok (.dup, 1) := by decide +kernel
theorem d_Shelf_weight_21 : decode prog_1_method_14_code 21 = .ok (.ldc 161, 2) := by decide +kernel
theorem d_Shelf_weight_23 : decode prog_1_method_14_code 23 = .ok (.invokespecial 75, 3) := by decide +kernel
theorem d_Shelf_weight_26 : decode prog_1_method_14_code 26 = .ok (.athrow, 1) := by decide +kernel
theorem d_Shelf_weight_27 : decode prog_1_method_14_code 27 = .ok (.aload_n 0, 1) := by decide +kernel
theorem d_Shelf_weight_28 : decode prog_1_method_14_code 28 = .ok (.getfield 19, 3) := by decide +kernel
theorem d_Shelf_weight_31 : decode prog_1_method_14_code 31 = .ok (.iload_n 1, 1) := by decide +kernel
theorem d_Shelf_weight_32 : decode prog_1_method_14_code 32 = .ok (.iaload, 1) := by decide +kernel
theorem d_Shelf_weight_33 : decode prog_1_method_14_code 33 = .ok (.istore_n 3, 1) := by decide +kernel
theorem d_Shelf_weight_34 : decode prog_1_method_14_code 34 = .ok (.aload_n 0, 1) := by decide +kernel
theorem d_Shelf_weight_35 : decode prog_1_method_14_code 35 = .ok (.getfield 19, 3) := by decide +kernel
theorem d_Shelf_weight_38 : decode prog_1_method_14_code 38 = .ok (.iload_n 1, 1) := by decide +kernel
theorem d_Shelf_weight_39 : decode prog_1_method_14_code 39 = .ok (.iload_n 2, 1) := by decide +kernel
theorem d_Shelf_weight_40 : decode prog_1_method_14_code 40 = .ok (.iastore, 1) := by decide +kernel
theorem d_Shelf_weight_41 : decode prog_1_method_14_code 41 = .ok (.iload_n 3, 1) := by decide +kernel
theorem d_Shelf_weight_42 : decode prog_1_method_14_code 42 = .ok (.ireturn, 1) := by decide +kernel
theorem d_Shelf_ask_0 : decode prog_1_method_15_code 0 = .ok (.aload_n 0, 1) := by decide +kernel
theorem d_Shelf_ask_1 : decode prog_1_method_15_code 1 = .ok (.getfield 78, 3) := by decide +kernel
theorem d_Shelf_ask_4 : decode prog_1_method_15_code 4 = .ok (.istore_n 1, 1) := by decide +kernel
theorem d_Shelf_ask_5 : decode prog_1_method_15_code 5 = .ok (.aload_n 0, 1) := by decide +kernel
theorem d_Shelf_ask_6 : decode prog_1_method_15_code 6 = .ok (.iconst 0, 1) := by decide +kernel
theorem d_Shelf_ask_7 : decode prog_1_method_15_code 7 = .ok (.putfield 78, 3) := by decide +kernel
theorem d_Shelf_ask_10 : decode prog_1_method_15_code 10 = .ok (.aload_n 0, 1) := by decide +kernel
theorem d_Shelf_ask_11 : decode prog_1_method_15_code 11 = .ok (.getfield 36, 3) := by decide +kernel
theorem d_Shelf_ask_14 : decode prog_1_method_15_code 14 = .ok (.aload_n 0, 1) := by decide +kernel
theorem d_Shelf_ask_15 : decode prog_1_method_15_code 15 = .ok (.getfield 9, 3) := by decide +kernel
theorem d_Shelf_ask_18 : decode prog_1_method_15_code 18 = .ok (.iload_n 1, 1) := by decide +kernel
theorem d_Shelf_ask_19 : decode prog_1_method_15_code 19 = .ok (.invokevirtual 163, 3) := by decide +kernel
theorem d_Shelf_ask_22 : decode prog_1_method_15_code 22 = .ok (.istore_n 2, 1) := by decide +kernel
theorem d_Shelf_ask_23 : decode prog_1_method_15_code 23 = .ok (.aload_n 0, 1) := by decide +kernel
theorem d_Shelf_ask_24 : decode prog_1_method_15_code 24 = .ok (.aload_n 0, 1) := by decide +kernel
theorem d_Shelf_ask_25 : decode prog_1_method_15_code 25 = .ok (.getfield 36, 3) := by decide +kernel
theorem d_Shelf_ask_28 : decode prog_1_method_15_code 28 = .ok (.getfield 167, 3) := by decide +kernel
theorem d_Shelf_ask_31 : decode prog_1_method_15_code 31 = .ok (.putfield 64, 3) := by decide +kernel
theorem d_Shelf_ask_34 : decode prog_1_method_15_code 34 = .ok (.iload_n 2, 1) := by decide +kernel
theorem d_Shelf_ask_35 : decode prog_1_method_15_code 35 = .ok (.ifCond .ne 13, 3) := by decide +kernel
theorem d_Shelf_ask_38 : decode prog_1_method_15_code 38 = .ok (.new 71, 3) := by decide +kernel
theorem d_Shelf_ask_41 : decode prog_1_method_15_code 41 = .ok (.dup, 1) := by decide +kernel
theorem d_Shelf_ask_42 : decode prog_1_method_15_code 42 = .ok (.ldc 168, 2) := by decide +kernel
theorem d_Shelf_ask_44 : decode prog_1_method_15_code 44 = .ok (.invokespecial 75, 3) := by decide +kernel
theorem d_Shelf_ask_47 : decode prog_1_method_15_code 47 = .ok (.athrow, 1) := by decide +kernel
theorem d_Shelf_ask_48 : decode prog_1_method_15_code 48 = .ok (.aload_n 0, 1) := by decide +kernel
theorem d_Shelf_ask_49 : decode prog_1_method_15_code 49 = .ok (.aload_n 0, 1) := by decide +kernel
theorem d_Shelf_ask_50 : decode prog_1_method_15_code 50 = .ok (.getfield 36, 3) := by decide +kernel
theorem d_Shelf_ask_53 : decode prog_1_method_15_code 53 = .ok (.getfield 170, 3) := by decide +kernel
theorem d_Shelf_ask_56 : decode prog_1_method_15_code 56 = .ok (.putfield 173, 3) := by decide +kernel
theorem d_Shelf_ask_59 : decode prog_1_method_15_code 59 = .ok (.aload_n 0, 1) := by decide +kernel
theorem d_Shelf_ask_60 : decode prog_1_method_15_code 60 = .ok (.getfield 43, 3) := by decide +kernel
theorem d_Shelf_ask_63 : decode prog_1_method_15_code 63 = .ok (.aload_n 0, 1) := by decide +kernel
theorem d_Shelf_ask_64 : decode prog_1_method_15_code 64 = .ok (.getfield 36, 3) := by decide +kernel
theorem d_Shelf_ask_67 : decode prog_1_method_15_code 67 = .ok (.aload_n 0, 1) := by decide +kernel
theorem d_Shelf_ask_68 : decode prog_1_method_15_code 68 = .ok (.getfield 26, 3) := by decide +kernel
theorem d_Shelf_ask_71 : decode prog_1_method_15_code 71 = .ok (.invokevirtual 176, 3) := by decide +kernel
theorem d_Shelf_ask_74 : decode prog_1_method_15_code 74 = .ok (.aload_n 0, 1) := by decide +kernel
theorem d_Shelf_ask_75 : decode prog_1_method_15_code 75 = .ok (.getfield 50, 3) := by decide +kernel
theorem d_Shelf_ask_78 : decode prog_1_method_15_code 78 = .ok (.aload_n 0, 1) := by decide +kernel
theorem d_Shelf_ask_79 : decode prog_1_method_15_code 79 = .ok (.getfield 43, 3) := by decide +kernel
theorem d_Shelf_ask_82 : decode prog_1_method_15_code 82 = .ok (.aload_n 0, 1) := by decide +kernel
theorem d_Shelf_ask_83 : decode prog_1_method_15_code 83 = .ok (.getfield 36, 3) := by decide +kernel
theorem d_Shelf_ask_86 : decode prog_1_method_15_code 86 = .ok (.invokevirtual 180, 3) := by decide +kernel
theorem d_Shelf_ask_89 : decode prog_1_method_15_code 89 = .ok (.aload_n 0, 1) := by decide +kernel
theorem d_Shelf_ask_90 : decode prog_1_method_15_code 90 = .ok (.getfield 26, 3) := by decide +kernel
theorem d_Shelf_ask_93 : decode prog_1_method_15_code 93 = .ok (.invokevirtual 184, 3) := by decide +kernel
theorem d_Shelf_ask_96 : decode prog_1_method_15_code 96 = .ok (.aload_n 0, 1) := by decide +kernel
theorem d_Shelf_ask_97 : decode prog_1_method_15_code 97 = .ok (.getfield 50, 3) := by decide +kernel
theorem d_Shelf_ask_100 : decode prog_1_method_15_code 100 = .ok (.aload_n 0, 1) := by decide +kernel
theorem d_Shelf_ask_101 : decode prog_1_method_15_code 101 = .ok (.getfield 43, 3) := by decide +kernel
theorem d_Shelf_ask_104 : decode prog_1_method_15_code 104 = .ok (.aload_n 0, 1) := by decide +kernel
theorem d_Shelf_ask_105 : decode prog_1_method_15_code 105 = .ok (.getfield 173, 3) := by decide +kernel
theorem d_Shelf_ask_108 : decode prog_1_method_15_code 108 = .ok (.aload_n 0, 1) := by decide +kernel
theorem d_Shelf_ask_109 : decode prog_1_method_15_code 109 = .ok (.getfield 19, 3) := by decide +kernel
theorem d_Shelf_ask_112 : decode prog_1_method_15_code 112 = .ok (.aload_n 0, 1) := by decide +kernel
theorem d_Shelf_ask_113 : decode prog_1_method_15_code 113 = .ok (.getfield 26, 3) := by decide +kernel
theorem d_Shelf_ask_116 : decode prog_1_method_15_code 116 = .ok (.invokevirtual 188, 3) := by decide +kernel
theorem d_Shelf_ask_119 : decode prog_1_method_15_code 119 = .ok (.aload_n 0, 1) := by decide +kernel
theorem d_Shelf_ask_120 : decode prog_1_method_15_code 120 = .ok (.getfield 50, 3) := by decide +kernel
theorem d_Shelf_ask_123 : decode prog_1_method_15_code 123 = .ok (.getfield 192, 3) := by decide +kernel
theorem d_Shelf_ask_126 : decode prog_1_method_15_code 126 = .ok (.ireturn, 1) := by decide +kernel
theorem d_Question_read_0 : decode prog_6_method_2_code 0 = .ok (.aload_n 0, 1) := by decide +kernel
theorem d_Question_read_1 : decode prog_6_method_2_code 1 = .ok (.getfield 35, 3) := by decide +kernel
theorem d_Question_read_4 : decode prog_6_method_2_code 4 = .ok (.aload_n 1, 1) := by decide +kernel
theorem d_Question_read_5 : decode prog_6_method_2_code 5 = .ok (.iload_n 2, 1) := by decide +kernel
theorem d_Question_read_6 : decode prog_6_method_2_code 6 = .ok (.invokevirtual 41, 3) := by decide +kernel
theorem d_Question_read_9 : decode prog_6_method_2_code 9 = .ok (.aload_n 0, 1) := by decide +kernel
theorem d_Question_read_10 : decode prog_6_method_2_code 10 = .ok (.aload_n 1, 1) := by decide +kernel
theorem d_Question_read_11 : decode prog_6_method_2_code 11 = .ok (.putfield 45, 3) := by decide +kernel
theorem d_Question_read_14 : decode prog_6_method_2_code 14 = .ok (.aload_n 0, 1) := by decide +kernel
theorem d_Question_read_15 : decode prog_6_method_2_code 15 = .ok (.iconst 0, 1) := by decide +kernel
theorem d_Question_read_16 : decode prog_6_method_2_code 16 = .ok (.putfield 49, 3) := by decide +kernel
theorem d_Question_read_19 : decode prog_6_method_2_code 19 = .ok (.aload_n 0, 1) := by decide +kernel
theorem d_Question_read_20 : decode prog_6_method_2_code 20 = .ok (.getfield 16, 3) := by decide +kernel
theorem d_Question_read_23 : decode prog_6_method_2_code 23 = .ok (.iconst 0, 1) := by decide +kernel
theorem d_Question_read_24 : decode prog_6_method_2_code 24 = .ok (.putfield 53, 3) := by decide +kernel
theorem d_Question_read_27 : decode prog_6_method_2_code 27 = .ok (.aload_n 0, 1) := by decide +kernel
theorem d_Question_read_28 : decode prog_6_method_2_code 28 = .ok (.iconst 0, 1) := by decide +kernel
theorem d_Question_read_29 : decode prog_6_method_2_code 29 = .ok (.putfield 56, 3) := by decide +kernel
theorem d_Question_read_32 : decode prog_6_method_2_code 32 = .ok (.aload_n 0, 1) := by decide +kernel
theorem d_Question_read_33 : decode prog_6_method_2_code 33 = .ok (.iconst 0, 1) := by decide +kernel
theorem d_Question_read_34 : decode prog_6_method_2_code 34 = .ok (.putfield 59, 3) := by decide +kernel
theorem d_Question_read_37 : decode prog_6_method_2_code 37 = .ok (.aload_n 0, 1) := by decide +kernel
theorem d_Question_read_38 : decode prog_6_method_2_code 38 = .ok (.iconst (-1), 1) := by decide +kernel
theorem d_Question_read_39 : decode prog_6_method_2_code 39 = .ok (.putfield 62, 3) := by decide +kernel
theorem d_Question_read_42 : decode prog_6_method_2_code 42 = .ok (.aload_n 0, 1) := by decide +kernel
theorem d_Question_read_43 : decode prog_6_method_2_code 43 = .ok (.iconst 5, 1) := by decide +kernel
theorem d_Question_read_44 : decode prog_6_method_2_code 44 = .ok (.iconst 3, 1) := by decide +kernel
theorem d_Question_read_45 : decode prog_6_method_2_code 45 = .ok (.iconst 0, 1) := by decide +kernel
theorem d_Question_read_46 : decode prog_6_method_2_code 46 = .ok (.invokevirtual 65, 3) := by decide +kernel
theorem d_Question_read_49 : decode prog_6_method_2_code 49 = .ok (.astore_n 3, 1) := by decide +kernel
theorem d_Question_read_50 : decode prog_6_method_2_code 50 = .ok (.aload_n 3, 1) := by decide +kernel
theorem d_Question_read_51 : decode prog_6_method_2_code 51 = .ok (.ifnull 15, 3) := by decide +kernel
theorem d_Question_read_54 : decode prog_6_method_2_code 54 = .ok (.aload_n 0, 1) := by decide +kernel
theorem d_Question_read_55 : decode prog_6_method_2_code 55 = .ok (.invokevirtual 69, 3) := by decide +kernel
theorem d_Question_read_58 : decode prog_6_method_2_code 58 = .ok (.ifCond .eq 8, 3) := by decide +kernel
theorem d_Question_read_61 : decode prog_6_method_2_code 61 = .ok (.aload_n 0, 1) := by decide +kernel
theorem d_Question_read_62 : decode prog_6_method_2_code 62 = .ok (.invokevirtual 73, 3) := by decide +kernel
theorem d_Question_read_65 : decode prog_6_method_2_code 65 = .ok (.astore_n 3, 1) := by decide +kernel
theorem d_Question_read_66 : decode prog_6_method_2_code 66 = .ok (.aload_n 3, 1) := by decide +kernel
theorem d_Question_read_67 : decode prog_6_method_2_code 67 = .ok (.ifnull 7, 3) := by decide +kernel
theorem d_Question_read_70 : decode prog_6_method_2_code 70 = .ok (.iconst 1, 1) := by decide +kernel
theorem d_Question_read_71 : decode prog_6_method_2_code 71 = .ok (.goto 4, 3) := by decide +kernel
theorem d_Question_read_74 : decode prog_6_method_2_code 74 = .ok (.iconst 0, 1) := by decide +kernel
theorem d_Question_read_75 : decode prog_6_method_2_code 75 = .ok (.ireturn, 1) := by decide +kernel
theorem d_Parts_split_0 : decode prog_4_method_2_code 0 = .ok (.aload_n 0, 1) := by decide +kernel
theorem d_Parts_split_1 : decode prog_4_method_2_code 1 = .ok (.aload_n 1, 1) := by decide +kernel
theorem d_Parts_split_2 : decode prog_4_method_2_code 2 = .ok (.putfield 21, 3) := by decide +kernel
theorem d_Parts_split_5 : decode prog_4_method_2_code 5 = .ok (.aload_n 0, 1) := by decide +kernel
theorem d_Parts_split_6 : decode prog_4_method_2_code 6 = .ok (.iload_n 2, 1) := by decide +kernel
theorem d_Parts_split_7 : decode prog_4_method_2_code 7 = .ok (.putfield 25, 3) := by decide +kernel
theorem d_Parts_split_10 : decode prog_4_method_2_code 10 = .ok (.iconst 0, 1) := by decide +kernel
theorem d_Parts_split_11 : decode prog_4_method_2_code 11 = .ok (.istore_n 3, 1) := by decide +kernel
theorem d_Parts_split_12 : decode prog_4_method_2_code 12 = .ok (.iconst 0, 1) := by decide +kernel
theorem d_Parts_split_13 : decode prog_4_method_2_code 13 = .ok (.istore 4, 2) := by decide +kernel
theorem d_Parts_split_15 : decode prog_4_method_2_code 15 = .ok (.iload 4, 2) := by decide +kernel
theorem d_Parts_split_17 : decode prog_4_method_2_code 17 = .ok (.aload_n 0, 1) := by decide +kernel
theorem d_Parts_split_18 : decode prog_4_method_2_code 18 = .ok (.getfield 9, 3) := by decide +kernel
theorem d_Parts_split_21 : decode prog_4_method_2_code 21 = .ok (.arraylength, 1) := by decide +kernel
theorem d_Parts_split_22 : decode prog_4_method_2_code 22 = .ok (.if_icmp .ge 59, 3) := by decide +kernel
theorem d_Parts_split_25 : decode prog_4_method_2_code 25 = .ok (.aload_n 0, 1) := by decide +kernel
theorem d_Parts_split_26 : decode prog_4_method_2_code 26 = .ok (.iload_n 3, 1) := by decide +kernel
theorem d_Parts_split_27 : decode prog_4_method_2_code 27 = .ok (.invokevirtual 29, 3) := by decide +kernel
theorem d_Parts_split_30 : decode prog_4_method_2_code 30 = .ok (.istore_n 3, 1) := by decide +kernel
theorem d_Parts_split_31 : decode prog_4_method_2_code 31 = .ok (.aload_n 0, 1) := by decide +kernel
theorem d_Parts_split_32 : decode prog_4_method_2_code 32 = .ok (.getfield 15, 3) := by decide +kernel
theorem d_Parts_split_35 : decode prog_4_method_2_code 35 = .ok (.iload 4, 2) := by decide +kernel
theorem d_Parts_split_37 : decode prog_4_method_2_code 37 = .ok (.iload_n 3, 1) := by decide +kernel
theorem d_Parts_split_38 : decode prog_4_method_2_code 38 = .ok (.iastore, 1) := by decide +kernel
theorem d_Parts_split_39 : decode prog_4_method_2_code 39 = .ok (.aload_n 0, 1) := by decide +kernel
theorem d_Parts_split_40 : decode prog_4_method_2_code 40 = .ok (.iload 4, 2) := by decide +kernel
theorem d_Parts_split_42 : decode prog_4_method_2_code 42 = .ok (.invokevirtual 33, 3) := by decide +kernel
theorem d_Parts_split_45 : decode prog_4_method_2_code 45 = .ok (.aload_n 0, 1) := by decide +kernel
theorem d_Parts_split_46 : decode prog_4_method_2_code 46 = .ok (.getfield 18, 3) := by decide +kernel
theorem d_Parts_split_49 : decode prog_4_method_2_code 49 = .ok (.iload 4, 2) := by decide +kernel
theorem d_Parts_split_51 : decode prog_4_method_2_code 51 = .ok (.iaload, 1) := by decide +kernel
theorem d_Parts_split_52 : decode prog_4_method_2_code 52 = .ok (.istore_n 3, 1) := by decide +kernel
theorem d_Parts_split_53 : decode prog_4_method_2_code 53 = .ok (.aload_n 0, 1) := by decide +kernel
theorem d_Parts_split_54 : decode prog_4_method_2_code 54 = .ok (.getfield 9, 3) := by decide +kernel
theorem d_Parts_split_57 : decode prog_4_method_2_code 57 = .ok (.iload 4, 2) := by decide +kernel
theorem d_Parts_split_59 : decode prog_4_method_2_code 59 = .ok (.iaload, 1) := by decide +kernel
theorem d_Parts_split_60 : decode prog_4_method_2_code 60 = .ok (.ifCond .eq 14, 3) := by decide +kernel
theorem d_Parts_split_63 : decode prog_4_method_2_code 63 = .ok (.aload_n 0, 1) := by decide +kernel
theorem d_Parts_split_64 : decode prog_4_method_2_code 64 = .ok (.getfield 9, 3) := by decide +kernel
theorem d_Parts_split_67 : decode prog_4_method_2_code 67 = .ok (.iload 4, 2) := by decide +kernel
theorem d_Parts_split_69 : decode prog_4_method_2_code 69 = .ok (.iaload, 1) := by decide +kernel
theorem d_Parts_split_70 : decode prog_4_method_2_code 70 = .ok (.iconst 1, 1) := by decide +kernel
theorem d_Parts_split_71 : decode prog_4_method_2_code 71 = .ok (.if_icmp .ne 4, 3) := by decide +kernel
theorem d_Parts_split_74 : decode prog_4_method_2_code 74 = .ok (.return_, 1) := by decide +kernel
theorem d_Parts_split_75 : decode prog_4_method_2_code 75 = .ok (.iinc 4 1, 3) := by decide +kernel
theorem d_Parts_split_78 : decode prog_4_method_2_code 78 = .ok (.goto (-63), 3) := by decide +kernel
theorem d_Parts_split_81 : decode prog_4_method_2_code 81 = .ok (.return_, 1) := by decide +kernel
theorem d_Parts_blanksEnd_0 : decode prog_4_method_3_code 0 = .ok (.iload_n 1, 1) := by decide +kernel
theorem d_Parts_blanksEnd_1 : decode prog_4_method_3_code 1 = .ok (.istore_n 2, 1) := by decide +kernel
theorem d_Parts_blanksEnd_2 : decode prog_4_method_3_code 2 = .ok (.iload_n 2, 1) := by decide +kernel
theorem d_Parts_blanksEnd_3 : decode prog_4_method_3_code 3 = .ok (.aload_n 0, 1) := by decide +kernel
theorem d_Parts_blanksEnd_4 : decode prog_4_method_3_code 4 = .ok (.getfield 25, 3) := by decide +kernel
theorem d_Parts_blanksEnd_7 : decode prog_4_method_3_code 7 = .ok (.if_icmp .ge 20, 3) := by decide +kernel
theorem d_Parts_blanksEnd_10 : decode prog_4_method_3_code 10 = .ok (.aload_n 0, 1) := by decide +kernel
theorem d_Parts_blanksEnd_11 : decode prog_4_method_3_code 11 = .ok (.getfield 21, 3) := by decide +kernel
theorem d_Parts_blanksEnd_14 : decode prog_4_method_3_code 14 = .ok (.iload_n 2, 1) := by decide +kernel
theorem d_Parts_blanksEnd_15 : decode prog_4_method_3_code 15 = .ok (.caload, 1) := by decide +kernel
theorem d_Parts_blanksEnd_16 : decode prog_4_method_3_code 16 = .ok (.bipush 32, 2) := by decide +kernel
theorem d_Parts_blanksEnd_18 : decode prog_4_method_3_code 18 = .ok (.if_icmp .ne 9, 3) := by decide +kernel
theorem d_Parts_blanksEnd_21 : decode prog_4_method_3_code 21 = .ok (.iinc 2 1, 3) := by decide +kernel
theorem d_Parts_blanksEnd_24 : decode prog_4_method_3_code 24 = .ok (.goto (-22), 3) := by decide +kernel
theorem d_Parts_blanksEnd_27 : decode prog_4_method_3_code 27 = .ok (.iload_n 2, 1) := by decide +kernel
theorem d_Parts_blanksEnd_28 : decode prog_4_method_3_code 28 = .ok (.ireturn, 1) := by decide +kernel
theorem d_Parts_readPart_0 : decode prog_4_method_4_code 0 = .ok (.aload_n 0, 1) := by decide +kernel
theorem d_Parts_readPart_1 : decode prog_4_method_4_code 1 = .ok (.getfield 15, 3) := by decide +kernel
theorem d_Parts_readPart_4 : decode prog_4_method_4_code 4 = .ok (.iload_n 1, 1) := by decide +kernel
theorem d_Parts_readPart_5 : decode prog_4_method_4_code 5 = .ok (.iaload, 1) := by decide +kernel
theorem d_Parts_readPart_6 : decode prog_4_method_4_code 6 = .ok (.istore_n 2, 1) := by decide +kernel
theorem d_Parts_readPart_7 : decode prog_4_method_4_code 7 = .ok (.iload_n 2, 1) := by decide +kernel
theorem d_Parts_readPart_8 : decode prog_4_method_4_code 8 = .ok (.aload_n 0, 1) := by decide +kernel
theorem d_Parts_readPart_9 : decode prog_4_method_4_code 9 = .ok (.getfield 25, 3) := by decide +kernel
theorem d_Parts_readPart_12 : decode prog_4_method_4_code 12 = .ok (.if_icmp .lt 20, 3) := by decide +kernel
theorem d_Parts_readPart_15 : decode prog_4_method_4_code 15 = .ok (.aload_n 0, 1) := by decide +kernel
theorem d_Parts_readPart_16 : decode prog_4_method_4_code 16 = .ok (.getfield 9, 3) := by decide +kernel
theorem d_Parts_readPart_19 : decode prog_4_method_4_code 19 = .ok (.iload_n 1, 1) := by decide +kernel
theorem d_Parts_readPart_20 : decode prog_4_method_4_code 20 = .ok (.iconst 0, 1) := by decide +kernel
theorem d_Parts_readPart_21 : decode prog_4_method_4_code 21 = .ok (.iastore, 1) := by decide +kernel
theorem d_Parts_readPart_22 : decode prog_4_method_4_code 22 = .ok (.aload_n 0, 1) := by decide +kernel
theorem d_Parts_readPart_23 : decode prog_4_method_4_code 23 = .ok (.getfield 18, 3) := by decide +kernel
theorem d_Parts_readPart_26 : decode prog_4_method_4_code 26 = .ok (.iload_n 1, 1) := by decide +kernel
theorem d_Parts_readPart_27 : decode prog_4_method_4_code 27 = .ok (.iload_n 2, 1) := by decide +kernel
theorem d_Parts_readPart_28 : decode prog_4_method_4_code 28 = .ok (.iastore, 1) := by decide +kernel
theorem d_Parts_readPart_29 : decode prog_4_method_4_code 29 = .ok (.goto 131, 3) := by decide +kernel
theorem d_Parts_readPart_32 : decode prog_4_method_4_code 32 = .ok (.aload_n 0, 1) := by decide +kernel
theorem d_Parts_readPart_33 : decode prog_4_method_4_code 33 = .ok (.getfield 21, 3) := by decide +kernel
theorem d_Parts_readPart_36 : decode prog_4_method_4_code 36 = .ok (.iload_n 2, 1) := by decide +kernel
theorem d_Parts_readPart_37 : decode prog_4_method_4_code 37 = .ok (.caload, 1) := by decide +kernel
theorem d_Parts_readPart_38 : decode prog_4_method_4_code 38 = .ok (.invokestatic 37, 3) := by decide +kernel
theorem d_Parts_readPart_41 : decode prog_4_method_4_code 41 = .ok (.ifCond .eq 34, 3) := by decide +kernel
theorem d_Parts_readPart_44 : decode prog_4_method_4_code 44 = .ok (.aload_n 0, 1) := by decide +kernel
theorem d_Parts_readPart_45 : decode prog_4_method_4_code 45 = .ok (.getfield 18, 3) := by decide +kernel
theorem d_Parts_readPart_48 : decode prog_4_method_4_code 48 = .ok (.iload_n 1, 1) := by decide +kernel
theorem d_Parts_readPart_49 : decode prog_4_method_4_code 49 = .ok (.aload_n 0, 1) := by decide +kernel
theorem d_Parts_readPart_50 : decode prog_4_method_4_code 50 = .ok (.iload_n 2, 1) := by decide +kernel
theorem d_Parts_readPart_51 : decode prog_4_method_4_code 51 = .ok (.invokevirtual 41, 3) := by decide +kernel
theorem d_Parts_readPart_54 : decode prog_4_method_4_code 54 = .ok (.iastore, 1) := by decide +kernel
theorem d_Parts_readPart_55 : decode prog_4_method_4_code 55 = .ok (.aload_n 0, 1) := by decide +kernel
theorem d_Parts_readPart_56 : decode prog_4_method_4_code 56 = .ok (.getfield 9, 3) := by decide +kernel
theorem d_Parts_readPart_59 : decode prog_4_method_4_code 59 = .ok (.iload_n 1, 1) := by decide +kernel
theorem d_Parts_readPart_60 : decode prog_4_method_4_code 60 = .ok (.aload_n 0, 1) := by decide +kernel
theorem d_Parts_readPart_61 : decode prog_4_method_4_code 61 = .ok (.iload_n 2, 1) := by decide +kernel
theorem d_Parts_readPart_62 : decode prog_4_method_4_code 62 = .ok (.aload_n 0, 1) := by decide +kernel
theorem d_Parts_readPart_63 : decode prog_4_method_4_code 63 = .ok (.getfield 18, 3) := by decide +kernel
theorem d_Parts_readPart_66 : decode prog_4_method_4_code 66 = .ok (.iload_n 1, 1) := by decide +kernel
theorem d_Parts_readPart_67 : decode prog_4_method_4_code 67 = .ok (.iaload, 1) := by decide +kernel
theorem d_Parts_readPart_68 : decode prog_4_method_4_code 68 = .ok (.invokevirtual 44, 3) := by decide +kernel
theorem d_Parts_readPart_71 : decode prog_4_method_4_code 71 = .ok (.iastore, 1) := by decide +kernel
theorem d_Parts_readPart_72 : decode prog_4_method_4_code 72 = .ok (.goto 88, 3) := by decide +kernel
theorem d_Parts_readPart_75 : decode prog_4_method_4_code 75 = .ok (.aload_n 0, 1) := by decide +kernel
theorem d_Parts_readPart_76 : decode prog_4_method_4_code 76 = .ok (.getfield 21, 3) := by decide +kernel
theorem d_Parts_readPart_79 : decode prog_4_method_4_code 79 = .ok (.iload_n 2, 1) := by decide +kernel
theorem d_Parts_readPart_80 : decode prog_4_method_4_code 80 = .ok (.caload, 1) := by decide +kernel
theorem d_Parts_readPart_81 : decode prog_4_method_4_code 81 = .ok (.bipush 34, 2) := by decide +kernel
theorem d_Parts_readPart_83 : decode prog_4_method_4_code 83 = .ok (.if_icmp .ne 38, 3) := by decide +kernel
theorem d_Parts_readPart_86 : decode prog_4_method_4_code 86 = .ok (.aload_n 0, 1) := by decide +kernel
theorem d_Parts_readPart_87 : decode prog_4_method_4_code 87 = .ok (.getfield 18, 3) := by decide +kernel
theorem d_Parts_readPart_90 : decode prog_4_method_4_code 90 = .ok (.iload_n 1, 1) := by decide +kernel
theorem d_Parts_readPart_91 : decode prog_4_method_4_code 91 = .ok (.aload_n 0, 1) := by decide +kernel
theorem d_Parts_readPart_92 : decode prog_4_method_4_code 92 = .ok (.iload_n 2, 1) := by decide +kernel
theorem d_Parts_readPart_93 : decode prog_4_method_4_code 93 = .ok (.invokevirtual 48, 3) := by decide +kernel
theorem d_Parts_readPart_96 : decode prog_4_method_4_code 96 = .ok (.iastore, 1) := by decide +kernel
theorem d_Parts_readPart_97 : decode prog_4_method_4_code 97 = .ok (.aload_n 0, 1) := by decide +kernel
theorem d_Parts_readPart_98 : decode prog_4_method_4_code 98 = .ok (.getfield 9, 3) := by decide +kernel
theorem d_Parts_readPart_101 : decode prog_4_method_4_code 101 = .ok (.iload_n 1, 1) := by decide +kernel
theorem d_Parts_readPart_102 : decode prog_4_method_4_code 102 = .ok (.aload_n 0, 1) := by decide +kernel
theorem d_Parts_readPart_103 : decode prog_4_method_4_code 103 = .ok (.getfield 18, 3) := by decide +kernel
theorem d_Parts_readPart_106 : decode prog_4_method_4_code 106 = .ok (.iload_n 1, 1) := by decide +kernel
theorem d_Parts_readPart_107 : decode prog_4_method_4_code 107 = .ok (.iaload, 1) := by decide +kernel
theorem d_Parts_readPart_108 : decode prog_4_method_4_code 108 = .ok (.iload_n 2, 1) := by decide +kernel
theorem d_Parts_readPart_109 : decode prog_4_method_4_code 109 = .ok (.if_icmp .le 7, 3) := by decide +kernel
theorem d_Parts_readPart_112 : decode prog_4_method_4_code 112 = .ok (.iconst 4, 1) := by decide +kernel
theorem d_Parts_readPart_113 : decode prog_4_method_4_code 113 = .ok (.goto 4, 3) := by decide +kernel
theorem d_Parts_readPart_116 : decode prog_4_method_4_code 116 = .ok (.iconst 1, 1) := by decide +kernel
theorem d_Parts_readPart_117 : decode prog_4_method_4_code 117 = .ok (.iastore, 1) := by decide +kernel
theorem d_Parts_readPart_118 : decode prog_4_method_4_code 118 = .ok (.goto 42, 3) := by decide +kernel
theorem d_Parts_readPart_121 : decode prog_4_method_4_code 121 = .ok (.ldc 51, 2) := by decide +kernel
theorem d_Parts_readPart_123 : decode prog_4_method_4_code 123 = .ok (.aload_n 0, 1) := by decide +kernel
theorem d_Parts_readPart_124 : decode prog_4_method_4_code 124 = .ok (.getfield 21, 3) := by decide +kernel
theorem d_Parts_readPart_127 : decode prog_4_method_4_code 127 = .ok (.iload_n 2, 1) := by decide +kernel
theorem d_Parts_readPart_128 : decode prog_4_method_4_code 128 = .ok (.caload, 1) := by decide +kernel
theorem d_Parts_readPart_129 : decode prog_4_method_4_code 129 = .ok (.invokevirtual 53, 3) := by decide +kernel
theorem d_Parts_readPart_132 : decode prog_4_method_4_code 132 = .ok (.istore_n 3, 1) := by decide +kernel
theorem d_Parts_readPart_133 : decode prog_4_method_4_code 133 = .ok (.aload_n 0, 1) := by decide +kernel
theorem d_Parts_readPart_134 : decode prog_4_method_4_code 134 = .ok (.getfield 9, 3) := by decide +kernel
theorem d_Parts_readPart_137 : decode prog_4_method_4_code 137 = .ok (.iload_n 1, 1) := by decide +kernel
theorem d_Parts_readPart_138 : decode prog_4_method_4_code 138 = .ok (.iload_n 3, 1) := by decide +kernel
theorem d_Parts_readPart_139 : decode prog_4_method_4_code 139 = .ok (.ifCond .lt 10, 3) := by decide +kernel
theorem d_Parts_readPart_142 : decode prog_4_method_4_code 142 = .ok (.bipush 9, 2) := by decide +kernel
theorem d_Parts_readPart_144 : decode prog_4_method_4_code 144 = .ok (.iload_n 3, 1) := by decide +kernel
theorem d_Parts_readPart_145 : decode prog_4_method_4_code 145 = .ok (.iadd, 1) := by decide +kernel
theorem d_Parts_readPart_146 : decode prog_4_method_4_code 146 = .ok (.goto 4, 3) := by decide +kernel
theorem d_Parts_readPart_149 : decode prog_4_method_4_code 149 = .ok (.iconst 1, 1) := by decide +kernel
theorem d_Parts_readPart_150 : decode prog_4_method_4_code 150 = .ok (.iastore, 1) := by decide +kernel
theorem d_Parts_readPart_151 : decode prog_4_method_4_code 151 = .ok (.aload_n 0, 1) := by decide +kernel
theorem d_Parts_readPart_152 : decode prog_4_method_4_code 152 = .ok (.getfield 18, 3) := by decide +kernel
theorem d_Parts_readPart_155 : decode prog_4_method_4_code 155 = .ok (.iload_n 1, 1) := by decide +kernel
theorem d_Parts_readPart_156 : decode prog_4_method_4_code 156 = .ok (.iload_n 2, 1) := by decide +kernel
theorem d_Parts_readPart_157 : decode prog_4_method_4_code 157 = .ok (.iconst 1, 1) := by decide +kernel
theorem d_Parts_readPart_158 : decode prog_4_method_4_code 158 = .ok (.iadd, 1) := by decide +kernel
theorem d_Parts_readPart_159 : decode prog_4_method_4_code 159 = .ok (.iastore, 1) := by decide +kernel
theorem d_Parts_readPart_160 : decode prog_4_method_4_code 160 = .ok (.return_, 1) := by decide +kernel
theorem d_Parts_wordEnd_0 : decode prog_4_method_5_code 0 = .ok (.iload_n 1, 1) := by decide +kernel
theorem d_Parts_wordEnd_1 : decode prog_4_method_5_code 1 = .ok (.istore_n 2, 1) := by decide +kernel
theorem d_Parts_wordEnd_2 : decode prog_4_method_5_code 2 = .ok (.iload_n 2, 1) := by decide +kernel
theorem d_Parts_wordEnd_3 : decode prog_4_method_5_code 3 = .ok (.aload_n 0, 1) := by decide +kernel
theorem d_Parts_wordEnd_4 : decode prog_4_method_5_code 4 = .ok (.getfield 25, 3) := by decide +kernel
theorem d_Parts_wordEnd_7 : decode prog_4_method_5_code 7 = .ok (.if_icmp .ge 21, 3) := by decide +kernel
theorem d_Parts_wordEnd_10 : decode prog_4_method_5_code 10 = .ok (.aload_n 0, 1) := by decide +kernel
theorem d_Parts_wordEnd_11 : decode prog_4_method_5_code 11 = .ok (.getfield 21, 3) := by decide +kernel
theorem d_Parts_wordEnd_14 : decode prog_4_method_5_code 14 = .ok (.iload_n 2, 1) := by decide +kernel
theorem d_Parts_wordEnd_15 : decode prog_4_method_5_code 15 = .ok (.caload, 1) := by decide +kernel
theorem d_Parts_wordEnd_16 : decode prog_4_method_5_code 16 = .ok (.invokestatic 37, 3) := by decide +kernel
theorem d_Parts_wordEnd_19 : decode prog_4_method_5_code 19 = .ok (.ifCond .eq 9, 3) := by decide +kernel
theorem d_Parts_wordEnd_22 : decode prog_4_method_5_code 22 = .ok (.iinc 2 1, 3) := by decide +kernel
theorem d_Parts_wordEnd_25 : decode prog_4_method_5_code 25 = .ok (.goto (-23), 3) := by decide +kernel
theorem d_Parts_wordEnd_28 : decode prog_4_method_5_code 28 = .ok (.iload_n 2, 1) := by decide +kernel
theorem d_Parts_wordEnd_29 : decode prog_4_method_5_code 29 = .ok (.ireturn, 1) := by decide +kernel
theorem d_Parts_wordKind_0 : decode prog_4_method_7_code 0 = .ok (.aload_n 0, 1) := by decide +kernel
theorem d_Parts_wordKind_1 : decode prog_4_method_7_code 1 = .ok (.iload_n 1, 1) := by decide +kernel
theorem d_Parts_wordKind_2 : decode prog_4_method_7_code 2 = .ok (.iload_n 2, 1) := by decide +kernel
theorem d_Parts_wordKind_3 : decode prog_4_method_7_code 3 = .ok (.ldc 58, 2) := by decide +kernel
theorem d_Parts_wordKind_5 : decode prog_4_method_7_code 5 = .ok (.invokevirtual 60, 3) := by decide +kernel
theorem d_Parts_wordKind_8 : decode prog_4_method_7_code 8 = .ok (.ifCond .eq 5, 3) := by decide +kernel
theorem d_Parts_wordKind_11 : decode prog_4_method_7_code 11 = .ok (.iconst 5, 1) := by decide +kernel
theorem d_Parts_wordKind_12 : decode prog_4_method_7_code 12 = .ok (.ireturn, 1) := by decide +kernel
theorem d_Parts_wordKind_13 : decode prog_4_method_7_code 13 = .ok (.aload_n 0, 1) := by decide +kernel
theorem d_Parts_wordKind_14 : decode prog_4_method_7_code 14 = .ok (.iload_n 1, 1) := by decide +kernel
theorem d_Parts_wordKind_15 : decode prog_4_method_7_code 15 = .ok (.iload_n 2, 1) := by decide +kernel
theorem d_Parts_wordKind_16 : decode prog_4_method_7_code 16 = .ok (.ldc 64, 2) := by decide +kernel
theorem d_Parts_wordKind_18 : decode prog_4_method_7_code 18 = .ok (.invokevirtual 60, 3) := by decide +kernel
theorem d_Parts_wordKind_21 : decode prog_4_method_7_code 21 = .ok (.ifCond .eq 6, 3) := by decide +kernel
theorem d_Parts_wordKind_24 : decode prog_4_method_7_code 24 = .ok (.bipush 6, 2) := by decide +kernel
theorem d_Parts_wordKind_26 : decode prog_4_method_7_code 26 = .ok (.ireturn, 1) := by decide +kernel
theorem d_Parts_wordKind_27 : decode prog_4_method_7_code 27 = .ok (.aload_n 0, 1) := by decide +kernel
theorem d_Parts_wordKind_28 : decode prog_4_method_7_code 28 = .ok (.iload_n 1, 1) := by decide +kernel
theorem d_Parts_wordKind_29 : decode prog_4_method_7_code 29 = .ok (.iload_n 2, 1) := by decide +kernel
theorem d_Parts_wordKind_30 : decode prog_4_method_7_code 30 = .ok (.ldc 66, 2) := by decide +kernel
theorem d_Parts_wordKind_32 : decode prog_4_method_7_code 32 = .ok (.invokevirtual 60, 3) := by decide +kernel
theorem d_Parts_wordKind_35 : decode prog_4_method_7_code 35 = .ok (.ifCond .eq 6, 3) := by decide +kernel
theorem d_Parts_wordKind_38 : decode prog_4_method_7_code 38 = .ok (.bipush 7, 2) := by decide +kernel
theorem d_Parts_wordKind_40 : decode prog_4_method_7_code 40 = .ok (.ireturn, 1) := by decide +kernel
theorem d_Parts_wordKind_41 : decode prog_4_method_7_code 41 = .ok (.aload_n 0, 1) := by decide +kernel
theorem d_Parts_wordKind_42 : decode prog_4_method_7_code 42 = .ok (.iload_n 1, 1) := by decide +kernel
theorem d_Parts_wordKind_43 : decode prog_4_method_7_code 43 = .ok (.iload_n 2, 1) := by decide +kernel
theorem d_Parts_wordKind_44 : decode prog_4_method_7_code 44 = .ok (.ldc 68, 2) := by decide +kernel
theorem d_Parts_wordKind_46 : decode prog_4_method_7_code 46 = .ok (.invokevirtual 60, 3) := by decide +kernel
theorem d_Parts_wordKind_49 : decode prog_4_method_7_code 49 = .ok (.ifCond .eq 6, 3) := by decide +kernel
theorem d_Parts_wordKind_52 : decode prog_4_method_7_code 52 = .ok (.bipush 8, 2) := by decide +kernel
theorem d_Parts_wordKind_54 : decode prog_4_method_7_code 54 = .ok (.ireturn, 1) := by decide +kernel
theorem d_Parts_wordKind_55 : decode prog_4_method_7_code 55 = .ok (.iload_n 2, 1) := by decide +kernel
theorem d_Parts_wordKind_56 : decode prog_4_method_7_code 56 = .ok (.aload_n 0, 1) := by decide +kernel
theorem d_Parts_wordKind_57 : decode prog_4_method_7_code 57 = .ok (.getfield 25, 3) := by decide +kernel
theorem d_Parts_wordKind_60 : decode prog_4_method_7_code 60 = .ok (.if_icmp .ge 18, 3) := by decide +kernel
theorem d_Parts_wordKind_63 : decode prog_4_method_7_code 63 = .ok (.aload_n 0, 1) := by decide +kernel
theorem d_Parts_wordKind_64 : decode prog_4_method_7_code 64 = .ok (.getfield 21, 3) := by decide +kernel
theorem d_Parts_wordKind_67 : decode prog_4_method_7_code 67 = .ok (.iload_n 2, 1) := by decide +kernel
theorem d_Parts_wordKind_68 : decode prog_4_method_7_code 68 = .ok (.caload, 1) := by decide +kernel
theorem d_Parts_wordKind_69 : decode prog_4_method_7_code 69 = .ok (.bipush 58, 2) := by decide +kernel
theorem d_Parts_wordKind_71 : decode prog_4_method_7_code 71 = .ok (.if_icmp .ne 7, 3) := by decide +kernel
theorem d_Parts_wordKind_74 : decode prog_4_method_7_code 74 = .ok (.iconst 3, 1) := by decide +kernel
theorem d_Parts_wordKind_75 : decode prog_4_method_7_code 75 = .ok (.goto 4, 3) := by decide +kernel
theorem d_Parts_wordKind_78 : decode prog_4_method_7_code 78 = .ok (.iconst 2, 1) := by decide +kernel
theorem d_Parts_wordKind_79 : decode prog_4_method_7_code 79 = .ok (.ireturn, 1) := by decide +kernel
theorem d_Parts_isName_0 : decode prog_4_method_8_code 0 = .ok (.iload_n 2, 1) := by decide +kernel
theorem d_Parts_isName_1 : decode prog_4_method_8_code 1 = .ok (.iload_n 1, 1) := by decide +kernel
theorem d_Parts_isName_2 : decode prog_4_method_8_code 2 = .ok (.isub, 1) := by decide +kernel
theorem d_Parts_isName_3 : decode prog_4_method_8_code 3 = .ok (.aload_n 3, 1) := by decide +kernel
theorem d_Parts_isName_4 : decode prog_4_method_8_code 4 = .ok (.invokevirtual 70, 3) := by decide +kernel
theorem d_Parts_isName_7 : decode prog_4_method_8_code 7 = .ok (.if_icmp .eq 5, 3) := by decide +kernel
theorem d_Parts_isName_10 : decode prog_4_method_8_code 10 = .ok (.iconst 0, 1) := by decide +kernel
theorem d_Parts_isName_11 : decode prog_4_method_8_code 11 = .ok (.ireturn, 1) := by decide +kernel
theorem d_Parts_isName_12 : decode prog_4_method_8_code 12 = .ok (.iconst 0, 1) := by decide +kernel
theorem d_Parts_isName_13 : decode prog_4_method_8_code 13 = .ok (.istore 4, 2) := by decide +kernel
theorem d_Parts_isName_15 : decode prog_4_method_8_code 15 = .ok (.iload 4, 2) := by decide +kernel
theorem d_Parts_isName_17 : decode prog_4_method_8_code 17 = .ok (.aload_n 3, 1) := by decide +kernel
theorem d_Parts_isName_18 : decode prog_4_method_8_code 18 = .ok (.invokevirtual 70, 3) := by decide +kernel
theorem d_Parts_isName_21 : decode prog_4_method_8_code 21 = .ok (.if_icmp .ge 29, 3) := by decide +kernel
theorem d_Parts_isName_24 : decode prog_4_method_8_code 24 = .ok (.aload_n 0, 1) := by decide +kernel
theorem d_Parts_isName_25 : decode prog_4_method_8_code 25 = .ok (.getfield 21, 3) := by decide +kernel
theorem d_Parts_isName_28 : decode prog_4_method_8_code 28 = .ok (.iload_n 1, 1) := by decide +kernel
theorem d_Parts_isName_29 : decode prog_4_method_8_code 29 = .ok (.iload 4, 2) := by decide +kernel
theorem d_Parts_isName_31 : decode prog_4_method_8_code 31 = .ok (.iadd, 1) := by decide +kernel
theorem d_Parts_isName_32 : decode prog_4_method_8_code 32 = .ok (.caload, 1) := by decide +kernel
theorem d_Parts_isName_33 : decode prog_4_method_8_code 33 = .ok (.aload_n 3, 1) := by decide +kernel
theorem d_Parts_isName_34 : decode prog_4_method_8_code 34 = .ok (.iload 4, 2) := by decide +kernel
theorem d_Parts_isName_36 : decode prog_4_method_8_code 36 = .ok (.invokevirtual 73, 3) := by decide +kernel
theorem d_Parts_isName_39 : decode prog_4_method_8_code 39 = .ok (.if_icmp .eq 5, 3) := by decide +kernel
theorem d_Parts_isName_42 : decode prog_4_method_8_code 42 = .ok (.iconst 0, 1) := by decide +kernel
theorem d_Parts_isName_43 : decode prog_4_method_8_code 43 = .ok (.ireturn, 1) := by decide +kernel
theorem d_Parts_isName_44 : decode prog_4_method_8_code 44 = .ok (.iinc 4 1, 3) := by decide +kernel
theorem d_Parts_isName_47 : decode prog_4_method_8_code 47 = .ok (.goto (-32), 3) := by decide +kernel
theorem d_Parts_isName_50 : decode prog_4_method_8_code 50 = .ok (.iconst 1, 1) := by decide +kernel
theorem d_Parts_isName_51 : decode prog_4_method_8_code 51 = .ok (.ireturn, 1) := by decide +kernel
theorem d_Parts_quoteEnd_0 : decode prog_4_method_6_code 0 = .ok (.iload_n 1, 1) := by decide +kernel
theorem d_Parts_quoteEnd_1 : decode prog_4_method_6_code 1 = .ok (.iconst 1, 1) := by decide +kernel
theorem d_Parts_quoteEnd_2 : decode prog_4_method_6_code 2 = .ok (.iadd, 1) := by decide +kernel
theorem d_Parts_quoteEnd_3 : decode prog_4_method_6_code 3 = .ok (.istore_n 2, 1) := by decide +kernel
theorem d_Parts_quoteEnd_4 : decode prog_4_method_6_code 4 = .ok (.iload_n 2, 1) := by decide +kernel
theorem d_Parts_quoteEnd_5 : decode prog_4_method_6_code 5 = .ok (.aload_n 0, 1) := by decide +kernel
theorem d_Parts_quoteEnd_6 : decode prog_4_method_6_code 6 = .ok (.getfield 25, 3) := by decide +kernel
theorem d_Parts_quoteEnd_9 : decode prog_4_method_6_code 9 = .ok (.if_icmp .ge 24, 3) := by decide +kernel
theorem d_Parts_quoteEnd_12 : decode prog_4_method_6_code 12 = .ok (.aload_n 0, 1) := by decide +kernel
theorem d_Parts_quoteEnd_13 : decode prog_4_method_6_code 13 = .ok (.getfield 21, 3) := by decide +kernel
theorem d_Parts_quoteEnd_16 : decode prog_4_method_6_code 16 = .ok (.iload_n 2, 1) := by decide +kernel
theorem d_Parts_quoteEnd_17 : decode prog_4_method_6_code 17 = .ok (.caload, 1) := by decide +kernel
theorem d_Parts_quoteEnd_18 : decode prog_4_method_6_code 18 = .ok (.bipush 34, 2) := by decide +kernel
theorem d_Parts_quoteEnd_20 : decode prog_4_method_6_code 20 = .ok (.if_icmp .ne 7, 3) := by decide +kernel
theorem d_Parts_quoteEnd_23 : decode prog_4_method_6_code 23 = .ok (.iload_n 2, 1) := by decide +kernel
theorem d_Parts_quoteEnd_24 : decode prog_4_method_6_code 24 = .ok (.iconst 1, 1) := by decide +kernel
theorem d_Parts_quoteEnd_25 : decode prog_4_method_6_code 25 = .ok (.iadd, 1) := by decide +kernel
theorem d_Parts_quoteEnd_26 : decode prog_4_method_6_code 26 = .ok (.ireturn, 1) := by decide +kernel
theorem d_Parts_quoteEnd_27 : decode prog_4_method_6_code 27 = .ok (.iinc 2 1, 3) := by decide +kernel
theorem d_Parts_quoteEnd_30 : decode prog_4_method_6_code 30 = .ok (.goto (-26), 3) := by decide +kernel
theorem d_Parts_quoteEnd_33 : decode prog_4_method_6_code 33 = .ok (.iload_n 1, 1) := by decide +kernel
theorem d_Parts_quoteEnd_34 : decode prog_4_method_6_code 34 = .ok (.ireturn, 1) := by decide +kernel
theorem d_Question_joined_0 : decode prog_6_method_6_code 0 = .ok (.aload_n 0, 1) := by decide +kernel
theorem d_Question_joined_1 : decode prog_6_method_6_code 1 = .ok (.iload_n 1, 1) := by decide +kernel
theorem d_Question_joined_2 : decode prog_6_method_6_code 2 = .ok (.iload_n 2, 1) := by decide +kernel
theorem d_Question_joined_3 : decode prog_6_method_6_code 3 = .ok (.iload_n 3, 1) := by decide +kernel
theorem d_Question_joined_4 : decode prog_6_method_6_code 4 = .ok (.invokevirtual 84, 3) := by decide +kernel
theorem d_Question_joined_7 : decode prog_6_method_6_code 7 = .ok (.astore 4, 2) := by decide +kernel
theorem d_Question_joined_9 : decode prog_6_method_6_code 9 = .ok (.iconst 0, 1) := by decide +kernel
theorem d_Question_joined_10 : decode prog_6_method_6_code 10 = .ok (.istore 5, 2) := by decide +kernel
theorem d_Question_joined_12 : decode prog_6_method_6_code 12 = .ok (.iload 5, 2) := by decide +kernel
theorem d_Question_joined_14 : decode prog_6_method_6_code 14 = .ok (.bipush 96, 2) := by decide +kernel
theorem d_Question_joined_16 : decode prog_6_method_6_code 16 = .ok (.if_icmp .ge 51, 3) := by decide +kernel
theorem d_Question_joined_19 : decode prog_6_method_6_code 19 = .ok (.aload 4, 2) := by decide +kernel
theorem d_Question_joined_21 : decode prog_6_method_6_code 21 = .ok (.ifnull 46, 3) := by decide +kernel
theorem d_Question_joined_24 : decode prog_6_method_6_code 24 = .ok (.aload_n 0, 1) := by decide +kernel
theorem d_Question_joined_25 : decode prog_6_method_6_code 25 = .ok (.iload_n 1, 1) := by decide +kernel
theorem d_Question_joined_26 : decode prog_6_method_6_code 26 = .ok (.invokevirtual 87, 3) := by decide +kernel
theorem d_Question_joined_29 : decode prog_6_method_6_code 29 = .ok (.ifCond .eq 38, 3) := by decide +kernel
theorem d_Question_joined_32 : decode prog_6_method_6_code 32 = .ok (.aload_n 0, 1) := by decide +kernel
theorem d_Question_joined_33 : decode prog_6_method_6_code 33 = .ok (.iload_n 1, 1) := by decide +kernel
theorem d_Question_joined_34 : decode prog_6_method_6_code 34 = .ok (.iload_n 2, 1) := by decide +kernel
theorem d_Question_joined_35 : decode prog_6_method_6_code 35 = .ok (.iload_n 3, 1) := by decide +kernel
theorem d_Question_joined_36 : decode prog_6_method_6_code 36 = .ok (.invokevirtual 84, 3) := by decide +kernel
theorem d_Question_joined_39 : decode prog_6_method_6_code 39 = .ok (.astore 6, 2) := by decide +kernel
theorem d_Question_joined_41 : decode prog_6_method_6_code 41 = .ok (.aload 6, 2) := by decide +kernel
theorem d_Question_joined_43 : decode prog_6_method_6_code 43 = .ok (.ifnonnull 7, 3) := by decide +kernel
theorem d_Question_joined_46 : decode prog_6_method_6_code 46 = .ok (.aconst_null, 1) := by decide +kernel
theorem d_Question_joined_47 : decode prog_6_method_6_code 47 = .ok (.goto 12, 3) := by decide +kernel
theorem d_Question_joined_50 : decode prog_6_method_6_code 50 = .ok (.aload_n 0, 1) := by decide +kernel
theorem d_Question_joined_51 : decode prog_6_method_6_code 51 = .ok (.iload_n 1, 1) := by decide +kernel
theorem d_Question_joined_52 : decode prog_6_method_6_code 52 = .ok (.aload 4, 2) := by decide +kernel
theorem d_Question_joined_54 : decode prog_6_method_6_code 54 = .ok (.aload 6, 2) := by decide +kernel
theorem d_Question_joined_56 : decode prog_6_method_6_code 56 = .ok (.invokevirtual 91, 3) := by decide +kernel
theorem d_Question_joined_59 : decode prog_6_method_6_code 59 = .ok (.astore 4, 2) := by decide +kernel
theorem d_Question_joined_61 : decode prog_6_method_6_code 61 = .ok (.iinc 5 1, 3) := by decide +kernel
theorem d_Question_joined_64 : decode prog_6_method_6_code 64 = .ok (.goto (-52), 3) := by decide +kernel
theorem d_Question_joined_67 : decode prog_6_method_6_code 67 = .ok (.aload 4, 2) := by decide +kernel
theorem d_Question_joined_69 : decode prog_6_method_6_code 69 = .ok (.areturn, 1) := by decide +kernel
theorem d_Question_operand_0 : decode prog_6_method_7_code 0 = .ok (.iload_n 1, 1) := by decide +kernel
theorem d_Question_operand_1 : decode prog_6_method_7_code 1 = .ok (.bipush 8, 2) := by decide +kernel
theorem d_Question_operand_3 : decode prog_6_method_7_code 3 = .ok (.if_icmp .ne 12, 3) := by decide +kernel
theorem d_Question_operand_6 : decode prog_6_method_7_code 6 = .ok (.aload_n 0, 1) := by decide +kernel
theorem d_Question_operand_7 : decode prog_6_method_7_code 7 = .ok (.iload_n 2, 1) := by decide +kernel
theorem d_Question_operand_8 : decode prog_6_method_7_code 8 = .ok (.iload_n 3, 1) := by decide +kernel
theorem d_Question_operand_9 : decode prog_6_method_7_code 9 = .ok (.invokevirtual 95, 3) := by decide +kernel
theorem d_Question_operand_12 : decode prog_6_method_7_code 12 = .ok (.goto 12, 3) := by decide +kernel
theorem d_Question_operand_15 : decode prog_6_method_7_code 15 = .ok (.aload_n 0, 1) := by decide +kernel
theorem d_Question_operand_16 : decode prog_6_method_7_code 16 = .ok (.iload_n 1, 1) := by decide +kernel
theorem d_Question_operand_17 : decode prog_6_method_7_code 17 = .ok (.iconst 1, 1) := by decide +kernel
theorem d_Question_operand_18 : decode prog_6_method_7_code 18 = .ok (.iadd, 1) := by decide +kernel
theorem d_Question_operand_19 : decode prog_6_method_7_code 19 = .ok (.iload_n 2, 1) := by decide +kernel
theorem d_Question_operand_20 : decode prog_6_method_7_code 20 = .ok (.iload_n 3, 1) := by decide +kernel
theorem d_Question_operand_21 : decode prog_6_method_7_code 21 = .ok (.invokevirtual 65, 3) := by decide +kernel
theorem d_Question_operand_24 : decode prog_6_method_7_code 24 = .ok (.areturn, 1) := by decide +kernel
theorem d_Question_atom_0 : decode prog_6_method_12_code 0 = .ok (.aload_n 0, 1) := by decide +kernel
theorem d_Question_atom_1 : decode prog_6_method_12_code 1 = .ok (.invokevirtual 106, 3) := by decide +kernel
theorem d_Question_atom_4 : decode prog_6_method_12_code 4 = .ok (.ifCond .eq 25, 3) := by decide +kernel
theorem d_Question_atom_7 : decode prog_6_method_12_code 7 = .ok (.iload_n 2, 1) := by decide +kernel
theorem d_Question_atom_8 : decode prog_6_method_12_code 8 = .ok (.bipush 8, 2) := by decide +kernel
theorem d_Question_atom_10 : decode prog_6_method_12_code 10 = .ok (.if_icmp .lt 10, 3) := by decide +kernel
theorem d_Question_atom_13 : decode prog_6_method_12_code 13 = .ok (.aload_n 0, 1) := by decide +kernel
theorem d_Question_atom_14 : decode prog_6_method_12_code 14 = .ok (.invokevirtual 73, 3) := by decide +kernel
theorem d_Question_atom_17 : decode prog_6_method_12_code 17 = .ok (.goto 11, 3) := by decide +kernel
theorem d_Question_atom_20 : decode prog_6_method_12_code 20 = .ok (.aload_n 0, 1) := by decide +kernel
theorem d_Question_atom_21 : decode prog_6_method_12_code 21 = .ok (.iload_n 1, 1) := by decide +kernel
theorem d_Question_atom_22 : decode prog_6_method_12_code 22 = .ok (.iload_n 2, 1) := by decide +kernel
theorem d_Question_atom_23 : decode prog_6_method_12_code 23 = .ok (.iconst 1, 1) := by decide +kernel
theorem d_Question_atom_24 : decode prog_6_method_12_code 24 = .ok (.iadd, 1) := by decide +kernel
theorem d_Question_atom_25 : decode prog_6_method_12_code 25 = .ok (.invokevirtual 112, 3) := by decide +kernel
theorem d_Question_atom_28 : decode prog_6_method_12_code 28 = .ok (.areturn, 1) := by decide +kernel
theorem d_Question_atom_29 : decode prog_6_method_12_code 29 = .ok (.aload_n 0, 1) := by decide +kernel
theorem d_Question_atom_30 : decode prog_6_method_12_code 30 = .ok (.bipush 8, 2) := by decide +kernel
theorem d_Question_atom_32 : decode prog_6_method_12_code 32 = .ok (.invokevirtual 103, 3) := by decide +kernel
theorem d_Question_atom_35 : decode prog_6_method_12_code 35 = .ok (.ifCond .eq 11, 3) := by decide +kernel
theorem d_Question_atom_38 : decode prog_6_method_12_code 38 = .ok (.aload_n 0, 1) := by decide +kernel
theorem d_Question_atom_39 : decode prog_6_method_12_code 39 = .ok (.iload_n 1, 1) := by decide +kernel
theorem d_Question_atom_40 : decode prog_6_method_12_code 40 = .ok (.invokevirtual 115, 3) := by decide +kernel
theorem d_Question_atom_43 : decode prog_6_method_12_code 43 = .ok (.goto 8, 3) := by decide +kernel
theorem d_Question_atom_46 : decode prog_6_method_12_code 46 = .ok (.aload_n 0, 1) := by decide +kernel
theorem d_Question_atom_47 : decode prog_6_method_12_code 47 = .ok (.iload_n 1, 1) := by decide +kernel
theorem d_Question_atom_48 : decode prog_6_method_12_code 48 = .ok (.invokevirtual 119, 3) := by decide +kernel
theorem d_Question_atom_51 : decode prog_6_method_12_code 51 = .ok (.areturn, 1) := by decide +kernel
theorem d_Question_beginsDeeper_0 : decode prog_6_method_10_code 0 = .ok (.aload_n 0, 1) := by decide +kernel
theorem d_Question_beginsDeeper_1 : decode prog_6_method_10_code 1 = .ok (.invokevirtual 69, 3) := by decide +kernel
theorem d_Question_beginsDeeper_4 : decode prog_6_method_10_code 4 = .ok (.istore_n 1, 1) := by decide +kernel
theorem d_Question_beginsDeeper_5 : decode prog_6_method_10_code 5 = .ok (.iload_n 1, 1) := by decide +kernel
theorem d_Question_beginsDeeper_6 : decode prog_6_method_10_code 6 = .ok (.bipush 9, 2) := by decide +kernel
theorem d_Question_beginsDeeper_8 : decode prog_6_method_10_code 8 = .ok (.if_icmp .eq 14, 3) := by decide +kernel
theorem d_Question_beginsDeeper_11 : decode prog_6_method_10_code 11 = .ok (.iload_n 1, 1) := by decide +kernel
theorem d_Question_beginsDeeper_12 : decode prog_6_method_10_code 12 = .ok (.bipush 11, 2) := by decide +kernel
theorem d_Question_beginsDeeper_14 : decode prog_6_method_10_code 14 = .ok (.if_icmp .eq 8, 3) := by decide +kernel
theorem d_Question_beginsDeeper_17 : decode prog_6_method_10_code 17 = .ok (.iload_n 1, 1) := by decide +kernel
theorem d_Question_beginsDeeper_18 : decode prog_6_method_10_code 18 = .ok (.iconst 3, 1) := by decide +kernel
theorem d_Question_beginsDeeper_19 : decode prog_6_method_10_code 19 = .ok (.if_icmp .ne 7, 3) := by decide +kernel
theorem d_Question_beginsDeeper_22 : decode prog_6_method_10_code 22 = .ok (.iconst 1, 1) := by decide +kernel
theorem d_Question_beginsDeeper_23 : decode prog_6_method_10_code 23 = .ok (.goto 4, 3) := by decide +kernel
theorem d_Question_beginsDeeper_26 : decode prog_6_method_10_code 26 = .ok (.iconst 0, 1) := by decide +kernel
theorem d_Question_beginsDeeper_27 : decode prog_6_method_10_code 27 = .ok (.ireturn, 1) := by decide +kernel
theorem d_Question_kind_0 : decode prog_6_method_3_code 0 = .ok (.aload_n 0, 1) := by decide +kernel
theorem d_Question_kind_1 : decode prog_6_method_3_code 1 = .ok (.getfield 35, 3) := by decide +kernel
theorem d_Question_kind_4 : decode prog_6_method_3_code 4 = .ok (.getfield 77, 3) := by decide +kernel
theorem d_Question_kind_7 : decode prog_6_method_3_code 7 = .ok (.aload_n 0, 1) := by decide +kernel
theorem d_Question_kind_8 : decode prog_6_method_3_code 8 = .ok (.getfield 49, 3) := by decide +kernel
theorem d_Question_kind_11 : decode prog_6_method_3_code 11 = .ok (.iaload, 1) := by decide +kernel
theorem d_Question_kind_12 : decode prog_6_method_3_code 12 = .ok (.ireturn, 1) := by decide +kernel
theorem d_Question_refuse_0 : decode prog_6_method_5_code 0 = .ok (.aload_n 0, 1) := by decide +kernel
theorem d_Question_refuse_1 : decode prog_6_method_5_code 1 = .ok (.aload_n 0, 1) := by decide +kernel
theorem d_Question_refuse_2 : decode prog_6_method_5_code 2 = .ok (.getfield 35, 3) := by decide +kernel
theorem d_Question_refuse_5 : decode prog_6_method_5_code 5 = .ok (.getfield 81, 3) := by decide +kernel
theorem d_Question_refuse_8 : decode prog_6_method_5_code 8 = .ok (.aload_n 0, 1) := by decide +kernel
theorem d_Question_refuse_9 : decode prog_6_method_5_code 9 = .ok (.getfield 49, 3) := by decide +kernel
theorem d_Question_refuse_12 : decode prog_6_method_5_code 12 = .ok (.iaload, 1) := by decide +kernel
theorem d_Question_refuse_13 : decode prog_6_method_5_code 13 = .ok (.putfield 62, 3) := by decide +kernel
theorem d_Question_refuse_16 : decode prog_6_method_5_code 16 = .ok (.aconst_null, 1) := by decide +kernel
theorem d_Question_refuse_17 : decode prog_6_method_5_code 17 = .ok (.areturn, 1) := by decide +kernel
theorem d_Question_deeper_0 : decode prog_6_method_13_code 0 = .ok (.aload_n 0, 1) := by decide +kernel
theorem d_Question_deeper_1 : decode prog_6_method_13_code 1 = .ok (.bipush 9, 2) := by decide +kernel
theorem d_Question_deeper_3 : decode prog_6_method_13_code 3 = .ok (.invokevirtual 103, 3) := by decide +kernel
theorem d_Question_deeper_6 : decode prog_6_method_13_code 6 = .ok (.ifCond .eq 33, 3) := by decide +kernel
theorem d_Question_deeper_9 : decode prog_6_method_13_code 9 = .ok (.aload_n 0, 1) := by decide +kernel
theorem d_Question_deeper_10 : decode prog_6_method_13_code 10 = .ok (.iconst 5, 1) := by decide +kernel
theorem d_Question_deeper_11 : decode prog_6_method_13_code 11 = .ok (.iload_n 1, 1) := by decide +kernel
theorem d_Question_deeper_12 : decode prog_6_method_13_code 12 = .ok (.iload_n 2, 1) := by decide +kernel
theorem d_Question_deeper_13 : decode prog_6_method_13_code 13 = .ok (.invokevirtual 65, 3) := by decide +kernel
theorem d_Question_deeper_16 : decode prog_6_method_13_code 16 = .ok (.astore_n 3, 1) := by decide +kernel
theorem d_Question_deeper_17 : decode prog_6_method_13_code 17 = .ok (.aload_n 3, 1) := by decide +kernel
theorem d_Question_deeper_18 : decode prog_6_method_13_code 18 = .ok (.ifnull 12, 3) := by decide +kernel
theorem d_Question_deeper_21 : decode prog_6_method_13_code 21 = .ok (.aload_n 0, 1) := by decide +kernel
theorem d_Question_deeper_22 : decode prog_6_method_13_code 22 = .ok (.bipush 10, 2) := by decide +kernel
theorem d_Question_deeper_24 : decode prog_6_method_13_code 24 = .ok (.invokevirtual 103, 3) := by decide +kernel
theorem d_Question_deeper_27 : decode prog_6_method_13_code 27 = .ok (.ifCond .eq 7, 3) := by decide +kernel
theorem d_Question_deeper_30 : decode prog_6_method_13_code 30 = .ok (.aload_n 3, 1) := by decide +kernel
theorem d_Question_deeper_31 : decode prog_6_method_13_code 31 = .ok (.goto 7, 3) := by decide +kernel
theorem d_Question_deeper_34 : decode prog_6_method_13_code 34 = .ok (.aload_n 0, 1) := by decide +kernel
theorem d_Question_deeper_35 : decode prog_6_method_13_code 35 = .ok (.invokevirtual 73, 3) := by decide +kernel
theorem d_Question_deeper_38 : decode prog_6_method_13_code 38 = .ok (.areturn, 1) := by decide +kernel
theorem d_Question_deeper_39 : decode prog_6_method_13_code 39 = .ok (.aload_n 0, 1) := by decide +kernel
theorem d_Question_deeper_40 : decode prog_6_method_13_code 40 = .ok (.bipush 11, 2) := by decide +kernel
theorem d_Question_deeper_42 : decode prog_6_method_13_code 42 = .ok (.invokevirtual 103, 3) := by decide +kernel
theorem d_Question_deeper_45 : decode prog_6_method_13_code 45 = .ok (.istore_n 3, 1) := by decide +kernel
theorem d_Question_deeper_46 : decode prog_6_method_13_code 46 = .ok (.aload_n 0, 1) := by decide +kernel
theorem d_Question_deeper_47 : decode prog_6_method_13_code 47 = .ok (.invokevirtual 69, 3) := by decide +kernel
theorem d_Question_deeper_50 : decode prog_6_method_13_code 50 = .ok (.iconst 3, 1) := by decide +kernel
theorem d_Question_deeper_51 : decode prog_6_method_13_code 51 = .ok (.if_icmp .ne 17, 3) := by decide +kernel
theorem d_Question_deeper_54 : decode prog_6_method_13_code 54 = .ok (.aload_n 0, 1) := by decide +kernel
theorem d_Question_deeper_55 : decode prog_6_method_13_code 55 = .ok (.getfield 35, 3) := by decide +kernel
theorem d_Question_deeper_58 : decode prog_6_method_13_code 58 = .ok (.aload_n 0, 1) := by decide +kernel
theorem d_Question_deeper_59 : decode prog_6_method_13_code 59 = .ok (.getfield 49, 3) := by decide +kernel
theorem d_Question_deeper_62 : decode prog_6_method_13_code 62 = .ok (.invokevirtual 122, 3) := by decide +kernel
theorem d_Question_deeper_65 : decode prog_6_method_13_code 65 = .ok (.goto 4, 3) := by decide +kernel
theorem d_Question_deeper_68 : decode prog_6_method_13_code 68 = .ok (.iconst (-1), 1) := by decide +kernel
theorem d_Question_deeper_69 : decode prog_6_method_13_code 69 = .ok (.istore 4, 2) := by decide +kernel
theorem d_Question_deeper_71 : decode prog_6_method_13_code 71 = .ok (.iload 4, 2) := by decide +kernel
theorem d_Question_deeper_73 : decode prog_6_method_13_code 73 = .ok (.ifCond .ge 8, 3) := by decide +kernel
theorem d_Question_deeper_76 : decode prog_6_method_13_code 76 = .ok (.aload_n 0, 1) := by decide +kernel
theorem d_Question_deeper_77 : decode prog_6_method_13_code 77 = .ok (.invokevirtual 73, 3) := by decide +kernel
theorem d_Question_deeper_80 : decode prog_6_method_13_code 80 = .ok (.areturn, 1) := by decide +kernel
theorem d_Question_deeper_81 : decode prog_6_method_13_code 81 = .ok (.iconst 1, 1) := by decide +kernel
theorem d_Question_deeper_82 : decode prog_6_method_13_code 82 = .ok (.iload_n 3, 1) := by decide +kernel
theorem d_Question_deeper_83 : decode prog_6_method_13_code 83 = .ok (.ifCond .eq 10, 3) := by decide +kernel
theorem d_Question_deeper_86 : decode prog_6_method_13_code 86 = .ok (.iconst 1, 1) := by decide +kernel
theorem d_Question_deeper_87 : decode prog_6_method_13_code 87 = .ok (.iload 4, 2) := by decide +kernel
theorem d_Question_deeper_89 : decode prog_6_method_13_code 89 = .ok (.isub, 1) := by decide +kernel
theorem d_Question_deeper_90 : decode prog_6_method_13_code 90 = .ok (.goto 5, 3) := by decide +kernel
theorem d_Question_deeper_93 : decode prog_6_method_13_code 93 = .ok (.iload 4, 2) := by decide +kernel
theorem d_Question_deeper_95 : decode prog_6_method_13_code 95 = .ok (.ishl, 1) := by decide +kernel
theorem d_Question_deeper_96 : decode prog_6_method_13_code 96 = .ok (.istore 5, 2) := by decide +kernel
theorem d_Question_deeper_98 : decode prog_6_method_13_code 98 = .ok (.aload_n 0, 1) := by decide +kernel
theorem d_Question_deeper_99 : decode prog_6_method_13_code 99 = .ok (.dup, 1) := by decide +kernel
theorem d_Question_deeper_100 : decode prog_6_method_13_code 100 = .ok (.getfield 49, 3) := by decide +kernel
theorem d_Question_deeper_103 : decode prog_6_method_13_code 103 = .ok (.iconst 2, 1) := by decide +kernel
theorem d_Question_deeper_104 : decode prog_6_method_13_code 104 = .ok (.iadd, 1) := by decide +kernel
theorem d_Question_deeper_105 : decode prog_6_method_13_code 105 = .ok (.putfield 49, 3) := by decide +kernel
theorem d_Question_deeper_108 : decode prog_6_method_13_code 108 = .ok (.aload_n 0, 1) := by decide +kernel
theorem d_Question_deeper_109 : decode prog_6_method_13_code 109 = .ok (.iload_n 1, 1) := by decide +kernel
theorem d_Question_deeper_110 : decode prog_6_method_13_code 110 = .ok (.iload 5, 2) := by decide +kernel
theorem d_Question_deeper_112 : decode prog_6_method_13_code 112 = .ok (.iand, 1) := by decide +kernel
theorem d_Question_deeper_113 : decode prog_6_method_13_code 113 = .ok (.iload_n 2, 1) := by decide +kernel
theorem d_Question_deeper_114 : decode prog_6_method_13_code 114 = .ok (.invokevirtual 95, 3) := by decide +kernel
theorem d_Question_deeper_117 : decode prog_6_method_13_code 117 = .ok (.areturn, 1) := by decide +kernel
theorem d_Question_takes_0 : decode prog_6_method_4_code 0 = .ok (.aload_n 0, 1) := by decide +kernel
theorem d_Question_takes_1 : decode prog_6_method_4_code 1 = .ok (.invokevirtual 69, 3) := by decide +kernel
theorem d_Question_takes_4 : decode prog_6_method_4_code 4 = .ok (.iload_n 1, 1) := by decide +kernel
theorem d_Question_takes_5 : decode prog_6_method_4_code 5 = .ok (.if_icmp .eq 5, 3) := by decide +kernel
theorem d_Question_takes_8 : decode prog_6_method_4_code 8 = .ok (.iconst 0, 1) := by decide +kernel
theorem d_Question_takes_9 : decode prog_6_method_4_code 9 = .ok (.ireturn, 1) := by decide +kernel
theorem d_Question_takes_10 : decode prog_6_method_4_code 10 = .ok (.aload_n 0, 1) := by decide +kernel
theorem d_Question_takes_11 : decode prog_6_method_4_code 11 = .ok (.dup, 1) := by decide +kernel
theorem d_Question_takes_12 : decode prog_6_method_4_code 12 = .ok (.getfield 49, 3) := by decide +kernel
theorem d_Question_takes_15 : decode prog_6_method_4_code 15 = .ok (.iconst 1, 1) := by decide +kernel
theorem d_Question_takes_16 : decode prog_6_method_4_code 16 = .ok (.iadd, 1) := by decide +kernel
theorem d_Question_takes_17 : decode prog_6_method_4_code 17 = .ok (.putfield 49, 3) := by decide +kernel
theorem d_Question_takes_20 : decode prog_6_method_4_code 20 = .ok (.iconst 1, 1) := by decide +kernel
theorem d_Question_takes_21 : decode prog_6_method_4_code 21 = .ok (.ireturn, 1) := by decide +kernel
theorem d_Parts_columnNamed_0 : decode prog_4_method_9_code 0 = .ok (.aload_n 0, 1) := by decide +kernel
theorem d_Parts_columnNamed_1 : decode prog_4_method_9_code 1 = .ok (.getfield 18, 3) := by decide +kernel
theorem d_Parts_columnNamed_4 : decode prog_4_method_9_code 4 = .ok (.iload_n 1, 1) := by decide +kernel
theorem d_Parts_columnNamed_5 : decode prog_4_method_9_code 5 = .ok (.iaload, 1) := by decide +kernel
theorem d_Parts_columnNamed_6 : decode prog_4_method_9_code 6 = .ok (.aload_n 0, 1) := by decide +kernel
theorem d_Parts_columnNamed_7 : decode prog_4_method_9_code 7 = .ok (.getfield 15, 3) := by decide +kernel
theorem d_Parts_columnNamed_10 : decode prog_4_method_9_code 10 = .ok (.iload_n 1, 1) := by decide +kernel
theorem d_Parts_columnNamed_11 : decode prog_4_method_9_code 11 = .ok (.iaload, 1) := by decide +kernel
theorem d_Parts_columnNamed_12 : decode prog_4_method_9_code 12 = .ok (.isub, 1) := by decide +kernel
theorem d_Parts_columnNamed_13 : decode prog_4_method_9_code 13 = .ok (.iconst 1, 1) := by decide +kernel
theorem d_Parts_columnNamed_14 : decode prog_4_method_9_code 14 = .ok (.if_icmp .eq 5, 3) := by decide +kernel
theorem d_Parts_columnNamed_17 : decode prog_4_method_9_code 17 = .ok (.iconst (-1), 1) := by decide +kernel
theorem d_Parts_columnNamed_18 : decode prog_4_method_9_code 18 = .ok (.ireturn, 1) := by decide +kernel
theorem d_Parts_columnNamed_19 : decode prog_4_method_9_code 19 = .ok (.aload_n 0, 1) := by decide +kernel
theorem d_Parts_columnNamed_20 : decode prog_4_method_9_code 20 = .ok (.getfield 21, 3) := by decide +kernel
theorem d_Parts_columnNamed_23 : decode prog_4_method_9_code 23 = .ok (.aload_n 0, 1) := by decide +kernel
theorem d_Parts_columnNamed_24 : decode prog_4_method_9_code 24 = .ok (.getfield 15, 3) := by decide +kernel
theorem d_Parts_columnNamed_27 : decode prog_4_method_9_code 27 = .ok (.iload_n 1, 1) := by decide +kernel
theorem d_Parts_columnNamed_28 : decode prog_4_method_9_code 28 = .ok (.iaload, 1) := by decide +kernel
theorem d_Parts_columnNamed_29 : decode prog_4_method_9_code 29 = .ok (.caload, 1) := by decide +kernel
theorem d_Parts_columnNamed_30 : decode prog_4_method_9_code 30 = .ok (.bipush 97, 2) := by decide +kernel
theorem d_Parts_columnNamed_32 : decode prog_4_method_9_code 32 = .ok (.isub, 1) := by decide +kernel
theorem d_Parts_columnNamed_33 : decode prog_4_method_9_code 33 = .ok (.istore_n 2, 1) := by decide +kernel
theorem d_Parts_columnNamed_34 : decode prog_4_method_9_code 34 = .ok (.iload_n 2, 1) := by decide +kernel
theorem d_Parts_columnNamed_35 : decode prog_4_method_9_code 35 = .ok (.invokestatic 77, 3) := by decide +kernel
theorem d_Parts_columnNamed_38 : decode prog_4_method_9_code 38 = .ok (.ifCond .eq 7, 3) := by decide +kernel
theorem d_Parts_columnNamed_41 : decode prog_4_method_9_code 41 = .ok (.iload_n 2, 1) := by decide +kernel
theorem d_Parts_columnNamed_42 : decode prog_4_method_9_code 42 = .ok (.goto 4, 3) := by decide +kernel
theorem d_Parts_columnNamed_45 : decode prog_4_method_9_code 45 = .ok (.iconst (-1), 1) := by decide +kernel
theorem d_Parts_columnNamed_46 : decode prog_4_method_9_code 46 = .ok (.ireturn, 1) := by decide +kernel
theorem d_Question_near_0 : decode prog_6_method_15_code 0 = .ok (.aload_n 0, 1) := by decide +kernel
theorem d_Question_near_1 : decode prog_6_method_15_code 1 = .ok (.bipush 9, 2) := by decide +kernel
theorem d_Question_near_3 : decode prog_6_method_15_code 3 = .ok (.invokevirtual 103, 3) := by decide +kernel
theorem d_Question_near_6 : decode prog_6_method_15_code 6 = .ok (.ifCond .ne 8, 3) := by decide +kernel
theorem d_Question_near_9 : decode prog_6_method_15_code 9 = .ok (.aload_n 0, 1) := by decide +kernel
theorem d_Question_near_10 : decode prog_6_method_15_code 10 = .ok (.invokevirtual 73, 3) := by decide +kernel
theorem d_Question_near_13 : decode prog_6_method_15_code 13 = .ok (.areturn, 1) := by decide +kernel
theorem d_Question_near_14 : decode prog_6_method_15_code 14 = .ok (.aload_n 0, 1) := by decide +kernel
theorem d_Question_near_15 : decode prog_6_method_15_code 15 = .ok (.getfield 56, 3) := by decide +kernel
theorem d_Question_near_18 : decode prog_6_method_15_code 18 = .ok (.istore_n 2, 1) := by decide +kernel
theorem d_Question_near_19 : decode prog_6_method_15_code 19 = .ok (.aload_n 0, 1) := by decide +kernel
theorem d_Question_near_20 : decode prog_6_method_15_code 20 = .ok (.invokevirtual 126, 3) := by decide +kernel
theorem d_Question_near_23 : decode prog_6_method_15_code 23 = .ok (.istore_n 3, 1) := by decide +kernel
theorem d_Question_near_24 : decode prog_6_method_15_code 24 = .ok (.iconst 0, 1) := by decide +kernel
theorem d_Question_near_25 : decode prog_6_method_15_code 25 = .ok (.istore 4, 2) := by decide +kernel
theorem d_Question_near_27 : decode prog_6_method_15_code 27 = .ok (.iload 4, 2) := by decide +kernel
theorem d_Question_near_29 : decode prog_6_method_15_code 29 = .ok (.bipush 96, 2) := by decide +kernel
theorem d_Question_near_31 : decode prog_6_method_15_code 31 = .ok (.if_icmp .ge 25, 3) := by decide +kernel
theorem d_Question_near_34 : decode prog_6_method_15_code 34 = .ok (.iload_n 3, 1) := by decide +kernel
theorem d_Question_near_35 : decode prog_6_method_15_code 35 = .ok (.ifCond .eq 21, 3) := by decide +kernel
theorem d_Question_near_38 : decode prog_6_method_15_code 38 = .ok (.aload_n 0, 1) := by decide +kernel
theorem d_Question_near_39 : decode prog_6_method_15_code 39 = .ok (.invokevirtual 109, 3) := by decide +kernel
theorem d_Question_near_42 : decode prog_6_method_15_code 42 = .ok (.ifCond .eq 14, 3) := by decide +kernel
theorem d_Question_near_45 : decode prog_6_method_15_code 45 = .ok (.aload_n 0, 1) := by decide +kernel
theorem d_Question_near_46 : decode prog_6_method_15_code 46 = .ok (.invokevirtual 126, 3) := by decide +kernel
theorem d_Question_near_49 : decode prog_6_method_15_code 49 = .ok (.istore_n 3, 1) := by decide +kernel
theorem d_Question_near_50 : decode prog_6_method_15_code 50 = .ok (.iinc 4 1, 3) := by decide +kernel
theorem d_Question_near_53 : decode prog_6_method_15_code 53 = .ok (.goto (-26), 3) := by decide +kernel
theorem d_Question_near_56 : decode prog_6_method_15_code 56 = .ok (.iload_n 3, 1) := by decide +kernel
theorem d_Question_near_57 : decode prog_6_method_15_code 57 = .ok (.ifCond .ne 5, 3) := by decide +kernel
theorem d_Question_near_60 : decode prog_6_method_15_code 60 = .ok (.aconst_null, 1) := by decide +kernel
theorem d_Question_near_61 : decode prog_6_method_15_code 61 = .ok (.areturn, 1) := by decide +kernel
theorem d_Question_near_62 : decode prog_6_method_15_code 62 = .ok (.bipush 10, 2) := by decide +kernel
theorem d_Question_near_64 : decode prog_6_method_15_code 64 = .ok (.istore 4, 2) := by decide +kernel
theorem d_Question_near_66 : decode prog_6_method_15_code 66 = .ok (.aload_n 0, 1) := by decide +kernel
theorem d_Question_near_67 : decode prog_6_method_15_code 67 = .ok (.bipush 13, 2) := by decide +kernel
theorem d_Question_near_69 : decode prog_6_method_15_code 69 = .ok (.invokevirtual 103, 3) := by decide +kernel
theorem d_Question_near_72 : decode prog_6_method_15_code 72 = .ok (.ifCond .eq 36, 3) := by decide +kernel
theorem d_Question_near_75 : decode prog_6_method_15_code 75 = .ok (.aload_n 0, 1) := by decide +kernel
theorem d_Question_near_76 : decode prog_6_method_15_code 76 = .ok (.getfield 35, 3) := by decide +kernel
theorem d_Question_near_79 : decode prog_6_method_15_code 79 = .ok (.aload_n 0, 1) := by decide +kernel
theorem d_Question_near_80 : decode prog_6_method_15_code 80 = .ok (.getfield 49, 3) := by decide +kernel
theorem d_Question_near_83 : decode prog_6_method_15_code 83 = .ok (.invokevirtual 133, 3) := by decide +kernel
theorem d_Question_near_86 : decode prog_6_method_15_code 86 = .ok (.istore 4, 2) := by decide +kernel
theorem d_Question_near_88 : decode prog_6_method_15_code 88 = .ok (.iload 4, 2) := by decide +kernel
theorem d_Question_near_90 : decode prog_6_method_15_code 90 = .ok (.ifCond .ge 8, 3) := by decide +kernel
theorem d_Question_near_93 : decode prog_6_method_15_code 93 = .ok (.aload_n 0, 1) := by decide +kernel
theorem d_Question_near_94 : decode prog_6_method_15_code 94 = .ok (.invokevirtual 73, 3) := by decide +kernel
theorem d_Question_near_97 : decode prog_6_method_15_code 97 = .ok (.areturn, 1) := by decide +kernel
theorem d_Question_near_98 : decode prog_6_method_15_code 98 = .ok (.aload_n 0, 1) := by decide +kernel
theorem d_Question_near_99 : decode prog_6_method_15_code 99 = .ok (.dup, 1) := by decide +kernel
theorem d_Question_near_100 : decode prog_6_method_15_code 100 = .ok (.getfield 49, 3) := by decide +kernel
theorem d_Question_near_103 : decode prog_6_method_15_code 103 = .ok (.iconst 1, 1) := by decide +kernel
theorem d_Question_near_104 : decode prog_6_method_15_code 104 = .ok (.iadd, 1) := by decide +kernel
theorem d_Question_near_105 : decode prog_6_method_15_code 105 = .ok (.putfield 49, 3) := by decide +kernel
theorem d_Question_near_108 : decode prog_6_method_15_code 108 = .ok (.aload_n 0, 1) := by decide +kernel
theorem d_Question_near_109 : decode prog_6_method_15_code 109 = .ok (.bipush 10, 2) := by decide +kernel
theorem d_Question_near_111 : decode prog_6_method_15_code 111 = .ok (.invokevirtual 103, 3) := by decide +kernel
theorem d_Question_near_114 : decode prog_6_method_15_code 114 = .ok (.ifCond .eq 15, 3) := by decide +kernel
theorem d_Question_near_117 : decode prog_6_method_15_code 117 = .ok (.aload_n 0, 1) := by decide +kernel
theorem d_Question_near_118 : decode prog_6_method_15_code 118 = .ok (.iload_n 2, 1) := by decide +kernel
theorem d_Question_near_119 : decode prog_6_method_15_code 119 = .ok (.iload 4, 2) := by decide +kernel
theorem d_Question_near_121 : decode prog_6_method_15_code 121 = .ok (.iload_n 1, 1) := by decide +kernel
theorem d_Question_near_122 : decode prog_6_method_15_code 122 = .ok (.iconst (-1), 1) := by decide +kernel
theorem d_Question_near_123 : decode prog_6_method_15_code 123 = .ok (.invokevirtual 129, 3) := by decide +kernel
theorem d_Question_near_126 : decode prog_6_method_15_code 126 = .ok (.goto 7, 3) := by decide +kernel
theorem d_Question_near_129 : decode prog_6_method_15_code 129 = .ok (.aload_n 0, 1) := by decide +kernel
theorem d_Question_near_130 : decode prog_6_method_15_code 130 = .ok (.invokevirtual 73, 3) := by decide +kernel
theorem d_Question_near_133 : decode prog_6_method_15_code 133 = .ok (.areturn, 1) := by decide +kernel
theorem d_Question_readPhrase_0 : decode prog_6_method_16_code 0 = .ok (.aload_n 0, 1) := by decide +kernel
theorem d_Question_readPhrase_1 : decode prog_6_method_16_code 1 = .ok (.getfield 16, 3) := by decide +kernel
theorem d_Question_readPhrase_4 : decode prog_6_method_16_code 4 = .ok (.getfield 53, 3) := by decide +kernel
theorem d_Question_readPhrase_7 : decode prog_6_method_16_code 7 = .ok (.istore_n 1, 1) := by decide +kernel
theorem d_Question_readPhrase_8 : decode prog_6_method_16_code 8 = .ok (.aload_n 0, 1) := by decide +kernel
theorem d_Question_readPhrase_9 : decode prog_6_method_16_code 9 = .ok (.getfield 56, 3) := by decide +kernel
theorem d_Question_readPhrase_12 : decode prog_6_method_16_code 12 = .ok (.bipush 12, 2) := by decide +kernel
theorem d_Question_readPhrase_14 : decode prog_6_method_16_code 14 = .ok (.if_icmp .ge 10, 3) := by decide +kernel
theorem d_Question_readPhrase_17 : decode prog_6_method_16_code 17 = .ok (.aload_n 0, 1) := by decide +kernel
theorem d_Question_readPhrase_18 : decode prog_6_method_16_code 18 = .ok (.invokevirtual 136, 3) := by decide +kernel
theorem d_Question_readPhrase_21 : decode prog_6_method_16_code 21 = .ok (.ifCond .ne 10, 3) := by decide +kernel
theorem d_Question_readPhrase_24 : decode prog_6_method_16_code 24 = .ok (.aload_n 0, 1) := by decide +kernel
theorem d_Question_readPhrase_25 : decode prog_6_method_16_code 25 = .ok (.invokevirtual 73, 3) := by decide +kernel
theorem d_Question_readPhrase_28 : decode prog_6_method_16_code 28 = .ok (.pop, 1) := by decide +kernel
theorem d_Question_readPhrase_29 : decode prog_6_method_16_code 29 = .ok (.iconst 0, 1) := by decide +kernel
theorem d_Question_readPhrase_30 : decode prog_6_method_16_code 30 = .ok (.ireturn, 1) := by decide +kernel
theorem d_Question_readPhrase_31 : decode prog_6_method_16_code 31 = .ok (.iconst 0, 1) := by decide +kernel
theorem d_Question_readPhrase_32 : decode prog_6_method_16_code 32 = .ok (.istore_n 2, 1) := by decide +kernel
theorem d_Question_readPhrase_33 : decode prog_6_method_16_code 33 = .ok (.iload_n 2, 1) := by decide +kernel
theorem d_Question_readPhrase_34 : decode prog_6_method_16_code 34 = .ok (.bipush 96, 2) := by decide +kernel
theorem d_Question_readPhrase_36 : decode prog_6_method_16_code 36 = .ok (.if_icmp .ge 32, 3) := by decide +kernel
theorem d_Question_readPhrase_39 : decode prog_6_method_16_code 39 = .ok (.aload_n 0, 1) := by decide +kernel
theorem d_Question_readPhrase_40 : decode prog_6_method_16_code 40 = .ok (.bipush 14, 2) := by decide +kernel
theorem d_Question_readPhrase_42 : decode prog_6_method_16_code 42 = .ok (.invokevirtual 103, 3) := by decide +kernel
theorem d_Question_readPhrase_45 : decode prog_6_method_16_code 45 = .ok (.ifCond .eq 23, 3) := by decide +kernel
theorem d_Question_readPhrase_48 : decode prog_6_method_16_code 48 = .ok (.aload_n 0, 1) := by decide +kernel
theorem d_Question_readPhrase_49 : decode prog_6_method_16_code 49 = .ok (.invokevirtual 136, 3) := by decide +kernel
theorem d_Question_readPhrase_52 : decode prog_6_method_16_code 52 = .ok (.ifCond .ne 10, 3) := by decide +kernel
theorem d_Question_readPhrase_55 : decode prog_6_method_16_code 55 = .ok (.aload_n 0, 1) := by decide +kernel
theorem d_Question_readPhrase_56 : decode prog_6_method_16_code 56 = .ok (.invokevirtual 73, 3) := by decide +kernel
theorem d_Question_readPhrase_59 : decode prog_6_method_16_code 59 = .ok (.pop, 1) := by decide +kernel
theorem d_Question_readPhrase_60 : decode prog_6_method_16_code 60 = .ok (.iconst 0, 1) := by decide +kernel
theorem d_Question_readPhrase_61 : decode prog_6_method_16_code 61 = .ok (.ireturn, 1) := by decide +kernel
theorem d_Question_readPhrase_62 : decode prog_6_method_16_code 62 = .ok (.iinc 2 1, 3) := by decide +kernel
theorem d_Question_readPhrase_65 : decode prog_6_method_16_code 65 = .ok (.goto (-32), 3) := by decide +kernel
theorem d_Question_readPhrase_68 : decode prog_6_method_16_code 68 = .ok (.aload_n 0, 1) := by decide +kernel
theorem d_Question_readPhrase_69 : decode prog_6_method_16_code 69 = .ok (.getfield 24, 3) := by decide +kernel
theorem d_Question_readPhrase_72 : decode prog_6_method_16_code 72 = .ok (.aload_n 0, 1) := by decide +kernel
theorem d_Question_readPhrase_73 : decode prog_6_method_16_code 73 = .ok (.getfield 56, 3) := by decide +kernel
theorem d_Question_readPhrase_76 : decode prog_6_method_16_code 76 = .ok (.aaload, 1) := by decide +kernel
theorem d_Question_readPhrase_77 : decode prog_6_method_16_code 77 = .ok (.astore_n 2, 1) := by decide +kernel
theorem d_Question_readPhrase_78 : decode prog_6_method_16_code 78 = .ok (.aload_n 2, 1) := by decide +kernel
theorem d_Question_readPhrase_79 : decode prog_6_method_16_code 79 = .ok (.iload_n 1, 1) := by decide +kernel
theorem d_Question_readPhrase_80 : decode prog_6_method_16_code 80 = .ok (.putfield 139, 3) := by decide +kernel
theorem d_Question_readPhrase_83 : decode prog_6_method_16_code 83 = .ok (.aload_n 2, 1) := by decide +kernel
theorem d_Question_readPhrase_84 : decode prog_6_method_16_code 84 = .ok (.aload_n 0, 1) := by decide +kernel
theorem d_Question_readPhrase_85 : decode prog_6_method_16_code 85 = .ok (.getfield 16, 3) := by decide +kernel
theorem d_Question_readPhrase_88 : decode prog_6_method_16_code 88 = .ok (.getfield 53, 3) := by decide +kernel
theorem d_Question_readPhrase_91 : decode prog_6_method_16_code 91 = .ok (.iload_n 1, 1) := by decide +kernel
theorem d_Question_readPhrase_92 : decode prog_6_method_16_code 92 = .ok (.isub, 1) := by decide +kernel
theorem d_Question_readPhrase_93 : decode prog_6_method_16_code 93 = .ok (.putfield 142, 3) := by decide +kernel
theorem d_Question_readPhrase_96 : decode prog_6_method_16_code 96 = .ok (.aload_n 2, 1) := by decide +kernel
theorem d_Question_readPhrase_97 : decode prog_6_method_16_code 97 = .ok (.aload_n 0, 1) := by decide +kernel
theorem d_Question_readPhrase_98 : decode prog_6_method_16_code 98 = .ok (.bipush 15, 2) := by decide +kernel
theorem d_Question_readPhrase_100 : decode prog_6_method_16_code 100 = .ok (.invokevirtual 103, 3) := by decide +kernel
theorem d_Question_readPhrase_103 : decode prog_6_method_16_code 103 = .ok (.putfield 145, 3) := by decide +kernel
theorem d_Question_readPhrase_106 : decode prog_6_method_16_code 106 = .ok (.aload_n 0, 1) := by decide +kernel
theorem d_Question_readPhrase_107 : decode prog_6_method_16_code 107 = .ok (.dup, 1) := by decide +kernel
theorem d_Question_readPhrase_108 : decode prog_6_method_16_code 108 = .ok (.getfield 56, 3) := by decide +kernel
theorem d_Question_readPhrase_111 : decode prog_6_method_16_code 111 = .ok (.iconst 1, 1) := by decide +kernel
theorem d_Question_readPhrase_112 : decode prog_6_method_16_code 112 = .ok (.iadd, 1) := by decide +kernel
theorem d_Question_readPhrase_113 : decode prog_6_method_16_code 113 = .ok (.putfield 56, 3) := by decide +kernel
theorem d_Question_readPhrase_116 : decode prog_6_method_16_code 116 = .ok (.iconst 1, 1) := by decide +kernel
theorem d_Question_readPhrase_117 : decode prog_6_method_16_code 117 = .ok (.ireturn, 1) := by decide +kernel
theorem d_Question_readString_0 : decode prog_6_method_17_code 0 = .ok (.aload_n 0, 1) := by decide +kernel
theorem d_Question_readString_1 : decode prog_6_method_17_code 1 = .ok (.invokevirtual 109, 3) := by decide +kernel
theorem d_Question_readString_4 : decode prog_6_method_17_code 4 = .ok (.ifCond .ne 5, 3) := by decide +kernel
theorem d_Question_readString_7 : decode prog_6_method_17_code 7 = .ok (.iconst 0, 1) := by decide +kernel
theorem d_Question_readString_8 : decode prog_6_method_17_code 8 = .ok (.ireturn, 1) := by decide +kernel
theorem d_Question_readString_9 : decode prog_6_method_17_code 9 = .ok (.aload_n 0, 1) := by decide +kernel
theorem d_Question_readString_10 : decode prog_6_method_17_code 10 = .ok (.getfield 16, 3) := by decide +kernel
theorem d_Question_readString_13 : decode prog_6_method_17_code 13 = .ok (.aload_n 0, 1) := by decide +kernel
theorem d_Question_readString_14 : decode prog_6_method_17_code 14 = .ok (.getfield 45, 3) := by decide +kernel
theorem d_Question_readString_17 : decode prog_6_method_17_code 17 = .ok (.aload_n 0, 1) := by decide +kernel
theorem d_Question_readString_18 : decode prog_6_method_17_code 18 = .ok (.getfield 35, 3) := by decide +kernel
theorem d_Question_readString_21 : decode prog_6_method_17_code 21 = .ok (.getfield 81, 3) := by decide +kernel
theorem d_Question_readString_24 : decode prog_6_method_17_code 24 = .ok (.aload_n 0, 1) := by decide +kernel
theorem d_Question_readString_25 : decode prog_6_method_17_code 25 = .ok (.getfield 49, 3) := by decide +kernel
theorem d_Question_readString_28 : decode prog_6_method_17_code 28 = .ok (.iaload, 1) := by decide +kernel
theorem d_Question_readString_29 : decode prog_6_method_17_code 29 = .ok (.aload_n 0, 1) := by decide +kernel
theorem d_Question_readString_30 : decode prog_6_method_17_code 30 = .ok (.getfield 35, 3) := by decide +kernel
theorem d_Question_readString_33 : decode prog_6_method_17_code 33 = .ok (.getfield 149, 3) := by decide +kernel
theorem d_Question_readString_36 : decode prog_6_method_17_code 36 = .ok (.aload_n 0, 1) := by decide +kernel
theorem d_Question_readString_37 : decode prog_6_method_17_code 37 = .ok (.getfield 49, 3) := by decide +kernel
theorem d_Question_readString_40 : decode prog_6_method_17_code 40 = .ok (.iaload, 1) := by decide +kernel
theorem d_Question_readString_41 : decode prog_6_method_17_code 41 = .ok (.invokevirtual 152, 3) := by decide +kernel
theorem d_Question_readString_44 : decode prog_6_method_17_code 44 = .ok (.aload_n 0, 1) := by decide +kernel
theorem d_Question_readString_45 : decode prog_6_method_17_code 45 = .ok (.dup, 1) := by decide +kernel
theorem d_Question_readString_46 : decode prog_6_method_17_code 46 = .ok (.getfield 49, 3) := by decide +kernel
theorem d_Question_readString_49 : decode prog_6_method_17_code 49 = .ok (.iconst 1, 1) := by decide +kernel
theorem d_Question_readString_50 : decode prog_6_method_17_code 50 = .ok (.iadd, 1) := by decide +kernel
theorem d_Question_readString_51 : decode prog_6_method_17_code 51 = .ok (.putfield 49, 3) := by decide +kernel
theorem d_Question_readString_54 : decode prog_6_method_17_code 54 = .ok (.iconst 1, 1) := by decide +kernel
theorem d_Question_readString_55 : decode prog_6_method_17_code 55 = .ok (.ireturn, 1) := by decide +kernel
theorem d_Question_beginsString_0 : decode prog_6_method_11_code 0 = .ok (.aload_n 0, 1) := by decide +kernel
theorem d_Question_beginsString_1 : decode prog_6_method_11_code 1 = .ok (.invokevirtual 69, 3) := by decide +kernel
theorem d_Question_beginsString_4 : decode prog_6_method_11_code 4 = .ok (.istore_n 1, 1) := by decide +kernel
theorem d_Question_beginsString_5 : decode prog_6_method_11_code 5 = .ok (.iload_n 1, 1) := by decide +kernel
theorem d_Question_beginsString_6 : decode prog_6_method_11_code 6 = .ok (.iconst 2, 1) := by decide +kernel
theorem d_Question_beginsString_7 : decode prog_6_method_11_code 7 = .ok (.if_icmp .eq 8, 3) := by decide +kernel
theorem d_Question_beginsString_10 : decode prog_6_method_11_code 10 = .ok (.iload_n 1, 1) := by decide +kernel
theorem d_Question_beginsString_11 : decode prog_6_method_11_code 11 = .ok (.iconst 4, 1) := by decide +kernel
theorem d_Question_beginsString_12 : decode prog_6_method_11_code 12 = .ok (.if_icmp .ne 7, 3) := by decide +kernel
theorem d_Question_beginsString_15 : decode prog_6_method_11_code 15 = .ok (.iconst 1, 1) := by decide +kernel
theorem d_Question_beginsString_16 : decode prog_6_method_11_code 16 = .ok (.goto 4, 3) := by decide +kernel
theorem d_Question_beginsString_19 : decode prog_6_method_11_code 19 = .ok (.iconst 0, 1) := by decide +kernel
theorem d_Question_beginsString_20 : decode prog_6_method_11_code 20 = .ok (.ireturn, 1) := by decide +kernel
theorem d_Parts_number_0 : decode prog_4_method_10_code 0 = .ok (.aload_n 0, 1) := by decide +kernel
theorem d_Parts_number_1 : decode prog_4_method_10_code 1 = .ok (.getfield 9, 3) := by decide +kernel
theorem d_Parts_number_4 : decode prog_4_method_10_code 4 = .ok (.iload_n 1, 1) := by decide +kernel
theorem d_Parts_number_5 : decode prog_4_method_10_code 5 = .ok (.iaload, 1) := by decide +kernel
theorem d_Parts_number_6 : decode prog_4_method_10_code 6 = .ok (.iconst 2, 1) := by decide +kernel
theorem d_Parts_number_7 : decode prog_4_method_10_code 7 = .ok (.if_icmp .eq 13, 3) := by decide +kernel
theorem d_Parts_number_10 : decode prog_4_method_10_code 10 = .ok (.aload_n 0, 1) := by decide +kernel
theorem d_Parts_number_11 : decode prog_4_method_10_code 11 = .ok (.getfield 9, 3) := by decide +kernel
theorem d_Parts_number_14 : decode prog_4_method_10_code 14 = .ok (.iload_n 1, 1) := by decide +kernel
theorem d_Parts_number_15 : decode prog_4_method_10_code 15 = .ok (.iaload, 1) := by decide +kernel
theorem d_Parts_number_16 : decode prog_4_method_10_code 16 = .ok (.iconst 3, 1) := by decide +kernel
theorem d_Parts_number_17 : decode prog_4_method_10_code 17 = .ok (.if_icmp .ne 20, 3) := by decide +kernel
theorem d_Parts_number_20 : decode prog_4_method_10_code 20 = .ok (.aload_n 0, 1) := by decide +kernel
theorem d_Parts_number_21 : decode prog_4_method_10_code 21 = .ok (.getfield 18, 3) := by decide +kernel
theorem d_Parts_number_24 : decode prog_4_method_10_code 24 = .ok (.iload_n 1, 1) := by decide +kernel
theorem d_Parts_number_25 : decode prog_4_method_10_code 25 = .ok (.iaload, 1) := by decide +kernel
theorem d_Parts_number_26 : decode prog_4_method_10_code 26 = .ok (.aload_n 0, 1) := by decide +kernel
theorem d_Parts_number_27 : decode prog_4_method_10_code 27 = .ok (.getfield 15, 3) := by decide +kernel
theorem d_Parts_number_30 : decode prog_4_method_10_code 30 = .ok (.iload_n 1, 1) := by decide +kernel
theorem d_Parts_number_31 : decode prog_4_method_10_code 31 = .ok (.iaload, 1) := by decide +kernel
theorem d_Parts_number_32 : decode prog_4_method_10_code 32 = .ok (.isub, 1) := by decide +kernel
theorem d_Parts_number_33 : decode prog_4_method_10_code 33 = .ok (.iconst 2, 1) := by decide +kernel
theorem d_Parts_number_34 : decode prog_4_method_10_code 34 = .ok (.if_icmp .le 5, 3) := by decide +kernel
theorem d_Parts_number_37 : decode prog_4_method_10_code 37 = .ok (.iconst (-1), 1) := by decide +kernel
theorem d_Parts_number_38 : decode prog_4_method_10_code 38 = .ok (.ireturn, 1) := by decide +kernel
theorem d_Parts_number_39 : decode prog_4_method_10_code 39 = .ok (.iconst 0, 1) := by decide +kernel
theorem d_Parts_number_40 : decode prog_4_method_10_code 40 = .ok (.istore_n 2, 1) := by decide +kernel
theorem d_Parts_number_41 : decode prog_4_method_10_code 41 = .ok (.aload_n 0, 1) := by decide +kernel
theorem d_Parts_number_42 : decode prog_4_method_10_code 42 = .ok (.getfield 15, 3) := by decide +kernel
theorem d_Parts_number_45 : decode prog_4_method_10_code 45 = .ok (.iload_n 1, 1) := by decide +kernel
theorem d_Parts_number_46 : decode prog_4_method_10_code 46 = .ok (.iaload, 1) := by decide +kernel
theorem d_Parts_number_47 : decode prog_4_method_10_code 47 = .ok (.istore_n 3, 1) := by decide +kernel
theorem d_Parts_number_48 : decode prog_4_method_10_code 48 = .ok (.iload_n 3, 1) := by decide +kernel
theorem d_Parts_number_49 : decode prog_4_method_10_code 49 = .ok (.aload_n 0, 1) := by decide +kernel
theorem d_Parts_number_50 : decode prog_4_method_10_code 50 = .ok (.getfield 18, 3) := by decide +kernel
theorem d_Parts_number_53 : decode prog_4_method_10_code 53 = .ok (.iload_n 1, 1) := by decide +kernel
theorem d_Parts_number_54 : decode prog_4_method_10_code 54 = .ok (.iaload, 1) := by decide +kernel
theorem d_Parts_number_55 : decode prog_4_method_10_code 55 = .ok (.if_icmp .ge 37, 3) := by decide +kernel
theorem d_Parts_number_58 : decode prog_4_method_10_code 58 = .ok (.aload_n 0, 1) := by decide +kernel
theorem d_Parts_number_59 : decode prog_4_method_10_code 59 = .ok (.getfield 21, 3) := by decide +kernel
theorem d_Parts_number_62 : decode prog_4_method_10_code 62 = .ok (.iload_n 3, 1) := by decide +kernel
theorem d_Parts_number_63 : decode prog_4_method_10_code 63 = .ok (.caload, 1) := by decide +kernel
theorem d_Parts_number_64 : decode prog_4_method_10_code 64 = .ok (.bipush 57, 2) := by decide +kernel
theorem d_Parts_number_66 : decode prog_4_method_10_code 66 = .ok (.if_icmp .le 5, 3) := by decide +kernel
theorem d_Parts_number_69 : decode prog_4_method_10_code 69 = .ok (.iconst (-1), 1) := by decide +kernel
theorem d_Parts_number_70 : decode prog_4_method_10_code 70 = .ok (.ireturn, 1) := by decide +kernel
theorem d_Parts_number_71 : decode prog_4_method_10_code 71 = .ok (.iload_n 2, 1) := by decide +kernel
theorem d_Parts_number_72 : decode prog_4_method_10_code 72 = .ok (.bipush 10, 2) := by decide +kernel
theorem d_Parts_number_74 : decode prog_4_method_10_code 74 = .ok (.imul, 1) := by decide +kernel
theorem d_Parts_number_75 : decode prog_4_method_10_code 75 = .ok (.aload_n 0, 1) := by decide +kernel
theorem d_Parts_number_76 : decode prog_4_method_10_code 76 = .ok (.getfield 21, 3) := by decide +kernel
theorem d_Parts_number_79 : decode prog_4_method_10_code 79 = .ok (.iload_n 3, 1) := by decide +kernel
theorem d_Parts_number_80 : decode prog_4_method_10_code 80 = .ok (.caload, 1) := by decide +kernel
theorem d_Parts_number_81 : decode prog_4_method_10_code 81 = .ok (.iadd, 1) := by decide +kernel
theorem d_Parts_number_82 : decode prog_4_method_10_code 82 = .ok (.bipush 48, 2) := by decide +kernel
theorem d_Parts_number_84 : decode prog_4_method_10_code 84 = .ok (.isub, 1) := by decide +kernel
theorem d_Parts_number_85 : decode prog_4_method_10_code 85 = .ok (.istore_n 2, 1) := by decide +kernel
theorem d_Parts_number_86 : decode prog_4_method_10_code 86 = .ok (.iinc 3 1, 3) := by decide +kernel
theorem d_Parts_number_89 : decode prog_4_method_10_code 89 = .ok (.goto (-41), 3) := by decide +kernel
theorem d_Parts_number_92 : decode prog_4_method_10_code 92 = .ok (.iload_n 2, 1) := by decide +kernel
theorem d_Parts_number_93 : decode prog_4_method_10_code 93 = .ok (.ireturn, 1) := by decide +kernel
theorem d_Question_group_0 : decode prog_6_method_18_code 0 = .ok (.aload_n 0, 1) := by decide +kernel
theorem d_Question_group_1 : decode prog_6_method_18_code 1 = .ok (.iconst 0, 1) := by decide +kernel
theorem d_Question_group_2 : decode prog_6_method_18_code 2 = .ok (.invokevirtual 156, 3) := by decide +kernel
theorem d_Question_group_5 : decode prog_6_method_18_code 5 = .ok (.astore 5, 2) := by decide +kernel
theorem d_Question_group_7 : decode prog_6_method_18_code 7 = .ok (.aload 5, 2) := by decide +kernel
theorem d_Question_group_9 : decode prog_6_method_18_code 9 = .ok (.ifnull 37, 3) := by decide +kernel
theorem d_Question_group_12 : decode prog_6_method_18_code 12 = .ok (.aload 5, 2) := by decide +kernel
theorem d_Question_group_14 : decode prog_6_method_18_code 14 = .ok (.iload_n 1, 1) := by decide +kernel
theorem d_Question_group_15 : decode prog_6_method_18_code 15 = .ok (.putfield 159, 3) := by decide +kernel
theorem d_Question_group_18 : decode prog_6_method_18_code 18 = .ok (.aload 5, 2) := by decide +kernel
theorem d_Question_group_20 : decode prog_6_method_18_code 20 = .ok (.aload_n 0, 1) := by decide +kernel
theorem d_Question_group_21 : decode prog_6_method_18_code 21 = .ok (.getfield 56, 3) := by decide +kernel
theorem d_Question_group_24 : decode prog_6_method_18_code 24 = .ok (.putfield 162, 3) := by decide +kernel
theorem d_Question_group_27 : decode prog_6_method_18_code 27 = .ok (.aload 5, 2) := by decide +kernel
theorem d_Question_group_29 : decode prog_6_method_18_code 29 = .ok (.iload_n 2, 1) := by decide +kernel
theorem d_Question_group_30 : decode prog_6_method_18_code 30 = .ok (.putfield 165, 3) := by decide +kernel
theorem d_Question_group_33 : decode prog_6_method_18_code 33 = .ok (.aload 5, 2) := by decide +kernel
theorem d_Question_group_35 : decode prog_6_method_18_code 35 = .ok (.iload_n 3, 1) := by decide +kernel
theorem d_Question_group_36 : decode prog_6_method_18_code 36 = .ok (.putfield 168, 3) := by decide +kernel
theorem d_Question_group_39 : decode prog_6_method_18_code 39 = .ok (.aload 5, 2) := by decide +kernel
theorem d_Question_group_41 : decode prog_6_method_18_code 41 = .ok (.iload 4, 2) := by decide +kernel
theorem d_Question_group_43 : decode prog_6_method_18_code 43 = .ok (.putfield 171, 3) := by decide +kernel
theorem d_Question_group_46 : decode prog_6_method_18_code 46 = .ok (.aload 5, 2) := by decide +kernel
theorem d_Question_group_48 : decode prog_6_method_18_code 48 = .ok (.areturn, 1) := by decide +kernel
theorem d_Question_newNode_0 : decode prog_6_method_20_code 0 = .ok (.aload_n 0, 1) := by decide +kernel
theorem d_Question_newNode_1 : decode prog_6_method_20_code 1 = .ok (.getfield 59, 3) := by decide +kernel
theorem d_Question_newNode_4 : decode prog_6_method_20_code 4 = .ok (.bipush 24, 2) := by decide +kernel
theorem d_Question_newNode_6 : decode prog_6_method_20_code 6 = .ok (.if_icmp .lt 8, 3) := by decide +kernel
theorem d_Question_newNode_9 : decode prog_6_method_20_code 9 = .ok (.aload_n 0, 1) := by decide +kernel
theorem d_Question_newNode_10 : decode prog_6_method_20_code 10 = .ok (.invokevirtual 73, 3) := by decide +kernel
theorem d_Question_newNode_13 : decode prog_6_method_20_code 13 = .ok (.areturn, 1) := by decide +kernel
theorem d_Question_newNode_14 : decode prog_6_method_20_code 14 = .ok (.aload_n 0, 1) := by decide +kernel
theorem d_Question_newNode_15 : decode prog_6_method_20_code 15 = .ok (.getfield 30, 3) := by decide +kernel
theorem d_Question_newNode_18 : decode prog_6_method_20_code 18 = .ok (.aload_n 0, 1) := by decide +kernel
theorem d_Question_newNode_19 : decode prog_6_method_20_code 19 = .ok (.getfield 59, 3) := by decide +kernel
theorem d_Question_newNode_22 : decode prog_6_method_20_code 22 = .ok (.aaload, 1) := by decide +kernel
theorem d_Question_newNode_23 : decode prog_6_method_20_code 23 = .ok (.astore_n 2, 1) := by decide +kernel
theorem d_Question_newNode_24 : decode prog_6_method_20_code 24 = .ok (.aload_n 2, 1) := by decide +kernel
theorem d_Question_newNode_25 : decode prog_6_method_20_code 25 = .ok (.iload_n 1, 1) := by decide +kernel
theorem d_Question_newNode_26 : decode prog_6_method_20_code 26 = .ok (.putfield 181, 3) := by decide +kernel
theorem d_Question_newNode_29 : decode prog_6_method_20_code 29 = .ok (.aload_n 0, 1) := by decide +kernel
theorem d_Question_newNode_30 : decode prog_6_method_20_code 30 = .ok (.dup, 1) := by decide +kernel
theorem d_Question_newNode_31 : decode prog_6_method_20_code 31 = .ok (.getfield 59, 3) := by decide +kernel
theorem d_Question_newNode_34 : decode prog_6_method_20_code 34 = .ok (.iconst 1, 1) := by decide +kernel
theorem d_Question_newNode_35 : decode prog_6_method_20_code 35 = .ok (.iadd, 1) := by decide +kernel
theorem d_Question_newNode_36 : decode prog_6_method_20_code 36 = .ok (.putfield 59, 3) := by decide +kernel
theorem d_Question_newNode_39 : decode prog_6_method_20_code 39 = .ok (.aload_n 2, 1) := by decide +kernel
theorem d_Question_newNode_40 : decode prog_6_method_20_code 40 = .ok (.areturn, 1) := by decide +kernel
theorem d_Question_single_0 : decode prog_6_method_14_code 0 = .ok (.aload_n 0, 1) := by decide +kernel
theorem d_Question_single_1 : decode prog_6_method_14_code 1 = .ok (.bipush 12, 2) := by decide +kernel
theorem d_Question_single_3 : decode prog_6_method_14_code 3 = .ok (.invokevirtual 103, 3) := by decide +kernel
theorem d_Question_single_6 : decode prog_6_method_14_code 6 = .ok (.ifCond .eq 7, 3) := by decide +kernel
theorem d_Question_single_9 : decode prog_6_method_14_code 9 = .ok (.iconst 1, 1) := by decide +kernel
theorem d_Question_single_10 : decode prog_6_method_14_code 10 = .ok (.goto 4, 3) := by decide +kernel
theorem d_Question_single_13 : decode prog_6_method_14_code 13 = .ok (.iconst (-1), 1) := by decide +kernel
theorem d_Question_single_14 : decode prog_6_method_14_code 14 = .ok (.istore_n 2, 1) := by decide +kernel
theorem d_Question_single_15 : decode prog_6_method_14_code 15 = .ok (.aload_n 0, 1) := by decide +kernel
theorem d_Question_single_16 : decode prog_6_method_14_code 16 = .ok (.getfield 56, 3) := by decide +kernel
theorem d_Question_single_19 : decode prog_6_method_14_code 19 = .ok (.istore_n 3, 1) := by decide +kernel
theorem d_Question_single_20 : decode prog_6_method_14_code 20 = .ok (.aload_n 0, 1) := by decide +kernel
theorem d_Question_single_21 : decode prog_6_method_14_code 21 = .ok (.invokevirtual 126, 3) := by decide +kernel
theorem d_Question_single_24 : decode prog_6_method_14_code 24 = .ok (.ifCond .eq 14, 3) := by decide +kernel
theorem d_Question_single_27 : decode prog_6_method_14_code 27 = .ok (.aload_n 0, 1) := by decide +kernel
theorem d_Question_single_28 : decode prog_6_method_14_code 28 = .ok (.iload_n 3, 1) := by decide +kernel
theorem d_Question_single_29 : decode prog_6_method_14_code 29 = .ok (.iconst 0, 1) := by decide +kernel
theorem d_Question_single_30 : decode prog_6_method_14_code 30 = .ok (.iload_n 1, 1) := by decide +kernel
theorem d_Question_single_31 : decode prog_6_method_14_code 31 = .ok (.iload_n 2, 1) := by decide +kernel
theorem d_Question_single_32 : decode prog_6_method_14_code 32 = .ok (.invokevirtual 129, 3) := by decide +kernel
theorem d_Question_single_35 : decode prog_6_method_14_code 35 = .ok (.goto 4, 3) := by decide +kernel
theorem d_Question_single_38 : decode prog_6_method_14_code 38 = .ok (.aconst_null, 1) := by decide +kernel
theorem d_Question_single_39 : decode prog_6_method_14_code 39 = .ok (.areturn, 1) := by decide +kernel
theorem d_Question_goesOn_0 : decode prog_6_method_8_code 0 = .ok (.iload_n 1, 1) := by decide +kernel
theorem d_Question_goesOn_1 : decode prog_6_method_8_code 1 = .ok (.bipush 8, 2) := by decide +kernel
theorem d_Question_goesOn_3 : decode prog_6_method_8_code 3 = .ok (.if_icmp .ne 10, 3) := by decide +kernel
theorem d_Question_goesOn_6 : decode prog_6_method_8_code 6 = .ok (.aload_n 0, 1) := by decide +kernel
theorem d_Question_goesOn_7 : decode prog_6_method_8_code 7 = .ok (.invokevirtual 99, 3) := by decide +kernel
theorem d_Question_goesOn_10 : decode prog_6_method_8_code 10 = .ok (.goto 8, 3) := by decide +kernel
theorem d_Question_goesOn_13 : decode prog_6_method_8_code 13 = .ok (.aload_n 0, 1) := by decide +kernel
theorem d_Question_goesOn_14 : decode prog_6_method_8_code 14 = .ok (.iload_n 1, 1) := by decide +kernel
theorem d_Question_goesOn_15 : decode prog_6_method_8_code 15 = .ok (.invokevirtual 103, 3) := by decide +kernel
theorem d_Question_goesOn_18 : decode prog_6_method_8_code 18 = .ok (.ireturn, 1) := by decide +kernel
theorem d_Question_beginsAtom_0 : decode prog_6_method_9_code 0 = .ok (.aload_n 0, 1) := by decide +kernel
theorem d_Question_beginsAtom_1 : decode prog_6_method_9_code 1 = .ok (.invokevirtual 69, 3) := by decide +kernel
theorem d_Question_beginsAtom_4 : decode prog_6_method_9_code 4 = .ok (.istore_n 1, 1) := by decide +kernel
theorem d_Question_beginsAtom_5 : decode prog_6_method_9_code 5 = .ok (.aload_n 0, 1) := by decide +kernel
theorem d_Question_beginsAtom_6 : decode prog_6_method_9_code 6 = .ok (.invokevirtual 106, 3) := by decide +kernel
theorem d_Question_beginsAtom_9 : decode prog_6_method_9_code 9 = .ok (.ifCond .ne 22, 3) := by decide +kernel
theorem d_Question_beginsAtom_12 : decode prog_6_method_9_code 12 = .ok (.aload_n 0, 1) := by decide +kernel
theorem d_Question_beginsAtom_13 : decode prog_6_method_9_code 13 = .ok (.invokevirtual 109, 3) := by decide +kernel
theorem d_Question_beginsAtom_16 : decode prog_6_method_9_code 16 = .ok (.ifCond .ne 15, 3) := by decide +kernel
theorem d_Question_beginsAtom_19 : decode prog_6_method_9_code 19 = .ok (.iload_n 1, 1) := by decide +kernel
theorem d_Question_beginsAtom_20 : decode prog_6_method_9_code 20 = .ok (.bipush 12, 2) := by decide +kernel
theorem d_Question_beginsAtom_22 : decode prog_6_method_9_code 22 = .ok (.if_icmp .eq 9, 3) := by decide +kernel
theorem d_Question_beginsAtom_25 : decode prog_6_method_9_code 25 = .ok (.iload_n 1, 1) := by decide +kernel
theorem d_Question_beginsAtom_26 : decode prog_6_method_9_code 26 = .ok (.bipush 8, 2) := by decide +kernel
theorem d_Question_beginsAtom_28 : decode prog_6_method_9_code 28 = .ok (.if_icmp .ne 7, 3) := by decide +kernel
theorem d_Question_beginsAtom_31 : decode prog_6_method_9_code 31 = .ok (.iconst 1, 1) := by decide +kernel
theorem d_Question_beginsAtom_32 : decode prog_6_method_9_code 32 = .ok (.goto 4, 3) := by decide +kernel
theorem d_Question_beginsAtom_35 : decode prog_6_method_9_code 35 = .ok (.iconst 0, 1) := by decide +kernel
theorem d_Question_beginsAtom_36 : decode prog_6_method_9_code 36 = .ok (.ireturn, 1) := by decide +kernel
theorem d_Question_join_0 : decode prog_6_method_19_code 0 = .ok (.aload_n 0, 1) := by decide +kernel
theorem d_Question_join_1 : decode prog_6_method_19_code 1 = .ok (.iload_n 1, 1) := by decide +kernel
theorem d_Question_join_2 : decode prog_6_method_19_code 2 = .ok (.bipush 8, 2) := by decide +kernel
theorem d_Question_join_4 : decode prog_6_method_19_code 4 = .ok (.if_icmp .ne 8, 3) := by decide +kernel
theorem d_Question_join_7 : decode prog_6_method_19_code 7 = .ok (.bipush 6, 2) := by decide +kernel
theorem d_Question_join_9 : decode prog_6_method_19_code 9 = .ok (.goto 4, 3) := by decide +kernel
theorem d_Question_join_12 : decode prog_6_method_19_code 12 = .ok (.iload_n 1, 1) := by decide +kernel
theorem d_Question_join_13 : decode prog_6_method_19_code 13 = .ok (.invokevirtual 156, 3) := by decide +kernel
theorem d_Question_join_16 : decode prog_6_method_19_code 16 = .ok (.astore 4, 2) := by decide +kernel
theorem d_Question_join_18 : decode prog_6_method_19_code 18 = .ok (.aload 4, 2) := by decide +kernel
theorem d_Question_join_20 : decode prog_6_method_19_code 20 = .ok (.ifnull 15, 3) := by decide +kernel
theorem d_Question_join_23 : decode prog_6_method_19_code 23 = .ok (.aload 4, 2) := by decide +kernel
theorem d_Question_join_25 : decode prog_6_method_19_code 25 = .ok (.aload_n 2, 1) := by decide +kernel
theorem d_Question_join_26 : decode prog_6_method_19_code 26 = .ok (.putfield 174, 3) := by decide +kernel
theorem d_Question_join_29 : decode prog_6_method_19_code 29 = .ok (.aload 4, 2) := by decide +kernel
theorem d_Question_join_31 : decode prog_6_method_19_code 31 = .ok (.aload_n 3, 1) := by decide +kernel
theorem d_Question_join_32 : decode prog_6_method_19_code 32 = .ok (.putfield 178, 3) := by decide +kernel
theorem d_Question_join_35 : decode prog_6_method_19_code 35 = .ok (.aload 4, 2) := by decide +kernel
theorem d_Question_join_37 : decode prog_6_method_19_code 37 = .ok (.areturn, 1) := by decide +kernel
theorem d_Standing_fill_0 : decode prog_8_method_2_code 0 = .ok (.aload_n 0, 1) := by decide +kernel
theorem d_Standing_fill_1 : decode prog_8_method_2_code 1 = .ok (.aload_n 1, 1) := by decide +kernel
theorem d_Standing_fill_2 : decode prog_8_method_2_code 2 = .ok (.putfield 15, 3) := by decide +kernel
theorem d_Standing_fill_5 : decode prog_8_method_2_code 5 = .ok (.iconst 0, 1) := by decide +kernel
theorem d_Standing_fill_6 : decode prog_8_method_2_code 6 = .ok (.istore_n 3, 1) := by decide +kernel
theorem d_Standing_fill_7 : decode prog_8_method_2_code 7 = .ok (.iload_n 3, 1) := by decide +kernel
theorem d_Standing_fill_8 : decode prog_8_method_2_code 8 = .ok (.aload_n 1, 1) := by decide +kernel
theorem d_Standing_fill_9 : decode prog_8_method_2_code 9 = .ok (.getfield 19, 3) := by decide +kernel
theorem d_Standing_fill_12 : decode prog_8_method_2_code 12 = .ok (.if_icmp .ge 91, 3) := by decide +kernel
theorem d_Standing_fill_15 : decode prog_8_method_2_code 15 = .ok (.iconst 1, 1) := by decide +kernel
theorem d_Standing_fill_16 : decode prog_8_method_2_code 16 = .ok (.istore 4, 2) := by decide +kernel
theorem d_Standing_fill_18 : decode prog_8_method_2_code 18 = .ok (.iload 4, 2) := by decide +kernel
theorem d_Standing_fill_20 : decode prog_8_method_2_code 20 = .ok (.bipush 24, 2) := by decide +kernel
theorem d_Standing_fill_22 : decode prog_8_method_2_code 22 = .ok (.if_icmp .gt 75, 3) := by decide +kernel
theorem d_Standing_fill_25 : decode prog_8_method_2_code 25 = .ok (.aload_n 2, 1) := by decide +kernel
theorem d_Standing_fill_26 : decode prog_8_method_2_code 26 = .ok (.iload 4, 2) := by decide +kernel
theorem d_Standing_fill_28 : decode prog_8_method_2_code 28 = .ok (.invokevirtual 25, 3) := by decide +kernel
theorem d_Standing_fill_31 : decode prog_8_method_2_code 31 = .ok (.astore 5, 2) := by decide +kernel
theorem d_Standing_fill_33 : decode prog_8_method_2_code 33 = .ok (.iconst 0, 1) := by decide +kernel
theorem d_Standing_fill_34 : decode prog_8_method_2_code 34 = .ok (.istore 6, 2) := by decide +kernel
theorem d_Standing_fill_36 : decode prog_8_method_2_code 36 = .ok (.iload 6, 2) := by decide +kernel
theorem d_Standing_fill_38 : decode prog_8_method_2_code 38 = .ok (.iconst 2, 1) := by decide +kernel
theorem d_Standing_fill_39 : decode prog_8_method_2_code 39 = .ok (.if_icmp .ge 52, 3) := by decide +kernel
theorem d_Standing_fill_42 : decode prog_8_method_2_code 42 = .ok (.aload 5, 2) := by decide +kernel
theorem d_Standing_fill_44 : decode prog_8_method_2_code 44 = .ok (.ifnonnull 7, 3) := by decide +kernel
theorem d_Standing_fill_47 : decode prog_8_method_2_code 47 = .ok (.iconst 0, 1) := by decide +kernel
theorem d_Standing_fill_48 : decode prog_8_method_2_code 48 = .ok (.goto 20, 3) := by decide +kernel
theorem d_Standing_fill_51 : decode prog_8_method_2_code 51 = .ok (.aload_n 0, 1) := by decide +kernel
theorem d_Standing_fill_52 : decode prog_8_method_2_code 52 = .ok (.aload_n 1, 1) := by decide +kernel
theorem d_Standing_fill_53 : decode prog_8_method_2_code 53 = .ok (.getfield 31, 3) := by decide +kernel
theorem d_Standing_fill_56 : decode prog_8_method_2_code 56 = .ok (.iload_n 3, 1) := by decide +kernel
theorem d_Standing_fill_57 : decode prog_8_method_2_code 57 = .ok (.aaload, 1) := by decide +kernel
theorem d_Standing_fill_58 : decode prog_8_method_2_code 58 = .ok (.aload 5, 2) := by decide +kernel
theorem d_Standing_fill_60 : decode prog_8_method_2_code 60 = .ok (.iload 6, 2) := by decide +kernel
theorem d_Standing_fill_62 : decode prog_8_method_2_code 62 = .ok (.invokevirtual 35, 3) := by decide +kernel
theorem d_Standing_fill_65 : decode prog_8_method_2_code 65 = .ok (.invokevirtual 41, 3) := by decide +kernel
theorem d_Standing_fill_68 : decode prog_8_method_2_code 68 = .ok (.istore 7, 2) := by decide +kernel
theorem d_Standing_fill_70 : decode prog_8_method_2_code 70 = .ok (.aload_n 0, 1) := by decide +kernel
theorem d_Standing_fill_71 : decode prog_8_method_2_code 71 = .ok (.getfield 9, 3) := by decide +kernel
theorem d_Standing_fill_74 : decode prog_8_method_2_code 74 = .ok (.iload_n 3, 1) := by decide +kernel
theorem d_Standing_fill_75 : decode prog_8_method_2_code 75 = .ok (.iload 4, 2) := by decide +kernel
theorem d_Standing_fill_77 : decode prog_8_method_2_code 77 = .ok (.iload 6, 2) := by decide +kernel
theorem d_Standing_fill_79 : decode prog_8_method_2_code 79 = .ok (.invokestatic 45, 3) := by decide +kernel
theorem d_Standing_fill_82 : decode prog_8_method_2_code 82 = .ok (.iload 7, 2) := by decide +kernel
theorem d_Standing_fill_84 : decode prog_8_method_2_code 84 = .ok (.iastore, 1) := by decide +kernel
theorem d_Standing_fill_85 : decode prog_8_method_2_code 85 = .ok (.iinc 6 1, 3) := by decide +kernel
theorem d_Standing_fill_88 : decode prog_8_method_2_code 88 = .ok (.goto (-52), 3) := by decide +kernel
theorem d_Standing_fill_91 : decode prog_8_method_2_code 91 = .ok (.iinc 4 1, 3) := by decide +kernel
theorem d_Standing_fill_94 : decode prog_8_method_2_code 94 = .ok (.goto (-76), 3) := by decide +kernel
theorem d_Standing_fill_97 : decode prog_8_method_2_code 97 = .ok (.iinc 3 1, 3) := by decide +kernel
theorem d_Standing_fill_100 : decode prog_8_method_2_code 100 = .ok (.goto (-93), 3) := by decide +kernel
theorem d_Standing_fill_103 : decode prog_8_method_2_code 103 = .ok (.return_, 1) := by decide +kernel
theorem d_Version_text_0 : decode prog_11_method_2_code 0 = .ok (.iload_n 1, 1) := by decide +kernel
theorem d_Version_text_1 : decode prog_11_method_2_code 1 = .ok (.ifCond .ne 10, 3) := by decide +kernel
theorem d_Version_text_4 : decode prog_11_method_2_code 4 = .ok (.aload_n 0, 1) := by decide +kernel
theorem d_Version_text_5 : decode prog_11_method_2_code 5 = .ok (.getfield 16, 3) := by decide +kernel
theorem d_Version_text_8 : decode prog_11_method_2_code 8 = .ok (.goto 7, 3) := by decide +kernel
theorem d_Version_text_11 : decode prog_11_method_2_code 11 = .ok (.aload_n 0, 1) := by decide +kernel
theorem d_Version_text_12 : decode prog_11_method_2_code 12 = .ok (.getfield 20, 3) := by decide +kernel
theorem d_Version_text_15 : decode prog_11_method_2_code 15 = .ok (.areturn, 1) := by decide +kernel
theorem d_Standing_placesIn_0 : decode prog_8_method_5_code 0 = .ok (.iconst 0, 1) := by decide +kernel
theorem d_Standing_placesIn_1 : decode prog_8_method_5_code 1 = .ok (.istore_n 3, 1) := by decide +kernel
theorem d_Standing_placesIn_2 : decode prog_8_method_5_code 2 = .ok (.aload_n 1, 1) := by decide +kernel
theorem d_Standing_placesIn_3 : decode prog_8_method_5_code 3 = .ok (.getfield 49, 3) := by decide +kernel
theorem d_Standing_placesIn_6 : decode prog_8_method_5_code 6 = .ok (.ifCond .le 44, 3) := by decide +kernel
theorem d_Standing_placesIn_9 : decode prog_8_method_5_code 9 = .ok (.iconst 0, 1) := by decide +kernel
theorem d_Standing_placesIn_10 : decode prog_8_method_5_code 10 = .ok (.istore 4, 2) := by decide +kernel
theorem d_Standing_placesIn_12 : decode prog_8_method_5_code 12 = .ok (.iload 4, 2) := by decide +kernel
theorem d_Standing_placesIn_14 : decode prog_8_method_5_code 14 = .ok (.aload_n 1, 1) := by decide +kernel
theorem d_Standing_placesIn_15 : decode prog_8_method_5_code 15 = .ok (.getfield 49, 3) := by decide +kernel
theorem d_Standing_placesIn_18 : decode prog_8_method_5_code 18 = .ok (.iadd, 1) := by decide +kernel
theorem d_Standing_placesIn_19 : decode prog_8_method_5_code 19 = .ok (.aload_n 2, 1) := by decide +kernel
theorem d_Standing_placesIn_20 : decode prog_8_method_5_code 20 = .ok (.getfield 54, 3) := by decide +kernel
theorem d_Standing_placesIn_23 : decode prog_8_method_5_code 23 = .ok (.if_icmp .gt 27, 3) := by decide +kernel
theorem d_Standing_placesIn_26 : decode prog_8_method_5_code 26 = .ok (.aload_n 0, 1) := by decide +kernel
theorem d_Standing_placesIn_27 : decode prog_8_method_5_code 27 = .ok (.aload_n 1, 1) := by decide +kernel
theorem d_Standing_placesIn_28 : decode prog_8_method_5_code 28 = .ok (.aload_n 2, 1) := by decide +kernel
theorem d_Standing_placesIn_29 : decode prog_8_method_5_code 29 = .ok (.iload 4, 2) := by decide +kernel
theorem d_Standing_placesIn_31 : decode prog_8_method_5_code 31 = .ok (.invokevirtual 59, 3) := by decide +kernel
theorem d_Standing_placesIn_34 : decode prog_8_method_5_code 34 = .ok (.ifCond .eq 10, 3) := by decide +kernel
theorem d_Standing_placesIn_37 : decode prog_8_method_5_code 37 = .ok (.iload_n 3, 1) := by decide +kernel
theorem d_Standing_placesIn_38 : decode prog_8_method_5_code 38 = .ok (.iconst 1, 1) := by decide +kernel
theorem d_Standing_placesIn_39 : decode prog_8_method_5_code 39 = .ok (.iload 4, 2) := by decide +kernel
theorem d_Standing_placesIn_41 : decode prog_8_method_5_code 41 = .ok (.ishl, 1) := by decide +kernel
theorem d_Standing_placesIn_42 : decode prog_8_method_5_code 42 = .ok (.ior, 1) := by decide +kernel
theorem d_Standing_placesIn_43 : decode prog_8_method_5_code 43 = .ok (.istore_n 3, 1) := by decide +kernel
theorem d_Standing_placesIn_44 : decode prog_8_method_5_code 44 = .ok (.iinc 4 1, 3) := by decide +kernel
theorem d_Standing_placesIn_47 : decode prog_8_method_5_code 47 = .ok (.goto (-35), 3) := by decide +kernel
theorem d_Standing_placesIn_50 : decode prog_8_method_5_code 50 = .ok (.iload_n 3, 1) := by decide +kernel
theorem d_Standing_placesIn_51 : decode prog_8_method_5_code 51 = .ok (.ireturn, 1) := by decide +kernel
theorem d_Standing_standsAt_0 : decode prog_8_method_6_code 0 = .ok (.iconst 0, 1) := by decide +kernel
theorem d_Standing_standsAt_1 : decode prog_8_method_6_code 1 = .ok (.istore 4, 2) := by decide +kernel
theorem d_Standing_standsAt_3 : decode prog_8_method_6_code 3 = .ok (.iload 4, 2) := by decide +kernel
theorem d_Standing_standsAt_5 : decode prog_8_method_6_code 5 = .ok (.aload_n 1, 1) := by decide +kernel
theorem d_Standing_standsAt_6 : decode prog_8_method_6_code 6 = .ok (.getfield 49, 3) := by decide +kernel
theorem d_Standing_standsAt_9 : decode prog_8_method_6_code 9 = .ok (.if_icmp .ge 63, 3) := by decide +kernel
theorem d_Standing_standsAt_12 : decode prog_8_method_6_code 12 = .ok (.aload_n 1, 1) := by decide +kernel
theorem d_Standing_standsAt_13 : decode prog_8_method_6_code 13 = .ok (.getfield 63, 3) := by decide +kernel
theorem d_Standing_standsAt_16 : decode prog_8_method_6_code 16 = .ok (.ifCond .eq 18, 3) := by decide +kernel
theorem d_Standing_standsAt_19 : decode prog_8_method_6_code 19 = .ok (.iload 4, 2) := by decide +kernel
theorem d_Standing_standsAt_21 : decode prog_8_method_6_code 21 = .ok (.aload_n 1, 1) := by decide +kernel
theorem d_Standing_standsAt_22 : decode prog_8_method_6_code 22 = .ok (.getfield 49, 3) := by decide +kernel
theorem d_Standing_standsAt_25 : decode prog_8_method_6_code 25 = .ok (.iconst 1, 1) := by decide +kernel
theorem d_Standing_standsAt_26 : decode prog_8_method_6_code 26 = .ok (.isub, 1) := by decide +kernel
theorem d_Standing_standsAt_27 : decode prog_8_method_6_code 27 = .ok (.if_icmp .ne 7, 3) := by decide +kernel
theorem d_Standing_standsAt_30 : decode prog_8_method_6_code 30 = .ok (.iconst 1, 1) := by decide +kernel
theorem d_Standing_standsAt_31 : decode prog_8_method_6_code 31 = .ok (.goto 4, 3) := by decide +kernel
theorem d_Standing_standsAt_34 : decode prog_8_method_6_code 34 = .ok (.iconst 0, 1) := by decide +kernel
theorem d_Standing_standsAt_35 : decode prog_8_method_6_code 35 = .ok (.istore 5, 2) := by decide +kernel
theorem d_Standing_standsAt_37 : decode prog_8_method_6_code 37 = .ok (.aload_n 0, 1) := by decide +kernel
theorem d_Standing_standsAt_38 : decode prog_8_method_6_code 38 = .ok (.getfield 15, 3) := by decide +kernel
theorem d_Standing_standsAt_41 : decode prog_8_method_6_code 41 = .ok (.getfield 67, 3) := by decide +kernel
theorem d_Standing_standsAt_44 : decode prog_8_method_6_code 44 = .ok (.aload_n 1, 1) := by decide +kernel
theorem d_Standing_standsAt_45 : decode prog_8_method_6_code 45 = .ok (.getfield 71, 3) := by decide +kernel
theorem d_Standing_standsAt_48 : decode prog_8_method_6_code 48 = .ok (.iload 4, 2) := by decide +kernel
theorem d_Standing_standsAt_50 : decode prog_8_method_6_code 50 = .ok (.iadd, 1) := by decide +kernel
theorem d_Standing_standsAt_51 : decode prog_8_method_6_code 51 = .ok (.aload_n 2, 1) := by decide +kernel
theorem d_Standing_standsAt_52 : decode prog_8_method_6_code 52 = .ok (.iload_n 3, 1) := by decide +kernel
theorem d_Standing_standsAt_53 : decode prog_8_method_6_code 53 = .ok (.iload 4, 2) := by decide +kernel
theorem d_Standing_standsAt_55 : decode prog_8_method_6_code 55 = .ok (.iadd, 1) := by decide +kernel
theorem d_Standing_standsAt_56 : decode prog_8_method_6_code 56 = .ok (.iload 5, 2) := by decide +kernel
theorem d_Standing_standsAt_58 : decode prog_8_method_6_code 58 = .ok (.invokevirtual 74, 3) := by decide +kernel
theorem d_Standing_standsAt_61 : decode prog_8_method_6_code 61 = .ok (.ifCond .ne 5, 3) := by decide +kernel
theorem d_Standing_standsAt_64 : decode prog_8_method_6_code 64 = .ok (.iconst 0, 1) := by decide +kernel
theorem d_Standing_standsAt_65 : decode prog_8_method_6_code 65 = .ok (.ireturn, 1) := by decide +kernel
theorem d_Standing_standsAt_66 : decode prog_8_method_6_code 66 = .ok (.iinc 4 1, 3) := by decide +kernel
theorem d_Standing_standsAt_69 : decode prog_8_method_6_code 69 = .ok (.goto (-66), 3) := by decide +kernel
theorem d_Standing_standsAt_72 : decode prog_8_method_6_code 72 = .ok (.iconst 1, 1) := by decide +kernel
theorem d_Standing_standsAt_73 : decode prog_8_method_6_code 73 = .ok (.ireturn, 1) := by decide +kernel
theorem d_Standing_index_0 : decode prog_8_method_3_code 0 = .ok (.iload_n 0, 1) := by decide +kernel
theorem d_Standing_index_1 : decode prog_8_method_3_code 1 = .ok (.bipush 24, 2) := by decide +kernel
theorem d_Standing_index_3 : decode prog_8_method_3_code 3 = .ok (.imul, 1) := by decide +kernel
theorem d_Standing_index_4 : decode prog_8_method_3_code 4 = .ok (.iload_n 1, 1) := by decide +kernel
theorem d_Standing_index_5 : decode prog_8_method_3_code 5 = .ok (.iadd, 1) := by decide +kernel
theorem d_Standing_index_6 : decode prog_8_method_3_code 6 = .ok (.iconst 1, 1) := by decide +kernel
theorem d_Standing_index_7 : decode prog_8_method_3_code 7 = .ok (.isub, 1) := by decide +kernel
theorem d_Standing_index_8 : decode prog_8_method_3_code 8 = .ok (.iconst 2, 1) := by decide +kernel
theorem d_Standing_index_9 : decode prog_8_method_3_code 9 = .ok (.imul, 1) := by decide +kernel
theorem d_Standing_index_10 : decode prog_8_method_3_code 10 = .ok (.iload_n 2, 1) := by decide +kernel
theorem d_Standing_index_11 : decode prog_8_method_3_code 11 = .ok (.iadd, 1) := by decide +kernel
theorem d_Standing_index_12 : decode prog_8_method_3_code 12 = .ok (.ireturn, 1) := by decide +kernel
theorem d_Standing_rowsFound_0 : decode prog_8_method_9_code 0 = .ok (.iconst 0, 1) := by decide +kernel
theorem d_Standing_rowsFound_1 : decode prog_8_method_9_code 1 = .ok (.istore_n 2, 1) := by decide +kernel
theorem d_Standing_rowsFound_2 : decode prog_8_method_9_code 2 = .ok (.iconst 0, 1) := by decide +kernel
theorem d_Standing_rowsFound_3 : decode prog_8_method_9_code 3 = .ok (.istore_n 3, 1) := by decide +kernel
theorem d_Standing_rowsFound_4 : decode prog_8_method_9_code 4 = .ok (.iload_n 3, 1) := by decide +kernel
theorem d_Standing_rowsFound_5 : decode prog_8_method_9_code 5 = .ok (.aload_n 1, 1) := by decide +kernel
theorem d_Standing_rowsFound_6 : decode prog_8_method_9_code 6 = .ok (.getfield 85, 3) := by decide +kernel
theorem d_Standing_rowsFound_9 : decode prog_8_method_9_code 9 = .ok (.if_icmp .ge 50, 3) := by decide +kernel
theorem d_Standing_rowsFound_12 : decode prog_8_method_9_code 12 = .ok (.aload_n 1, 1) := by decide +kernel
theorem d_Standing_rowsFound_13 : decode prog_8_method_9_code 13 = .ok (.getfield 88, 3) := by decide +kernel
theorem d_Standing_rowsFound_16 : decode prog_8_method_9_code 16 = .ok (.iload_n 3, 1) := by decide +kernel
theorem d_Standing_rowsFound_17 : decode prog_8_method_9_code 17 = .ok (.aaload, 1) := by decide +kernel
theorem d_Standing_rowsFound_18 : decode prog_8_method_9_code 18 = .ok (.astore 4, 2) := by decide +kernel
theorem d_Standing_rowsFound_20 : decode prog_8_method_9_code 20 = .ok (.aload 4, 2) := by decide +kernel
theorem d_Standing_rowsFound_22 : decode prog_8_method_9_code 22 = .ok (.aload 4, 2) := by decide +kernel
theorem d_Standing_rowsFound_24 : decode prog_8_method_9_code 24 = .ok (.getfield 92, 3) := by decide +kernel
theorem d_Standing_rowsFound_27 : decode prog_8_method_9_code 27 = .ok (.ifCond .ne 12, 3) := by decide +kernel
theorem d_Standing_rowsFound_30 : decode prog_8_method_9_code 30 = .ok (.aload_n 0, 1) := by decide +kernel
theorem d_Standing_rowsFound_31 : decode prog_8_method_9_code 31 = .ok (.aload 4, 2) := by decide +kernel
theorem d_Standing_rowsFound_33 : decode prog_8_method_9_code 33 = .ok (.invokevirtual 97, 3) := by decide +kernel
theorem d_Standing_rowsFound_36 : decode prog_8_method_9_code 36 = .ok (.goto 8, 3) := by decide +kernel
theorem d_Standing_rowsFound_39 : decode prog_8_method_9_code 39 = .ok (.aload 4, 2) := by decide +kernel
theorem d_Standing_rowsFound_41 : decode prog_8_method_9_code 41 = .ok (.invokestatic 101, 3) := by decide +kernel
theorem d_Standing_rowsFound_44 : decode prog_8_method_9_code 44 = .ok (.putfield 104, 3) := by decide +kernel
theorem d_Standing_rowsFound_47 : decode prog_8_method_9_code 47 = .ok (.aload 4, 2) := by decide +kernel
theorem d_Standing_rowsFound_49 : decode prog_8_method_9_code 49 = .ok (.getfield 104, 3) := by decide +kernel
theorem d_Standing_rowsFound_52 : decode prog_8_method_9_code 52 = .ok (.istore_n 2, 1) := by decide +kernel
theorem d_Standing_rowsFound_53 : decode prog_8_method_9_code 53 = .ok (.iinc 3 1, 3) := by decide +kernel
theorem d_Standing_rowsFound_56 : decode prog_8_method_9_code 56 = .ok (.goto (-52), 3) := by decide +kernel
theorem d_Standing_rowsFound_59 : decode prog_8_method_9_code 59 = .ok (.iload_n 2, 1) := by decide +kernel
theorem d_Standing_rowsFound_60 : decode prog_8_method_9_code 60 = .ok (.ireturn, 1) := by decide +kernel
theorem d_Standing_rowsOfGroup_0 : decode prog_8_method_11_code 0 = .ok (.iconst 0, 1) := by decide +kernel
theorem d_Standing_rowsOfGroup_1 : decode prog_8_method_11_code 1 = .ok (.istore_n 2, 1) := by decide +kernel
theorem d_Standing_rowsOfGroup_2 : decode prog_8_method_11_code 2 = .ok (.iconst 1, 1) := by decide +kernel
theorem d_Standing_rowsOfGroup_3 : decode prog_8_method_11_code 3 = .ok (.istore_n 3, 1) := by decide +kernel
theorem d_Standing_rowsOfGroup_4 : decode prog_8_method_11_code 4 = .ok (.iload_n 3, 1) := by decide +kernel
theorem d_Standing_rowsOfGroup_5 : decode prog_8_method_11_code 5 = .ok (.bipush 24, 2) := by decide +kernel
theorem d_Standing_rowsOfGroup_7 : decode prog_8_method_11_code 7 = .ok (.if_icmp .gt 54, 3) := by decide +kernel
theorem d_Standing_rowsOfGroup_10 : decode prog_8_method_11_code 10 = .ok (.iconst 0, 1) := by decide +kernel
theorem d_Standing_rowsOfGroup_11 : decode prog_8_method_11_code 11 = .ok (.istore 4, 2) := by decide +kernel
theorem d_Standing_rowsOfGroup_13 : decode prog_8_method_11_code 13 = .ok (.iload 4, 2) := by decide +kernel
theorem d_Standing_rowsOfGroup_15 : decode prog_8_method_11_code 15 = .ok (.iconst 2, 1) := by decide +kernel
theorem d_Standing_rowsOfGroup_16 : decode prog_8_method_11_code 16 = .ok (.if_icmp .ge 39, 3) := by decide +kernel
theorem d_Standing_rowsOfGroup_19 : decode prog_8_method_11_code 19 = .ok (.aload_n 1, 1) := by decide +kernel
theorem d_Standing_rowsOfGroup_20 : decode prog_8_method_11_code 20 = .ok (.getfield 116, 3) := by decide +kernel
theorem d_Standing_rowsOfGroup_23 : decode prog_8_method_11_code 23 = .ok (.iload 4, 2) := by decide +kernel
theorem d_Standing_rowsOfGroup_25 : decode prog_8_method_11_code 25 = .ok (.ishr, 1) := by decide +kernel
theorem d_Standing_rowsOfGroup_26 : decode prog_8_method_11_code 26 = .ok (.iconst 1, 1) := by decide +kernel
theorem d_Standing_rowsOfGroup_27 : decode prog_8_method_11_code 27 = .ok (.iand, 1) := by decide +kernel
theorem d_Standing_rowsOfGroup_28 : decode prog_8_method_11_code 28 = .ok (.iconst 1, 1) := by decide +kernel
theorem d_Standing_rowsOfGroup_29 : decode prog_8_method_11_code 29 = .ok (.if_icmp .ne 20, 3) := by decide +kernel
theorem d_Standing_rowsOfGroup_32 : decode prog_8_method_11_code 32 = .ok (.aload_n 0, 1) := by decide +kernel
theorem d_Standing_rowsOfGroup_33 : decode prog_8_method_11_code 33 = .ok (.aload_n 1, 1) := by decide +kernel
theorem d_Standing_rowsOfGroup_34 : decode prog_8_method_11_code 34 = .ok (.iload_n 3, 1) := by decide +kernel
theorem d_Standing_rowsOfGroup_35 : decode prog_8_method_11_code 35 = .ok (.iload 4, 2) := by decide +kernel
theorem d_Standing_rowsOfGroup_37 : decode prog_8_method_11_code 37 = .ok (.invokevirtual 119, 3) := by decide +kernel
theorem d_Standing_rowsOfGroup_40 : decode prog_8_method_11_code 40 = .ok (.ifCond .eq 9, 3) := by decide +kernel
theorem d_Standing_rowsOfGroup_43 : decode prog_8_method_11_code 43 = .ok (.iload_n 2, 1) := by decide +kernel
theorem d_Standing_rowsOfGroup_44 : decode prog_8_method_11_code 44 = .ok (.iconst 1, 1) := by decide +kernel
theorem d_Standing_rowsOfGroup_45 : decode prog_8_method_11_code 45 = .ok (.iload_n 3, 1) := by decide +kernel
theorem d_Standing_rowsOfGroup_46 : decode prog_8_method_11_code 46 = .ok (.ishl, 1) := by decide +kernel
theorem d_Standing_rowsOfGroup_47 : decode prog_8_method_11_code 47 = .ok (.ior, 1) := by decide +kernel
theorem d_Standing_rowsOfGroup_48 : decode prog_8_method_11_code 48 = .ok (.istore_n 2, 1) := by decide +kernel
theorem d_Standing_rowsOfGroup_49 : decode prog_8_method_11_code 49 = .ok (.iinc 4 1, 3) := by decide +kernel
theorem d_Standing_rowsOfGroup_52 : decode prog_8_method_11_code 52 = .ok (.goto (-39), 3) := by decide +kernel
theorem d_Standing_rowsOfGroup_55 : decode prog_8_method_11_code 55 = .ok (.iinc 3 1, 3) := by decide +kernel
theorem d_Standing_rowsOfGroup_58 : decode prog_8_method_11_code 58 = .ok (.goto (-54), 3) := by decide +kernel
theorem d_Standing_rowsOfGroup_61 : decode prog_8_method_11_code 61 = .ok (.iload_n 2, 1) := by decide +kernel
theorem d_Standing_rowsOfGroup_62 : decode prog_8_method_11_code 62 = .ok (.ireturn, 1) := by decide +kernel
theorem d_Standing_holds_0 : decode prog_8_method_12_code 0 = .ok (.aload_n 1, 1) := by decide +kernel
theorem d_Standing_holds_1 : decode prog_8_method_12_code 1 = .ok (.getfield 123, 3) := by decide +kernel
theorem d_Standing_holds_4 : decode prog_8_method_12_code 4 = .ok (.istore 4, 2) := by decide +kernel
theorem d_Standing_holds_6 : decode prog_8_method_12_code 6 = .ok (.iload 4, 2) := by decide +kernel
theorem d_Standing_holds_8 : decode prog_8_method_12_code 8 = .ok (.aload_n 1, 1) := by decide +kernel
theorem d_Standing_holds_9 : decode prog_8_method_12_code 9 = .ok (.getfield 126, 3) := by decide +kernel
theorem d_Standing_holds_12 : decode prog_8_method_12_code 12 = .ok (.if_icmp .ge 27, 3) := by decide +kernel
theorem d_Standing_holds_15 : decode prog_8_method_12_code 15 = .ok (.aload_n 0, 1) := by decide +kernel
theorem d_Standing_holds_16 : decode prog_8_method_12_code 16 = .ok (.iload 4, 2) := by decide +kernel
theorem d_Standing_holds_18 : decode prog_8_method_12_code 18 = .ok (.iload_n 2, 1) := by decide +kernel
theorem d_Standing_holds_19 : decode prog_8_method_12_code 19 = .ok (.iload_n 3, 1) := by decide +kernel
theorem d_Standing_holds_20 : decode prog_8_method_12_code 20 = .ok (.invokevirtual 78, 3) := by decide +kernel
theorem d_Standing_holds_23 : decode prog_8_method_12_code 23 = .ok (.aload_n 1, 1) := by decide +kernel
theorem d_Standing_holds_24 : decode prog_8_method_12_code 24 = .ok (.getfield 129, 3) := by decide +kernel
theorem d_Standing_holds_27 : decode prog_8_method_12_code 27 = .ok (.iand, 1) := by decide +kernel
theorem d_Standing_holds_28 : decode prog_8_method_12_code 28 = .ok (.ifCond .ne 5, 3) := by decide +kernel
theorem d_Standing_holds_31 : decode prog_8_method_12_code 31 = .ok (.iconst 0, 1) := by decide +kernel
theorem d_Standing_holds_32 : decode prog_8_method_12_code 32 = .ok (.ireturn, 1) := by decide +kernel
theorem d_Standing_holds_33 : decode prog_8_method_12_code 33 = .ok (.iinc 4 1, 3) := by decide +kernel
theorem d_Standing_holds_36 : decode prog_8_method_12_code 36 = .ok (.goto (-30), 3) := by decide +kernel
theorem d_Standing_holds_39 : decode prog_8_method_12_code 39 = .ok (.aload_n 1, 1) := by decide +kernel
theorem d_Standing_holds_40 : decode prog_8_method_12_code 40 = .ok (.getfield 126, 3) := by decide +kernel
theorem d_Standing_holds_43 : decode prog_8_method_12_code 43 = .ok (.aload_n 1, 1) := by decide +kernel
theorem d_Standing_holds_44 : decode prog_8_method_12_code 44 = .ok (.getfield 123, 3) := by decide +kernel
theorem d_Standing_holds_47 : decode prog_8_method_12_code 47 = .ok (.isub, 1) := by decide +kernel
theorem d_Standing_holds_48 : decode prog_8_method_12_code 48 = .ok (.iconst 1, 1) := by decide +kernel
theorem d_Standing_holds_49 : decode prog_8_method_12_code 49 = .ok (.if_icmp .eq 13, 3) := by decide +kernel
theorem d_Standing_holds_52 : decode prog_8_method_12_code 52 = .ok (.aload_n 0, 1) := by decide +kernel
theorem d_Standing_holds_53 : decode prog_8_method_12_code 53 = .ok (.aload_n 1, 1) := by decide +kernel
theorem d_Standing_holds_54 : decode prog_8_method_12_code 54 = .ok (.iload_n 2, 1) := by decide +kernel
theorem d_Standing_holds_55 : decode prog_8_method_12_code 55 = .ok (.iload_n 3, 1) := by decide +kernel
theorem d_Standing_holds_56 : decode prog_8_method_12_code 56 = .ok (.invokevirtual 131, 3) := by decide +kernel
theorem d_Standing_holds_59 : decode prog_8_method_12_code 59 = .ok (.ifCond .eq 7, 3) := by decide +kernel
theorem d_Standing_holds_62 : decode prog_8_method_12_code 62 = .ok (.iconst 1, 1) := by decide +kernel
theorem d_Standing_holds_63 : decode prog_8_method_12_code 63 = .ok (.goto 4, 3) := by decide +kernel
theorem d_Standing_holds_66 : decode prog_8_method_12_code 66 = .ok (.iconst 0, 1) := by decide +kernel
theorem d_Standing_holds_67 : decode prog_8_method_12_code 67 = .ok (.ireturn, 1) := by decide +kernel
theorem d_Standing_placesOf_0 : decode prog_8_method_4_code 0 = .ok (.aload_n 0, 1) := by decide +kernel
theorem d_Standing_placesOf_1 : decode prog_8_method_4_code 1 = .ok (.getfield 9, 3) := by decide +kernel
theorem d_Standing_placesOf_4 : decode prog_8_method_4_code 4 = .ok (.iload_n 1, 1) := by decide +kernel
theorem d_Standing_placesOf_5 : decode prog_8_method_4_code 5 = .ok (.iload_n 2, 1) := by decide +kernel
theorem d_Standing_placesOf_6 : decode prog_8_method_4_code 6 = .ok (.iload_n 3, 1) := by decide +kernel
theorem d_Standing_placesOf_7 : decode prog_8_method_4_code 7 = .ok (.invokestatic 45, 3) := by decide +kernel
theorem d_Standing_placesOf_10 : decode prog_8_method_4_code 10 = .ok (.iaload, 1) := by decide +kernel
theorem d_Standing_placesOf_11 : decode prog_8_method_4_code 11 = .ok (.ireturn, 1) := by decide +kernel
theorem d_Standing_areNear_0 : decode prog_8_method_13_code 0 = .ok (.iconst 1, 1) := by decide +kernel
theorem d_Standing_areNear_1 : decode prog_8_method_13_code 1 = .ok (.istore 4, 2) := by decide +kernel
theorem d_Standing_areNear_3 : decode prog_8_method_13_code 3 = .ok (.iload 4, 2) := by decide +kernel
theorem d_Standing_areNear_5 : decode prog_8_method_13_code 5 = .ok (.bipush 24, 2) := by decide +kernel
theorem d_Standing_areNear_7 : decode prog_8_method_13_code 7 = .ok (.if_icmp .gt 23, 3) := by decide +kernel
theorem d_Standing_areNear_10 : decode prog_8_method_13_code 10 = .ok (.aload_n 0, 1) := by decide +kernel
theorem d_Standing_areNear_11 : decode prog_8_method_13_code 11 = .ok (.aload_n 1, 1) := by decide +kernel
theorem d_Standing_areNear_12 : decode prog_8_method_13_code 12 = .ok (.iload_n 2, 1) := by decide +kernel
theorem d_Standing_areNear_13 : decode prog_8_method_13_code 13 = .ok (.iload_n 3, 1) := by decide +kernel
theorem d_Standing_areNear_14 : decode prog_8_method_13_code 14 = .ok (.iload 4, 2) := by decide +kernel
theorem d_Standing_areNear_16 : decode prog_8_method_13_code 16 = .ok (.invokevirtual 134, 3) := by decide +kernel
theorem d_Standing_areNear_19 : decode prog_8_method_13_code 19 = .ok (.ifCond .eq 5, 3) := by decide +kernel
theorem d_Standing_areNear_22 : decode prog_8_method_13_code 22 = .ok (.iconst 1, 1) := by decide +kernel
theorem d_Standing_areNear_23 : decode prog_8_method_13_code 23 = .ok (.ireturn, 1) := by decide +kernel
theorem d_Standing_areNear_24 : decode prog_8_method_13_code 24 = .ok (.iinc 4 1, 3) := by decide +kernel
theorem d_Standing_areNear_27 : decode prog_8_method_13_code 27 = .ok (.goto (-24), 3) := by decide +kernel
theorem d_Standing_areNear_30 : decode prog_8_method_13_code 30 = .ok (.iconst 0, 1) := by decide +kernel
theorem d_Standing_areNear_31 : decode prog_8_method_13_code 31 = .ok (.ireturn, 1) := by decide +kernel
theorem d_Standing_allReach_0 : decode prog_8_method_14_code 0 = .ok (.aload_n 1, 1) := by decide +kernel
theorem d_Standing_allReach_1 : decode prog_8_method_14_code 1 = .ok (.getfield 123, 3) := by decide +kernel
theorem d_Standing_allReach_4 : decode prog_8_method_14_code 4 = .ok (.istore 5, 2) := by decide +kernel
theorem d_Standing_allReach_6 : decode prog_8_method_14_code 6 = .ok (.iload 5, 2) := by decide +kernel
theorem d_Standing_allReach_8 : decode prog_8_method_14_code 8 = .ok (.aload_n 1, 1) := by decide +kernel
theorem d_Standing_allReach_9 : decode prog_8_method_14_code 9 = .ok (.getfield 126, 3) := by decide +kernel
theorem d_Standing_allReach_12 : decode prog_8_method_14_code 12 = .ok (.if_icmp .ge 74, 3) := by decide +kernel
theorem d_Standing_allReach_15 : decode prog_8_method_14_code 15 = .ok (.iconst 0, 1) := by decide +kernel
theorem d_Standing_allReach_16 : decode prog_8_method_14_code 16 = .ok (.iload 4, 2) := by decide +kernel
theorem d_Standing_allReach_18 : decode prog_8_method_14_code 18 = .ok (.aload_n 0, 1) := by decide +kernel
theorem d_Standing_allReach_19 : decode prog_8_method_14_code 19 = .ok (.getfield 15, 3) := by decide +kernel
theorem d_Standing_allReach_22 : decode prog_8_method_14_code 22 = .ok (.getfield 31, 3) := by decide +kernel
theorem d_Standing_allReach_25 : decode prog_8_method_14_code 25 = .ok (.iload 5, 2) := by decide +kernel
theorem d_Standing_allReach_27 : decode prog_8_method_14_code 27 = .ok (.aaload, 1) := by decide +kernel
theorem d_Standing_allReach_28 : decode prog_8_method_14_code 28 = .ok (.getfield 49, 3) := by decide +kernel
theorem d_Standing_allReach_31 : decode prog_8_method_14_code 31 = .ok (.isub, 1) := by decide +kernel
theorem d_Standing_allReach_32 : decode prog_8_method_14_code 32 = .ok (.invokestatic 138, 3) := by decide +kernel
theorem d_Standing_allReach_35 : decode prog_8_method_14_code 35 = .ok (.istore 6, 2) := by decide +kernel
theorem d_Standing_allReach_37 : decode prog_8_method_14_code 37 = .ok (.bipush 24, 2) := by decide +kernel
theorem d_Standing_allReach_39 : decode prog_8_method_14_code 39 = .ok (.iload 4, 2) := by decide +kernel
theorem d_Standing_allReach_41 : decode prog_8_method_14_code 41 = .ok (.aload_n 1, 1) := by decide +kernel
theorem d_Standing_allReach_42 : decode prog_8_method_14_code 42 = .ok (.getfield 144, 3) := by decide +kernel
theorem d_Standing_allReach_45 : decode prog_8_method_14_code 45 = .ok (.iadd, 1) := by decide +kernel
theorem d_Standing_allReach_46 : decode prog_8_method_14_code 46 = .ok (.invokestatic 147, 3) := by decide +kernel
theorem d_Standing_allReach_49 : decode prog_8_method_14_code 49 = .ok (.istore 7, 2) := by decide +kernel
theorem d_Standing_allReach_51 : decode prog_8_method_14_code 51 = .ok (.iconst 1, 1) := by decide +kernel
theorem d_Standing_allReach_52 : decode prog_8_method_14_code 52 = .ok (.iload 7, 2) := by decide +kernel
theorem d_Standing_allReach_54 : decode prog_8_method_14_code 54 = .ok (.iconst 1, 1) := by decide +kernel
theorem d_Standing_allReach_55 : decode prog_8_method_14_code 55 = .ok (.iadd, 1) := by decide +kernel
theorem d_Standing_allReach_56 : decode prog_8_method_14_code 56 = .ok (.ishl, 1) := by decide +kernel
theorem d_Standing_allReach_57 : decode prog_8_method_14_code 57 = .ok (.iconst 1, 1) := by decide +kernel
theorem d_Standing_allReach_58 : decode prog_8_method_14_code 58 = .ok (.iload 6, 2) := by decide +kernel
theorem d_Standing_allReach_60 : decode prog_8_method_14_code 60 = .ok (.ishl, 1) := by decide +kernel
theorem d_Standing_allReach_61 : decode prog_8_method_14_code 61 = .ok (.isub, 1) := by decide +kernel
theorem d_Standing_allReach_62 : decode prog_8_method_14_code 62 = .ok (.istore 8, 2) := by decide +kernel
theorem d_Standing_allReach_64 : decode prog_8_method_14_code 64 = .ok (.aload_n 0, 1) := by decide +kernel
theorem d_Standing_allReach_65 : decode prog_8_method_14_code 65 = .ok (.iload 5, 2) := by decide +kernel
theorem d_Standing_allReach_67 : decode prog_8_method_14_code 67 = .ok (.iload_n 2, 1) := by decide +kernel
theorem d_Standing_allReach_68 : decode prog_8_method_14_code 68 = .ok (.iload_n 3, 1) := by decide +kernel
theorem d_Standing_allReach_69 : decode prog_8_method_14_code 69 = .ok (.invokevirtual 78, 3) := by decide +kernel
theorem d_Standing_allReach_72 : decode prog_8_method_14_code 72 = .ok (.iload 8, 2) := by decide +kernel
theorem d_Standing_allReach_74 : decode prog_8_method_14_code 74 = .ok (.iand, 1) := by decide +kernel
theorem d_Standing_allReach_75 : decode prog_8_method_14_code 75 = .ok (.ifCond .ne 5, 3) := by decide +kernel
theorem d_Standing_allReach_78 : decode prog_8_method_14_code 78 = .ok (.iconst 0, 1) := by decide +kernel
theorem d_Standing_allReach_79 : decode prog_8_method_14_code 79 = .ok (.ireturn, 1) := by decide +kernel
theorem d_Standing_allReach_80 : decode prog_8_method_14_code 80 = .ok (.iinc 5 1, 3) := by decide +kernel
theorem d_Standing_allReach_83 : decode prog_8_method_14_code 83 = .ok (.goto (-77), 3) := by decide +kernel
theorem d_Standing_allReach_86 : decode prog_8_method_14_code 86 = .ok (.iconst 1, 1) := by decide +kernel
theorem d_Standing_allReach_87 : decode prog_8_method_14_code 87 = .ok (.ireturn, 1) := by decide +kernel
theorem d_Standing_rowsOfJoin_0 : decode prog_8_method_10_code 0 = .ok (.aload_n 0, 1) := by decide +kernel
theorem d_Standing_rowsOfJoin_1 : decode prog_8_method_10_code 1 = .ok (.getfield 92, 3) := by decide +kernel
theorem d_Standing_rowsOfJoin_4 : decode prog_8_method_10_code 4 = .ok (.iconst 5, 1) := by decide +kernel
theorem d_Standing_rowsOfJoin_5 : decode prog_8_method_10_code 5 = .ok (.if_icmp .ne 19, 3) := by decide +kernel
theorem d_Standing_rowsOfJoin_8 : decode prog_8_method_10_code 8 = .ok (.aload_n 0, 1) := by decide +kernel
theorem d_Standing_rowsOfJoin_9 : decode prog_8_method_10_code 9 = .ok (.getfield 109, 3) := by decide +kernel
theorem d_Standing_rowsOfJoin_12 : decode prog_8_method_10_code 12 = .ok (.getfield 104, 3) := by decide +kernel
theorem d_Standing_rowsOfJoin_15 : decode prog_8_method_10_code 15 = .ok (.aload_n 0, 1) := by decide +kernel
theorem d_Standing_rowsOfJoin_16 : decode prog_8_method_10_code 16 = .ok (.getfield 113, 3) := by decide +kernel
theorem d_Standing_rowsOfJoin_19 : decode prog_8_method_10_code 19 = .ok (.getfield 104, 3) := by decide +kernel
theorem d_Standing_rowsOfJoin_22 : decode prog_8_method_10_code 22 = .ok (.ior, 1) := by decide +kernel
theorem d_Standing_rowsOfJoin_23 : decode prog_8_method_10_code 23 = .ok (.ireturn, 1) := by decide +kernel
theorem d_Standing_rowsOfJoin_24 : decode prog_8_method_10_code 24 = .ok (.aload_n 0, 1) := by decide +kernel
theorem d_Standing_rowsOfJoin_25 : decode prog_8_method_10_code 25 = .ok (.getfield 109, 3) := by decide +kernel
theorem d_Standing_rowsOfJoin_28 : decode prog_8_method_10_code 28 = .ok (.getfield 104, 3) := by decide +kernel
theorem d_Standing_rowsOfJoin_31 : decode prog_8_method_10_code 31 = .ok (.aload_n 0, 1) := by decide +kernel
theorem d_Standing_rowsOfJoin_32 : decode prog_8_method_10_code 32 = .ok (.getfield 92, 3) := by decide +kernel
theorem d_Standing_rowsOfJoin_35 : decode prog_8_method_10_code 35 = .ok (.bipush 6, 2) := by decide +kernel
theorem d_Standing_rowsOfJoin_37 : decode prog_8_method_10_code 37 = .ok (.if_icmp .ne 13, 3) := by decide +kernel
theorem d_Standing_rowsOfJoin_40 : decode prog_8_method_10_code 40 = .ok (.aload_n 0, 1) := by decide +kernel
theorem d_Standing_rowsOfJoin_41 : decode prog_8_method_10_code 41 = .ok (.getfield 113, 3) := by decide +kernel
theorem d_Standing_rowsOfJoin_44 : decode prog_8_method_10_code 44 = .ok (.getfield 104, 3) := by decide +kernel
theorem d_Standing_rowsOfJoin_47 : decode prog_8_method_10_code 47 = .ok (.goto 12, 3) := by decide +kernel
theorem d_Standing_rowsOfJoin_50 : decode prog_8_method_10_code 50 = .ok (.aload_n 0, 1) := by decide +kernel
theorem d_Standing_rowsOfJoin_51 : decode prog_8_method_10_code 51 = .ok (.getfield 113, 3) := by decide +kernel
theorem d_Standing_rowsOfJoin_54 : decode prog_8_method_10_code 54 = .ok (.getfield 104, 3) := by decide +kernel
theorem d_Standing_rowsOfJoin_57 : decode prog_8_method_10_code 57 = .ok (.iconst (-1), 1) := by decide +kernel
theorem d_Standing_rowsOfJoin_58 : decode prog_8_method_10_code 58 = .ok (.ixor, 1) := by decide +kernel
theorem d_Standing_rowsOfJoin_59 : decode prog_8_method_10_code 59 = .ok (.iand, 1) := by decide +kernel
theorem d_Standing_rowsOfJoin_60 : decode prog_8_method_10_code 60 = .ok (.ireturn, 1) := by decide +kernel
theorem d_Answers_take_0 : decode prog_2_method_4_code 0 = .ok (.aload_n 0, 1) := by decide +kernel
theorem d_Answers_take_1 : decode prog_2_method_4_code 1 = .ok (.iconst 0, 1) := by decide +kernel
theorem d_Answers_take_2 : decode prog_2_method_4_code 2 = .ok (.putfield 25, 3) := by decide +kernel
theorem d_Answers_take_5 : decode prog_2_method_4_code 5 = .ok (.iconst 1, 1) := by decide +kernel
theorem d_Answers_take_6 : decode prog_2_method_4_code 6 = .ok (.istore_n 3, 1) := by decide +kernel
theorem d_Answers_take_7 : decode prog_2_method_4_code 7 = .ok (.iload_n 3, 1) := by decide +kernel
theorem d_Answers_take_8 : decode prog_2_method_4_code 8 = .ok (.bipush 24, 2) := by decide +kernel
theorem d_Answers_take_10 : decode prog_2_method_4_code 10 = .ok (.if_icmp .gt 74, 3) := by decide +kernel
theorem d_Answers_take_13 : decode prog_2_method_4_code 13 = .ok (.aload_n 2, 1) := by decide +kernel
theorem d_Answers_take_14 : decode prog_2_method_4_code 14 = .ok (.iload_n 3, 1) := by decide +kernel
theorem d_Answers_take_15 : decode prog_2_method_4_code 15 = .ok (.invokevirtual 29, 3) := by decide +kernel
theorem d_Answers_take_18 : decode prog_2_method_4_code 18 = .ok (.astore 4, 2) := by decide +kernel
theorem d_Answers_take_20 : decode prog_2_method_4_code 20 = .ok (.aload 4, 2) := by decide +kernel
theorem d_Answers_take_22 : decode prog_2_method_4_code 22 = .ok (.ifnull 56, 3) := by decide +kernel
theorem d_Answers_take_25 : decode prog_2_method_4_code 25 = .ok (.iload_n 1, 1) := by decide +kernel
theorem d_Answers_take_26 : decode prog_2_method_4_code 26 = .ok (.iload_n 3, 1) := by decide +kernel
theorem d_Answers_take_27 : decode prog_2_method_4_code 27 = .ok (.ishr, 1) := by decide +kernel
theorem d_Answers_take_28 : decode prog_2_method_4_code 28 = .ok (.iconst 1, 1) := by decide +kernel
theorem d_Answers_take_29 : decode prog_2_method_4_code 29 = .ok (.iand, 1) := by decide +kernel
theorem d_Answers_take_30 : decode prog_2_method_4_code 30 = .ok (.iconst 1, 1) := by decide +kernel
theorem d_Answers_take_31 : decode prog_2_method_4_code 31 = .ok (.if_icmp .ne 47, 3) := by decide +kernel
theorem d_Answers_take_34 : decode prog_2_method_4_code 34 = .ok (.aload_n 0, 1) := by decide +kernel
theorem d_Answers_take_35 : decode prog_2_method_4_code 35 = .ok (.getfield 9, 3) := by decide +kernel
theorem d_Answers_take_38 : decode prog_2_method_4_code 38 = .ok (.aload_n 0, 1) := by decide +kernel
theorem d_Answers_take_39 : decode prog_2_method_4_code 39 = .ok (.getfield 25, 3) := by decide +kernel
theorem d_Answers_take_42 : decode prog_2_method_4_code 42 = .ok (.iload_n 3, 1) := by decide +kernel
theorem d_Answers_take_43 : decode prog_2_method_4_code 43 = .ok (.iastore, 1) := by decide +kernel
theorem d_Answers_take_44 : decode prog_2_method_4_code 44 = .ok (.aload_n 0, 1) := by decide +kernel
theorem d_Answers_take_45 : decode prog_2_method_4_code 45 = .ok (.getfield 19, 3) := by decide +kernel
theorem d_Answers_take_48 : decode prog_2_method_4_code 48 = .ok (.aload_n 0, 1) := by decide +kernel
theorem d_Answers_take_49 : decode prog_2_method_4_code 49 = .ok (.getfield 25, 3) := by decide +kernel
theorem d_Answers_take_52 : decode prog_2_method_4_code 52 = .ok (.aload 4, 2) := by decide +kernel
theorem d_Answers_take_54 : decode prog_2_method_4_code 54 = .ok (.invokevirtual 35, 3) := by decide +kernel
theorem d_Answers_take_57 : decode prog_2_method_4_code 57 = .ok (.iastore, 1) := by decide +kernel
theorem d_Answers_take_58 : decode prog_2_method_4_code 58 = .ok (.aload_n 0, 1) := by decide +kernel
theorem d_Answers_take_59 : decode prog_2_method_4_code 59 = .ok (.getfield 15, 3) := by decide +kernel
theorem d_Answers_take_62 : decode prog_2_method_4_code 62 = .ok (.aload_n 0, 1) := by decide +kernel
theorem d_Answers_take_63 : decode prog_2_method_4_code 63 = .ok (.getfield 25, 3) := by decide +kernel
theorem d_Answers_take_66 : decode prog_2_method_4_code 66 = .ok (.dconst 0, 1) := by decide +kernel
theorem d_Answers_take_67 : decode prog_2_method_4_code 67 = .ok (.dastore, 1) := by decide +kernel
theorem d_Answers_take_68 : decode prog_2_method_4_code 68 = .ok (.aload_n 0, 1) := by decide +kernel
theorem d_Answers_take_69 : decode prog_2_method_4_code 69 = .ok (.dup, 1) := by decide +kernel
theorem d_Answers_take_70 : decode prog_2_method_4_code 70 = .ok (.getfield 25, 3) := by decide +kernel
theorem d_Answers_take_73 : decode prog_2_method_4_code 73 = .ok (.iconst 1, 1) := by decide +kernel
theorem d_Answers_take_74 : decode prog_2_method_4_code 74 = .ok (.iadd, 1) := by decide +kernel
theorem d_Answers_take_75 : decode prog_2_method_4_code 75 = .ok (.putfield 25, 3) := by decide +kernel
theorem d_Answers_take_78 : decode prog_2_method_4_code 78 = .ok (.iinc 3 1, 3) := by decide +kernel
theorem d_Answers_take_81 : decode prog_2_method_4_code 81 = .ok (.goto (-74), 3) := by decide +kernel
theorem d_Answers_take_84 : decode prog_2_method_4_code 84 = .ok (.return_, 1) := by decide +kernel
theorem d_Answers_rank_0 : decode prog_2_method_5_code 0 = .ok (.aload 4, 2) := by decide +kernel
theorem d_Answers_rank_2 : decode prog_2_method_5_code 2 = .ok (.invokevirtual 41, 3) := by decide +kernel
theorem d_Answers_rank_5 : decode prog_2_method_5_code 5 = .ok (.istore 5, 2) := by decide +kernel
theorem d_Answers_rank_7 : decode prog_2_method_5_code 7 = .ok (.aload 4, 2) := by decide +kernel
theorem d_Answers_rank_9 : decode prog_2_method_5_code 9 = .ok (.invokevirtual 44, 3) := by decide +kernel
theorem d_Answers_rank_12 : decode prog_2_method_5_code 12 = .ok (.istore 6, 2) := by decide +kernel
theorem d_Answers_rank_14 : decode prog_2_method_5_code 14 = .ok (.iload 5, 2) := by decide +kernel
theorem d_Answers_rank_16 : decode prog_2_method_5_code 16 = .ok (.ifCond .le 53, 3) := by decide +kernel
theorem d_Answers_rank_19 : decode prog_2_method_5_code 19 = .ok (.iload 6, 2) := by decide +kernel
theorem d_Answers_rank_21 : decode prog_2_method_5_code 21 = .ok (.ifCond .le 48, 3) := by decide +kernel
theorem d_Answers_rank_24 : decode prog_2_method_5_code 24 = .ok (.iload 6, 2) := by decide +kernel
theorem d_Answers_rank_26 : decode prog_2_method_5_code 26 = .ok (.i2d, 1) := by decide +kernel
theorem d_Answers_rank_27 : decode prog_2_method_5_code 27 = .ok (.iload 5, 2) := by decide +kernel
theorem d_Answers_rank_29 : decode prog_2_method_5_code 29 = .ok (.i2d, 1) := by decide +kernel
theorem d_Answers_rank_30 : decode prog_2_method_5_code 30 = .ok (.ddiv, 1) := by decide +kernel
theorem d_Answers_rank_31 : decode prog_2_method_5_code 31 = .ok (.dstore 7, 2) := by decide +kernel
theorem d_Answers_rank_33 : decode prog_2_method_5_code 33 = .ok (.iconst 0, 1) := by decide +kernel
theorem d_Answers_rank_34 : decode prog_2_method_5_code 34 = .ok (.istore 9, 2) := by decide +kernel
theorem d_Answers_rank_36 : decode prog_2_method_5_code 36 = .ok (.iload 9, 2) := by decide +kernel
theorem d_Answers_rank_38 : decode prog_2_method_5_code 38 = .ok (.iload_n 2, 1) := by decide +kernel
theorem d_Answers_rank_39 : decode prog_2_method_5_code 39 = .ok (.if_icmp .ge 30, 3) := by decide +kernel
theorem d_Answers_rank_42 : decode prog_2_method_5_code 42 = .ok (.aload_n 0, 1) := by decide +kernel
theorem d_Answers_rank_43 : decode prog_2_method_5_code 43 = .ok (.aload_n 1, 1) := by decide +kernel
theorem d_Answers_rank_44 : decode prog_2_method_5_code 44 = .ok (.iload 9, 2) := by decide +kernel
theorem d_Answers_rank_46 : decode prog_2_method_5_code 46 = .ok (.aload_n 3, 1) := by decide +kernel
theorem d_Answers_rank_47 : decode prog_2_method_5_code 47 = .ok (.iload 5, 2) := by decide +kernel
theorem d_Answers_rank_49 : decode prog_2_method_5_code 49 = .ok (.aload_n 1, 1) := by decide +kernel
theorem d_Answers_rank_50 : decode prog_2_method_5_code 50 = .ok (.iload 9, 2) := by decide +kernel
theorem d_Answers_rank_52 : decode prog_2_method_5_code 52 = .ok (.invokevirtual 47, 3) := by decide +kernel
theorem d_Answers_rank_55 : decode prog_2_method_5_code 55 = .ok (.invokestatic 53, 3) := by decide +kernel
theorem d_Answers_rank_58 : decode prog_2_method_5_code 58 = .ok (.dload 7, 2) := by decide +kernel
theorem d_Answers_rank_60 : decode prog_2_method_5_code 60 = .ok (.invokevirtual 57, 3) := by decide +kernel
theorem d_Answers_rank_63 : decode prog_2_method_5_code 63 = .ok (.iinc 9 1, 3) := by decide +kernel
theorem d_Answers_rank_66 : decode prog_2_method_5_code 66 = .ok (.goto (-30), 3) := by decide +kernel
theorem d_Answers_rank_69 : decode prog_2_method_5_code 69 = .ok (.aload_n 0, 1) := by decide +kernel
theorem d_Answers_rank_70 : decode prog_2_method_5_code 70 = .ok (.invokevirtual 61, 3) := by decide +kernel
theorem d_Answers_rank_73 : decode prog_2_method_5_code 73 = .ok (.return_, 1) := by decide +kernel
theorem d_Store_tokenCount_0 : decode prog_9_method_4_code 0 = .ok (.iconst 0, 1) := by decide +kernel
theorem d_Store_tokenCount_1 : decode prog_9_method_4_code 1 = .ok (.istore_n 1, 1) := by decide +kernel
theorem d_Store_tokenCount_2 : decode prog_9_method_4_code 2 = .ok (.iconst 1, 1) := by decide +kernel
theorem d_Store_tokenCount_3 : decode prog_9_method_4_code 3 = .ok (.istore_n 2, 1) := by decide +kernel
theorem d_Store_tokenCount_4 : decode prog_9_method_4_code 4 = .ok (.iload_n 2, 1) := by decide +kernel
theorem d_Store_tokenCount_5 : decode prog_9_method_4_code 5 = .ok (.bipush 24, 2) := by decide +kernel
theorem d_Store_tokenCount_7 : decode prog_9_method_4_code 7 = .ok (.if_icmp .gt 30, 3) := by decide +kernel
theorem d_Store_tokenCount_10 : decode prog_9_method_4_code 10 = .ok (.aload_n 0, 1) := by decide +kernel
theorem d_Store_tokenCount_11 : decode prog_9_method_4_code 11 = .ok (.getfield 11, 3) := by decide +kernel
theorem d_Store_tokenCount_14 : decode prog_9_method_4_code 14 = .ok (.iload_n 2, 1) := by decide +kernel
theorem d_Store_tokenCount_15 : decode prog_9_method_4_code 15 = .ok (.aaload, 1) := by decide +kernel
theorem d_Store_tokenCount_16 : decode prog_9_method_4_code 16 = .ok (.ifnull 15, 3) := by decide +kernel
theorem d_Store_tokenCount_19 : decode prog_9_method_4_code 19 = .ok (.iload_n 1, 1) := by decide +kernel
theorem d_Store_tokenCount_20 : decode prog_9_method_4_code 20 = .ok (.aload_n 0, 1) := by decide +kernel
theorem d_Store_tokenCount_21 : decode prog_9_method_4_code 21 = .ok (.getfield 11, 3) := by decide +kernel
theorem d_Store_tokenCount_24 : decode prog_9_method_4_code 24 = .ok (.iload_n 2, 1) := by decide +kernel
theorem d_Store_tokenCount_25 : decode prog_9_method_4_code 25 = .ok (.aaload, 1) := by decide +kernel
theorem d_Store_tokenCount_26 : decode prog_9_method_4_code 26 = .ok (.invokevirtual 29, 3) := by decide +kernel
theorem d_Store_tokenCount_29 : decode prog_9_method_4_code 29 = .ok (.iadd, 1) := by decide +kernel
theorem d_Store_tokenCount_30 : decode prog_9_method_4_code 30 = .ok (.istore_n 1, 1) := by decide +kernel
theorem d_Store_tokenCount_31 : decode prog_9_method_4_code 31 = .ok (.iinc 2 1, 3) := by decide +kernel
theorem d_Store_tokenCount_34 : decode prog_9_method_4_code 34 = .ok (.goto (-30), 3) := by decide +kernel
theorem d_Store_tokenCount_37 : decode prog_9_method_4_code 37 = .ok (.iload_n 1, 1) := by decide +kernel
theorem d_Store_tokenCount_38 : decode prog_9_method_4_code 38 = .ok (.ireturn, 1) := by decide +kernel
theorem d_Standing_rowsWith_0 : decode prog_8_method_8_code 0 = .ok (.iconst 0, 1) := by decide +kernel
theorem d_Standing_rowsWith_1 : decode prog_8_method_8_code 1 = .ok (.istore_n 2, 1) := by decide +kernel
theorem d_Standing_rowsWith_2 : decode prog_8_method_8_code 2 = .ok (.iconst 1, 1) := by decide +kernel
theorem d_Standing_rowsWith_3 : decode prog_8_method_8_code 3 = .ok (.istore_n 3, 1) := by decide +kernel
theorem d_Standing_rowsWith_4 : decode prog_8_method_8_code 4 = .ok (.iload_n 3, 1) := by decide +kernel
theorem d_Standing_rowsWith_5 : decode prog_8_method_8_code 5 = .ok (.bipush 24, 2) := by decide +kernel
theorem d_Standing_rowsWith_7 : decode prog_8_method_8_code 7 = .ok (.if_icmp .gt 21, 3) := by decide +kernel
theorem d_Standing_rowsWith_10 : decode prog_8_method_8_code 10 = .ok (.aload_n 0, 1) := by decide +kernel
theorem d_Standing_rowsWith_11 : decode prog_8_method_8_code 11 = .ok (.iload_n 1, 1) := by decide +kernel
theorem d_Standing_rowsWith_12 : decode prog_8_method_8_code 12 = .ok (.iload_n 3, 1) := by decide +kernel
theorem d_Standing_rowsWith_13 : decode prog_8_method_8_code 13 = .ok (.invokevirtual 81, 3) := by decide +kernel
theorem d_Standing_rowsWith_16 : decode prog_8_method_8_code 16 = .ok (.ifCond .eq 6, 3) := by decide +kernel
theorem d_Standing_rowsWith_19 : decode prog_8_method_8_code 19 = .ok (.iinc 2 1, 3) := by decide +kernel
theorem d_Standing_rowsWith_22 : decode prog_8_method_8_code 22 = .ok (.iinc 3 1, 3) := by decide +kernel
theorem d_Standing_rowsWith_25 : decode prog_8_method_8_code 25 = .ok (.goto (-21), 3) := by decide +kernel
theorem d_Standing_rowsWith_28 : decode prog_8_method_8_code 28 = .ok (.iload_n 2, 1) := by decide +kernel
theorem d_Standing_rowsWith_29 : decode prog_8_method_8_code 29 = .ok (.ireturn, 1) := by decide +kernel
theorem d_Standing_standsIn_0 : decode prog_8_method_7_code 0 = .ok (.aload_n 0, 1) := by decide +kernel
theorem d_Standing_standsIn_1 : decode prog_8_method_7_code 1 = .ok (.iload_n 1, 1) := by decide +kernel
theorem d_Standing_standsIn_2 : decode prog_8_method_7_code 2 = .ok (.iload_n 2, 1) := by decide +kernel
theorem d_Standing_standsIn_3 : decode prog_8_method_7_code 3 = .ok (.iconst 0, 1) := by decide +kernel
theorem d_Standing_standsIn_4 : decode prog_8_method_7_code 4 = .ok (.invokevirtual 78, 3) := by decide +kernel
theorem d_Standing_standsIn_7 : decode prog_8_method_7_code 7 = .ok (.aload_n 0, 1) := by decide +kernel
theorem d_Standing_standsIn_8 : decode prog_8_method_7_code 8 = .ok (.iload_n 1, 1) := by decide +kernel
theorem d_Standing_standsIn_9 : decode prog_8_method_7_code 9 = .ok (.iload_n 2, 1) := by decide +kernel
theorem d_Standing_standsIn_10 : decode prog_8_method_7_code 10 = .ok (.iconst 1, 1) := by decide +kernel
theorem d_Standing_standsIn_11 : decode prog_8_method_7_code 11 = .ok (.invokevirtual 78, 3) := by decide +kernel
theorem d_Standing_standsIn_14 : decode prog_8_method_7_code 14 = .ok (.ior, 1) := by decide +kernel
theorem d_Standing_standsIn_15 : decode prog_8_method_7_code 15 = .ok (.ifCond .eq 7, 3) := by decide +kernel
theorem d_Standing_standsIn_18 : decode prog_8_method_7_code 18 = .ok (.iconst 1, 1) := by decide +kernel
theorem d_Standing_standsIn_19 : decode prog_8_method_7_code 19 = .ok (.goto 4, 3) := by decide +kernel
theorem d_Standing_standsIn_22 : decode prog_8_method_7_code 22 = .ok (.iconst 0, 1) := by decide +kernel
theorem d_Standing_standsIn_23 : decode prog_8_method_7_code 23 = .ok (.ireturn, 1) := by decide +kernel
theorem d_Answers_rarity_0 : decode prog_2_method_7_code 0 = .ok (.iload_n 0, 1) := by decide +kernel
theorem d_Answers_rarity_1 : decode prog_2_method_7_code 1 = .ok (.iload_n 1, 1) := by decide +kernel
theorem d_Answers_rarity_2 : decode prog_2_method_7_code 2 = .ok (.isub, 1) := by decide +kernel
theorem d_Answers_rarity_3 : decode prog_2_method_7_code 3 = .ok (.i2d, 1) := by decide +kernel
theorem d_Answers_rarity_4 : decode prog_2_method_7_code 4 = .ok (.ldc2_w 81, 3) := by decide +kernel
theorem d_Answers_rarity_7 : decode prog_2_method_7_code 7 = .ok (.dadd, 1) := by decide +kernel
theorem d_Answers_rarity_8 : decode prog_2_method_7_code 8 = .ok (.iload_n 1, 1) := by decide +kernel
theorem d_Answers_rarity_9 : decode prog_2_method_7_code 9 = .ok (.i2d, 1) := by decide +kernel
theorem d_Answers_rarity_10 : decode prog_2_method_7_code 10 = .ok (.ldc2_w 81, 3) := by decide +kernel
theorem d_Answers_rarity_13 : decode prog_2_method_7_code 13 = .ok (.dadd, 1) := by decide +kernel
theorem d_Answers_rarity_14 : decode prog_2_method_7_code 14 = .ok (.ddiv, 1) := by decide +kernel
theorem d_Answers_rarity_15 : decode prog_2_method_7_code 15 = .ok (.invokestatic 83, 3) := by decide +kernel
theorem d_Answers_rarity_18 : decode prog_2_method_7_code 18 = .ok (.dstore_n 2, 1) := by decide +kernel
theorem d_Answers_rarity_19 : decode prog_2_method_7_code 19 = .ok (.dload_n 2, 1) := by decide +kernel
theorem d_Answers_rarity_20 : decode prog_2_method_7_code 20 = .ok (.dconst 0, 1) := by decide +kernel
theorem d_Answers_rarity_21 : decode prog_2_method_7_code 21 = .ok (.dcmp .l, 1) := by decide +kernel
theorem d_Answers_rarity_22 : decode prog_2_method_7_code 22 = .ok (.ifCond .le 7, 3) := by decide +kernel
theorem d_Answers_rarity_25 : decode prog_2_method_7_code 25 = .ok (.dload_n 2, 1) := by decide +kernel
theorem d_Answers_rarity_26 : decode prog_2_method_7_code 26 = .ok (.goto 6, 3) := by decide +kernel
theorem d_Answers_rarity_29 : decode prog_2_method_7_code 29 = .ok (.ldc2_w 87, 3) := by decide +kernel
theorem d_Answers_rarity_32 : decode prog_2_method_7_code 32 = .ok (.dreturn, 1) := by decide +kernel
theorem d_Answers_ln_0 : decode prog_2_method_8_code 0 = .ok (.dload_n 0, 1) := by decide +kernel
theorem d_Answers_ln_1 : decode prog_2_method_8_code 1 = .ok (.dstore_n 2, 1) := by decide +kernel
theorem d_Answers_ln_2 : decode prog_2_method_8_code 2 = .ok (.iconst 0, 1) := by decide +kernel
theorem d_Answers_ln_3 : decode prog_2_method_8_code 3 = .ok (.istore 4, 2) := by decide +kernel
theorem d_Answers_ln_5 : decode prog_2_method_8_code 5 = .ok (.iconst 0, 1) := by decide +kernel
theorem d_Answers_ln_6 : decode prog_2_method_8_code 6 = .ok (.istore 5, 2) := by decide +kernel
theorem d_Answers_ln_8 : decode prog_2_method_8_code 8 = .ok (.iload 5, 2) := by decide +kernel
theorem d_Answers_ln_10 : decode prog_2_method_8_code 10 = .ok (.bipush 64, 2) := by decide +kernel
theorem d_Answers_ln_12 : decode prog_2_method_8_code 12 = .ok (.if_icmp .ge 26, 3) := by decide +kernel
theorem d_Answers_ln_15 : decode prog_2_method_8_code 15 = .ok (.dload_n 2, 1) := by decide +kernel
theorem d_Answers_ln_16 : decode prog_2_method_8_code 16 = .ok (.ldc2_w 89, 3) := by decide +kernel
theorem d_Answers_ln_19 : decode prog_2_method_8_code 19 = .ok (.dcmp .l, 1) := by decide +kernel
theorem d_Answers_ln_20 : decode prog_2_method_8_code 20 = .ok (.ifCond .lt 18, 3) := by decide +kernel
theorem d_Answers_ln_23 : decode prog_2_method_8_code 23 = .ok (.dload_n 2, 1) := by decide +kernel
theorem d_Answers_ln_24 : decode prog_2_method_8_code 24 = .ok (.ldc2_w 91, 3) := by decide +kernel
theorem d_Answers_ln_27 : decode prog_2_method_8_code 27 = .ok (.ddiv, 1) := by decide +kernel
theorem d_Answers_ln_28 : decode prog_2_method_8_code 28 = .ok (.dstore_n 2, 1) := by decide +kernel
theorem d_Answers_ln_29 : decode prog_2_method_8_code 29 = .ok (.iinc 4 1, 3) := by decide +kernel
theorem d_Answers_ln_32 : decode prog_2_method_8_code 32 = .ok (.iinc 5 1, 3) := by decide +kernel
theorem d_Answers_ln_35 : decode prog_2_method_8_code 35 = .ok (.goto (-27), 3) := by decide +kernel
theorem d_Answers_ln_38 : decode prog_2_method_8_code 38 = .ok (.iconst 0, 1) := by decide +kernel
theorem d_Answers_ln_39 : decode prog_2_method_8_code 39 = .ok (.istore 5, 2) := by decide +kernel
theorem d_Answers_ln_41 : decode prog_2_method_8_code 41 = .ok (.iload 5, 2) := by decide +kernel
theorem d_Answers_ln_43 : decode prog_2_method_8_code 43 = .ok (.bipush 64, 2) := by decide +kernel
theorem d_Answers_ln_45 : decode prog_2_method_8_code 45 = .ok (.if_icmp .ge 26, 3) := by decide +kernel
theorem d_Answers_ln_48 : decode prog_2_method_8_code 48 = .ok (.dload_n 2, 1) := by decide +kernel
theorem d_Answers_ln_49 : decode prog_2_method_8_code 49 = .ok (.ldc2_w 79, 3) := by decide +kernel
theorem d_Answers_ln_52 : decode prog_2_method_8_code 52 = .ok (.dcmp .g, 1) := by decide +kernel
theorem d_Answers_ln_53 : decode prog_2_method_8_code 53 = .ok (.ifCond .ge 18, 3) := by decide +kernel
theorem d_Answers_ln_56 : decode prog_2_method_8_code 56 = .ok (.dload_n 2, 1) := by decide +kernel
theorem d_Answers_ln_57 : decode prog_2_method_8_code 57 = .ok (.ldc2_w 91, 3) := by decide +kernel
theorem d_Answers_ln_60 : decode prog_2_method_8_code 60 = .ok (.dmul, 1) := by decide +kernel
theorem d_Answers_ln_61 : decode prog_2_method_8_code 61 = .ok (.dstore_n 2, 1) := by decide +kernel
theorem d_Answers_ln_62 : decode prog_2_method_8_code 62 = .ok (.iinc 4 (-1), 3) := by decide +kernel
theorem d_Answers_ln_65 : decode prog_2_method_8_code 65 = .ok (.iinc 5 1, 3) := by decide +kernel
theorem d_Answers_ln_68 : decode prog_2_method_8_code 68 = .ok (.goto (-27), 3) := by decide +kernel
theorem d_Answers_ln_71 : decode prog_2_method_8_code 71 = .ok (.dload_n 2, 1) := by decide +kernel
theorem d_Answers_ln_72 : decode prog_2_method_8_code 72 = .ok (.dconst 1, 1) := by decide +kernel
theorem d_Answers_ln_73 : decode prog_2_method_8_code 73 = .ok (.dsub, 1) := by decide +kernel
theorem d_Answers_ln_74 : decode prog_2_method_8_code 74 = .ok (.dload_n 2, 1) := by decide +kernel
theorem d_Answers_ln_75 : decode prog_2_method_8_code 75 = .ok (.dconst 1, 1) := by decide +kernel
theorem d_Answers_ln_76 : decode prog_2_method_8_code 76 = .ok (.dadd, 1) := by decide +kernel
theorem d_Answers_ln_77 : decode prog_2_method_8_code 77 = .ok (.ddiv, 1) := by decide +kernel
theorem d_Answers_ln_78 : decode prog_2_method_8_code 78 = .ok (.dstore 5, 2) := by decide +kernel
theorem d_Answers_ln_80 : decode prog_2_method_8_code 80 = .ok (.dload 5, 2) := by decide +kernel
theorem d_Answers_ln_82 : decode prog_2_method_8_code 82 = .ok (.dload 5, 2) := by decide +kernel
theorem d_Answers_ln_84 : decode prog_2_method_8_code 84 = .ok (.dmul, 1) := by decide +kernel
theorem d_Answers_ln_85 : decode prog_2_method_8_code 85 = .ok (.dstore 7, 2) := by decide +kernel
theorem d_Answers_ln_87 : decode prog_2_method_8_code 87 = .ok (.dconst 0, 1) := by decide +kernel
theorem d_Answers_ln_88 : decode prog_2_method_8_code 88 = .ok (.dstore 9, 2) := by decide +kernel
theorem d_Answers_ln_90 : decode prog_2_method_8_code 90 = .ok (.bipush 19, 2) := by decide +kernel
theorem d_Answers_ln_92 : decode prog_2_method_8_code 92 = .ok (.istore 11, 2) := by decide +kernel
theorem d_Answers_ln_94 : decode prog_2_method_8_code 94 = .ok (.iload 11, 2) := by decide +kernel
theorem d_Answers_ln_96 : decode prog_2_method_8_code 96 = .ok (.iconst 1, 1) := by decide +kernel
theorem d_Answers_ln_97 : decode prog_2_method_8_code 97 = .ok (.if_icmp .lt 22, 3) := by decide +kernel
theorem d_Answers_ln_100 : decode prog_2_method_8_code 100 = .ok (.dload 9, 2) := by decide +kernel
theorem d_Answers_ln_102 : decode prog_2_method_8_code 102 = .ok (.dload 7, 2) := by decide +kernel
theorem d_Answers_ln_104 : decode prog_2_method_8_code 104 = .ok (.dmul, 1) := by decide +kernel
theorem d_Answers_ln_105 : decode prog_2_method_8_code 105 = .ok (.dconst 1, 1) := by decide +kernel
theorem d_Answers_ln_106 : decode prog_2_method_8_code 106 = .ok (.iload 11, 2) := by decide +kernel
theorem d_Answers_ln_108 : decode prog_2_method_8_code 108 = .ok (.i2d, 1) := by decide +kernel
theorem d_Answers_ln_109 : decode prog_2_method_8_code 109 = .ok (.ddiv, 1) := by decide +kernel
theorem d_Answers_ln_110 : decode prog_2_method_8_code 110 = .ok (.dadd, 1) := by decide +kernel
theorem d_Answers_ln_111 : decode prog_2_method_8_code 111 = .ok (.dstore 9, 2) := by decide +kernel
theorem d_Answers_ln_113 : decode prog_2_method_8_code 113 = .ok (.iinc 11 (-2), 3) := by decide +kernel
theorem d_Answers_ln_116 : decode prog_2_method_8_code 116 = .ok (.goto (-22), 3) := by decide +kernel
theorem d_Answers_ln_119 : decode prog_2_method_8_code 119 = .ok (.ldc2_w 91, 3) := by decide +kernel
theorem d_Answers_ln_122 : decode prog_2_method_8_code 122 = .ok (.dload 5, 2) := by decide +kernel
theorem d_Answers_ln_124 : decode prog_2_method_8_code 124 = .ok (.dmul, 1) := by decide +kernel
theorem d_Answers_ln_125 : decode prog_2_method_8_code 125 = .ok (.dload 9, 2) := by decide +kernel
theorem d_Answers_ln_127 : decode prog_2_method_8_code 127 = .ok (.dmul, 1) := by decide +kernel
theorem d_Answers_ln_128 : decode prog_2_method_8_code 128 = .ok (.iload 4, 2) := by decide +kernel
theorem d_Answers_ln_130 : decode prog_2_method_8_code 130 = .ok (.i2d, 1) := by decide +kernel
theorem d_Answers_ln_131 : decode prog_2_method_8_code 131 = .ok (.ldc2_w 93, 3) := by decide +kernel
theorem d_Answers_ln_134 : decode prog_2_method_8_code 134 = .ok (.dmul, 1) := by decide +kernel
theorem d_Answers_ln_135 : decode prog_2_method_8_code 135 = .ok (.dadd, 1) := by decide +kernel
theorem d_Answers_ln_136 : decode prog_2_method_8_code 136 = .ok (.dreturn, 1) := by decide +kernel
theorem d_Answers_addPhrase_0 : decode prog_2_method_6_code 0 = .ok (.iconst 0, 1) := by decide +kernel
theorem d_Answers_addPhrase_1 : decode prog_2_method_6_code 1 = .ok (.istore 8, 2) := by decide +kernel
theorem d_Answers_addPhrase_3 : decode prog_2_method_6_code 3 = .ok (.iload 8, 2) := by decide +kernel
theorem d_Answers_addPhrase_5 : decode prog_2_method_6_code 5 = .ok (.aload_n 0, 1) := by decide +kernel
theorem d_Answers_addPhrase_6 : decode prog_2_method_6_code 6 = .ok (.getfield 25, 3) := by decide +kernel
theorem d_Answers_addPhrase_9 : decode prog_2_method_6_code 9 = .ok (.if_icmp .ge 105, 3) := by decide +kernel
theorem d_Answers_addPhrase_12 : decode prog_2_method_6_code 12 = .ok (.aload_n 1, 1) := by decide +kernel
theorem d_Answers_addPhrase_13 : decode prog_2_method_6_code 13 = .ok (.iload_n 2, 1) := by decide +kernel
theorem d_Answers_addPhrase_14 : decode prog_2_method_6_code 14 = .ok (.aload_n 0, 1) := by decide +kernel
theorem d_Answers_addPhrase_15 : decode prog_2_method_6_code 15 = .ok (.getfield 9, 3) := by decide +kernel
theorem d_Answers_addPhrase_18 : decode prog_2_method_6_code 18 = .ok (.iload 8, 2) := by decide +kernel
theorem d_Answers_addPhrase_20 : decode prog_2_method_6_code 20 = .ok (.iaload, 1) := by decide +kernel
theorem d_Answers_addPhrase_21 : decode prog_2_method_6_code 21 = .ok (.iconst 0, 1) := by decide +kernel
theorem d_Answers_addPhrase_22 : decode prog_2_method_6_code 22 = .ok (.invokevirtual 64, 3) := by decide +kernel
theorem d_Answers_addPhrase_25 : decode prog_2_method_6_code 25 = .ok (.invokestatic 68, 3) := by decide +kernel
theorem d_Answers_addPhrase_28 : decode prog_2_method_6_code 28 = .ok (.aload_n 3, 1) := by decide +kernel
theorem d_Answers_addPhrase_29 : decode prog_2_method_6_code 29 = .ok (.iconst 0, 1) := by decide +kernel
theorem d_Answers_addPhrase_30 : decode prog_2_method_6_code 30 = .ok (.iaload, 1) := by decide +kernel
theorem d_Answers_addPhrase_31 : decode prog_2_method_6_code 31 = .ok (.imul, 1) := by decide +kernel
theorem d_Answers_addPhrase_32 : decode prog_2_method_6_code 32 = .ok (.aload_n 1, 1) := by decide +kernel
theorem d_Answers_addPhrase_33 : decode prog_2_method_6_code 33 = .ok (.iload_n 2, 1) := by decide +kernel
theorem d_Answers_addPhrase_34 : decode prog_2_method_6_code 34 = .ok (.aload_n 0, 1) := by decide +kernel
theorem d_Answers_addPhrase_35 : decode prog_2_method_6_code 35 = .ok (.getfield 9, 3) := by decide +kernel
theorem d_Answers_addPhrase_38 : decode prog_2_method_6_code 38 = .ok (.iload 8, 2) := by decide +kernel
theorem d_Answers_addPhrase_40 : decode prog_2_method_6_code 40 = .ok (.iaload, 1) := by decide +kernel
theorem d_Answers_addPhrase_41 : decode prog_2_method_6_code 41 = .ok (.iconst 1, 1) := by decide +kernel
theorem d_Answers_addPhrase_42 : decode prog_2_method_6_code 42 = .ok (.invokevirtual 64, 3) := by decide +kernel
theorem d_Answers_addPhrase_45 : decode prog_2_method_6_code 45 = .ok (.invokestatic 68, 3) := by decide +kernel
theorem d_Answers_addPhrase_48 : decode prog_2_method_6_code 48 = .ok (.aload_n 3, 1) := by decide +kernel
theorem d_Answers_addPhrase_49 : decode prog_2_method_6_code 49 = .ok (.iconst 1, 1) := by decide +kernel
theorem d_Answers_addPhrase_50 : decode prog_2_method_6_code 50 = .ok (.iaload, 1) := by decide +kernel
theorem d_Answers_addPhrase_51 : decode prog_2_method_6_code 51 = .ok (.imul, 1) := by decide +kernel
theorem d_Answers_addPhrase_52 : decode prog_2_method_6_code 52 = .ok (.iadd, 1) := by decide +kernel
theorem d_Answers_addPhrase_53 : decode prog_2_method_6_code 53 = .ok (.istore 9, 2) := by decide +kernel
theorem d_Answers_addPhrase_55 : decode prog_2_method_6_code 55 = .ok (.iload 9, 2) := by decide +kernel
theorem d_Answers_addPhrase_57 : decode prog_2_method_6_code 57 = .ok (.ifCond .le 51, 3) := by decide +kernel
theorem d_Answers_addPhrase_60 : decode prog_2_method_6_code 60 = .ok (.aload_n 0, 1) := by decide +kernel
theorem d_Answers_addPhrase_61 : decode prog_2_method_6_code 61 = .ok (.getfield 15, 3) := by decide +kernel
theorem d_Answers_addPhrase_64 : decode prog_2_method_6_code 64 = .ok (.iload 8, 2) := by decide +kernel
theorem d_Answers_addPhrase_66 : decode prog_2_method_6_code 66 = .ok (.dup2, 1) := by decide +kernel
theorem d_Answers_addPhrase_67 : decode prog_2_method_6_code 67 = .ok (.daload, 1) := by decide +kernel
theorem d_Answers_addPhrase_68 : decode prog_2_method_6_code 68 = .ok (.dload 4, 2) := by decide +kernel
theorem d_Answers_addPhrase_70 : decode prog_2_method_6_code 70 = .ok (.iload 9, 2) := by decide +kernel
theorem d_Answers_addPhrase_72 : decode prog_2_method_6_code 72 = .ok (.i2d, 1) := by decide +kernel
theorem d_Answers_addPhrase_73 : decode prog_2_method_6_code 73 = .ok (.ldc2_w 73, 3) := by decide +kernel
theorem d_Answers_addPhrase_76 : decode prog_2_method_6_code 76 = .ok (.dmul, 1) := by decide +kernel
theorem d_Answers_addPhrase_77 : decode prog_2_method_6_code 77 = .ok (.dmul, 1) := by decide +kernel
theorem d_Answers_addPhrase_78 : decode prog_2_method_6_code 78 = .ok (.iload 9, 2) := by decide +kernel
theorem d_Answers_addPhrase_80 : decode prog_2_method_6_code 80 = .ok (.i2d, 1) := by decide +kernel
theorem d_Answers_addPhrase_81 : decode prog_2_method_6_code 81 = .ok (.ldc2_w 75, 3) := by decide +kernel
theorem d_Answers_addPhrase_84 : decode prog_2_method_6_code 84 = .ok (.ldc2_w 77, 3) := by decide +kernel
theorem d_Answers_addPhrase_87 : decode prog_2_method_6_code 87 = .ok (.ldc2_w 79, 3) := by decide +kernel
theorem d_Answers_addPhrase_90 : decode prog_2_method_6_code 90 = .ok (.aload_n 0, 1) := by decide +kernel
theorem d_Answers_addPhrase_91 : decode prog_2_method_6_code 91 = .ok (.getfield 19, 3) := by decide +kernel
theorem d_Answers_addPhrase_94 : decode prog_2_method_6_code 94 = .ok (.iload 8, 2) := by decide +kernel
theorem d_Answers_addPhrase_96 : decode prog_2_method_6_code 96 = .ok (.iaload, 1) := by decide +kernel
theorem d_Answers_addPhrase_97 : decode prog_2_method_6_code 97 = .ok (.i2d, 1) := by decide +kernel
theorem d_Answers_addPhrase_98 : decode prog_2_method_6_code 98 = .ok (.dmul, 1) := by decide +kernel
theorem d_Answers_addPhrase_99 : decode prog_2_method_6_code 99 = .ok (.dload 6, 2) := by decide +kernel
theorem d_Answers_addPhrase_101 : decode prog_2_method_6_code 101 = .ok (.ddiv, 1) := by decide +kernel
theorem d_Answers_addPhrase_102 : decode prog_2_method_6_code 102 = .ok (.dadd, 1) := by decide +kernel
theorem d_Answers_addPhrase_103 : decode prog_2_method_6_code 103 = .ok (.dmul, 1) := by decide +kernel
theorem d_Answers_addPhrase_104 : decode prog_2_method_6_code 104 = .ok (.dadd, 1) := by decide +kernel
theorem d_Answers_addPhrase_105 : decode prog_2_method_6_code 105 = .ok (.ddiv, 1) := by decide +kernel
theorem d_Answers_addPhrase_106 : decode prog_2_method_6_code 106 = .ok (.dadd, 1) := by decide +kernel
theorem d_Answers_addPhrase_107 : decode prog_2_method_6_code 107 = .ok (.dastore, 1) := by decide +kernel
theorem d_Answers_addPhrase_108 : decode prog_2_method_6_code 108 = .ok (.iinc 8 1, 3) := by decide +kernel
theorem d_Answers_addPhrase_111 : decode prog_2_method_6_code 111 = .ok (.goto (-108), 3) := by decide +kernel
theorem d_Answers_addPhrase_114 : decode prog_2_method_6_code 114 = .ok (.return_, 1) := by decide +kernel
theorem d_Answers_sort_0 : decode prog_2_method_9_code 0 = .ok (.iconst 0, 1) := by decide +kernel
theorem d_Answers_sort_1 : decode prog_2_method_9_code 1 = .ok (.istore_n 1, 1) := by decide +kernel
theorem d_Answers_sort_2 : decode prog_2_method_9_code 2 = .ok (.iload_n 1, 1) := by decide +kernel
theorem d_Answers_sort_3 : decode prog_2_method_9_code 3 = .ok (.aload_n 0, 1) := by decide +kernel
theorem d_Answers_sort_4 : decode prog_2_method_9_code 4 = .ok (.getfield 25, 3) := by decide +kernel
theorem d_Answers_sort_7 : decode prog_2_method_9_code 7 = .ok (.if_icmp .ge 65, 3) := by decide +kernel
theorem d_Answers_sort_10 : decode prog_2_method_9_code 10 = .ok (.iload_n 1, 1) := by decide +kernel
theorem d_Answers_sort_11 : decode prog_2_method_9_code 11 = .ok (.istore_n 2, 1) := by decide +kernel
theorem d_Answers_sort_12 : decode prog_2_method_9_code 12 = .ok (.iload_n 2, 1) := by decide +kernel
theorem d_Answers_sort_13 : decode prog_2_method_9_code 13 = .ok (.ifCond .le 46, 3) := by decide +kernel
theorem d_Answers_sort_16 : decode prog_2_method_9_code 16 = .ok (.aload_n 0, 1) := by decide +kernel
theorem d_Answers_sort_17 : decode prog_2_method_9_code 17 = .ok (.getfield 15, 3) := by decide +kernel
theorem d_Answers_sort_20 : decode prog_2_method_9_code 20 = .ok (.aload_n 0, 1) := by decide +kernel
theorem d_Answers_sort_21 : decode prog_2_method_9_code 21 = .ok (.getfield 22, 3) := by decide +kernel
theorem d_Answers_sort_24 : decode prog_2_method_9_code 24 = .ok (.iload_n 2, 1) := by decide +kernel
theorem d_Answers_sort_25 : decode prog_2_method_9_code 25 = .ok (.iconst 1, 1) := by decide +kernel
theorem d_Answers_sort_26 : decode prog_2_method_9_code 26 = .ok (.isub, 1) := by decide +kernel
theorem d_Answers_sort_27 : decode prog_2_method_9_code 27 = .ok (.iaload, 1) := by decide +kernel
theorem d_Answers_sort_28 : decode prog_2_method_9_code 28 = .ok (.daload, 1) := by decide +kernel
theorem d_Answers_sort_29 : decode prog_2_method_9_code 29 = .ok (.aload_n 0, 1) := by decide +kernel
theorem d_Answers_sort_30 : decode prog_2_method_9_code 30 = .ok (.getfield 15, 3) := by decide +kernel
theorem d_Answers_sort_33 : decode prog_2_method_9_code 33 = .ok (.iload_n 1, 1) := by decide +kernel
theorem d_Answers_sort_34 : decode prog_2_method_9_code 34 = .ok (.daload, 1) := by decide +kernel
theorem d_Answers_sort_35 : decode prog_2_method_9_code 35 = .ok (.dcmp .g, 1) := by decide +kernel
theorem d_Answers_sort_36 : decode prog_2_method_9_code 36 = .ok (.ifCond .ge 23, 3) := by decide +kernel
theorem d_Answers_sort_39 : decode prog_2_method_9_code 39 = .ok (.aload_n 0, 1) := by decide +kernel
theorem d_Answers_sort_40 : decode prog_2_method_9_code 40 = .ok (.getfield 22, 3) := by decide +kernel
theorem d_Answers_sort_43 : decode prog_2_method_9_code 43 = .ok (.iload_n 2, 1) := by decide +kernel
theorem d_Answers_sort_44 : decode prog_2_method_9_code 44 = .ok (.aload_n 0, 1) := by decide +kernel
theorem d_Answers_sort_45 : decode prog_2_method_9_code 45 = .ok (.getfield 22, 3) := by decide +kernel
theorem d_Answers_sort_48 : decode prog_2_method_9_code 48 = .ok (.iload_n 2, 1) := by decide +kernel
theorem d_Answers_sort_49 : decode prog_2_method_9_code 49 = .ok (.iconst 1, 1) := by decide +kernel
theorem d_Answers_sort_50 : decode prog_2_method_9_code 50 = .ok (.isub, 1) := by decide +kernel
theorem d_Answers_sort_51 : decode prog_2_method_9_code 51 = .ok (.iaload, 1) := by decide +kernel
theorem d_Answers_sort_52 : decode prog_2_method_9_code 52 = .ok (.iastore, 1) := by decide +kernel
theorem d_Answers_sort_53 : decode prog_2_method_9_code 53 = .ok (.iinc 2 (-1), 3) := by decide +kernel
theorem d_Answers_sort_56 : decode prog_2_method_9_code 56 = .ok (.goto (-44), 3) := by decide +kernel
theorem d_Answers_sort_59 : decode prog_2_method_9_code 59 = .ok (.aload_n 0, 1) := by decide +kernel
theorem d_Answers_sort_60 : decode prog_2_method_9_code 60 = .ok (.getfield 22, 3) := by decide +kernel
theorem d_Answers_sort_63 : decode prog_2_method_9_code 63 = .ok (.iload_n 2, 1) := by decide +kernel
theorem d_Answers_sort_64 : decode prog_2_method_9_code 64 = .ok (.iload_n 1, 1) := by decide +kernel
theorem d_Answers_sort_65 : decode prog_2_method_9_code 65 = .ok (.iastore, 1) := by decide +kernel
theorem d_Answers_sort_66 : decode prog_2_method_9_code 66 = .ok (.iinc 1 1, 3) := by decide +kernel
theorem d_Answers_sort_69 : decode prog_2_method_9_code 69 = .ok (.goto (-67), 3) := by decide +kernel
theorem d_Answers_sort_72 : decode prog_2_method_9_code 72 = .ok (.return_, 1) := by decide +kernel
theorem d_Shelf_answer_0 : decode prog_1_method_17_code 0 = .ok (.aload_n 0, 1) := by decide +kernel
theorem d_Shelf_answer_1 : decode prog_1_method_17_code 1 = .ok (.getfield 50, 3) := by decide +kernel
theorem d_Shelf_answer_4 : decode prog_1_method_17_code 4 = .ok (.iload_n 1, 1) := by decide +kernel
theorem d_Shelf_answer_5 : decode prog_1_method_17_code 5 = .ok (.invokevirtual 195, 3) := by decide +kernel
theorem d_Shelf_answer_8 : decode prog_1_method_17_code 8 = .ok (.ifCond .ne 13, 3) := by decide +kernel
theorem d_Shelf_answer_11 : decode prog_1_method_17_code 11 = .ok (.new 81, 3) := by decide +kernel
theorem d_Shelf_answer_14 : decode prog_1_method_17_code 14 = .ok (.dup, 1) := by decide +kernel
theorem d_Shelf_answer_15 : decode prog_1_method_17_code 15 = .ok (.ldc 198, 2) := by decide +kernel
theorem d_Shelf_answer_17 : decode prog_1_method_17_code 17 = .ok (.invokespecial 85, 3) := by decide +kernel
theorem d_Shelf_answer_20 : decode prog_1_method_17_code 20 = .ok (.athrow, 1) := by decide +kernel
theorem d_Shelf_answer_21 : decode prog_1_method_17_code 21 = .ok (.aload_n 0, 1) := by decide +kernel
theorem d_Shelf_answer_22 : decode prog_1_method_17_code 22 = .ok (.getfield 50, 3) := by decide +kernel
theorem d_Shelf_answer_25 : decode prog_1_method_17_code 25 = .ok (.getfield 200, 3) := by decide +kernel
theorem d_Shelf_answer_28 : decode prog_1_method_17_code 28 = .ok (.aload_n 0, 1) := by decide +kernel
theorem d_Shelf_answer_29 : decode prog_1_method_17_code 29 = .ok (.getfield 50, 3) := by decide +kernel
theorem d_Shelf_answer_32 : decode prog_1_method_17_code 32 = .ok (.iload_n 1, 1) := by decide +kernel
theorem d_Shelf_answer_33 : decode prog_1_method_17_code 33 = .ok (.iload_n 2, 1) := by decide +kernel
theorem d_Shelf_answer_34 : decode prog_1_method_17_code 34 = .ok (.invokevirtual 203, 3) := by decide +kernel
theorem d_Shelf_answer_37 : decode prog_1_method_17_code 37 = .ok (.iaload, 1) := by decide +kernel
theorem d_Shelf_answer_38 : decode prog_1_method_17_code 38 = .ok (.ireturn, 1) := by decide +kernel
theorem d_Answers_has_0 : decode prog_2_method_2_code 0 = .ok (.iload_n 1, 1) := by decide +kernel
theorem d_Answers_has_1 : decode prog_2_method_2_code 1 = .ok (.ifCond .lt 15, 3) := by decide +kernel
theorem d_Answers_has_4 : decode prog_2_method_2_code 4 = .ok (.iload_n 1, 1) := by decide +kernel
theorem d_Answers_has_5 : decode prog_2_method_2_code 5 = .ok (.aload_n 0, 1) := by decide +kernel
theorem d_Answers_has_6 : decode prog_2_method_2_code 6 = .ok (.getfield 25, 3) := by decide +kernel
theorem d_Answers_has_9 : decode prog_2_method_2_code 9 = .ok (.if_icmp .ge 7, 3) := by decide +kernel
theorem d_Answers_has_12 : decode prog_2_method_2_code 12 = .ok (.iconst 1, 1) := by decide +kernel
theorem d_Answers_has_13 : decode prog_2_method_2_code 13 = .ok (.goto 4, 3) := by decide +kernel
theorem d_Answers_has_16 : decode prog_2_method_2_code 16 = .ok (.iconst 0, 1) := by decide +kernel
theorem d_Answers_has_17 : decode prog_2_method_2_code 17 = .ok (.ireturn, 1) := by decide +kernel
theorem d_Answers_place_0 : decode prog_2_method_3_code 0 = .ok (.iload_n 2, 1) := by decide +kernel
theorem d_Answers_place_1 : decode prog_2_method_3_code 1 = .ok (.ifCond .eq 12, 3) := by decide +kernel
theorem d_Answers_place_4 : decode prog_2_method_3_code 4 = .ok (.aload_n 0, 1) := by decide +kernel
theorem d_Answers_place_5 : decode prog_2_method_3_code 5 = .ok (.getfield 22, 3) := by decide +kernel
theorem d_Answers_place_8 : decode prog_2_method_3_code 8 = .ok (.iload_n 1, 1) := by decide +kernel
theorem d_Answers_place_9 : decode prog_2_method_3_code 9 = .ok (.iaload, 1) := by decide +kernel
theorem d_Answers_place_10 : decode prog_2_method_3_code 10 = .ok (.goto 4, 3) := by decide +kernel
theorem d_Answers_place_13 : decode prog_2_method_3_code 13 = .ok (.iload_n 1, 1) := by decide +kernel
theorem d_Answers_place_14 : decode prog_2_method_3_code 14 = .ok (.ireturn, 1) := by decide +kernel
theorem d_Shelf_score_0 : decode prog_1_method_18_code 0 = .ok (.aload_n 0, 1) := by decide +kernel
theorem d_Shelf_score_1 : decode prog_1_method_18_code 1 = .ok (.getfield 50, 3) := by decide +kernel
theorem d_Shelf_score_4 : decode prog_1_method_18_code 4 = .ok (.iload_n 1, 1) := by decide +kernel
theorem d_Shelf_score_5 : decode prog_1_method_18_code 5 = .ok (.invokevirtual 195, 3) := by decide +kernel
theorem d_Shelf_score_8 : decode prog_1_method_18_code 8 = .ok (.ifCond .ne 13, 3) := by decide +kernel
theorem d_Shelf_score_11 : decode prog_1_method_18_code 11 = .ok (.new 81, 3) := by decide +kernel
theorem d_Shelf_score_14 : decode prog_1_method_18_code 14 = .ok (.dup, 1) := by decide +kernel
theorem d_Shelf_score_15 : decode prog_1_method_18_code 15 = .ok (.ldc 198, 2) := by decide +kernel
theorem d_Shelf_score_17 : decode prog_1_method_18_code 17 = .ok (.invokespecial 85, 3) := by decide +kernel
theorem d_Shelf_score_20 : decode prog_1_method_18_code 20 = .ok (.athrow, 1) := by decide +kernel
theorem d_Shelf_score_21 : decode prog_1_method_18_code 21 = .ok (.aload_n 0, 1) := by decide +kernel
theorem d_Shelf_score_22 : decode prog_1_method_18_code 22 = .ok (.getfield 50, 3) := by decide +kernel
theorem d_Shelf_score_25 : decode prog_1_method_18_code 25 = .ok (.getfield 207, 3) := by decide +kernel
theorem d_Shelf_score_28 : decode prog_1_method_18_code 28 = .ok (.aload_n 0, 1) := by decide +kernel
theorem d_Shelf_score_29 : decode prog_1_method_18_code 29 = .ok (.getfield 50, 3) := by decide +kernel
theorem d_Shelf_score_32 : decode prog_1_method_18_code 32 = .ok (.iload_n 1, 1) := by decide +kernel
theorem d_Shelf_score_33 : decode prog_1_method_18_code 33 = .ok (.iload_n 2, 1) := by decide +kernel
theorem d_Shelf_score_34 : decode prog_1_method_18_code 34 = .ok (.invokevirtual 203, 3) := by decide +kernel
theorem d_Shelf_score_37 : decode prog_1_method_18_code 37 = .ok (.daload, 1) := by decide +kernel
theorem d_Shelf_score_38 : decode prog_1_method_18_code 38 = .ok (.dreturn, 1) := by decide +kernel
theorem d_Shelf_look_0 : decode prog_1_method_19_code 0 = .ok (.aload_n 0, 1) := by decide +kernel
theorem d_Shelf_look_1 : decode prog_1_method_19_code 1 = .ok (.getfield 26, 3) := by decide +kernel
theorem d_Shelf_look_4 : decode prog_1_method_19_code 4 = .ok (.iload_n 1, 1) := by decide +kernel
theorem d_Shelf_look_5 : decode prog_1_method_19_code 5 = .ok (.invokevirtual 115, 3) := by decide +kernel
theorem d_Shelf_look_8 : decode prog_1_method_19_code 8 = .ok (.astore_n 3, 1) := by decide +kernel
theorem d_Shelf_look_9 : decode prog_1_method_19_code 9 = .ok (.aload_n 3, 1) := by decide +kernel
theorem d_Shelf_look_10 : decode prog_1_method_19_code 10 = .ok (.ifnonnull 13, 3) := by decide +kernel
theorem d_Shelf_look_13 : decode prog_1_method_19_code 13 = .ok (.new 119, 3) := by decide +kernel
theorem d_Shelf_look_16 : decode prog_1_method_19_code 16 = .ok (.dup, 1) := by decide +kernel
theorem d_Shelf_look_17 : decode prog_1_method_19_code 17 = .ok (.ldc 121, 2) := by decide +kernel
theorem d_Shelf_look_19 : decode prog_1_method_19_code 19 = .ok (.invokespecial 123, 3) := by decide +kernel
theorem d_Shelf_look_22 : decode prog_1_method_19_code 22 = .ok (.athrow, 1) := by decide +kernel
theorem d_Shelf_look_23 : decode prog_1_method_19_code 23 = .ok (.iload_n 2, 1) := by decide +kernel
theorem d_Shelf_look_24 : decode prog_1_method_19_code 24 = .ok (.tableswitch 49 0 2 #[28, 36, 44], 28) := by decide +kernel
theorem d_Shelf_look_52 : decode prog_1_method_19_code 52 = .ok (.aload_n 3, 1) := by decide +kernel
theorem d_Shelf_look_53 : decode prog_1_method_19_code 53 = .ok (.getfield 211, 3) := by decide +kernel
theorem d_Shelf_look_56 : decode prog_1_method_19_code 56 = .ok (.getfield 102, 3) := by decide +kernel
theorem d_Shelf_look_59 : decode prog_1_method_19_code 59 = .ok (.ireturn, 1) := by decide +kernel
theorem d_Shelf_look_60 : decode prog_1_method_19_code 60 = .ok (.aload_n 3, 1) := by decide +kernel
theorem d_Shelf_look_61 : decode prog_1_method_19_code 61 = .ok (.getfield 215, 3) := by decide +kernel
theorem d_Shelf_look_64 : decode prog_1_method_19_code 64 = .ok (.getfield 102, 3) := by decide +kernel
theorem d_Shelf_look_67 : decode prog_1_method_19_code 67 = .ok (.ireturn, 1) := by decide +kernel
theorem d_Shelf_look_68 : decode prog_1_method_19_code 68 = .ok (.aload_n 3, 1) := by decide +kernel
theorem d_Shelf_look_69 : decode prog_1_method_19_code 69 = .ok (.getfield 218, 3) := by decide +kernel
theorem d_Shelf_look_72 : decode prog_1_method_19_code 72 = .ok (.ireturn, 1) := by decide +kernel
theorem d_Shelf_look_73 : decode prog_1_method_19_code 73 = .ok (.new 71, 3) := by decide +kernel
theorem d_Shelf_look_76 : decode prog_1_method_19_code 76 = .ok (.dup, 1) := by decide +kernel
theorem d_Shelf_look_77 : decode prog_1_method_19_code 77 = .ok (.ldc 221, 2) := by decide +kernel
theorem d_Shelf_look_79 : decode prog_1_method_19_code 79 = .ok (.invokespecial 75, 3) := by decide +kernel
theorem d_Shelf_look_82 : decode prog_1_method_19_code 82 = .ok (.athrow, 1) := by decide +kernel
theorem d_Shelf_segment_0 : decode prog_1_method_20_code 0 = .ok (.iload_n 1, 1) := by decide +kernel
theorem d_Shelf_segment_1 : decode prog_1_method_20_code 1 = .ok (.ifCond .lt 14, 3) := by decide +kernel
theorem d_Shelf_segment_4 : decode prog_1_method_20_code 4 = .ok (.iload_n 1, 1) := by decide +kernel
theorem d_Shelf_segment_5 : decode prog_1_method_20_code 5 = .ok (.aload_n 0, 1) := by decide +kernel
theorem d_Shelf_segment_6 : decode prog_1_method_20_code 6 = .ok (.getfield 26, 3) := by decide +kernel
theorem d_Shelf_segment_9 : decode prog_1_method_20_code 9 = .ok (.getfield 150, 3) := by decide +kernel
theorem d_Shelf_segment_12 : decode prog_1_method_20_code 12 = .ok (.if_icmp .lt 13, 3) := by decide +kernel
theorem d_Shelf_segment_15 : decode prog_1_method_20_code 15 = .ok (.new 81, 3) := by decide +kernel
theorem d_Shelf_segment_18 : decode prog_1_method_20_code 18 = .ok (.dup, 1) := by decide +kernel
theorem d_Shelf_segment_19 : decode prog_1_method_20_code 19 = .ok (.ldc 223, 2) := by decide +kernel
theorem d_Shelf_segment_21 : decode prog_1_method_20_code 21 = .ok (.invokespecial 85, 3) := by decide +kernel
theorem d_Shelf_segment_24 : decode prog_1_method_20_code 24 = .ok (.athrow, 1) := by decide +kernel
theorem d_Shelf_segment_25 : decode prog_1_method_20_code 25 = .ok (.aload_n 0, 1) := by decide +kernel
theorem d_Shelf_segment_26 : decode prog_1_method_20_code 26 = .ok (.getfield 26, 3) := by decide +kernel
theorem d_Shelf_segment_29 : decode prog_1_method_20_code 29 = .ok (.getfield 225, 3) := by decide +kernel
theorem d_Shelf_segment_32 : decode prog_1_method_20_code 32 = .ok (.iload_n 1, 1) := by decide +kernel
theorem d_Shelf_segment_33 : decode prog_1_method_20_code 33 = .ok (.aaload, 1) := by decide +kernel
theorem d_Shelf_segment_34 : decode prog_1_method_20_code 34 = .ok (.astore_n 3, 1) := by decide +kernel
theorem d_Shelf_segment_35 : decode prog_1_method_20_code 35 = .ok (.iload_n 2, 1) := by decide +kernel
theorem d_Shelf_segment_36 : decode prog_1_method_20_code 36 = .ok (.tableswitch 44 0 2 #[28, 33, 39], 28) := by decide +kernel
theorem d_Shelf_segment_64 : decode prog_1_method_20_code 64 = .ok (.aload_n 3, 1) := by decide +kernel
theorem d_Shelf_segment_65 : decode prog_1_method_20_code 65 = .ok (.getfield 229, 3) := by decide +kernel
theorem d_Shelf_segment_68 : decode prog_1_method_20_code 68 = .ok (.ireturn, 1) := by decide +kernel
theorem d_Shelf_segment_69 : decode prog_1_method_20_code 69 = .ok (.aload_n 3, 1) := by decide +kernel
theorem d_Shelf_segment_70 : decode prog_1_method_20_code 70 = .ok (.getfield 234, 3) := by decide +kernel
theorem d_Shelf_segment_73 : decode prog_1_method_20_code 73 = .ok (.arraylength, 1) := by decide +kernel
theorem d_Shelf_segment_74 : decode prog_1_method_20_code 74 = .ok (.ireturn, 1) := by decide +kernel
theorem d_Shelf_segment_75 : decode prog_1_method_20_code 75 = .ok (.aload_n 3, 1) := by decide +kernel
theorem d_Shelf_segment_76 : decode prog_1_method_20_code 76 = .ok (.getfield 238, 3) := by decide +kernel
theorem d_Shelf_segment_79 : decode prog_1_method_20_code 79 = .ok (.ireturn, 1) := by decide +kernel
theorem d_Shelf_segment_80 : decode prog_1_method_20_code 80 = .ok (.new 71, 3) := by decide +kernel
theorem d_Shelf_segment_83 : decode prog_1_method_20_code 83 = .ok (.dup, 1) := by decide +kernel
theorem d_Shelf_segment_84 : decode prog_1_method_20_code 84 = .ok (.ldc 239, 2) := by decide +kernel
theorem d_Shelf_segment_86 : decode prog_1_method_20_code 86 = .ok (.invokespecial 75, 3) := by decide +kernel
theorem d_Shelf_segment_89 : decode prog_1_method_20_code 89 = .ok (.athrow, 1) := by decide +kernel
theorem d_Shelf_count_0 : decode prog_1_method_21_code 0 = .ok (.iload_n 1, 1) := by decide +kernel
theorem d_Shelf_count_1 : decode prog_1_method_21_code 1 = .ok (.tableswitch 122 0 8 #[51, 59, 67, 75, 83, 91, 99, 104, 117], 51) := by decide +kernel
theorem d_Shelf_count_52 : decode prog_1_method_21_code 52 = .ok (.aload_n 0, 1) := by decide +kernel
theorem d_Shelf_count_53 : decode prog_1_method_21_code 53 = .ok (.getfield 26, 3) := by decide +kernel
theorem d_Shelf_count_56 : decode prog_1_method_21_code 56 = .ok (.invokevirtual 153, 3) := by decide +kernel
theorem d_Shelf_count_59 : decode prog_1_method_21_code 59 = .ok (.ireturn, 1) := by decide +kernel
theorem d_Shelf_count_60 : decode prog_1_method_21_code 60 = .ok (.aload_n 0, 1) := by decide +kernel
theorem d_Shelf_count_61 : decode prog_1_method_21_code 61 = .ok (.getfield 26, 3) := by decide +kernel
theorem d_Shelf_count_64 : decode prog_1_method_21_code 64 = .ok (.getfield 150, 3) := by decide +kernel
theorem d_Shelf_count_67 : decode prog_1_method_21_code 67 = .ok (.ireturn, 1) := by decide +kernel
theorem d_Shelf_count_68 : decode prog_1_method_21_code 68 = .ok (.aload_n 0, 1) := by decide +kernel
theorem d_Shelf_count_69 : decode prog_1_method_21_code 69 = .ok (.getfield 26, 3) := by decide +kernel
theorem d_Shelf_count_72 : decode prog_1_method_21_code 72 = .ok (.getfield 241, 3) := by decide +kernel
theorem d_Shelf_count_75 : decode prog_1_method_21_code 75 = .ok (.ireturn, 1) := by decide +kernel
theorem d_Shelf_count_76 : decode prog_1_method_21_code 76 = .ok (.aload_n 0, 1) := by decide +kernel
theorem d_Shelf_count_77 : decode prog_1_method_21_code 77 = .ok (.getfield 26, 3) := by decide +kernel
theorem d_Shelf_count_80 : decode prog_1_method_21_code 80 = .ok (.getfield 244, 3) := by decide +kernel
theorem d_Shelf_count_83 : decode prog_1_method_21_code 83 = .ok (.ireturn, 1) := by decide +kernel
theorem d_Shelf_count_84 : decode prog_1_method_21_code 84 = .ok (.aload_n 0, 1) := by decide +kernel
theorem d_Shelf_count_85 : decode prog_1_method_21_code 85 = .ok (.getfield 26, 3) := by decide +kernel
theorem d_Shelf_count_88 : decode prog_1_method_21_code 88 = .ok (.getfield 247, 3) := by decide +kernel
theorem d_Shelf_count_91 : decode prog_1_method_21_code 91 = .ok (.ireturn, 1) := by decide +kernel
theorem d_Shelf_count_92 : decode prog_1_method_21_code 92 = .ok (.aload_n 0, 1) := by decide +kernel
theorem d_Shelf_count_93 : decode prog_1_method_21_code 93 = .ok (.getfield 50, 3) := by decide +kernel
theorem d_Shelf_count_96 : decode prog_1_method_21_code 96 = .ok (.getfield 192, 3) := by decide +kernel
theorem d_Shelf_count_99 : decode prog_1_method_21_code 99 = .ok (.ireturn, 1) := by decide +kernel
theorem d_Shelf_count_100 : decode prog_1_method_21_code 100 = .ok (.aload_n 0, 1) := by decide +kernel
theorem d_Shelf_count_101 : decode prog_1_method_21_code 101 = .ok (.getfield 173, 3) := by decide +kernel
theorem d_Shelf_count_104 : decode prog_1_method_21_code 104 = .ok (.ireturn, 1) := by decide +kernel
theorem d_Shelf_count_105 : decode prog_1_method_21_code 105 = .ok (.aload_n 0, 1) := by decide +kernel
theorem d_Shelf_count_106 : decode prog_1_method_21_code 106 = .ok (.getfield 132, 3) := by decide +kernel
theorem d_Shelf_count_109 : decode prog_1_method_21_code 109 = .ok (.ifCond .eq 7, 3) := by decide +kernel
theorem d_Shelf_count_112 : decode prog_1_method_21_code 112 = .ok (.iconst 1, 1) := by decide +kernel
theorem d_Shelf_count_113 : decode prog_1_method_21_code 113 = .ok (.goto 4, 3) := by decide +kernel
theorem d_Shelf_count_116 : decode prog_1_method_21_code 116 = .ok (.iconst 0, 1) := by decide +kernel
theorem d_Shelf_count_117 : decode prog_1_method_21_code 117 = .ok (.ireturn, 1) := by decide +kernel
theorem d_Shelf_count_118 : decode prog_1_method_21_code 118 = .ok (.aload_n 0, 1) := by decide +kernel
theorem d_Shelf_count_119 : decode prog_1_method_21_code 119 = .ok (.getfield 78, 3) := by decide +kernel
theorem d_Shelf_count_122 : decode prog_1_method_21_code 122 = .ok (.ireturn, 1) := by decide +kernel
theorem d_Shelf_count_123 : decode prog_1_method_21_code 123 = .ok (.new 71, 3) := by decide +kernel
theorem d_Shelf_count_126 : decode prog_1_method_21_code 126 = .ok (.dup, 1) := by decide +kernel
theorem d_Shelf_count_127 : decode prog_1_method_21_code 127 = .ok (.ldc 250, 2) := by decide +kernel
theorem d_Shelf_count_129 : decode prog_1_method_21_code 129 = .ok (.invokespecial 75, 3) := by decide +kernel
theorem d_Shelf_count_132 : decode prog_1_method_21_code 132 = .ok (.athrow, 1) := by decide +kernel
