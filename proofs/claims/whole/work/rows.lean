section
-- ===== PART A: goes FIRST, ahead of the names: the tables' words, and 'selects' of the private methods out of them =====
/-- a private method of a class that the tables say can be made, by its rows of tables_1 -/
def lw_okq (q : MethodName × Nat) : Prop := (q.1.cls ≠ "java/lang/invoke/MethodHandle" ∧ q.1.cls ≠ "java/lang/invoke/VarHandle") ∧ Cond.instantiable q.1.cls q.2 ∈ tables_1 ∧ Cond.privateMethod q.1 ∈ tables_1 ∧ Cond.instanceMethod q.1 ∈ tables_1
theorem lw_p0 : lw_okq (⟨"PhraseShelf$Store", "gatherLive", "(LPhraseShelf$Version;)V"⟩, 10) := ⟨⟨by decide +kernel, by decide +kernel⟩, List.mem_of_getElem? (i := 38) (by decide +kernel), List.mem_of_getElem? (i := 330) (by decide +kernel), List.mem_of_getElem? (i := 331) (by decide +kernel)⟩
theorem lw_p1 : lw_okq (⟨"PhraseShelf$Store", "addSegment", "(I)V"⟩, 10) := ⟨⟨by decide +kernel, by decide +kernel⟩, List.mem_of_getElem? (i := 38) (by decide +kernel), List.mem_of_getElem? (i := 334) (by decide +kernel), List.mem_of_getElem? (i := 335) (by decide +kernel)⟩
theorem lw_p2 : lw_okq (⟨"PhraseShelf$Store", "segmentsOf", "(I)I"⟩, 10) := ⟨⟨by decide +kernel, by decide +kernel⟩, List.mem_of_getElem? (i := 38) (by decide +kernel), List.mem_of_getElem? (i := 359) (by decide +kernel), List.mem_of_getElem? (i := 360) (by decide +kernel)⟩
theorem lw_p3 : lw_okq (⟨"PhraseShelf$Store", "mergeLevels", "(III)V"⟩, 10) := ⟨⟨by decide +kernel, by decide +kernel⟩, List.mem_of_getElem? (i := 38) (by decide +kernel), List.mem_of_getElem? (i := 363) (by decide +kernel), List.mem_of_getElem? (i := 364) (by decide +kernel)⟩
theorem lw_p4 : lw_okq (⟨"PhraseShelf$Store", "gatherAllLive", "(LPhraseShelf$Segment;)V"⟩, 10) := ⟨⟨by decide +kernel, by decide +kernel⟩, List.mem_of_getElem? (i := 38) (by decide +kernel), List.mem_of_getElem? (i := 367) (by decide +kernel), List.mem_of_getElem? (i := 368) (by decide +kernel)⟩
theorem lw_p5 : lw_okq (⟨"java/lang/Throwable", "fillInStackTrace", "(I)Ljava/lang/Throwable;"⟩, 6) := ⟨⟨by decide +kernel, by decide +kernel⟩, List.mem_of_getElem? (i := 440) (by decide +kernel), List.mem_of_getElem? (i := 438) (by decide +kernel), List.mem_of_getElem? (i := 439) (by decide +kernel)⟩
theorem lw_p6 : lw_okq (⟨"PhraseShelf$Tokens", "addLetter", "(C)V"⟩, 3) := ⟨⟨by decide +kernel, by decide +kernel⟩, List.mem_of_getElem? (i := 92) (by decide +kernel), List.mem_of_getElem? (i := 505) (by decide +kernel), List.mem_of_getElem? (i := 506) (by decide +kernel)⟩
theorem lw_p7 : lw_okq (⟨"PhraseShelf", "giveTexts", "(I)I"⟩, 14) := ⟨⟨by decide +kernel, by decide +kernel⟩, List.mem_of_getElem? (i := 28) (by decide +kernel), List.mem_of_getElem? (i := 521) (by decide +kernel), List.mem_of_getElem? (i := 522) (by decide +kernel)⟩
theorem lw_p8 : lw_okq (⟨"PhraseShelf$Tokens", "isEarlier", "(I)Z"⟩, 3) := ⟨⟨by decide +kernel, by decide +kernel⟩, List.mem_of_getElem? (i := 92) (by decide +kernel), List.mem_of_getElem? (i := 533) (by decide +kernel), List.mem_of_getElem? (i := 534) (by decide +kernel)⟩
theorem lw_p9 : lw_okq (⟨"PhraseShelf$Parts", "blanksEnd", "(I)I"⟩, 5) := ⟨⟨by decide +kernel, by decide +kernel⟩, List.mem_of_getElem? (i := 116) (by decide +kernel), List.mem_of_getElem? (i := 693) (by decide +kernel), List.mem_of_getElem? (i := 694) (by decide +kernel)⟩
theorem lw_p10 : lw_okq (⟨"PhraseShelf$Parts", "readPart", "(I)V"⟩, 5) := ⟨⟨by decide +kernel, by decide +kernel⟩, List.mem_of_getElem? (i := 116) (by decide +kernel), List.mem_of_getElem? (i := 697) (by decide +kernel), List.mem_of_getElem? (i := 698) (by decide +kernel)⟩
theorem lw_p11 : lw_okq (⟨"PhraseShelf$Parts", "wordEnd", "(I)I"⟩, 5) := ⟨⟨by decide +kernel, by decide +kernel⟩, List.mem_of_getElem? (i := 116) (by decide +kernel), List.mem_of_getElem? (i := 702) (by decide +kernel), List.mem_of_getElem? (i := 703) (by decide +kernel)⟩
theorem lw_p12 : lw_okq (⟨"PhraseShelf$Parts", "wordKind", "(II)I"⟩, 5) := ⟨⟨by decide +kernel, by decide +kernel⟩, List.mem_of_getElem? (i := 116) (by decide +kernel), List.mem_of_getElem? (i := 706) (by decide +kernel), List.mem_of_getElem? (i := 707) (by decide +kernel)⟩
theorem lw_p13 : lw_okq (⟨"PhraseShelf$Parts", "isName", "(IILjava/lang/String;)Z"⟩, 5) := ⟨⟨by decide +kernel, by decide +kernel⟩, List.mem_of_getElem? (i := 116) (by decide +kernel), List.mem_of_getElem? (i := 711) (by decide +kernel), List.mem_of_getElem? (i := 712) (by decide +kernel)⟩
theorem lw_p14 : lw_okq (⟨"PhraseShelf$Parts", "quoteEnd", "(I)I"⟩, 5) := ⟨⟨by decide +kernel, by decide +kernel⟩, List.mem_of_getElem? (i := 116) (by decide +kernel), List.mem_of_getElem? (i := 766) (by decide +kernel), List.mem_of_getElem? (i := 767) (by decide +kernel)⟩
theorem lw_p15 : lw_okq (⟨"PhraseShelf$Question", "joined", "(III)LPhraseShelf$Node;"⟩, 9) := ⟨⟨by decide +kernel, by decide +kernel⟩, List.mem_of_getElem? (i := 86) (by decide +kernel), List.mem_of_getElem? (i := 828) (by decide +kernel), List.mem_of_getElem? (i := 829) (by decide +kernel)⟩
def lw_privs_1 : List (MethodName × Nat) := [(⟨"PhraseShelf$Store", "gatherLive", "(LPhraseShelf$Version;)V"⟩, 10), (⟨"PhraseShelf$Store", "addSegment", "(I)V"⟩, 10), (⟨"PhraseShelf$Store", "segmentsOf", "(I)I"⟩, 10), (⟨"PhraseShelf$Store", "mergeLevels", "(III)V"⟩, 10), (⟨"PhraseShelf$Store", "gatherAllLive", "(LPhraseShelf$Segment;)V"⟩, 10), (⟨"java/lang/Throwable", "fillInStackTrace", "(I)Ljava/lang/Throwable;"⟩, 6), (⟨"PhraseShelf$Tokens", "addLetter", "(C)V"⟩, 3), (⟨"PhraseShelf", "giveTexts", "(I)I"⟩, 14), (⟨"PhraseShelf$Tokens", "isEarlier", "(I)Z"⟩, 3), (⟨"PhraseShelf$Parts", "blanksEnd", "(I)I"⟩, 5), (⟨"PhraseShelf$Parts", "readPart", "(I)V"⟩, 5), (⟨"PhraseShelf$Parts", "wordEnd", "(I)I"⟩, 5), (⟨"PhraseShelf$Parts", "wordKind", "(II)I"⟩, 5), (⟨"PhraseShelf$Parts", "isName", "(IILjava/lang/String;)Z"⟩, 5), (⟨"PhraseShelf$Parts", "quoteEnd", "(I)I"⟩, 5), (⟨"PhraseShelf$Question", "joined", "(III)LPhraseShelf$Node;"⟩, 9)]
theorem lw_r1 : ∀ q ∈ lw_privs_1, lw_okq q := List.forall_mem_cons.mpr ⟨lw_p0, List.forall_mem_cons.mpr ⟨lw_p1, List.forall_mem_cons.mpr ⟨lw_p2, List.forall_mem_cons.mpr ⟨lw_p3, List.forall_mem_cons.mpr ⟨lw_p4, List.forall_mem_cons.mpr ⟨lw_p5, List.forall_mem_cons.mpr ⟨lw_p6, List.forall_mem_cons.mpr ⟨lw_p7, List.forall_mem_cons.mpr ⟨lw_p8, List.forall_mem_cons.mpr ⟨lw_p9, List.forall_mem_cons.mpr ⟨lw_p10, List.forall_mem_cons.mpr ⟨lw_p11, List.forall_mem_cons.mpr ⟨lw_p12, List.forall_mem_cons.mpr ⟨lw_p13, List.forall_mem_cons.mpr ⟨lw_p14, List.forall_mem_cons.mpr ⟨lw_p15, fun _ h => absurd h List.not_mem_nil⟩⟩⟩⟩⟩⟩⟩⟩⟩⟩⟩⟩⟩⟩⟩⟩
theorem lw_p16 : lw_okq (⟨"PhraseShelf$Question", "operand", "(III)LPhraseShelf$Node;"⟩, 9) := ⟨⟨by decide +kernel, by decide +kernel⟩, List.mem_of_getElem? (i := 86) (by decide +kernel), List.mem_of_getElem? (i := 832) (by decide +kernel), List.mem_of_getElem? (i := 833) (by decide +kernel)⟩
theorem lw_p17 : lw_okq (⟨"PhraseShelf$Question", "atom", "(II)LPhraseShelf$Node;"⟩, 9) := ⟨⟨by decide +kernel, by decide +kernel⟩, List.mem_of_getElem? (i := 86) (by decide +kernel), List.mem_of_getElem? (i := 836) (by decide +kernel), List.mem_of_getElem? (i := 837) (by decide +kernel)⟩
theorem lw_p18 : lw_okq (⟨"PhraseShelf$Question", "beginsDeeper", "()Z"⟩, 9) := ⟨⟨by decide +kernel, by decide +kernel⟩, List.mem_of_getElem? (i := 86) (by decide +kernel), List.mem_of_getElem? (i := 840) (by decide +kernel), List.mem_of_getElem? (i := 841) (by decide +kernel)⟩
theorem lw_p19 : lw_okq (⟨"PhraseShelf$Question", "kind", "()I"⟩, 9) := ⟨⟨by decide +kernel, by decide +kernel⟩, List.mem_of_getElem? (i := 86) (by decide +kernel), List.mem_of_getElem? (i := 844) (by decide +kernel), List.mem_of_getElem? (i := 845) (by decide +kernel)⟩
theorem lw_p20 : lw_okq (⟨"PhraseShelf$Question", "refuse", "()LPhraseShelf$Node;"⟩, 9) := ⟨⟨by decide +kernel, by decide +kernel⟩, List.mem_of_getElem? (i := 86) (by decide +kernel), List.mem_of_getElem? (i := 848) (by decide +kernel), List.mem_of_getElem? (i := 849) (by decide +kernel)⟩
theorem lw_p21 : lw_okq (⟨"PhraseShelf$Question", "deeper", "(II)LPhraseShelf$Node;"⟩, 9) := ⟨⟨by decide +kernel, by decide +kernel⟩, List.mem_of_getElem? (i := 86) (by decide +kernel), List.mem_of_getElem? (i := 852) (by decide +kernel), List.mem_of_getElem? (i := 853) (by decide +kernel)⟩
theorem lw_p22 : lw_okq (⟨"PhraseShelf$Question", "takes", "(I)Z"⟩, 9) := ⟨⟨by decide +kernel, by decide +kernel⟩, List.mem_of_getElem? (i := 86) (by decide +kernel), List.mem_of_getElem? (i := 856) (by decide +kernel), List.mem_of_getElem? (i := 857) (by decide +kernel)⟩
theorem lw_p23 : lw_okq (⟨"PhraseShelf$Question", "near", "(I)LPhraseShelf$Node;"⟩, 9) := ⟨⟨by decide +kernel, by decide +kernel⟩, List.mem_of_getElem? (i := 86) (by decide +kernel), List.mem_of_getElem? (i := 865) (by decide +kernel), List.mem_of_getElem? (i := 866) (by decide +kernel)⟩
theorem lw_p24 : lw_okq (⟨"PhraseShelf$Question", "readPhrase", "()Z"⟩, 9) := ⟨⟨by decide +kernel, by decide +kernel⟩, List.mem_of_getElem? (i := 86) (by decide +kernel), List.mem_of_getElem? (i := 869) (by decide +kernel), List.mem_of_getElem? (i := 870) (by decide +kernel)⟩
theorem lw_p25 : lw_okq (⟨"PhraseShelf$Question", "readString", "()Z"⟩, 9) := ⟨⟨by decide +kernel, by decide +kernel⟩, List.mem_of_getElem? (i := 86) (by decide +kernel), List.mem_of_getElem? (i := 873) (by decide +kernel), List.mem_of_getElem? (i := 874) (by decide +kernel)⟩
theorem lw_p26 : lw_okq (⟨"PhraseShelf$Question", "beginsString", "()Z"⟩, 9) := ⟨⟨by decide +kernel, by decide +kernel⟩, List.mem_of_getElem? (i := 86) (by decide +kernel), List.mem_of_getElem? (i := 877) (by decide +kernel), List.mem_of_getElem? (i := 878) (by decide +kernel)⟩
theorem lw_p27 : lw_okq (⟨"PhraseShelf$Question", "group", "(IIII)LPhraseShelf$Node;"⟩, 9) := ⟨⟨by decide +kernel, by decide +kernel⟩, List.mem_of_getElem? (i := 86) (by decide +kernel), List.mem_of_getElem? (i := 886) (by decide +kernel), List.mem_of_getElem? (i := 887) (by decide +kernel)⟩
theorem lw_p28 : lw_okq (⟨"PhraseShelf$Question", "newNode", "(I)LPhraseShelf$Node;"⟩, 9) := ⟨⟨by decide +kernel, by decide +kernel⟩, List.mem_of_getElem? (i := 86) (by decide +kernel), List.mem_of_getElem? (i := 890) (by decide +kernel), List.mem_of_getElem? (i := 891) (by decide +kernel)⟩
theorem lw_p29 : lw_okq (⟨"PhraseShelf$Question", "single", "(I)LPhraseShelf$Node;"⟩, 9) := ⟨⟨by decide +kernel, by decide +kernel⟩, List.mem_of_getElem? (i := 86) (by decide +kernel), List.mem_of_getElem? (i := 894) (by decide +kernel), List.mem_of_getElem? (i := 895) (by decide +kernel)⟩
theorem lw_p30 : lw_okq (⟨"PhraseShelf$Question", "goesOn", "(I)Z"⟩, 9) := ⟨⟨by decide +kernel, by decide +kernel⟩, List.mem_of_getElem? (i := 86) (by decide +kernel), List.mem_of_getElem? (i := 898) (by decide +kernel), List.mem_of_getElem? (i := 899) (by decide +kernel)⟩
theorem lw_p31 : lw_okq (⟨"PhraseShelf$Question", "beginsAtom", "()Z"⟩, 9) := ⟨⟨by decide +kernel, by decide +kernel⟩, List.mem_of_getElem? (i := 86) (by decide +kernel), List.mem_of_getElem? (i := 902) (by decide +kernel), List.mem_of_getElem? (i := 903) (by decide +kernel)⟩
def lw_privs_2 : List (MethodName × Nat) := [(⟨"PhraseShelf$Question", "operand", "(III)LPhraseShelf$Node;"⟩, 9), (⟨"PhraseShelf$Question", "atom", "(II)LPhraseShelf$Node;"⟩, 9), (⟨"PhraseShelf$Question", "beginsDeeper", "()Z"⟩, 9), (⟨"PhraseShelf$Question", "kind", "()I"⟩, 9), (⟨"PhraseShelf$Question", "refuse", "()LPhraseShelf$Node;"⟩, 9), (⟨"PhraseShelf$Question", "deeper", "(II)LPhraseShelf$Node;"⟩, 9), (⟨"PhraseShelf$Question", "takes", "(I)Z"⟩, 9), (⟨"PhraseShelf$Question", "near", "(I)LPhraseShelf$Node;"⟩, 9), (⟨"PhraseShelf$Question", "readPhrase", "()Z"⟩, 9), (⟨"PhraseShelf$Question", "readString", "()Z"⟩, 9), (⟨"PhraseShelf$Question", "beginsString", "()Z"⟩, 9), (⟨"PhraseShelf$Question", "group", "(IIII)LPhraseShelf$Node;"⟩, 9), (⟨"PhraseShelf$Question", "newNode", "(I)LPhraseShelf$Node;"⟩, 9), (⟨"PhraseShelf$Question", "single", "(I)LPhraseShelf$Node;"⟩, 9), (⟨"PhraseShelf$Question", "goesOn", "(I)Z"⟩, 9), (⟨"PhraseShelf$Question", "beginsAtom", "()Z"⟩, 9)]
theorem lw_r2 : ∀ q ∈ lw_privs_2, lw_okq q := List.forall_mem_cons.mpr ⟨lw_p16, List.forall_mem_cons.mpr ⟨lw_p17, List.forall_mem_cons.mpr ⟨lw_p18, List.forall_mem_cons.mpr ⟨lw_p19, List.forall_mem_cons.mpr ⟨lw_p20, List.forall_mem_cons.mpr ⟨lw_p21, List.forall_mem_cons.mpr ⟨lw_p22, List.forall_mem_cons.mpr ⟨lw_p23, List.forall_mem_cons.mpr ⟨lw_p24, List.forall_mem_cons.mpr ⟨lw_p25, List.forall_mem_cons.mpr ⟨lw_p26, List.forall_mem_cons.mpr ⟨lw_p27, List.forall_mem_cons.mpr ⟨lw_p28, List.forall_mem_cons.mpr ⟨lw_p29, List.forall_mem_cons.mpr ⟨lw_p30, List.forall_mem_cons.mpr ⟨lw_p31, fun _ h => absurd h List.not_mem_nil⟩⟩⟩⟩⟩⟩⟩⟩⟩⟩⟩⟩⟩⟩⟩⟩
theorem lw_p32 : lw_okq (⟨"PhraseShelf$Question", "join", "(ILPhraseShelf$Node;LPhraseShelf$Node;)LPhraseShelf$Node;"⟩, 9) := ⟨⟨by decide +kernel, by decide +kernel⟩, List.mem_of_getElem? (i := 86) (by decide +kernel), List.mem_of_getElem? (i := 906) (by decide +kernel), List.mem_of_getElem? (i := 907) (by decide +kernel)⟩
theorem lw_p33 : lw_okq (⟨"PhraseShelf$Standing", "placesIn", "(LPhraseShelf$Phrase;LPhraseShelf$Tokens;)I"⟩, 2) := ⟨⟨by decide +kernel, by decide +kernel⟩, List.mem_of_getElem? (i := 235) (by decide +kernel), List.mem_of_getElem? (i := 920) (by decide +kernel), List.mem_of_getElem? (i := 921) (by decide +kernel)⟩
theorem lw_p34 : lw_okq (⟨"PhraseShelf$Standing", "standsAt", "(LPhraseShelf$Phrase;LPhraseShelf$Tokens;I)Z"⟩, 2) := ⟨⟨by decide +kernel, by decide +kernel⟩, List.mem_of_getElem? (i := 235) (by decide +kernel), List.mem_of_getElem? (i := 924) (by decide +kernel), List.mem_of_getElem? (i := 925) (by decide +kernel)⟩
theorem lw_p35 : lw_okq (⟨"PhraseShelf$Standing", "rowsOfGroup", "(LPhraseShelf$Node;)I"⟩, 2) := ⟨⟨by decide +kernel, by decide +kernel⟩, List.mem_of_getElem? (i := 235) (by decide +kernel), List.mem_of_getElem? (i := 936) (by decide +kernel), List.mem_of_getElem? (i := 937) (by decide +kernel)⟩
theorem lw_p36 : lw_okq (⟨"PhraseShelf$Standing", "holds", "(LPhraseShelf$Node;II)Z"⟩, 2) := ⟨⟨by decide +kernel, by decide +kernel⟩, List.mem_of_getElem? (i := 235) (by decide +kernel), List.mem_of_getElem? (i := 940) (by decide +kernel), List.mem_of_getElem? (i := 941) (by decide +kernel)⟩
theorem lw_p37 : lw_okq (⟨"PhraseShelf$Standing", "areNear", "(LPhraseShelf$Node;II)Z"⟩, 2) := ⟨⟨by decide +kernel, by decide +kernel⟩, List.mem_of_getElem? (i := 235) (by decide +kernel), List.mem_of_getElem? (i := 948) (by decide +kernel), List.mem_of_getElem? (i := 949) (by decide +kernel)⟩
theorem lw_p38 : lw_okq (⟨"PhraseShelf$Standing", "allReach", "(LPhraseShelf$Node;III)Z"⟩, 2) := ⟨⟨by decide +kernel, by decide +kernel⟩, List.mem_of_getElem? (i := 235) (by decide +kernel), List.mem_of_getElem? (i := 952) (by decide +kernel), List.mem_of_getElem? (i := 953) (by decide +kernel)⟩
theorem lw_p39 : lw_okq (⟨"PhraseShelf$Answers", "addPhrase", "(LPhraseShelf$Standing;I[IDD)V"⟩, 5) := ⟨⟨by decide +kernel, by decide +kernel⟩, List.mem_of_getElem? (i := 248) (by decide +kernel), List.mem_of_getElem? (i := 997) (by decide +kernel), List.mem_of_getElem? (i := 998) (by decide +kernel)⟩
theorem lw_p40 : lw_okq (⟨"PhraseShelf$Answers", "sort", "()V"⟩, 5) := ⟨⟨by decide +kernel, by decide +kernel⟩, List.mem_of_getElem? (i := 248) (by decide +kernel), List.mem_of_getElem? (i := 1011) (by decide +kernel), List.mem_of_getElem? (i := 1012) (by decide +kernel)⟩
theorem lw_p41 : lw_okq (⟨"PhraseShelfModel", "fails", "(ZI)Z"⟩, 62) := ⟨⟨by decide +kernel, by decide +kernel⟩, List.mem_of_getElem? (i := 1063) (by decide +kernel), List.mem_of_getElem? (i := 1269) (by decide +kernel), List.mem_of_getElem? (i := 1270) (by decide +kernel)⟩
theorem lw_p42 : lw_okq (⟨"PhraseShelfModel", "gets", "(I)I"⟩, 62) := ⟨⟨by decide +kernel, by decide +kernel⟩, List.mem_of_getElem? (i := 1063) (by decide +kernel), List.mem_of_getElem? (i := 1288) (by decide +kernel), List.mem_of_getElem? (i := 1289) (by decide +kernel)⟩
theorem lw_p43 : lw_okq (⟨"PhraseShelfModel", "entriesOf", "(I)I"⟩, 62) := ⟨⟨by decide +kernel, by decide +kernel⟩, List.mem_of_getElem? (i := 1063) (by decide +kernel), List.mem_of_getElem? (i := 1292) (by decide +kernel), List.mem_of_getElem? (i := 1293) (by decide +kernel)⟩
theorem lw_p44 : lw_okq (⟨"PhraseShelfModel", "opens", "(II)V"⟩, 62) := ⟨⟨by decide +kernel, by decide +kernel⟩, List.mem_of_getElem? (i := 1063) (by decide +kernel), List.mem_of_getElem? (i := 1296) (by decide +kernel), List.mem_of_getElem? (i := 1297) (by decide +kernel)⟩
theorem lw_p45 : lw_okq (⟨"PhraseShelfModel", "alike", "(II)Z"⟩, 62) := ⟨⟨by decide +kernel, by decide +kernel⟩, List.mem_of_getElem? (i := 1063) (by decide +kernel), List.mem_of_getElem? (i := 1300) (by decide +kernel), List.mem_of_getElem? (i := 1301) (by decide +kernel)⟩
theorem lw_p46 : lw_okq (⟨"PhraseShelfModel", "pending", "()I"⟩, 62) := ⟨⟨by decide +kernel, by decide +kernel⟩, List.mem_of_getElem? (i := 1063) (by decide +kernel), List.mem_of_getElem? (i := 1307) (by decide +kernel), List.mem_of_getElem? (i := 1308) (by decide +kernel)⟩
theorem lw_p47 : lw_okq (⟨"PhraseShelfModel", "flushes", "()V"⟩, 62) := ⟨⟨by decide +kernel, by decide +kernel⟩, List.mem_of_getElem? (i := 1063) (by decide +kernel), List.mem_of_getElem? (i := 1311) (by decide +kernel), List.mem_of_getElem? (i := 1312) (by decide +kernel)⟩
def lw_privs_3 : List (MethodName × Nat) := [(⟨"PhraseShelf$Question", "join", "(ILPhraseShelf$Node;LPhraseShelf$Node;)LPhraseShelf$Node;"⟩, 9), (⟨"PhraseShelf$Standing", "placesIn", "(LPhraseShelf$Phrase;LPhraseShelf$Tokens;)I"⟩, 2), (⟨"PhraseShelf$Standing", "standsAt", "(LPhraseShelf$Phrase;LPhraseShelf$Tokens;I)Z"⟩, 2), (⟨"PhraseShelf$Standing", "rowsOfGroup", "(LPhraseShelf$Node;)I"⟩, 2), (⟨"PhraseShelf$Standing", "holds", "(LPhraseShelf$Node;II)Z"⟩, 2), (⟨"PhraseShelf$Standing", "areNear", "(LPhraseShelf$Node;II)Z"⟩, 2), (⟨"PhraseShelf$Standing", "allReach", "(LPhraseShelf$Node;III)Z"⟩, 2), (⟨"PhraseShelf$Answers", "addPhrase", "(LPhraseShelf$Standing;I[IDD)V"⟩, 5), (⟨"PhraseShelf$Answers", "sort", "()V"⟩, 5), (⟨"PhraseShelfModel", "fails", "(ZI)Z"⟩, 62), (⟨"PhraseShelfModel", "gets", "(I)I"⟩, 62), (⟨"PhraseShelfModel", "entriesOf", "(I)I"⟩, 62), (⟨"PhraseShelfModel", "opens", "(II)V"⟩, 62), (⟨"PhraseShelfModel", "alike", "(II)Z"⟩, 62), (⟨"PhraseShelfModel", "pending", "()I"⟩, 62), (⟨"PhraseShelfModel", "flushes", "()V"⟩, 62)]
theorem lw_r3 : ∀ q ∈ lw_privs_3, lw_okq q := List.forall_mem_cons.mpr ⟨lw_p32, List.forall_mem_cons.mpr ⟨lw_p33, List.forall_mem_cons.mpr ⟨lw_p34, List.forall_mem_cons.mpr ⟨lw_p35, List.forall_mem_cons.mpr ⟨lw_p36, List.forall_mem_cons.mpr ⟨lw_p37, List.forall_mem_cons.mpr ⟨lw_p38, List.forall_mem_cons.mpr ⟨lw_p39, List.forall_mem_cons.mpr ⟨lw_p40, List.forall_mem_cons.mpr ⟨lw_p41, List.forall_mem_cons.mpr ⟨lw_p42, List.forall_mem_cons.mpr ⟨lw_p43, List.forall_mem_cons.mpr ⟨lw_p44, List.forall_mem_cons.mpr ⟨lw_p45, List.forall_mem_cons.mpr ⟨lw_p46, List.forall_mem_cons.mpr ⟨lw_p47, fun _ h => absurd h List.not_mem_nil⟩⟩⟩⟩⟩⟩⟩⟩⟩⟩⟩⟩⟩⟩⟩⟩
theorem lw_p48 : lw_okq (⟨"PhraseShelfModel", "gathers", "(II)V"⟩, 62) := ⟨⟨by decide +kernel, by decide +kernel⟩, List.mem_of_getElem? (i := 1063) (by decide +kernel), List.mem_of_getElem? (i := 1315) (by decide +kernel), List.mem_of_getElem? (i := 1316) (by decide +kernel)⟩
theorem lw_p49 : lw_okq (⟨"PhraseShelfModel", "isLive", "(I)Z"⟩, 62) := ⟨⟨by decide +kernel, by decide +kernel⟩, List.mem_of_getElem? (i := 1063) (by decide +kernel), List.mem_of_getElem? (i := 1319) (by decide +kernel), List.mem_of_getElem? (i := 1320) (by decide +kernel)⟩
theorem lw_p50 : lw_okq (⟨"PhraseShelfModel", "has", "(I)Z"⟩, 62) := ⟨⟨by decide +kernel, by decide +kernel⟩, List.mem_of_getElem? (i := 1063) (by decide +kernel), List.mem_of_getElem? (i := 1327) (by decide +kernel), List.mem_of_getElem? (i := 1328) (by decide +kernel)⟩
theorem lw_p51 : lw_okq (⟨"PhraseShelfModel", "tokensOf", "(I)I"⟩, 62) := ⟨⟨by decide +kernel, by decide +kernel⟩, List.mem_of_getElem? (i := 1063) (by decide +kernel), List.mem_of_getElem? (i := 1335) (by decide +kernel), List.mem_of_getElem? (i := 1336) (by decide +kernel)⟩
theorem lw_p52 : lw_okq (⟨"PhraseShelfModel", "rows", "()I"⟩, 62) := ⟨⟨by decide +kernel, by decide +kernel⟩, List.mem_of_getElem? (i := 1063) (by decide +kernel), List.mem_of_getElem? (i := 1359) (by decide +kernel), List.mem_of_getElem? (i := 1360) (by decide +kernel)⟩
theorem lw_p53 : lw_okq (⟨"PhraseShelfModel", "reads", "()V"⟩, 62) := ⟨⟨by decide +kernel, by decide +kernel⟩, List.mem_of_getElem? (i := 1063) (by decide +kernel), List.mem_of_getElem? (i := 1375) (by decide +kernel), List.mem_of_getElem? (i := 1376) (by decide +kernel)⟩
theorem lw_p54 : lw_okq (⟨"PhraseShelfModel", "part", "()V"⟩, 62) := ⟨⟨by decide +kernel, by decide +kernel⟩, List.mem_of_getElem? (i := 1063) (by decide +kernel), List.mem_of_getElem? (i := 1379) (by decide +kernel), List.mem_of_getElem? (i := 1380) (by decide +kernel)⟩
theorem lw_p55 : lw_okq (⟨"PhraseShelfModel", "q", "(I)I"⟩, 62) := ⟨⟨by decide +kernel, by decide +kernel⟩, List.mem_of_getElem? (i := 1063) (by decide +kernel), List.mem_of_getElem? (i := 1383) (by decide +kernel), List.mem_of_getElem? (i := 1384) (by decide +kernel)⟩
theorem lw_p56 : lw_okq (⟨"PhraseShelfModel", "spells", "(IIII)Z"⟩, 62) := ⟨⟨by decide +kernel, by decide +kernel⟩, List.mem_of_getElem? (i := 1063) (by decide +kernel), List.mem_of_getElem? (i := 1387) (by decide +kernel), List.mem_of_getElem? (i := 1388) (by decide +kernel)⟩
theorem lw_p57 : lw_okq (⟨"PhraseShelfModel", "follows", "()V"⟩, 62) := ⟨⟨by decide +kernel, by decide +kernel⟩, List.mem_of_getElem? (i := 1063) (by decide +kernel), List.mem_of_getElem? (i := 1391) (by decide +kernel), List.mem_of_getElem? (i := 1392) (by decide +kernel)⟩
theorem lw_p58 : lw_okq (⟨"PhraseShelfModel", "reduces", "(I)V"⟩, 62) := ⟨⟨by decide +kernel, by decide +kernel⟩, List.mem_of_getElem? (i := 1063) (by decide +kernel), List.mem_of_getElem? (i := 1395) (by decide +kernel), List.mem_of_getElem? (i := 1396) (by decide +kernel)⟩
theorem lw_p59 : lw_okq (⟨"PhraseShelfModel", "wrongs", "(ZI)V"⟩, 62) := ⟨⟨by decide +kernel, by decide +kernel⟩, List.mem_of_getElem? (i := 1063) (by decide +kernel), List.mem_of_getElem? (i := 1399) (by decide +kernel), List.mem_of_getElem? (i := 1400) (by decide +kernel)⟩
theorem lw_p60 : lw_okq (⟨"PhraseShelfModel", "closesFilters", "()V"⟩, 62) := ⟨⟨by decide +kernel, by decide +kernel⟩, List.mem_of_getElem? (i := 1063) (by decide +kernel), List.mem_of_getElem? (i := 1403) (by decide +kernel), List.mem_of_getElem? (i := 1404) (by decide +kernel)⟩
theorem lw_p61 : lw_okq (⟨"PhraseShelfModel", "next", "()V"⟩, 62) := ⟨⟨by decide +kernel, by decide +kernel⟩, List.mem_of_getElem? (i := 1063) (by decide +kernel), List.mem_of_getElem? (i := 1407) (by decide +kernel), List.mem_of_getElem? (i := 1408) (by decide +kernel)⟩
theorem lw_p62 : lw_okq (⟨"PhraseShelfModel", "joins", "(I)V"⟩, 62) := ⟨⟨by decide +kernel, by decide +kernel⟩, List.mem_of_getElem? (i := 1063) (by decide +kernel), List.mem_of_getElem? (i := 1411) (by decide +kernel), List.mem_of_getElem? (i := 1412) (by decide +kernel)⟩
theorem lw_p63 : lw_okq (⟨"PhraseShelfModel", "pushes", "(I)V"⟩, 62) := ⟨⟨by decide +kernel, by decide +kernel⟩, List.mem_of_getElem? (i := 1063) (by decide +kernel), List.mem_of_getElem? (i := 1415) (by decide +kernel), List.mem_of_getElem? (i := 1416) (by decide +kernel)⟩
def lw_privs_4 : List (MethodName × Nat) := [(⟨"PhraseShelfModel", "gathers", "(II)V"⟩, 62), (⟨"PhraseShelfModel", "isLive", "(I)Z"⟩, 62), (⟨"PhraseShelfModel", "has", "(I)Z"⟩, 62), (⟨"PhraseShelfModel", "tokensOf", "(I)I"⟩, 62), (⟨"PhraseShelfModel", "rows", "()I"⟩, 62), (⟨"PhraseShelfModel", "reads", "()V"⟩, 62), (⟨"PhraseShelfModel", "part", "()V"⟩, 62), (⟨"PhraseShelfModel", "q", "(I)I"⟩, 62), (⟨"PhraseShelfModel", "spells", "(IIII)Z"⟩, 62), (⟨"PhraseShelfModel", "follows", "()V"⟩, 62), (⟨"PhraseShelfModel", "reduces", "(I)V"⟩, 62), (⟨"PhraseShelfModel", "wrongs", "(ZI)V"⟩, 62), (⟨"PhraseShelfModel", "closesFilters", "()V"⟩, 62), (⟨"PhraseShelfModel", "next", "()V"⟩, 62), (⟨"PhraseShelfModel", "joins", "(I)V"⟩, 62), (⟨"PhraseShelfModel", "pushes", "(I)V"⟩, 62)]
theorem lw_r4 : ∀ q ∈ lw_privs_4, lw_okq q := List.forall_mem_cons.mpr ⟨lw_p48, List.forall_mem_cons.mpr ⟨lw_p49, List.forall_mem_cons.mpr ⟨lw_p50, List.forall_mem_cons.mpr ⟨lw_p51, List.forall_mem_cons.mpr ⟨lw_p52, List.forall_mem_cons.mpr ⟨lw_p53, List.forall_mem_cons.mpr ⟨lw_p54, List.forall_mem_cons.mpr ⟨lw_p55, List.forall_mem_cons.mpr ⟨lw_p56, List.forall_mem_cons.mpr ⟨lw_p57, List.forall_mem_cons.mpr ⟨lw_p58, List.forall_mem_cons.mpr ⟨lw_p59, List.forall_mem_cons.mpr ⟨lw_p60, List.forall_mem_cons.mpr ⟨lw_p61, List.forall_mem_cons.mpr ⟨lw_p62, List.forall_mem_cons.mpr ⟨lw_p63, fun _ h => absurd h List.not_mem_nil⟩⟩⟩⟩⟩⟩⟩⟩⟩⟩⟩⟩⟩⟩⟩⟩
theorem lw_p64 : lw_okq (⟨"PhraseShelfModel", "atom", "()V"⟩, 62) := ⟨⟨by decide +kernel, by decide +kernel⟩, List.mem_of_getElem? (i := 1063) (by decide +kernel), List.mem_of_getElem? (i := 1419) (by decide +kernel), List.mem_of_getElem? (i := 1420) (by decide +kernel)⟩
theorem lw_p65 : lw_okq (⟨"PhraseShelfModel", "depth", "()I"⟩, 62) := ⟨⟨by decide +kernel, by decide +kernel⟩, List.mem_of_getElem? (i := 1063) (by decide +kernel), List.mem_of_getElem? (i := 1423) (by decide +kernel), List.mem_of_getElem? (i := 1424) (by decide +kernel)⟩
theorem lw_p66 : lw_okq (⟨"PhraseShelfModel", "isFilter", "()Z"⟩, 62) := ⟨⟨by decide +kernel, by decide +kernel⟩, List.mem_of_getElem? (i := 1063) (by decide +kernel), List.mem_of_getElem? (i := 1427) (by decide +kernel), List.mem_of_getElem? (i := 1428) (by decide +kernel)⟩
theorem lw_p67 : lw_okq (⟨"PhraseShelfModel", "filter", "()V"⟩, 62) := ⟨⟨by decide +kernel, by decide +kernel⟩, List.mem_of_getElem? (i := 1063) (by decide +kernel), List.mem_of_getElem? (i := 1431) (by decide +kernel), List.mem_of_getElem? (i := 1432) (by decide +kernel)⟩
theorem lw_p68 : lw_okq (⟨"PhraseShelfModel", "isString", "()Z"⟩, 62) := ⟨⟨by decide +kernel, by decide +kernel⟩, List.mem_of_getElem? (i := 1063) (by decide +kernel), List.mem_of_getElem? (i := 1435) (by decide +kernel), List.mem_of_getElem? (i := 1436) (by decide +kernel)⟩
theorem lw_p69 : lw_okq (⟨"PhraseShelfModel", "group", "()V"⟩, 62) := ⟨⟨by decide +kernel, by decide +kernel⟩, List.mem_of_getElem? (i := 1063) (by decide +kernel), List.mem_of_getElem? (i := 1439) (by decide +kernel), List.mem_of_getElem? (i := 1440) (by decide +kernel)⟩
theorem lw_p70 : lw_okq (⟨"PhraseShelfModel", "near", "()V"⟩, 62) := ⟨⟨by decide +kernel, by decide +kernel⟩, List.mem_of_getElem? (i := 1063) (by decide +kernel), List.mem_of_getElem? (i := 1443) (by decide +kernel), List.mem_of_getElem? (i := 1444) (by decide +kernel)⟩
theorem lw_p71 : lw_okq (⟨"PhraseShelfModel", "phrase", "()V"⟩, 62) := ⟨⟨by decide +kernel, by decide +kernel⟩, List.mem_of_getElem? (i := 1063) (by decide +kernel), List.mem_of_getElem? (i := 1447) (by decide +kernel), List.mem_of_getElem? (i := 1448) (by decide +kernel)⟩
theorem lw_p72 : lw_okq (⟨"PhraseShelfModel", "takeTokens", "()V"⟩, 62) := ⟨⟨by decide +kernel, by decide +kernel⟩, List.mem_of_getElem? (i := 1063) (by decide +kernel), List.mem_of_getElem? (i := 1451) (by decide +kernel), List.mem_of_getElem? (i := 1452) (by decide +kernel)⟩
theorem lw_p73 : lw_okq (⟨"PhraseShelfModel", "finds", "(I)Z"⟩, 62) := ⟨⟨by decide +kernel, by decide +kernel⟩, List.mem_of_getElem? (i := 1063) (by decide +kernel), List.mem_of_getElem? (i := 1455) (by decide +kernel), List.mem_of_getElem? (i := 1456) (by decide +kernel)⟩
theorem lw_p74 : lw_okq (⟨"PhraseShelfModel", "holds", "(II)Z"⟩, 62) := ⟨⟨by decide +kernel, by decide +kernel⟩, List.mem_of_getElem? (i := 1063) (by decide +kernel), List.mem_of_getElem? (i := 1459) (by decide +kernel), List.mem_of_getElem? (i := 1460) (by decide +kernel)⟩
theorem lw_p75 : lw_okq (⟨"PhraseShelfModel", "holdsHere", "(I)Z"⟩, 62) := ⟨⟨by decide +kernel, by decide +kernel⟩, List.mem_of_getElem? (i := 1063) (by decide +kernel), List.mem_of_getElem? (i := 1463) (by decide +kernel), List.mem_of_getElem? (i := 1464) (by decide +kernel)⟩
theorem lw_p76 : lw_okq (⟨"PhraseShelfModel", "stands", "(II)Z"⟩, 62) := ⟨⟨by decide +kernel, by decide +kernel⟩, List.mem_of_getElem? (i := 1063) (by decide +kernel), List.mem_of_getElem? (i := 1467) (by decide +kernel), List.mem_of_getElem? (i := 1468) (by decide +kernel)⟩
theorem lw_p77 : lw_okq (⟨"PhraseShelfModel", "length", "(I)I"⟩, 62) := ⟨⟨by decide +kernel, by decide +kernel⟩, List.mem_of_getElem? (i := 1063) (by decide +kernel), List.mem_of_getElem? (i := 1471) (by decide +kernel), List.mem_of_getElem? (i := 1472) (by decide +kernel)⟩
theorem lw_p78 : lw_okq (⟨"PhraseShelfModel", "matches", "(IIZ)Z"⟩, 62) := ⟨⟨by decide +kernel, by decide +kernel⟩, List.mem_of_getElem? (i := 1063) (by decide +kernel), List.mem_of_getElem? (i := 1475) (by decide +kernel), List.mem_of_getElem? (i := 1476) (by decide +kernel)⟩
theorem lw_p79 : lw_okq (⟨"PhraseShelfModel", "standsBetween", "(III)Z"⟩, 62) := ⟨⟨by decide +kernel, by decide +kernel⟩, List.mem_of_getElem? (i := 1063) (by decide +kernel), List.mem_of_getElem? (i := 1479) (by decide +kernel), List.mem_of_getElem? (i := 1480) (by decide +kernel)⟩
def lw_privs_5 : List (MethodName × Nat) := [(⟨"PhraseShelfModel", "atom", "()V"⟩, 62), (⟨"PhraseShelfModel", "depth", "()I"⟩, 62), (⟨"PhraseShelfModel", "isFilter", "()Z"⟩, 62), (⟨"PhraseShelfModel", "filter", "()V"⟩, 62), (⟨"PhraseShelfModel", "isString", "()Z"⟩, 62), (⟨"PhraseShelfModel", "group", "()V"⟩, 62), (⟨"PhraseShelfModel", "near", "()V"⟩, 62), (⟨"PhraseShelfModel", "phrase", "()V"⟩, 62), (⟨"PhraseShelfModel", "takeTokens", "()V"⟩, 62), (⟨"PhraseShelfModel", "finds", "(I)Z"⟩, 62), (⟨"PhraseShelfModel", "holds", "(II)Z"⟩, 62), (⟨"PhraseShelfModel", "holdsHere", "(I)Z"⟩, 62), (⟨"PhraseShelfModel", "stands", "(II)Z"⟩, 62), (⟨"PhraseShelfModel", "length", "(I)I"⟩, 62), (⟨"PhraseShelfModel", "matches", "(IIZ)Z"⟩, 62), (⟨"PhraseShelfModel", "standsBetween", "(III)Z"⟩, 62)]
theorem lw_r5 : ∀ q ∈ lw_privs_5, lw_okq q := List.forall_mem_cons.mpr ⟨lw_p64, List.forall_mem_cons.mpr ⟨lw_p65, List.forall_mem_cons.mpr ⟨lw_p66, List.forall_mem_cons.mpr ⟨lw_p67, List.forall_mem_cons.mpr ⟨lw_p68, List.forall_mem_cons.mpr ⟨lw_p69, List.forall_mem_cons.mpr ⟨lw_p70, List.forall_mem_cons.mpr ⟨lw_p71, List.forall_mem_cons.mpr ⟨lw_p72, List.forall_mem_cons.mpr ⟨lw_p73, List.forall_mem_cons.mpr ⟨lw_p74, List.forall_mem_cons.mpr ⟨lw_p75, List.forall_mem_cons.mpr ⟨lw_p76, List.forall_mem_cons.mpr ⟨lw_p77, List.forall_mem_cons.mpr ⟨lw_p78, List.forall_mem_cons.mpr ⟨lw_p79, fun _ h => absurd h List.not_mem_nil⟩⟩⟩⟩⟩⟩⟩⟩⟩⟩⟩⟩⟩⟩⟩⟩
theorem lw_p80 : lw_okq (⟨"PhraseShelfModel", "scoreOf", "(I)D"⟩, 62) := ⟨⟨by decide +kernel, by decide +kernel⟩, List.mem_of_getElem? (i := 1063) (by decide +kernel), List.mem_of_getElem? (i := 1483) (by decide +kernel), List.mem_of_getElem? (i := 1484) (by decide +kernel)⟩
theorem lw_p81 : lw_okq (⟨"PhraseShelfModel", "countIn", "(III)I"⟩, 62) := ⟨⟨by decide +kernel, by decide +kernel⟩, List.mem_of_getElem? (i := 1063) (by decide +kernel), List.mem_of_getElem? (i := 1487) (by decide +kernel), List.mem_of_getElem? (i := 1488) (by decide +kernel)⟩
theorem lw_p82 : lw_okq (⟨"PhraseShelfModel", "clean", "(I)I"⟩, 62) := ⟨⟨by decide +kernel, by decide +kernel⟩, List.mem_of_getElem? (i := 1063) (by decide +kernel), List.mem_of_getElem? (i := 1507) (by decide +kernel), List.mem_of_getElem? (i := 1508) (by decide +kernel)⟩
def lw_privs_6 : List (MethodName × Nat) := [(⟨"PhraseShelfModel", "scoreOf", "(I)D"⟩, 62), (⟨"PhraseShelfModel", "countIn", "(III)I"⟩, 62), (⟨"PhraseShelfModel", "clean", "(I)I"⟩, 62)]
theorem lw_r6 : ∀ q ∈ lw_privs_6, lw_okq q := List.forall_mem_cons.mpr ⟨lw_p80, List.forall_mem_cons.mpr ⟨lw_p81, List.forall_mem_cons.mpr ⟨lw_p82, fun _ h => absurd h List.not_mem_nil⟩⟩⟩
def lw_privs : List (MethodName × Nat) := lw_privs_1 ++ (lw_privs_2 ++ (lw_privs_3 ++ (lw_privs_4 ++ (lw_privs_5 ++ (lw_privs_6)))))
def lw_tbl : List Cond := k2_sels lw_privs ++ tables_1
theorem lw_privs_ok : ∀ q ∈ lw_privs, lw_okq q := by
  show ∀ q ∈ lw_privs_1 ++ (lw_privs_2 ++ (lw_privs_3 ++ (lw_privs_4 ++ (lw_privs_5 ++ (lw_privs_6))))), lw_okq q
  exact List.forall_mem_append.mpr ⟨lw_r1, List.forall_mem_append.mpr ⟨lw_r2, List.forall_mem_append.mpr ⟨lw_r3, List.forall_mem_append.mpr ⟨lw_r4, List.forall_mem_append.mpr ⟨lw_r5, lw_r6⟩⟩⟩⟩⟩
end
section
/-! classes, fields, methods: by program (wip/tools) -/
abbrev xw_G : Type := Launch × va_G × Nat × (Nat → Nat) × (Nat → Nat)
def xw_tbl : List Cond := lw_tbl.filter goodWord
theorem xw_in {w : Cond} (i : Nat) (h : lw_tbl[i]? = some w) (g : goodWord w = true) : w ∈ xw_tbl := List.mem_filter.mpr ⟨List.mem_of_getElem? h, g⟩
theorem xw_good : ∀ w ∈ xw_tbl, (w.onTables && w.keeps) = true ∨ ∃ ty, w = .arrayClass ty := fun w h => good_of_word (List.mem_filter.mp h).2
theorem xw_tbl_lw : ∀ w ∈ xw_tbl, w ∈ lw_tbl := fun w h => (List.mem_filter.mp h).1
def T_Shelf : u_T := fun k => match k with
  | 0 => ("PhraseShelf", "draft", "[C", true)
  | 1 => ("PhraseShelf", "texts", "[LPhraseShelf$Tokens;", true)
  | 2 => ("PhraseShelf", "weights", "[I", true)
  | 3 => ("PhraseShelf", "store", "LPhraseShelf$Store;", true)
  | 4 => ("PhraseShelf", "saved", "LPhraseShelf$Store;", true)
  | 5 => ("PhraseShelf", "question", "LPhraseShelf$Question;", true)
  | 6 => ("PhraseShelf", "standing", "LPhraseShelf$Standing;", true)
  | 7 => ("PhraseShelf", "answers", "LPhraseShelf$Answers;", true)
  | 8 => ("PhraseShelf", "draftLength", "I", false)
  | 9 => ("PhraseShelf", "most", "I", false)
  | 10 => ("PhraseShelf", "limit", "I", false)
  | 11 => ("PhraseShelf", "open", "Z", false)
  | 12 => ("PhraseShelf", "wrongPlace", "I", false)
  | _ => ("PhraseShelf", "goodPhrases", "I", false)
def ty_Shelf : Nat → FieldType := fun k => match k with
  | 0 => (.array .char)
  | 1 => (.array (.object "PhraseShelf$Tokens"))
  | 2 => (.array .int)
  | 3 => (.object "PhraseShelf$Store")
  | 4 => (.object "PhraseShelf$Store")
  | 5 => (.object "PhraseShelf$Question")
  | 6 => (.object "PhraseShelf$Standing")
  | 7 => (.object "PhraseShelf$Answers")
  | 8 => .int
  | 9 => .int
  | 10 => .int
  | 11 => .boolean
  | 12 => .int
  | _ => .int
def T_Answers : u_T := fun k => match k with
  | 0 => ("PhraseShelf$Answers", "rows", "[I", true)
  | 1 => ("PhraseShelf$Answers", "scores", "[D", true)
  | 2 => ("PhraseShelf$Answers", "size", "I", false)
  | 3 => ("PhraseShelf$Answers", "lengths", "[I", true)
  | _ => ("PhraseShelf$Answers", "order", "[I", true)
def ty_Answers : Nat → FieldType := fun k => match k with
  | 0 => (.array .int)
  | 1 => (.array .double)
  | 2 => .int
  | 3 => (.array .int)
  | _ => (.array .int)
def T_Node : u_T := fun k => match k with
  | 0 => ("PhraseShelf$Node", "kind", "I", false)
  | 1 => ("PhraseShelf$Node", "left", "LPhraseShelf$Node;", false)
  | 2 => ("PhraseShelf$Node", "right", "LPhraseShelf$Node;", false)
  | 3 => ("PhraseShelf$Node", "firstPhrase", "I", false)
  | 4 => ("PhraseShelf$Node", "phraseEnd", "I", false)
  | 5 => ("PhraseShelf$Node", "reach", "I", false)
  | 6 => ("PhraseShelf$Node", "columns", "I", false)
  | 7 => ("PhraseShelf$Node", "places", "I", false)
  | _ => ("PhraseShelf$Node", "rows", "I", false)
def ty_Node : Nat → FieldType := fun k => match k with
  | 0 => .int
  | 1 => (.object "PhraseShelf$Node")
  | 2 => (.object "PhraseShelf$Node")
  | 3 => .int
  | 4 => .int
  | 5 => .int
  | 6 => .int
  | 7 => .int
  | _ => .int
def T_Parts : u_T := fun k => match k with
  | 0 => ("PhraseShelf$Parts", "kinds", "[I", true)
  | 1 => ("PhraseShelf$Parts", "starts", "[I", true)
  | 2 => ("PhraseShelf$Parts", "ends", "[I", true)
  | 3 => ("PhraseShelf$Parts", "letters", "[C", false)
  | _ => ("PhraseShelf$Parts", "length", "I", false)
def ty_Parts : Nat → FieldType := fun k => match k with
  | 0 => (.array .int)
  | 1 => (.array .int)
  | 2 => (.array .int)
  | 3 => (.array .char)
  | _ => .int
def T_Phrase : u_T := fun k => match k with
  | 0 => ("PhraseShelf$Phrase", "first", "I", false)
  | 1 => ("PhraseShelf$Phrase", "size", "I", false)
  | _ => ("PhraseShelf$Phrase", "beginning", "Z", false)
def ty_Phrase : Nat → FieldType := fun k => match k with
  | 0 => .int
  | 1 => .int
  | _ => .boolean
def T_Question : u_T := fun k => match k with
  | 0 => ("PhraseShelf$Question", "tokens", "LPhraseShelf$Tokens;", true)
  | 1 => ("PhraseShelf$Question", "phrases", "[LPhraseShelf$Phrase;", true)
  | 2 => ("PhraseShelf$Question", "nodes", "[LPhraseShelf$Node;", true)
  | 3 => ("PhraseShelf$Question", "phraseCount", "I", false)
  | 4 => ("PhraseShelf$Question", "nodeCount", "I", false)
  | 5 => ("PhraseShelf$Question", "wrongPlace", "I", false)
  | 6 => ("PhraseShelf$Question", "parts", "LPhraseShelf$Parts;", true)
  | 7 => ("PhraseShelf$Question", "letters", "[C", false)
  | _ => ("PhraseShelf$Question", "at", "I", false)
def ty_Question : Nat → FieldType := fun k => match k with
  | 0 => (.object "PhraseShelf$Tokens")
  | 1 => (.array (.object "PhraseShelf$Phrase"))
  | 2 => (.array (.object "PhraseShelf$Node"))
  | 3 => .int
  | 4 => .int
  | 5 => .int
  | 6 => (.object "PhraseShelf$Parts")
  | 7 => (.array .char)
  | _ => .int
def T_Segment : u_T := fun k => match k with
  | 0 => ("PhraseShelf$Segment", "level", "I", true)
  | 1 => ("PhraseShelf$Segment", "versions", "[LPhraseShelf$Version;", true)
  | _ => ("PhraseShelf$Segment", "entries", "I", true)
def ty_Segment : Nat → FieldType := fun k => match k with
  | 0 => .int
  | 1 => (.array (.object "PhraseShelf$Version"))
  | _ => .int
def T_Standing : u_T := fun k => match k with
  | 0 => ("PhraseShelf$Standing", "places", "[I", true)
  | _ => ("PhraseShelf$Standing", "question", "LPhraseShelf$Question;", false)
def ty_Standing : Nat → FieldType := fun k => match k with
  | 0 => (.array .int)
  | _ => (.object "PhraseShelf$Question")
def T_Store : u_T := fun k => match k with
  | 0 => ("PhraseShelf$Store", "rows", "[LPhraseShelf$Version;", true)
  | 1 => ("PhraseShelf$Store", "pending", "[LPhraseShelf$Version;", true)
  | 2 => ("PhraseShelf$Store", "segments", "[LPhraseShelf$Segment;", true)
  | 3 => ("PhraseShelf$Store", "live", "[LPhraseShelf$Version;", true)
  | 4 => ("PhraseShelf$Store", "pendingCount", "I", false)
  | 5 => ("PhraseShelf$Store", "pendingEntries", "I", false)
  | 6 => ("PhraseShelf$Store", "segmentCount", "I", false)
  | 7 => ("PhraseShelf$Store", "versionsMade", "I", false)
  | 8 => ("PhraseShelf$Store", "segmentsMade", "I", false)
  | _ => ("PhraseShelf$Store", "liveCount", "I", false)
def ty_Store : Nat → FieldType := fun k => match k with
  | 0 => (.array (.object "PhraseShelf$Version"))
  | 1 => (.array (.object "PhraseShelf$Version"))
  | 2 => (.array (.object "PhraseShelf$Segment"))
  | 3 => (.array (.object "PhraseShelf$Version"))
  | 4 => .int
  | 5 => .int
  | 6 => .int
  | 7 => .int
  | 8 => .int
  | _ => .int
def T_Tokens : u_T := fun k => match k with
  | 0 => ("PhraseShelf$Tokens", "letters", "[C", true)
  | 1 => ("PhraseShelf$Tokens", "starts", "[I", true)
  | _ => ("PhraseShelf$Tokens", "count", "I", false)
def ty_Tokens : Nat → FieldType := fun k => match k with
  | 0 => (.array .char)
  | 1 => (.array .int)
  | _ => .int
def T_Version : u_T := fun k => match k with
  | 0 => ("PhraseShelf$Version", "number", "I", true)
  | 1 => ("PhraseShelf$Version", "row", "I", true)
  | 2 => ("PhraseShelf$Version", "first", "LPhraseShelf$Tokens;", true)
  | 3 => ("PhraseShelf$Version", "second", "LPhraseShelf$Tokens;", true)
  | _ => ("PhraseShelf$Version", "entries", "I", true)
def ty_Version : Nat → FieldType := fun k => match k with
  | 0 => .int
  | 1 => .int
  | 2 => (.object "PhraseShelf$Tokens")
  | 3 => (.object "PhraseShelf$Tokens")
  | _ => .int
def T_Model : u_T := fun k => match k with
  | 0 => ("PhraseShelfModel", "err", "I", false)
  | 1 => ("PhraseShelfModel", "most", "I", false)
  | 2 => ("PhraseShelfModel", "limit", "I", false)
  | 3 => ("PhraseShelfModel", "draft", "[I", true)
  | 4 => ("PhraseShelfModel", "asked", "[I", true)
  | 5 => ("PhraseShelfModel", "prepared", "[I", true)
  | 6 => ("PhraseShelfModel", "preparedSize", "[I", true)
  | 7 => ("PhraseShelfModel", "texts", "[I", true)
  | 8 => ("PhraseShelfModel", "sizes", "[I", true)
  | 9 => ("PhraseShelfModel", "weights", "[I", true)
  | 10 => ("PhraseShelfModel", "drafted", "I", false)
  | 11 => ("PhraseShelfModel", "askedSize", "I", false)
  | 12 => ("PhraseShelfModel", "entries", "[I", true)
  | 13 => ("PhraseShelfModel", "lies", "[I", true)
  | 14 => ("PhraseShelfModel", "live", "[I", true)
  | 15 => ("PhraseShelfModel", "versions", "I", false)
  | 16 => ("PhraseShelfModel", "made", "I", false)
  | 17 => ("PhraseShelfModel", "row", "[I", true)
  | 18 => ("PhraseShelfModel", "level", "[I", true)
  | 19 => ("PhraseShelfModel", "segments", "I", false)
  | 20 => ("PhraseShelfModel", "open", "Z", false)
  | 21 => ("PhraseShelfModel", "oldTexts", "[I", true)
  | 22 => ("PhraseShelfModel", "oldSizes", "[I", true)
  | 23 => ("PhraseShelfModel", "oldLies", "[I", true)
  | 24 => ("PhraseShelfModel", "oldLive", "[I", true)
  | 25 => ("PhraseShelfModel", "oldRow", "[I", true)
  | 26 => ("PhraseShelfModel", "oldVersions", "I", false)
  | 27 => ("PhraseShelfModel", "oldSegments", "I", false)
  | 28 => ("PhraseShelfModel", "at", "I", false)
  | 29 => ("PhraseShelfModel", "kind", "I", false)
  | 30 => ("PhraseShelfModel", "from", "I", false)
  | 31 => ("PhraseShelfModel", "to", "I", false)
  | 32 => ("PhraseShelfModel", "wrongAt", "I", false)
  | 33 => ("PhraseShelfModel", "bad", "I", false)
  | 34 => ("PhraseShelfModel", "phrases", "I", false)
  | 35 => ("PhraseShelfModel", "tokens", "I", false)
  | 36 => ("PhraseShelfModel", "groups", "I", false)
  | 37 => ("PhraseShelfModel", "outs", "I", false)
  | 38 => ("PhraseShelfModel", "tops", "I", false)
  | 39 => ("PhraseShelfModel", "mask", "I", false)
  | 40 => ("PhraseShelfModel", "good", "I", false)
  | 41 => ("PhraseShelfModel", "firstToken", "[I", true)
  | 42 => ("PhraseShelfModel", "starred", "[I", true)
  | 43 => ("PhraseShelfModel", "tokenAt", "[I", true)
  | 44 => ("PhraseShelfModel", "tokenSize", "[I", true)
  | 45 => ("PhraseShelfModel", "groupKind", "[I", true)
  | 46 => ("PhraseShelfModel", "groupPhrase", "[I", true)
  | 47 => ("PhraseShelfModel", "groupSize", "[I", true)
  | 48 => ("PhraseShelfModel", "groupMask", "[I", true)
  | 49 => ("PhraseShelfModel", "groupFar", "[I", true)
  | 50 => ("PhraseShelfModel", "out", "[I", true)
  | 51 => ("PhraseShelfModel", "top", "[I", true)
  | 52 => ("PhraseShelfModel", "masks", "[I", true)
  | 53 => ("PhraseShelfModel", "begins", "[I", true)
  | 54 => ("PhraseShelfModel", "lasts", "[I", true)
  | 55 => ("PhraseShelfModel", "column", "I", false)
  | 56 => ("PhraseShelfModel", "found", "I", false)
  | 57 => ("PhraseShelfModel", "truth", "[Z", true)
  | 58 => ("PhraseShelfModel", "answers", "[I", true)
  | 59 => ("PhraseShelfModel", "order", "[I", true)
  | 60 => ("PhraseShelfModel", "scores", "[D", true)
  | _ => ("PhraseShelfModel", "behind", "Z", false)
def ty_Model : Nat → FieldType := fun k => match k with
  | 0 => .int
  | 1 => .int
  | 2 => .int
  | 3 => (.array .int)
  | 4 => (.array .int)
  | 5 => (.array .int)
  | 6 => (.array .int)
  | 7 => (.array .int)
  | 8 => (.array .int)
  | 9 => (.array .int)
  | 10 => .int
  | 11 => .int
  | 12 => (.array .int)
  | 13 => (.array .int)
  | 14 => (.array .int)
  | 15 => .int
  | 16 => .int
  | 17 => (.array .int)
  | 18 => (.array .int)
  | 19 => .int
  | 20 => .boolean
  | 21 => (.array .int)
  | 22 => (.array .int)
  | 23 => (.array .int)
  | 24 => (.array .int)
  | 25 => (.array .int)
  | 26 => .int
  | 27 => .int
  | 28 => .int
  | 29 => .int
  | 30 => .int
  | 31 => .int
  | 32 => .int
  | 33 => .int
  | 34 => .int
  | 35 => .int
  | 36 => .int
  | 37 => .int
  | 38 => .int
  | 39 => .int
  | 40 => .int
  | 41 => (.array .int)
  | 42 => (.array .int)
  | 43 => (.array .int)
  | 44 => (.array .int)
  | 45 => (.array .int)
  | 46 => (.array .int)
  | 47 => (.array .int)
  | 48 => (.array .int)
  | 49 => (.array .int)
  | 50 => (.array .int)
  | 51 => (.array .int)
  | 52 => (.array .int)
  | 53 => (.array .int)
  | 54 => (.array .int)
  | 55 => .int
  | 56 => .int
  | 57 => (.array .boolean)
  | 58 => (.array .int)
  | 59 => (.array .int)
  | 60 => (.array .double)
  | _ => .boolean
abbrev vwCl : List vw_C := [("PhraseShelf", T_Shelf, 14), ("PhraseShelf$Answers", T_Answers, 5), ("PhraseShelf$Node", T_Node, 9), ("PhraseShelf$Parts", T_Parts, 5), ("PhraseShelf$Phrase", T_Phrase, 3), ("PhraseShelf$Question", T_Question, 9), ("PhraseShelf$Segment", T_Segment, 3), ("PhraseShelf$Standing", T_Standing, 2), ("PhraseShelf$Store", T_Store, 10), ("PhraseShelf$Tokens", T_Tokens, 3), ("PhraseShelf$Version", T_Version, 5), ("PhraseShelfModel", T_Model, 62)]
def xw_fty (ci : Nat) : Nat → FieldType := match ci with
  | 0 => ty_Shelf
  | 1 => ty_Answers
  | 2 => ty_Node
  | 3 => ty_Parts
  | 4 => ty_Phrase
  | 5 => ty_Question
  | 6 => ty_Segment
  | 7 => ty_Standing
  | 8 => ty_Store
  | 9 => ty_Tokens
  | 10 => ty_Version
  | _ => ty_Model
theorem nm_Shelf : ∀ a, a < 14 → ∀ b, b < 14 → a ≠ b → (T_Shelf a).2.1 ≠ (T_Shelf b).2.1 := by decide +kernel
theorem ty_Shelf_ok : ∀ k, k < 14 → parseFieldDescriptor (T_Shelf k).2.2.1 = some (ty_Shelf k) := by decide +kernel
theorem ly_Shelf : ∀ w ∈ u_ws "PhraseShelf" T_Shelf 14, w ∈ xw_tbl := by
  intro w hw
  have h : ∀ k, k < 14 → lw_tbl[([371, 373, 375, 377, 379, 381, 383, 385, 387, 389, 391, 393, 395, 397] : List Nat).getD k 0]? = some (u_lay "PhraseShelf" T_Shelf k) ∧ goodWord (u_lay "PhraseShelf" T_Shelf k) = true := by decide +kernel
  obtain ⟨k, hk, rfl⟩ := List.mem_map.mp hw
  obtain ⟨h1, h2⟩ := h k (List.mem_range.mp hk)
  exact xw_in _ h1 h2
theorem nm_Answers : ∀ a, a < 5 → ∀ b, b < 5 → a ≠ b → (T_Answers a).2.1 ≠ (T_Answers b).2.1 := by decide +kernel
theorem ty_Answers_ok : ∀ k, k < 5 → parseFieldDescriptor (T_Answers k).2.2.1 = some (ty_Answers k) := by decide +kernel
theorem ly_Answers : ∀ w ∈ u_ws "PhraseShelf$Answers" T_Answers 5, w ∈ xw_tbl := by
  intro w hw
  have h : ∀ k, k < 5 → lw_tbl[([344, 346, 348, 350, 352] : List Nat).getD k 0]? = some (u_lay "PhraseShelf$Answers" T_Answers k) ∧ goodWord (u_lay "PhraseShelf$Answers" T_Answers k) = true := by decide +kernel
  obtain ⟨k, hk, rfl⟩ := List.mem_map.mp hw
  obtain ⟨h1, h2⟩ := h k (List.mem_range.mp hk)
  exact xw_in _ h1 h2
theorem nm_Node : ∀ a, a < 9 → ∀ b, b < 9 → a ≠ b → (T_Node a).2.1 ≠ (T_Node b).2.1 := by decide +kernel
theorem ty_Node_ok : ∀ k, k < 9 → parseFieldDescriptor (T_Node k).2.2.1 = some (ty_Node k) := by decide +kernel
theorem ly_Node : ∀ w ∈ u_ws "PhraseShelf$Node" T_Node 9, w ∈ xw_tbl := by
  intro w hw
  have h : ∀ k, k < 9 → lw_tbl[([263, 265, 267, 269, 271, 273, 275, 277, 279] : List Nat).getD k 0]? = some (u_lay "PhraseShelf$Node" T_Node k) ∧ goodWord (u_lay "PhraseShelf$Node" T_Node k) = true := by decide +kernel
  obtain ⟨k, hk, rfl⟩ := List.mem_map.mp hw
  obtain ⟨h1, h2⟩ := h k (List.mem_range.mp hk)
  exact xw_in _ h1 h2
theorem nm_Parts : ∀ a, a < 5 → ∀ b, b < 5 → a ≠ b → (T_Parts a).2.1 ≠ (T_Parts b).2.1 := by decide +kernel
theorem ty_Parts_ok : ∀ k, k < 5 → parseFieldDescriptor (T_Parts k).2.2.1 = some (ty_Parts k) := by decide +kernel
theorem ly_Parts : ∀ w ∈ u_ws "PhraseShelf$Parts" T_Parts 5, w ∈ xw_tbl := by
  intro w hw
  have h : ∀ k, k < 5 → lw_tbl[([212, 214, 216, 218, 220] : List Nat).getD k 0]? = some (u_lay "PhraseShelf$Parts" T_Parts k) ∧ goodWord (u_lay "PhraseShelf$Parts" T_Parts k) = true := by decide +kernel
  obtain ⟨k, hk, rfl⟩ := List.mem_map.mp hw
  obtain ⟨h1, h2⟩ := h k (List.mem_range.mp hk)
  exact xw_in _ h1 h2
theorem nm_Phrase : ∀ a, a < 3 → ∀ b, b < 3 → a ≠ b → (T_Phrase a).2.1 ≠ (T_Phrase b).2.1 := by decide +kernel
theorem ty_Phrase_ok : ∀ k, k < 3 → parseFieldDescriptor (T_Phrase k).2.2.1 = some (ty_Phrase k) := by decide +kernel
theorem ly_Phrase : ∀ w ∈ u_ws "PhraseShelf$Phrase" T_Phrase 3, w ∈ xw_tbl := by
  intro w hw
  have h : ∀ k, k < 3 → lw_tbl[([234, 236, 238] : List Nat).getD k 0]? = some (u_lay "PhraseShelf$Phrase" T_Phrase k) ∧ goodWord (u_lay "PhraseShelf$Phrase" T_Phrase k) = true := by decide +kernel
  obtain ⟨k, hk, rfl⟩ := List.mem_map.mp hw
  obtain ⟨h1, h2⟩ := h k (List.mem_range.mp hk)
  exact xw_in _ h1 h2
theorem nm_Question : ∀ a, a < 9 → ∀ b, b < 9 → a ≠ b → (T_Question a).2.1 ≠ (T_Question b).2.1 := by decide +kernel
theorem ty_Question_ok : ∀ k, k < 9 → parseFieldDescriptor (T_Question k).2.2.1 = some (ty_Question k) := by decide +kernel
theorem ly_Question : ∀ w ∈ u_ws "PhraseShelf$Question" T_Question 9, w ∈ xw_tbl := by
  intro w hw
  have h : ∀ k, k < 9 → lw_tbl[([298, 300, 302, 304, 306, 308, 310, 312, 314] : List Nat).getD k 0]? = some (u_lay "PhraseShelf$Question" T_Question k) ∧ goodWord (u_lay "PhraseShelf$Question" T_Question k) = true := by decide +kernel
  obtain ⟨k, hk, rfl⟩ := List.mem_map.mp hw
  obtain ⟨h1, h2⟩ := h k (List.mem_range.mp hk)
  exact xw_in _ h1 h2
theorem nm_Segment : ∀ a, a < 3 → ∀ b, b < 3 → a ≠ b → (T_Segment a).2.1 ≠ (T_Segment b).2.1 := by decide +kernel
theorem ty_Segment_ok : ∀ k, k < 3 → parseFieldDescriptor (T_Segment k).2.2.1 = some (ty_Segment k) := by decide +kernel
theorem ly_Segment : ∀ w ∈ u_ws "PhraseShelf$Segment" T_Segment 3, w ∈ xw_tbl := by
  intro w hw
  have h : ∀ k, k < 3 → lw_tbl[([434, 436, 438] : List Nat).getD k 0]? = some (u_lay "PhraseShelf$Segment" T_Segment k) ∧ goodWord (u_lay "PhraseShelf$Segment" T_Segment k) = true := by decide +kernel
  obtain ⟨k, hk, rfl⟩ := List.mem_map.mp hw
  obtain ⟨h1, h2⟩ := h k (List.mem_range.mp hk)
  exact xw_in _ h1 h2
theorem nm_Standing : ∀ a, a < 2 → ∀ b, b < 2 → a ≠ b → (T_Standing a).2.1 ≠ (T_Standing b).2.1 := by decide +kernel
theorem ty_Standing_ok : ∀ k, k < 2 → parseFieldDescriptor (T_Standing k).2.2.1 = some (ty_Standing k) := by decide +kernel
theorem ly_Standing : ∀ w ∈ u_ws "PhraseShelf$Standing" T_Standing 2, w ∈ xw_tbl := by
  intro w hw
  have h : ∀ k, k < 2 → lw_tbl[([325, 327] : List Nat).getD k 0]? = some (u_lay "PhraseShelf$Standing" T_Standing k) ∧ goodWord (u_lay "PhraseShelf$Standing" T_Standing k) = true := by decide +kernel
  obtain ⟨k, hk, rfl⟩ := List.mem_map.mp hw
  obtain ⟨h1, h2⟩ := h k (List.mem_range.mp hk)
  exact xw_in _ h1 h2
theorem nm_Store : ∀ a, a < 10 → ∀ b, b < 10 → a ≠ b → (T_Store a).2.1 ≠ (T_Store b).2.1 := by decide +kernel
theorem ty_Store_ok : ∀ k, k < 10 → parseFieldDescriptor (T_Store k).2.2.1 = some (ty_Store k) := by decide +kernel
theorem ly_Store : ∀ w ∈ u_ws "PhraseShelf$Store" T_Store 10, w ∈ xw_tbl := by
  intro w hw
  have h : ∀ k, k < 10 → lw_tbl[([145, 147, 149, 151, 153, 155, 157, 159, 161, 163] : List Nat).getD k 0]? = some (u_lay "PhraseShelf$Store" T_Store k) ∧ goodWord (u_lay "PhraseShelf$Store" T_Store k) = true := by decide +kernel
  obtain ⟨k, hk, rfl⟩ := List.mem_map.mp hw
  obtain ⟨h1, h2⟩ := h k (List.mem_range.mp hk)
  exact xw_in _ h1 h2
theorem nm_Tokens : ∀ a, a < 3 → ∀ b, b < 3 → a ≠ b → (T_Tokens a).2.1 ≠ (T_Tokens b).2.1 := by decide +kernel
theorem ty_Tokens_ok : ∀ k, k < 3 → parseFieldDescriptor (T_Tokens k).2.2.1 = some (ty_Tokens k) := by decide +kernel
theorem ly_Tokens : ∀ w ∈ u_ws "PhraseShelf$Tokens" T_Tokens 3, w ∈ xw_tbl := by
  intro w hw
  have h : ∀ k, k < 3 → lw_tbl[([187, 189, 191] : List Nat).getD k 0]? = some (u_lay "PhraseShelf$Tokens" T_Tokens k) ∧ goodWord (u_lay "PhraseShelf$Tokens" T_Tokens k) = true := by decide +kernel
  obtain ⟨k, hk, rfl⟩ := List.mem_map.mp hw
  obtain ⟨h1, h2⟩ := h k (List.mem_range.mp hk)
  exact xw_in _ h1 h2
theorem nm_Version : ∀ a, a < 5 → ∀ b, b < 5 → a ≠ b → (T_Version a).2.1 ≠ (T_Version b).2.1 := by decide +kernel
theorem ty_Version_ok : ∀ k, k < 5 → parseFieldDescriptor (T_Version k).2.2.1 = some (ty_Version k) := by decide +kernel
theorem ly_Version : ∀ w ∈ u_ws "PhraseShelf$Version" T_Version 5, w ∈ xw_tbl := by
  intro w hw
  have h : ∀ k, k < 5 → lw_tbl[([643, 645, 647, 649, 651] : List Nat).getD k 0]? = some (u_lay "PhraseShelf$Version" T_Version k) ∧ goodWord (u_lay "PhraseShelf$Version" T_Version k) = true := by decide +kernel
  obtain ⟨k, hk, rfl⟩ := List.mem_map.mp hw
  obtain ⟨h1, h2⟩ := h k (List.mem_range.mp hk)
  exact xw_in _ h1 h2
theorem nm_Model : ∀ a, a < 62 → ∀ b, b < 62 → a ≠ b → (T_Model a).2.1 ≠ (T_Model b).2.1 := by decide +kernel
theorem ty_Model_ok : ∀ k, k < 62 → parseFieldDescriptor (T_Model k).2.2.1 = some (ty_Model k) := by decide +kernel
theorem ly_Model : ∀ w ∈ u_ws "PhraseShelfModel" T_Model 62, w ∈ xw_tbl := by
  intro w hw
  have h : ∀ k, k < 62 → lw_tbl[([1213, 1215, 1217, 1219, 1221, 1223, 1225, 1227, 1229, 1231, 1233, 1235, 1237, 1239, 1241, 1243, 1245, 1247, 1249, 1251, 1253, 1255, 1257, 1259, 1261, 1263, 1265, 1267, 1269, 1271, 1273, 1275, 1277, 1279, 1281, 1283, 1285, 1287, 1289, 1291, 1293, 1295, 1297, 1299, 1301, 1303, 1305, 1307, 1309, 1311, 1313, 1315, 1317, 1319, 1321, 1323, 1325, 1327, 1329, 1331, 1333, 1335] : List Nat).getD k 0]? = some (u_lay "PhraseShelfModel" T_Model k) ∧ goodWord (u_lay "PhraseShelfModel" T_Model k) = true := by decide +kernel
  obtain ⟨k, hk, rfl⟩ := List.mem_map.mp hw
  obtain ⟨h1, h2⟩ := h k (List.mem_range.mp hk)
  exact xw_in _ h1 h2
def xw_cl (ci : Nat) : vw_C := vwCl.getD ci ("", fun _ => ("", "", "", false), 0)
theorem xw_lays : ∀ ci : Nat, ci < vwCl.length → ∀ w ∈ u_ws (xw_cl ci).1 (xw_cl ci).2.1 (xw_cl ci).2.2, w ∈ xw_tbl := by
  intro ci hci
  match ci, hci with
  | 0, _ => exact ly_Shelf
  | 1, _ => exact ly_Answers
  | 2, _ => exact ly_Node
  | 3, _ => exact ly_Parts
  | 4, _ => exact ly_Phrase
  | 5, _ => exact ly_Question
  | 6, _ => exact ly_Segment
  | 7, _ => exact ly_Standing
  | 8, _ => exact ly_Store
  | 9, _ => exact ly_Tokens
  | 10, _ => exact ly_Version
  | 11, _ => exact ly_Model
  | n + 12, h => exact absurd h (by simp [vwCl])
theorem xw_fty_ok : ∀ ci : Nat, ci < vwCl.length → ∀ k, k < (xw_cl ci).2.2 → parseFieldDescriptor ((xw_cl ci).2.1 k).2.2.1 = some (xw_fty ci k) := by
  intro ci hci
  match ci, hci with
  | 0, _ => exact ty_Shelf_ok
  | 1, _ => exact ty_Answers_ok
  | 2, _ => exact ty_Node_ok
  | 3, _ => exact ty_Parts_ok
  | 4, _ => exact ty_Phrase_ok
  | 5, _ => exact ty_Question_ok
  | 6, _ => exact ty_Segment_ok
  | 7, _ => exact ty_Standing_ok
  | 8, _ => exact ty_Store_ok
  | 9, _ => exact ty_Tokens_ok
  | 10, _ => exact ty_Version_ok
  | 11, _ => exact ty_Model_ok
  | n + 12, h => exact absurd h (by simp [vwCl])
theorem xw_fnm : ∀ ci : Nat, ci < vwCl.length → ∀ a, a < (xw_cl ci).2.2 → ∀ b, b < (xw_cl ci).2.2 → a ≠ b → ((xw_cl ci).2.1 a).2.1 ≠ ((xw_cl ci).2.1 b).2.1 := by
  intro ci hci
  match ci, hci with
  | 0, _ => exact nm_Shelf
  | 1, _ => exact nm_Answers
  | 2, _ => exact nm_Node
  | 3, _ => exact nm_Parts
  | 4, _ => exact nm_Phrase
  | 5, _ => exact nm_Question
  | 6, _ => exact nm_Segment
  | 7, _ => exact nm_Standing
  | 8, _ => exact nm_Store
  | 9, _ => exact nm_Tokens
  | 10, _ => exact nm_Version
  | 11, _ => exact nm_Model
  | n + 12, h => exact absurd h (by simp [vwCl])
theorem xw_cl_get {ci : Nat} (h : ci < vwCl.length) : vwCl[ci]? = some ((xw_cl ci).1, (xw_cl ci).2.1, (xw_cl ci).2.2) := by
  rw [List.getElem?_eq_getElem h]
  simp only [xw_cl, List.getD_eq_getElem?_getD, List.getElem?_eq_getElem h, Option.getD_some]
abbrev xw_M : Type := MethodName × ByteArray × Nat × Option FieldType × List (Nat × Nat × Nat × Nat)
abbrev m_Shelf_init : xw_M := (⟨"PhraseShelf", "<init>", "()V"⟩, prog_1_method_1_code, 2, (Option.none : Option Jvm.ClassFile.FieldType), [])
abbrev m_Store_init : xw_M := (⟨"PhraseShelf$Store", "<init>", "()V"⟩, prog_9_method_1_code, 1, (Option.none : Option Jvm.ClassFile.FieldType), [])
abbrev m_Question_init : xw_M := (⟨"PhraseShelf$Question", "<init>", "()V"⟩, prog_6_method_1_code, 2, (Option.none : Option Jvm.ClassFile.FieldType), [])
abbrev m_Tokens_init : xw_M := (⟨"PhraseShelf$Tokens", "<init>", "(I)V"⟩, prog_10_method_1_code, 2, (Option.none : Option Jvm.ClassFile.FieldType), [])
abbrev m_Parts_init : xw_M := (⟨"PhraseShelf$Parts", "<init>", "()V"⟩, prog_4_method_1_code, 1, (Option.none : Option Jvm.ClassFile.FieldType), [])
abbrev m_Phrase_init : xw_M := (⟨"PhraseShelf$Phrase", "<init>", "()V"⟩, prog_5_method_1_code, 1, (Option.none : Option Jvm.ClassFile.FieldType), [])
abbrev m_Node_init : xw_M := (⟨"PhraseShelf$Node", "<init>", "()V"⟩, prog_3_method_1_code, 1, (Option.none : Option Jvm.ClassFile.FieldType), [])
abbrev m_Standing_init : xw_M := (⟨"PhraseShelf$Standing", "<init>", "()V"⟩, prog_8_method_1_code, 1, (Option.none : Option Jvm.ClassFile.FieldType), [])
abbrev m_Answers_init : xw_M := (⟨"PhraseShelf$Answers", "<init>", "()V"⟩, prog_2_method_1_code, 1, (Option.none : Option Jvm.ClassFile.FieldType), [])
abbrev m_Shelf_drop : xw_M := (⟨"PhraseShelf", "drop", "()I"⟩, prog_1_method_3_code, 2, (Option.some Jvm.ClassFile.FieldType.int), [])
abbrev m_Shelf_flush : xw_M := (⟨"PhraseShelf", "flush", "()I"⟩, prog_1_method_11_code, 1, (Option.some Jvm.ClassFile.FieldType.int), [])
abbrev m_Store_flushPending : xw_M := (⟨"PhraseShelf$Store", "flushPending", "(I)V"⟩, prog_9_method_8_code, 3, (Option.none : Option Jvm.ClassFile.FieldType), [])
abbrev m_Store_gatherLive : xw_M := (⟨"PhraseShelf$Store", "gatherLive", "(LPhraseShelf$Version;)V"⟩, prog_9_method_13_code, 4, (Option.none : Option Jvm.ClassFile.FieldType), [])
abbrev m_Store_addSegment : xw_M := (⟨"PhraseShelf$Store", "addSegment", "(I)V"⟩, prog_9_method_14_code, 2, (Option.none : Option Jvm.ClassFile.FieldType), [])
abbrev m_Segment_init : xw_M := (⟨"PhraseShelf$Segment", "<init>", "(I[LPhraseShelf$Version;I)V"⟩, prog_7_method_1_code, 6, (Option.none : Option Jvm.ClassFile.FieldType), [])
abbrev m_Store_segmentsOf : xw_M := (⟨"PhraseShelf$Store", "segmentsOf", "(I)I"⟩, prog_9_method_10_code, 4, (Option.some Jvm.ClassFile.FieldType.int), [])
abbrev m_Store_mergeLevels : xw_M := (⟨"PhraseShelf$Store", "mergeLevels", "(III)V"⟩, prog_9_method_11_code, 7, (Option.none : Option Jvm.ClassFile.FieldType), [])
abbrev m_Store_gatherAllLive : xw_M := (⟨"PhraseShelf$Store", "gatherAllLive", "(LPhraseShelf$Segment;)V"⟩, prog_9_method_12_code, 3, (Option.none : Option Jvm.ClassFile.FieldType), [])
abbrev m_Shelf_optimize : xw_M := (⟨"PhraseShelf", "optimize", "()I"⟩, prog_1_method_12_code, 1, (Option.some Jvm.ClassFile.FieldType.int), [])
abbrev m_Store_mergeAll : xw_M := (⟨"PhraseShelf$Store", "mergeAll", "()I"⟩, prog_9_method_9_code, 4, (Option.some Jvm.ClassFile.FieldType.int), [])
abbrev m_Shelf_wrong : xw_M := (⟨"PhraseShelf", "wrong", "()I"⟩, prog_1_method_16_code, 1, (Option.some Jvm.ClassFile.FieldType.int), [])
abbrev m_Shelf_letters : xw_M := (⟨"PhraseShelf", "letters", "(J)I"⟩, prog_1_method_2_code, 5, (Option.some Jvm.ClassFile.FieldType.int), [])
abbrev m_Shelf_lettersIn : xw_M := (⟨"PhraseShelf", "lettersIn", "(J)I"⟩, prog_1_method_23_code, 4, (Option.some Jvm.ClassFile.FieldType.int), [])
abbrev m_Shelf_octet : xw_M := (⟨"PhraseShelf", "octet", "(JI)I"⟩, prog_1_method_24_code, 3, (Option.some Jvm.ClassFile.FieldType.int), [])
abbrev m_Shelf_set : xw_M := (⟨"PhraseShelf", "set", "(I)I"⟩, prog_1_method_4_code, 3, (Option.some Jvm.ClassFile.FieldType.int), [])
abbrev m_Shelf_isColumn : xw_M := (⟨"PhraseShelf", "isColumn", "(I)Z"⟩, prog_1_method_25_code, 1, (Option.some Jvm.ClassFile.FieldType.boolean), [])
abbrev m_Tokens_gather : xw_M := (⟨"PhraseShelf$Tokens", "gather", "([CII)V"⟩, prog_10_method_2_code, 7, (Option.none : Option Jvm.ClassFile.FieldType), [])
abbrev m_Shelf_isWord : xw_M := (⟨"PhraseShelf", "isWord", "(C)Z"⟩, prog_1_method_26_code, 1, (Option.some Jvm.ClassFile.FieldType.boolean), [])
abbrev m_Tokens_addLetter : xw_M := (⟨"PhraseShelf$Tokens", "addLetter", "(C)V"⟩, prog_10_method_3_code, 3, (Option.none : Option Jvm.ClassFile.FieldType), [])
abbrev m_Shelf_insert : xw_M := (⟨"PhraseShelf", "insert", "()I"⟩, prog_1_method_5_code, 2, (Option.some Jvm.ClassFile.FieldType.int), [])
abbrev m_Store_freeRow : xw_M := (⟨"PhraseShelf$Store", "freeRow", "()I"⟩, prog_9_method_5_code, 2, (Option.some Jvm.ClassFile.FieldType.int), [])
abbrev m_Shelf_giveTexts : xw_M := (⟨"PhraseShelf", "giveTexts", "(I)I"⟩, prog_1_method_22_code, 3, (Option.some Jvm.ClassFile.FieldType.int), [])
abbrev m_Store_putVersion : xw_M := (⟨"PhraseShelf$Store", "putVersion", "(ILPhraseShelf$Tokens;LPhraseShelf$Tokens;)I"⟩, prog_9_method_7_code, 6, (Option.some Jvm.ClassFile.FieldType.int), [])
abbrev m_Tokens_different : xw_M := (⟨"PhraseShelf$Tokens", "different", "()I"⟩, prog_10_method_6_code, 3, (Option.some Jvm.ClassFile.FieldType.int), [])
abbrev m_Tokens_isEarlier : xw_M := (⟨"PhraseShelf$Tokens", "isEarlier", "(I)Z"⟩, prog_10_method_7_code, 3, (Option.some Jvm.ClassFile.FieldType.boolean), [])
abbrev m_Tokens_fits : xw_M := (⟨"PhraseShelf$Tokens", "fits", "(ILPhraseShelf$Tokens;IZ)Z"⟩, prog_10_method_5_code, 8, (Option.some Jvm.ClassFile.FieldType.boolean), [])
abbrev m_Tokens_lengthOf : xw_M := (⟨"PhraseShelf$Tokens", "lengthOf", "(I)I"⟩, prog_10_method_4_code, 2, (Option.some Jvm.ClassFile.FieldType.int), [])
abbrev m_Version_init : xw_M := (⟨"PhraseShelf$Version", "<init>", "(IILPhraseShelf$Tokens;LPhraseShelf$Tokens;I)V"⟩, prog_11_method_1_code, 6, (Option.none : Option Jvm.ClassFile.FieldType), [])
abbrev m_Shelf_replace : xw_M := (⟨"PhraseShelf", "replace", "(I)I"⟩, prog_1_method_6_code, 2, (Option.some Jvm.ClassFile.FieldType.int), [])
abbrev m_Store_versionOf : xw_M := (⟨"PhraseShelf$Store", "versionOf", "(I)LPhraseShelf$Version;"⟩, prog_9_method_2_code, 2, (Option.some (Jvm.ClassFile.FieldType.object "PhraseShelf$Version")), [])
abbrev m_Shelf_delete : xw_M := (⟨"PhraseShelf", "delete", "(I)I"⟩, prog_1_method_7_code, 3, (Option.some Jvm.ClassFile.FieldType.int), [])
abbrev m_Store_clearRow : xw_M := (⟨"PhraseShelf$Store", "clearRow", "(I)V"⟩, prog_9_method_6_code, 2, (Option.none : Option Jvm.ClassFile.FieldType), [])
abbrev m_Version_tokens : xw_M := (⟨"PhraseShelf$Version", "tokens", "()I"⟩, prog_11_method_3_code, 1, (Option.some Jvm.ClassFile.FieldType.int), [])
abbrev m_Shelf_begin : xw_M := (⟨"PhraseShelf", "begin", "()V"⟩, prog_1_method_8_code, 1, (Option.none : Option Jvm.ClassFile.FieldType), [])
abbrev m_Store_copyFrom : xw_M := (⟨"PhraseShelf$Store", "copyFrom", "(LPhraseShelf$Store;)V"⟩, prog_9_method_15_code, 3, (Option.none : Option Jvm.ClassFile.FieldType), [])
abbrev m_Shelf_commit : xw_M := (⟨"PhraseShelf", "commit", "()I"⟩, prog_1_method_9_code, 1, (Option.some Jvm.ClassFile.FieldType.int), [])
abbrev m_Shelf_rollback : xw_M := (⟨"PhraseShelf", "rollback", "()I"⟩, prog_1_method_10_code, 1, (Option.some Jvm.ClassFile.FieldType.int), [])
abbrev m_Store_rowCount : xw_M := (⟨"PhraseShelf$Store", "rowCount", "()I"⟩, prog_9_method_3_code, 3, (Option.some Jvm.ClassFile.FieldType.int), [])
abbrev m_Shelf_ways : xw_M := (⟨"PhraseShelf", "ways", "(II)V"⟩, prog_1_method_13_code, 3, (Option.none : Option Jvm.ClassFile.FieldType), [])
abbrev m_Shelf_weight : xw_M := (⟨"PhraseShelf", "weight", "(II)I"⟩, prog_1_method_14_code, 4, (Option.some Jvm.ClassFile.FieldType.int), [])
abbrev m_Shelf_ask : xw_M := (⟨"PhraseShelf", "ask", "()I"⟩, prog_1_method_15_code, 3, (Option.some Jvm.ClassFile.FieldType.int), [])
abbrev m_Question_read : xw_M := (⟨"PhraseShelf$Question", "read", "([CI)Z"⟩, prog_6_method_2_code, 4, (Option.some Jvm.ClassFile.FieldType.boolean), [])
abbrev m_Parts_split : xw_M := (⟨"PhraseShelf$Parts", "split", "([CI)V"⟩, prog_4_method_2_code, 5, (Option.none : Option Jvm.ClassFile.FieldType), [])
abbrev m_Parts_blanksEnd : xw_M := (⟨"PhraseShelf$Parts", "blanksEnd", "(I)I"⟩, prog_4_method_3_code, 3, (Option.some Jvm.ClassFile.FieldType.int), [])
abbrev m_Parts_readPart : xw_M := (⟨"PhraseShelf$Parts", "readPart", "(I)V"⟩, prog_4_method_4_code, 4, (Option.none : Option Jvm.ClassFile.FieldType), [])
abbrev m_Parts_wordEnd : xw_M := (⟨"PhraseShelf$Parts", "wordEnd", "(I)I"⟩, prog_4_method_5_code, 3, (Option.some Jvm.ClassFile.FieldType.int), [])
abbrev m_Parts_wordKind : xw_M := (⟨"PhraseShelf$Parts", "wordKind", "(II)I"⟩, prog_4_method_7_code, 3, (Option.some Jvm.ClassFile.FieldType.int), [])
abbrev m_Parts_isName : xw_M := (⟨"PhraseShelf$Parts", "isName", "(IILjava/lang/String;)Z"⟩, prog_4_method_8_code, 5, (Option.some Jvm.ClassFile.FieldType.boolean), [])
abbrev m_Parts_quoteEnd : xw_M := (⟨"PhraseShelf$Parts", "quoteEnd", "(I)I"⟩, prog_4_method_6_code, 3, (Option.some Jvm.ClassFile.FieldType.int), [])
abbrev m_Question_joined : xw_M := (⟨"PhraseShelf$Question", "joined", "(III)LPhraseShelf$Node;"⟩, prog_6_method_6_code, 7, (Option.some (Jvm.ClassFile.FieldType.object "PhraseShelf$Node")), [])
abbrev m_Question_operand : xw_M := (⟨"PhraseShelf$Question", "operand", "(III)LPhraseShelf$Node;"⟩, prog_6_method_7_code, 4, (Option.some (Jvm.ClassFile.FieldType.object "PhraseShelf$Node")), [])
abbrev m_Question_atom : xw_M := (⟨"PhraseShelf$Question", "atom", "(II)LPhraseShelf$Node;"⟩, prog_6_method_12_code, 3, (Option.some (Jvm.ClassFile.FieldType.object "PhraseShelf$Node")), [])
abbrev m_Question_beginsDeeper : xw_M := (⟨"PhraseShelf$Question", "beginsDeeper", "()Z"⟩, prog_6_method_10_code, 2, (Option.some Jvm.ClassFile.FieldType.boolean), [])
abbrev m_Question_kind : xw_M := (⟨"PhraseShelf$Question", "kind", "()I"⟩, prog_6_method_3_code, 1, (Option.some Jvm.ClassFile.FieldType.int), [])
abbrev m_Question_refuse : xw_M := (⟨"PhraseShelf$Question", "refuse", "()LPhraseShelf$Node;"⟩, prog_6_method_5_code, 1, (Option.some (Jvm.ClassFile.FieldType.object "PhraseShelf$Node")), [])
abbrev m_Question_deeper : xw_M := (⟨"PhraseShelf$Question", "deeper", "(II)LPhraseShelf$Node;"⟩, prog_6_method_13_code, 6, (Option.some (Jvm.ClassFile.FieldType.object "PhraseShelf$Node")), [])
abbrev m_Question_takes : xw_M := (⟨"PhraseShelf$Question", "takes", "(I)Z"⟩, prog_6_method_4_code, 2, (Option.some Jvm.ClassFile.FieldType.boolean), [])
abbrev m_Parts_columnNamed : xw_M := (⟨"PhraseShelf$Parts", "columnNamed", "(I)I"⟩, prog_4_method_9_code, 3, (Option.some Jvm.ClassFile.FieldType.int), [])
abbrev m_Question_near : xw_M := (⟨"PhraseShelf$Question", "near", "(I)LPhraseShelf$Node;"⟩, prog_6_method_15_code, 5, (Option.some (Jvm.ClassFile.FieldType.object "PhraseShelf$Node")), [])
abbrev m_Question_readPhrase : xw_M := (⟨"PhraseShelf$Question", "readPhrase", "()Z"⟩, prog_6_method_16_code, 3, (Option.some Jvm.ClassFile.FieldType.boolean), [])
abbrev m_Question_readString : xw_M := (⟨"PhraseShelf$Question", "readString", "()Z"⟩, prog_6_method_17_code, 1, (Option.some Jvm.ClassFile.FieldType.boolean), [])
abbrev m_Question_beginsString : xw_M := (⟨"PhraseShelf$Question", "beginsString", "()Z"⟩, prog_6_method_11_code, 2, (Option.some Jvm.ClassFile.FieldType.boolean), [])
abbrev m_Parts_number : xw_M := (⟨"PhraseShelf$Parts", "number", "(I)I"⟩, prog_4_method_10_code, 4, (Option.some Jvm.ClassFile.FieldType.int), [])
abbrev m_Question_group : xw_M := (⟨"PhraseShelf$Question", "group", "(IIII)LPhraseShelf$Node;"⟩, prog_6_method_18_code, 6, (Option.some (Jvm.ClassFile.FieldType.object "PhraseShelf$Node")), [])
abbrev m_Question_newNode : xw_M := (⟨"PhraseShelf$Question", "newNode", "(I)LPhraseShelf$Node;"⟩, prog_6_method_20_code, 3, (Option.some (Jvm.ClassFile.FieldType.object "PhraseShelf$Node")), [])
abbrev m_Question_single : xw_M := (⟨"PhraseShelf$Question", "single", "(I)LPhraseShelf$Node;"⟩, prog_6_method_14_code, 4, (Option.some (Jvm.ClassFile.FieldType.object "PhraseShelf$Node")), [])
abbrev m_Question_goesOn : xw_M := (⟨"PhraseShelf$Question", "goesOn", "(I)Z"⟩, prog_6_method_8_code, 2, (Option.some Jvm.ClassFile.FieldType.boolean), [])
abbrev m_Question_beginsAtom : xw_M := (⟨"PhraseShelf$Question", "beginsAtom", "()Z"⟩, prog_6_method_9_code, 2, (Option.some Jvm.ClassFile.FieldType.boolean), [])
abbrev m_Question_join : xw_M := (⟨"PhraseShelf$Question", "join", "(ILPhraseShelf$Node;LPhraseShelf$Node;)LPhraseShelf$Node;"⟩, prog_6_method_19_code, 5, (Option.some (Jvm.ClassFile.FieldType.object "PhraseShelf$Node")), [])
abbrev m_Standing_fill : xw_M := (⟨"PhraseShelf$Standing", "fill", "(LPhraseShelf$Question;LPhraseShelf$Store;)V"⟩, prog_8_method_2_code, 8, (Option.none : Option Jvm.ClassFile.FieldType), [])
abbrev m_Version_text : xw_M := (⟨"PhraseShelf$Version", "text", "(I)LPhraseShelf$Tokens;"⟩, prog_11_method_2_code, 2, (Option.some (Jvm.ClassFile.FieldType.object "PhraseShelf$Tokens")), [])
abbrev m_Standing_placesIn : xw_M := (⟨"PhraseShelf$Standing", "placesIn", "(LPhraseShelf$Phrase;LPhraseShelf$Tokens;)I"⟩, prog_8_method_5_code, 5, (Option.some Jvm.ClassFile.FieldType.int), [])
abbrev m_Standing_standsAt : xw_M := (⟨"PhraseShelf$Standing", "standsAt", "(LPhraseShelf$Phrase;LPhraseShelf$Tokens;I)Z"⟩, prog_8_method_6_code, 6, (Option.some Jvm.ClassFile.FieldType.boolean), [])
abbrev m_Standing_index : xw_M := (⟨"PhraseShelf$Standing", "index", "(III)I"⟩, prog_8_method_3_code, 3, (Option.some Jvm.ClassFile.FieldType.int), [])
abbrev m_Standing_rowsFound : xw_M := (⟨"PhraseShelf$Standing", "rowsFound", "(LPhraseShelf$Question;)I"⟩, prog_8_method_9_code, 5, (Option.some Jvm.ClassFile.FieldType.int), [])
abbrev m_Standing_rowsOfGroup : xw_M := (⟨"PhraseShelf$Standing", "rowsOfGroup", "(LPhraseShelf$Node;)I"⟩, prog_8_method_11_code, 5, (Option.some Jvm.ClassFile.FieldType.int), [])
abbrev m_Standing_holds : xw_M := (⟨"PhraseShelf$Standing", "holds", "(LPhraseShelf$Node;II)Z"⟩, prog_8_method_12_code, 5, (Option.some Jvm.ClassFile.FieldType.boolean), [])
abbrev m_Standing_placesOf : xw_M := (⟨"PhraseShelf$Standing", "placesOf", "(III)I"⟩, prog_8_method_4_code, 4, (Option.some Jvm.ClassFile.FieldType.int), [])
abbrev m_Standing_areNear : xw_M := (⟨"PhraseShelf$Standing", "areNear", "(LPhraseShelf$Node;II)Z"⟩, prog_8_method_13_code, 5, (Option.some Jvm.ClassFile.FieldType.boolean), [])
abbrev m_Standing_allReach : xw_M := (⟨"PhraseShelf$Standing", "allReach", "(LPhraseShelf$Node;III)Z"⟩, prog_8_method_14_code, 9, (Option.some Jvm.ClassFile.FieldType.boolean), [])
abbrev m_Standing_rowsOfJoin : xw_M := (⟨"PhraseShelf$Standing", "rowsOfJoin", "(LPhraseShelf$Node;)I"⟩, prog_8_method_10_code, 1, (Option.some Jvm.ClassFile.FieldType.int), [])
abbrev m_Answers_take : xw_M := (⟨"PhraseShelf$Answers", "take", "(ILPhraseShelf$Store;)V"⟩, prog_2_method_4_code, 5, (Option.none : Option Jvm.ClassFile.FieldType), [])
abbrev m_Answers_rank : xw_M := (⟨"PhraseShelf$Answers", "rank", "(LPhraseShelf$Standing;I[ILPhraseShelf$Store;)V"⟩, prog_2_method_5_code, 10, (Option.none : Option Jvm.ClassFile.FieldType), [])
abbrev m_Store_tokenCount : xw_M := (⟨"PhraseShelf$Store", "tokenCount", "()I"⟩, prog_9_method_4_code, 3, (Option.some Jvm.ClassFile.FieldType.int), [])
abbrev m_Standing_rowsWith : xw_M := (⟨"PhraseShelf$Standing", "rowsWith", "(I)I"⟩, prog_8_method_8_code, 4, (Option.some Jvm.ClassFile.FieldType.int), [])
abbrev m_Standing_standsIn : xw_M := (⟨"PhraseShelf$Standing", "standsIn", "(II)Z"⟩, prog_8_method_7_code, 3, (Option.some Jvm.ClassFile.FieldType.boolean), [])
abbrev m_Answers_rarity : xw_M := (⟨"PhraseShelf$Answers", "rarity", "(II)D"⟩, prog_2_method_7_code, 4, (Option.some Jvm.ClassFile.FieldType.double), [])
abbrev m_Answers_ln : xw_M := (⟨"PhraseShelf$Answers", "ln", "(D)D"⟩, prog_2_method_8_code, 12, (Option.some Jvm.ClassFile.FieldType.double), [])
abbrev m_Answers_addPhrase : xw_M := (⟨"PhraseShelf$Answers", "addPhrase", "(LPhraseShelf$Standing;I[IDD)V"⟩, prog_2_method_6_code, 10, (Option.none : Option Jvm.ClassFile.FieldType), [])
abbrev m_Answers_sort : xw_M := (⟨"PhraseShelf$Answers", "sort", "()V"⟩, prog_2_method_9_code, 3, (Option.none : Option Jvm.ClassFile.FieldType), [])
abbrev m_Shelf_answer : xw_M := (⟨"PhraseShelf", "answer", "(IZ)I"⟩, prog_1_method_17_code, 3, (Option.some Jvm.ClassFile.FieldType.int), [])
abbrev m_Answers_has : xw_M := (⟨"PhraseShelf$Answers", "has", "(I)Z"⟩, prog_2_method_2_code, 2, (Option.some Jvm.ClassFile.FieldType.boolean), [])
abbrev m_Answers_place : xw_M := (⟨"PhraseShelf$Answers", "place", "(IZ)I"⟩, prog_2_method_3_code, 3, (Option.some Jvm.ClassFile.FieldType.int), [])
abbrev m_Shelf_score : xw_M := (⟨"PhraseShelf", "score", "(IZ)D"⟩, prog_1_method_18_code, 3, (Option.some Jvm.ClassFile.FieldType.double), [])
abbrev m_Shelf_look : xw_M := (⟨"PhraseShelf", "look", "(II)I"⟩, prog_1_method_19_code, 4, (Option.some Jvm.ClassFile.FieldType.int), [])
abbrev m_Shelf_segment : xw_M := (⟨"PhraseShelf", "segment", "(II)I"⟩, prog_1_method_20_code, 4, (Option.some Jvm.ClassFile.FieldType.int), [])
abbrev m_Shelf_count : xw_M := (⟨"PhraseShelf", "count", "(I)I"⟩, prog_1_method_21_code, 2, (Option.some Jvm.ClassFile.FieldType.int), [])
abbrev m_Model_init : xw_M := (⟨"PhraseShelfModel", "<init>", "()V"⟩, prog_13_method_1_code, 2, (Option.none : Option Jvm.ClassFile.FieldType), [])
abbrev m_Model_thrown : xw_M := (⟨"PhraseShelfModel", "thrown", "()I"⟩, prog_13_method_2_code, 1, (Option.some Jvm.ClassFile.FieldType.int), [])
abbrev m_Model_letters : xw_M := (⟨"PhraseShelfModel", "letters", "(J)I"⟩, prog_13_method_7_code, 6, (Option.some Jvm.ClassFile.FieldType.int), [])
abbrev m_Model_in : xw_M := (⟨"PhraseShelfModel", "in", "(III)Z"⟩, prog_13_method_3_code, 3, (Option.some Jvm.ClassFile.FieldType.boolean), [])
abbrev m_Model_fails : xw_M := (⟨"PhraseShelfModel", "fails", "(ZI)Z"⟩, prog_13_method_4_code, 3, (Option.some Jvm.ClassFile.FieldType.boolean), [])
abbrev m_Model_drop : xw_M := (⟨"PhraseShelfModel", "drop", "()I"⟩, prog_13_method_8_code, 2, (Option.some Jvm.ClassFile.FieldType.int), [])
abbrev m_Model_set : xw_M := (⟨"PhraseShelfModel", "set", "(I)I"⟩, prog_13_method_9_code, 4, (Option.some Jvm.ClassFile.FieldType.int), [])
abbrev m_Model_isSign : xw_M := (⟨"PhraseShelfModel", "isSign", "(I)Z"⟩, prog_13_method_5_code, 1, (Option.some Jvm.ClassFile.FieldType.boolean), [])
abbrev m_Model_insert : xw_M := (⟨"PhraseShelfModel", "insert", "()I"⟩, prog_13_method_18_code, 2, (Option.some Jvm.ClassFile.FieldType.int), [])
abbrev m_Model_gets : xw_M := (⟨"PhraseShelfModel", "gets", "(I)I"⟩, prog_13_method_15_code, 4, (Option.some Jvm.ClassFile.FieldType.int), [])
abbrev m_Model_entriesOf : xw_M := (⟨"PhraseShelfModel", "entriesOf", "(I)I"⟩, prog_13_method_13_code, 7, (Option.some Jvm.ClassFile.FieldType.int), [])
abbrev m_Model_opens : xw_M := (⟨"PhraseShelfModel", "opens", "(II)V"⟩, prog_13_method_10_code, 6, (Option.none : Option Jvm.ClassFile.FieldType), [])
abbrev m_Model_alike : xw_M := (⟨"PhraseShelfModel", "alike", "(II)Z"⟩, prog_13_method_12_code, 5, (Option.some Jvm.ClassFile.FieldType.boolean), [])
abbrev m_Model_small : xw_M := (⟨"PhraseShelfModel", "small", "(I)I"⟩, prog_13_method_6_code, 1, (Option.some Jvm.ClassFile.FieldType.int), [])
abbrev m_Model_pending : xw_M := (⟨"PhraseShelfModel", "pending", "()I"⟩, prog_13_method_16_code, 3, (Option.some Jvm.ClassFile.FieldType.int), [])
abbrev m_Model_flushes : xw_M := (⟨"PhraseShelfModel", "flushes", "()V"⟩, prog_13_method_22_code, 4, (Option.none : Option Jvm.ClassFile.FieldType), [])
abbrev m_Model_gathers : xw_M := (⟨"PhraseShelfModel", "gathers", "(II)V"⟩, prog_13_method_21_code, 8, (Option.none : Option Jvm.ClassFile.FieldType), [])
abbrev m_Model_isLive : xw_M := (⟨"PhraseShelfModel", "isLive", "(I)Z"⟩, prog_13_method_17_code, 3, (Option.some Jvm.ClassFile.FieldType.boolean), [])
abbrev m_Model_replace : xw_M := (⟨"PhraseShelfModel", "replace", "(I)I"⟩, prog_13_method_19_code, 2, (Option.some Jvm.ClassFile.FieldType.int), [])
abbrev m_Model_has : xw_M := (⟨"PhraseShelfModel", "has", "(I)Z"⟩, prog_13_method_14_code, 2, (Option.some Jvm.ClassFile.FieldType.boolean), [])
abbrev m_Model_delete : xw_M := (⟨"PhraseShelfModel", "delete", "(I)I"⟩, prog_13_method_20_code, 3, (Option.some Jvm.ClassFile.FieldType.int), [])
abbrev m_Model_tokensOf : xw_M := (⟨"PhraseShelfModel", "tokensOf", "(I)I"⟩, prog_13_method_11_code, 3, (Option.some Jvm.ClassFile.FieldType.int), [])
abbrev m_Model_flush : xw_M := (⟨"PhraseShelfModel", "flush", "()I"⟩, prog_13_method_23_code, 1, (Option.some Jvm.ClassFile.FieldType.int), [])
abbrev m_Model_optimize : xw_M := (⟨"PhraseShelfModel", "optimize", "()I"⟩, prog_13_method_24_code, 4, (Option.some Jvm.ClassFile.FieldType.int), [])
abbrev m_Model_begin : xw_M := (⟨"PhraseShelfModel", "begin", "()V"⟩, prog_13_method_25_code, 2, (Option.none : Option Jvm.ClassFile.FieldType), [])
abbrev m_Model_commit : xw_M := (⟨"PhraseShelfModel", "commit", "()I"⟩, prog_13_method_26_code, 1, (Option.some Jvm.ClassFile.FieldType.int), [])
abbrev m_Model_rollback : xw_M := (⟨"PhraseShelfModel", "rollback", "()I"⟩, prog_13_method_27_code, 2, (Option.some Jvm.ClassFile.FieldType.int), [])
abbrev m_Model_rows : xw_M := (⟨"PhraseShelfModel", "rows", "()I"⟩, prog_13_method_28_code, 3, (Option.some Jvm.ClassFile.FieldType.int), [])
abbrev m_Model_ways : xw_M := (⟨"PhraseShelfModel", "ways", "(II)V"⟩, prog_13_method_29_code, 3, (Option.none : Option Jvm.ClassFile.FieldType), [])
abbrev m_Model_weight : xw_M := (⟨"PhraseShelfModel", "weight", "(II)I"⟩, prog_13_method_30_code, 4, (Option.some Jvm.ClassFile.FieldType.int), [])
abbrev m_Model_ask : xw_M := (⟨"PhraseShelfModel", "ask", "()I"⟩, prog_13_method_61_code, 3, (Option.some Jvm.ClassFile.FieldType.int), [])
abbrev m_Model_reads : xw_M := (⟨"PhraseShelfModel", "reads", "()V"⟩, prog_13_method_50_code, 1, (Option.none : Option Jvm.ClassFile.FieldType), [])
abbrev m_Model_part : xw_M := (⟨"PhraseShelfModel", "part", "()V"⟩, prog_13_method_33_code, 2, (Option.none : Option Jvm.ClassFile.FieldType), [])
abbrev m_Model_q : xw_M := (⟨"PhraseShelfModel", "q", "(I)I"⟩, prog_13_method_31_code, 2, (Option.some Jvm.ClassFile.FieldType.int), [])
abbrev m_Model_spells : xw_M := (⟨"PhraseShelfModel", "spells", "(IIII)Z"⟩, prog_13_method_32_code, 6, (Option.some Jvm.ClassFile.FieldType.boolean), [])
abbrev m_Model_follows : xw_M := (⟨"PhraseShelfModel", "follows", "()V"⟩, prog_13_method_49_code, 3, (Option.none : Option Jvm.ClassFile.FieldType), [])
abbrev m_Model_reduces : xw_M := (⟨"PhraseShelfModel", "reduces", "(I)V"⟩, prog_13_method_45_code, 2, (Option.none : Option Jvm.ClassFile.FieldType), [])
abbrev m_Model_wrongs : xw_M := (⟨"PhraseShelfModel", "wrongs", "(ZI)V"⟩, prog_13_method_35_code, 3, (Option.none : Option Jvm.ClassFile.FieldType), [])
abbrev m_Model_closesFilters : xw_M := (⟨"PhraseShelfModel", "closesFilters", "()V"⟩, prog_13_method_43_code, 1, (Option.none : Option Jvm.ClassFile.FieldType), [])
abbrev m_Model_next : xw_M := (⟨"PhraseShelfModel", "next", "()V"⟩, prog_13_method_34_code, 1, (Option.none : Option Jvm.ClassFile.FieldType), [])
abbrev m_Model_joins : xw_M := (⟨"PhraseShelfModel", "joins", "(I)V"⟩, prog_13_method_46_code, 2, (Option.none : Option Jvm.ClassFile.FieldType), [])
abbrev m_Model_pushes : xw_M := (⟨"PhraseShelfModel", "pushes", "(I)V"⟩, prog_13_method_42_code, 2, (Option.none : Option Jvm.ClassFile.FieldType), [])
abbrev m_Model_atom : xw_M := (⟨"PhraseShelfModel", "atom", "()V"⟩, prog_13_method_48_code, 1, (Option.none : Option Jvm.ClassFile.FieldType), [])
abbrev m_Model_depth : xw_M := (⟨"PhraseShelfModel", "depth", "()I"⟩, prog_13_method_44_code, 3, (Option.some Jvm.ClassFile.FieldType.int), [])
abbrev m_Model_isFilter : xw_M := (⟨"PhraseShelfModel", "isFilter", "()Z"⟩, prog_13_method_36_code, 1, (Option.some Jvm.ClassFile.FieldType.boolean), [])
abbrev m_Model_filter : xw_M := (⟨"PhraseShelfModel", "filter", "()V"⟩, prog_13_method_47_code, 4, (Option.none : Option Jvm.ClassFile.FieldType), [])
abbrev m_Model_isString : xw_M := (⟨"PhraseShelfModel", "isString", "()Z"⟩, prog_13_method_37_code, 1, (Option.some Jvm.ClassFile.FieldType.boolean), [])
abbrev m_Model_group : xw_M := (⟨"PhraseShelfModel", "group", "()V"⟩, prog_13_method_41_code, 1, (Option.none : Option Jvm.ClassFile.FieldType), [])
abbrev m_Model_near : xw_M := (⟨"PhraseShelfModel", "near", "()V"⟩, prog_13_method_40_code, 4, (Option.none : Option Jvm.ClassFile.FieldType), [])
abbrev m_Model_phrase : xw_M := (⟨"PhraseShelfModel", "phrase", "()V"⟩, prog_13_method_39_code, 1, (Option.none : Option Jvm.ClassFile.FieldType), [])
abbrev m_Model_takeTokens : xw_M := (⟨"PhraseShelfModel", "takeTokens", "()V"⟩, prog_13_method_38_code, 2, (Option.none : Option Jvm.ClassFile.FieldType), [])
abbrev m_Model_finds : xw_M := (⟨"PhraseShelfModel", "finds", "(I)Z"⟩, prog_13_method_57_code, 6, (Option.some Jvm.ClassFile.FieldType.boolean), [])
abbrev m_Model_holds : xw_M := (⟨"PhraseShelfModel", "holds", "(II)Z"⟩, prog_13_method_56_code, 4, (Option.some Jvm.ClassFile.FieldType.boolean), [])
abbrev m_Model_holdsHere : xw_M := (⟨"PhraseShelfModel", "holdsHere", "(I)Z"⟩, prog_13_method_55_code, 6, (Option.some Jvm.ClassFile.FieldType.boolean), [])
abbrev m_Model_stands : xw_M := (⟨"PhraseShelfModel", "stands", "(II)Z"⟩, prog_13_method_53_code, 6, (Option.some Jvm.ClassFile.FieldType.boolean), [])
abbrev m_Model_length : xw_M := (⟨"PhraseShelfModel", "length", "(I)I"⟩, prog_13_method_52_code, 2, (Option.some Jvm.ClassFile.FieldType.int), [])
abbrev m_Model_matches : xw_M := (⟨"PhraseShelfModel", "matches", "(IIZ)Z"⟩, prog_13_method_51_code, 6, (Option.some Jvm.ClassFile.FieldType.boolean), [])
abbrev m_Model_standsBetween : xw_M := (⟨"PhraseShelfModel", "standsBetween", "(III)Z"⟩, prog_13_method_54_code, 5, (Option.some Jvm.ClassFile.FieldType.boolean), [])
abbrev m_Model_scoreOf : xw_M := (⟨"PhraseShelfModel", "scoreOf", "(I)D"⟩, prog_13_method_60_code, 16, (Option.some Jvm.ClassFile.FieldType.double), [])
abbrev m_Model_countIn : xw_M := (⟨"PhraseShelfModel", "countIn", "(III)I"⟩, prog_13_method_58_code, 6, (Option.some Jvm.ClassFile.FieldType.int), [])
abbrev m_Model_logarithm : xw_M := (⟨"PhraseShelfModel", "logarithm", "(D)D"⟩, prog_13_method_59_code, 12, (Option.some Jvm.ClassFile.FieldType.double), [])
abbrev m_Model_wrong : xw_M := (⟨"PhraseShelfModel", "wrong", "()I"⟩, prog_13_method_62_code, 1, (Option.some Jvm.ClassFile.FieldType.int), [])
abbrev m_Model_clean : xw_M := (⟨"PhraseShelfModel", "clean", "(I)I"⟩, prog_13_method_63_code, 2, (Option.some Jvm.ClassFile.FieldType.int), [])
abbrev m_Model_answer : xw_M := (⟨"PhraseShelfModel", "answer", "(IZ)I"⟩, prog_13_method_64_code, 3, (Option.some Jvm.ClassFile.FieldType.int), [])
abbrev m_Model_score : xw_M := (⟨"PhraseShelfModel", "score", "(IZ)D"⟩, prog_13_method_65_code, 3, (Option.some Jvm.ClassFile.FieldType.double), [])
abbrev m_Model_look : xw_M := (⟨"PhraseShelfModel", "look", "(II)I"⟩, prog_13_method_66_code, 3, (Option.some Jvm.ClassFile.FieldType.int), [])
abbrev m_Model_segment : xw_M := (⟨"PhraseShelfModel", "segment", "(II)I"⟩, prog_13_method_67_code, 5, (Option.some Jvm.ClassFile.FieldType.int), [])
abbrev m_Model_count : xw_M := (⟨"PhraseShelfModel", "count", "(I)I"⟩, prog_13_method_68_code, 2, (Option.some Jvm.ClassFile.FieldType.int), [])
end
section
/-! what holds of the machine's constants in every state of the run -/
abbrev xw_g (G : xw_G) : Nat → Prop := fun q => G.2.2.1 ≤ q
def xw_nest : List (String × Nat × MethodName × String) := [("PhraseShelf", 25, ⟨"PhraseShelf$Store", "<init>", "()V"⟩, "PhraseShelf"), ("PhraseShelf$Question", 34, ⟨"PhraseShelf$Parts", "<init>", "()V"⟩, "PhraseShelf"), ("PhraseShelf$Question", 39, ⟨"PhraseShelf$Phrase", "<init>", "()V"⟩, "PhraseShelf"), ("PhraseShelf$Question", 40, ⟨"PhraseShelf$Node", "<init>", "()V"⟩, "PhraseShelf"), ("PhraseShelf", 42, ⟨"PhraseShelf$Standing", "<init>", "()V"⟩, "PhraseShelf"), ("PhraseShelf", 49, ⟨"PhraseShelf$Answers", "<init>", "()V"⟩, "PhraseShelf"), ("PhraseShelf$Tokens", 17, ⟨"PhraseShelf", "isWord", "(C)Z"⟩, "PhraseShelf"), ("PhraseShelf$Parts", 37, ⟨"PhraseShelf", "isWord", "(C)Z"⟩, "PhraseShelf"), ("PhraseShelf$Parts", 77, ⟨"PhraseShelf", "isColumn", "(I)Z"⟩, "PhraseShelf")]
def xw_over : List String := ["PhraseShelf$Tokens", "PhraseShelf$Version", "PhraseShelf$Segment", "PhraseShelf$Phrase", "PhraseShelf$Node"]
def xw_strs : List (String × Nat × String × Nat) := [("PhraseShelf", 73, "no letter, or an octet that is none", 0), ("PhraseShelf", 83, "the draft is full", 1), ("PhraseShelf", 94, "no such column", 2), ("PhraseShelf", 96, "the draft is too long for a text", 3), ("PhraseShelf", 109, "all rows are taken", 4), ("PhraseShelf", 121, "no such row", 5), ("PhraseShelf", 138, "a transaction is open", 6), ("PhraseShelf", 145, "no transaction is open", 7), ("PhraseShelf", 159, "most or limit is out of range", 8), ("PhraseShelf", 161, "column or weight is out of range", 9), ("PhraseShelf$Parts", 58, "OR", 10), ("PhraseShelf$Parts", 64, "AND", 11), ("PhraseShelf$Parts", 66, "NOT", 12), ("PhraseShelf$Parts", 68, "NEAR", 13), ("PhraseShelf$Parts", 51, "()-^,+*:", 14), ("PhraseShelf", 168, "the draft is no question", 15), ("PhraseShelf", 198, "no such answer", 16), ("PhraseShelf", 221, "nothing of a row has that number", 17), ("PhraseShelf", 223, "no such segment", 18), ("PhraseShelf", 239, "nothing of a segment has that number", 19), ("PhraseShelf", 250, "nothing counted has that number", 20)]
def xw_F (G : xw_G) (U : State) (H : Heap) : Prop :=
  G.2.2.1 ≤ H.size ∧ G.1.stackTraces = false ∧ (∀ C ∈ xw_over, va_AO C U) ∧ (∀ q ∈ xw_nest, va_Nw (.methodLinkNest q.1 q.2.1 q.2.2.1 q.2.2.2) U) ∧ (∀ q ∈ xw_strs, vk_R q.1 q.2.1 q.2.2.1 (G.2.2.2.1 q.2.2.2) U) ∧
    va_Zq "java/lang/Throwable" "UNASSIGNED_STACK" "[Ljava/lang/StackTraceElement;" (xw_g G) U H ∧ va_Zq "java/lang/Throwable" "SUPPRESSED_SENTINEL" "Ljava/util/List;" (xw_g G) U H
theorem xw_F.S0 {G : xw_G} {U : State} {H : Heap} (h : xw_F G U H) : ∀ q, H.size ≤ q → xw_g G q := fun q hq => Nat.le_trans h.1 hq
theorem xw_F.moved {G : xw_G} {u U : State} {H H1 : Heap} (hW : u.WarmedH U.vm) (hq : ∀ q : Nat, q < H.size → q < G.2.2.1 → H1[q]? = H[q]?) (h : xw_F G u H) : xw_F G U H1 := by
  obtain ⟨h1, h2, h3, h4, h5, h6, h7⟩ := h
  have hk : ∀ a : Nat, a < H.size → ¬ xw_g G a → H1[a]? = H[a]? := fun a ha hn => hq a ha (Nat.not_le.mp hn)
  refine ⟨?_, h2, fun C hC => va_AO.moved hW.alike (h3 C hC), fun q hq => va_Nw.warmM hW (h4 q hq), fun q hq => vk_R.warm hW (h5 q hq), va_Zq.moved hW.alike (h6.kept hk), va_Zq.moved hW.alike (h7.kept hk)⟩
  cases hz : G.2.2.1 with
  | zero => exact Nat.zero_le _
  | succ n =>
    have hn : n < H.size := by omega
    have h9 := hq n hn (by omega)
    rw [Array.getElem?_eq_getElem hn] at h9
    exact (Array.getElem?_eq_some_iff.mp h9).1
end
section
/-! THE JUDGEMENT xw: a frame of a method with the machine hidden. The heap is a function from addresses to cells; every cell of it lies at or above G's S0; all else of the machine's heap that is older than S0 stays. -/
abbrev xw_C : Type := (Nat × vp_A) ⊕ (Nat × List Value)
abbrev xw_A : Type := Nat → Option xw_C
def xw_up (h : xw_A) (a : Nat) (e : xw_C) : xw_A := fun q => if q = a then some e else h q
theorem xw_up_s (h : xw_A) (a : Nat) (e : xw_C) : xw_up h a e a = some e := by simp [xw_up]
theorem xw_up_n (h : xw_A) {a b : Nat} (e : xw_C) (n : b ≠ a) : xw_up h a e b = h b := by simp [xw_up, n]
/-- the types of arrays, by number: 6 + i is an array of objects of class i -/
def xw_ty (c : Nat) : FieldType := match c with
  | 0 => .int
  | 1 => .char
  | 2 => .long
  | 3 => .double
  | 4 => .boolean
  | 5 => .byte
  | n + 6 => .object ((vwCl[n]?.map (fun r => r.1)).getD "")
theorem xw_ty_o {ci : Nat} (h : ci < vwCl.length) : xw_ty (ci + 6) = .object (xw_cl ci).1 := by
  show FieldType.object _ = FieldType.object _
  rw [List.getElem?_eq_getElem h]
  simp only [xw_cl, List.getD_eq_getElem?_getD, List.getElem?_eq_getElem h, Option.getD_some, Option.map_some]
/-- the machine's heap holds the abstract one -/
def xw_H (G : xw_G) (h : xw_A) (s : State) (H : Heap) : Prop :=
  ∃ (ws : va_W) (tys : List (ClassId × FieldType)), va_P G.2.1 vwCl ws H ∧ va_K G.2.1 vwCl tys s ∧ va_D (xw_g G) ws ∧
    (∀ (a c : Nat) (x : vp_A), h a = some (.inl (c, x)) → ∃ (k t : Nat) (cA : ClassId), ws[k]? = some (a, .inl (cA, x)) ∧ tys[t]? = some (cA, xw_ty c)) ∧
    (∀ (a ci : Nat) (fs : List Value), h a = some (.inr (ci, fs)) → ∃ k : Nat, ws[k]? = some (a, .inr (ci, fs)))
theorem xw_H.moved {G : xw_G} {h : xw_A} {u U : State} {H : Heap} (hvm : u.vm.Alike U.vm) (q : xw_H G h u H) : xw_H G h U H := by
  obtain ⟨ws, tys, a, b, c, d, e⟩ := q
  exact ⟨ws, tys, a, va_K.moved hvm b, c, d, e⟩
theorem xw_H.lt {G : xw_G} {h : xw_A} {s : State} {H : Heap} (q : xw_H G h s H) {a : Nat} {e : xw_C} (ha : h a = some e) : a < H.size := by
  obtain ⟨ws, tys, hP, hK, hD, hA, hO⟩ := q
  rcases e with ⟨c, x⟩ | ⟨ci, fs⟩
  · obtain ⟨k, t, cA, h1, -⟩ := hA a c x ha
    exact (hP k _ h1).lt
  · obtain ⟨k, h1⟩ := hO a ci fs ha
    exact (hP k _ h1).lt
/-- one cell has changed -/
theorem xw_H.set {G : xw_G} {h : xw_A} {s : State} {H1 : Heap} {ws : va_W} {tys : List (ClassId × FieldType)} {k a : Nat} {e0 e1 : va_E} {e : xw_C} (hk : ws[k]? = some (a, e0))
    (hP : va_P G.2.1 vwCl (ws.set k (a, e1)) H1) (hK : va_K G.2.1 vwCl tys s) (hD : va_D (xw_g G) (ws.set k (a, e1)))
    (hA : ∀ (a c : Nat) (x : vp_A), h a = some (.inl (c, x)) → ∃ (k t : Nat) (cA : ClassId), ws[k]? = some (a, .inl (cA, x)) ∧ tys[t]? = some (cA, xw_ty c))
    (hO : ∀ (a ci : Nat) (fs : List Value), h a = some (.inr (ci, fs)) → ∃ k : Nat, ws[k]? = some (a, .inr (ci, fs)))
    (he : (∃ (c t : Nat) (cA : ClassId) (x : vp_A), e = .inl (c, x) ∧ e1 = .inl (cA, x) ∧ tys[t]? = some (cA, xw_ty c)) ∨ ∃ (ci : Nat) (fs : List Value), e = .inr (ci, fs) ∧ e1 = .inr (ci, fs)) : xw_H G (xw_up h a e) s H1 := by
  have hl := (List.getElem?_eq_some_iff.mp hk).1
  have hself : (ws.set k (a, e1))[k]? = some (a, e1) := List.getElem?_set_self hl
  have other : ∀ (j b : Nat) (y : va_E), b ≠ a → ws[j]? = some (b, y) → (ws.set k (a, e1))[j]? = some (b, y) := by
    intro j b y hb hj
    by_cases hjk : j = k
    · subst hjk
      rw [hk] at hj
      cases hj
      exact absurd rfl hb
    · rw [List.getElem?_set_ne (Ne.symm hjk)]
      exact hj
  refine ⟨_, tys, hP, hK, hD, fun b c x hb => ?_, fun b ci fs hb => ?_⟩
  · by_cases hba : b = a
    · subst hba
      rw [xw_up_s] at hb
      rcases he with ⟨c', t, cA, x', q1, q2, q3⟩ | ⟨ci, fs, q1, -⟩
      · rw [q1] at hb
        cases hb
        exact ⟨k, t, cA, by rw [hself, q2], q3⟩
      · rw [q1] at hb
        cases hb
    · rw [xw_up_n _ _ hba] at hb
      obtain ⟨j, t, cA, q1, q2⟩ := hA b c x hb
      exact ⟨j, t, cA, other j b _ hba q1, q2⟩
  · by_cases hba : b = a
    · subst hba
      rw [xw_up_s] at hb
      rcases he with ⟨c', t, cA, x', q1, -⟩ | ⟨ci', fs', q1, q2⟩
      · rw [q1] at hb
        cases hb
      · rw [q1] at hb
        cases hb
        exact ⟨k, by rw [hself, q2]⟩
    · rw [xw_up_n _ _ hba] at hb
      obtain ⟨j, q1⟩ := hO b ci fs hb
      exact ⟨j, other j b _ hba q1⟩
/-- one cell has come -/
theorem xw_H.push {G : xw_G} {h : xw_A} {s : State} {H1 : Heap} {ws : va_W} {tys tys1 : List (ClassId × FieldType)} {a : Nat} {e1 : va_E} {e : xw_C}
    (hP : va_P G.2.1 vwCl (ws ++ [(a, e1)]) H1) (hK : va_K G.2.1 vwCl (tys ++ tys1) s) (hD : va_D (xw_g G) (ws ++ [(a, e1)])) (hn : h a = none)
    (hA : ∀ (a c : Nat) (x : vp_A), h a = some (.inl (c, x)) → ∃ (k t : Nat) (cA : ClassId), ws[k]? = some (a, .inl (cA, x)) ∧ tys[t]? = some (cA, xw_ty c))
    (hO : ∀ (a ci : Nat) (fs : List Value), h a = some (.inr (ci, fs)) → ∃ k : Nat, ws[k]? = some (a, .inr (ci, fs)))
    (he : (∃ (c t : Nat) (cA : ClassId) (x : vp_A), e = .inl (c, x) ∧ e1 = .inl (cA, x) ∧ (tys ++ tys1)[t]? = some (cA, xw_ty c)) ∨ ∃ (ci : Nat) (fs : List Value), e = .inr (ci, fs) ∧ e1 = .inr (ci, fs)) : xw_H G (xw_up h a e) s H1 := by
  have hself : (ws ++ [(a, e1)])[ws.length]? = some (a, e1) := by simp
  have other : ∀ (j b : Nat) (y : va_E), ws[j]? = some (b, y) → (ws ++ [(a, e1)])[j]? = some (b, y) := by
    intro j b y hj
    rw [List.getElem?_append_left (List.getElem?_eq_some_iff.mp hj).1]
    exact hj
  have othert : ∀ (j : Nat) (y : ClassId × FieldType), tys[j]? = some y → (tys ++ tys1)[j]? = some y := by
    intro j y hj
    rw [List.getElem?_append_left (List.getElem?_eq_some_iff.mp hj).1]
    exact hj
  refine ⟨_, _, hP, hK, hD, fun b c x hb => ?_, fun b ci fs hb => ?_⟩
  · by_cases hba : b = a
    · subst hba
      rw [xw_up_s] at hb
      rcases he with ⟨c', t, cA, x', q1, q2, q3⟩ | ⟨ci, fs, q1, -⟩
      · rw [q1] at hb
        cases hb
        exact ⟨_, t, cA, by rw [hself, q2], q3⟩
      · rw [q1] at hb
        cases hb
    · rw [xw_up_n _ _ hba] at hb
      obtain ⟨j, t, cA, q1, q2⟩ := hA b c x hb
      exact ⟨j, t, cA, other j b _ q1, othert t _ q2⟩
  · by_cases hba : b = a
    · subst hba
      rw [xw_up_s] at hb
      rcases he with ⟨c', t, cA, x', q1, -⟩ | ⟨ci', fs', q1, q2⟩
      · rw [q1] at hb
        cases hb
      · rw [q1] at hb
        cases hb
        exact ⟨_, by rw [hself, q2]⟩
    · rw [xw_up_n _ _ hba] at hb
      obtain ⟨j, q1⟩ := hO b ci fs hb
      exact ⟨j, other j b _ q1⟩
/-- what holds of the machine at every step of the method -/
def xw_K (G : xw_G) (M : xw_M) (p : Program) (s : State) (m : MethodId) (args : Array Value) (meth : Method) (c : Code) : Prop :=
  p.tables.exec = Jvm.exec ∧ c.code = M.2.1 ∧ meth.sig.returnType = M.2.2.2.1 ∧ c.maxLocals = M.2.2.1 ∧ s.vm.findClass M.1.cls = some m.cls ∧ (∀ w ∈ xw_tbl, w.before args s = true) ∧ meth.locks = false ∧ c.exceptionTable.toList = tableOf M.2.2.2.2 ∧ meth.name = M.1.name ∧ xw_F G s s.heap
/-- the locals, by place; none: not known -/
def xw_L (ls : Array Slot) (nL : Nat) (lv : List (Option Value)) : Prop := ls.size = nL ∧ lv_wf ls ∧ ∀ (i : Nat) (v : Value), lv[i]? = some (some v) → ls[i]? = some (.val v)
def xw_Q (G : xw_G) (pr : Option Value → xw_A → Prop) : Array Value → State → Outcome → State → Prop := fun _ st oc t =>
  (∃ (v : Option Value) (h1 : xw_A), oc = .returned v ∧ pr v h1 ∧ xw_H G h1 t t.heap) ∧ va_F (xw_g G) st t
/-- the method has thrown q -/
def xw_X (G : xw_G) (px : String → xw_A → Prop) (st : State) (q : Addr) (t : State) (mc ms : Nat) : Prop :=
  ∃ (E : String) (ce : Cell) (LL : List Loc) (h1 : xw_A), px E h1 ∧ xw_H G h1 t t.heap ∧ va_F (xw_g G) st t ∧ t.heap[q]? = some ce ∧ ce.vm = .none ∧ st.vm.findClass E = some ce.cls ∧ st.WarmedH t.vm ∧ st.sameButNew ({ t with vm := st.vm } : State) LL mc ms ∧ ∀ z ∈ LL, xw_g G z.base
/-- what a method owes at its end -/
def xw_E (G : xw_G) (pr : Option Value → xw_A → Prop) (px : String → xw_A → Prop) (mc ms : Nat) (a : Array Value) (st : State) (o : Outcome) (t : State) : Prop :=
  (xw_Q G pr a st o t ∧ ∃ LL, FrameEnd st o t LL mc ms ∧ ∀ q ∈ LL, xw_g G q.base) ∨ ∃ q, o = .threw q ∧ xw_X G px st q t mc ms
def xw_Z (G : xw_G) (pr : Option Value → xw_A → Prop) (px : String → xw_A → Prop) (below : List Frame) (a : Array Value) (s : State) (mc ms : Nat) : State → Prop := fun t => ∃ o, t.status = .running ∧ Ended t below o ∧ xw_E G pr px mc ms a s o t
theorem xw_ret {p : Program} {l : Launch} {e : Env} {R : Room} {s : State} {m : MethodId} {args : Array Value} {below : List Frame} {meth : Method} {c : Code} {H : Heap} {locs : List Loc} {cells slots : Nat} {G : xw_G} {pr : Option Value → xw_A → Prop} {px : String → xw_A → Prop} {g : JFrame} {mc ms : Nat} (k : W p l e R s m args below meth c H locs cells slots (MQ below (xw_Q G pr) args s mc ms (xw_g G)) g) : W p l e R s m args below meth c H locs cells slots (xw_Z G pr px below args s mc ms) g := by
  intro T hT X
  obtain ⟨t, a1, o, b1, b2, b3, b4⟩ := k T hT X
  exact ⟨t, a1, o, b1, b2, Or.inl ⟨b3, b4⟩⟩
/-- from this frame of M, with F frames and L words of locals left, bc cells and bs slots to make, the method comes to its end: it returns with pr, or throws with px -/
def xw (G : xw_G) (M : xw_M) (F L bc bs : Nat) (pr : Option Value → xw_A → Prop) (px : String → xw_A → Prop) (pc : Nat) (lv : List (Option Value)) (st : List Value) (h : xw_A) : Prop :=
  ∀ (p : Program) (e : Env) (R : Room) (s : State) (m : MethodId) (args : Array Value) (below : List Frame) (meth : Method) (c : Code) (H : Heap) (locs : List Loc) (cells slots : Nat) (ls : Array Slot),
    xw_K G M p s m args meth c → (F ≤ R.frames ∧ L ≤ R.locals) → (cells + bc ≤ R.cells ∧ slots + bs ≤ R.slots) → xw_H G h s H → va_S (xw_g G) s.heap H locs → xw_L ls M.2.2.1 lv →
    W p G.1 e R s m args below meth c H locs cells slots (xw_Z G pr px below args s R.cells R.slots) (F0 m pc ls st)

/-! locals -/
def xw_prs : Nat → List (Option Value) → List (Nat × Value)
  | _, [] => []
  | k, none :: t => xw_prs (k + 1) t
  | k, some v :: t => (k, v) :: xw_prs (k + 1) t
theorem xw_prs_in : ∀ (lv : List (Option Value)) (k j : Nat) (v : Value), (j, v) ∈ xw_prs k lv ↔ ∃ i, j = k + i ∧ lv[i]? = some (some v)
  | [], k, j, v => by simp [xw_prs]
  | none :: t, k, j, v => by
    rw [xw_prs, xw_prs_in t (k + 1) j v]
    constructor
    · rintro ⟨i, h1, h2⟩
      exact ⟨i + 1, by omega, by simpa using h2⟩
    · rintro ⟨i, h1, h2⟩
      cases i with
      | zero => simp at h2
      | succ i => exact ⟨i, by omega, by simpa using h2⟩
  | some w :: t, k, j, v => by
    rw [xw_prs, List.mem_cons, xw_prs_in t (k + 1) j v]
    constructor
    · rintro (h | ⟨i, h1, h2⟩)
      · cases h
        exact ⟨0, by omega, by simp⟩
      · exact ⟨i + 1, by omega, by simpa using h2⟩
    · rintro ⟨i, h1, h2⟩
      cases i with
      | zero =>
        left
        simp at h2
        rw [h1, h2]
        rfl
      | succ i => exact Or.inr ⟨i, by omega, by simpa using h2⟩
theorem xw_L.has {ls : Array Slot} {nL : Nat} {lv : List (Option Value)} (h : xw_L ls nL lv) : lv_has ls nL (xw_prs 0 lv) :=
  ⟨h.1, h.2.1, fun q hq => by
    obtain ⟨i, h1, h2⟩ := (xw_prs_in lv 0 q.1 q.2).mp hq
    rw [h1, Nat.zero_add]
    exact h.2.2 i q.2 h2⟩
/-- no value of two places ends just before place i -/
def xw_o (lv : List (Option Value)) : Nat → Prop
  | 0 => True
  | i + 1 => match lv[i]? with
    | some (some w) => w.category = 1
    | _ => True
theorem xw_o.not {lv : List (Option Value)} {i j : Nat} {w : Value} (h : xw_o lv i) (hj : lv[j]? = some (some w)) (hi : j + 1 = i) : w.category = 1 := by
  subst hi
  simpa [xw_o, hj] using h
theorem xw_L.st1 {ls : Array Slot} {nL : Nat} {lv : List (Option Value)} {i : Nat} {v : Value} (ho : xw_o lv i) (h : lv_has ls nL ((i, v) :: (xw_prs 0 lv).filter (fun q => !(q.1 == i) && !(q.1 + 1 == i && q.2.category == 2)))) : xw_L ls nL (lv.set i (some v)) := by
  refine ⟨h.1, h.2.1, fun j w hj => ?_⟩
  by_cases hji : j = i
  · subst hji
    have hl : j < lv.length := by
      have := (List.getElem?_eq_some_iff.mp hj).1
      simpa using this
    rw [List.getElem?_set_self hl] at hj
    cases hj
    exact h.2.2 (j, v) List.mem_cons_self
  · rw [List.getElem?_set_ne (Ne.symm hji)] at hj
    refine h.2.2 (j, w) (List.mem_cons_of_mem _ (List.mem_filter.mpr ⟨(xw_prs_in lv 0 j w).mpr ⟨j, by omega, hj⟩, ?_⟩))
    by_cases h1 : j + 1 = i
    · have := ho.not hj h1
      simp [hji, this]
    · simp [hji, h1]
theorem xw_L.st2 {ls : Array Slot} {nL : Nat} {lv : List (Option Value)} {i : Nat} {v : Value} (ho : xw_o lv i) (h : lv_has ls nL ((i, v) :: (xw_prs 0 lv).filter (fun q => !(q.1 == i) && (!(q.1 == i + 1) && !(q.1 + 1 == i && q.2.category == 2))))) : xw_L ls nL ((lv.set i (some v)).set (i + 1) none) := by
  refine ⟨h.1, h.2.1, fun j w hj => ?_⟩
  by_cases hj1 : j = i + 1
  · subst hj1
    by_cases hl : i + 1 < (lv.set i (some v)).length
    · rw [List.getElem?_set_self hl] at hj
      cases hj
    · have := (List.getElem?_eq_some_iff.mp hj).1
      simp at this hl
      omega
  · rw [List.getElem?_set_ne (Ne.symm hj1)] at hj
    by_cases hji : j = i
    · subst hji
      have hl : j < lv.length := by
        have := (List.getElem?_eq_some_iff.mp hj).1
        simpa using this
      rw [List.getElem?_set_self hl] at hj
      cases hj
      exact h.2.2 (j, v) List.mem_cons_self
    · rw [List.getElem?_set_ne (Ne.symm hji)] at hj
      refine h.2.2 (j, w) (List.mem_cons_of_mem _ (List.mem_filter.mpr ⟨(xw_prs_in lv 0 j w).mpr ⟨j, by omega, hj⟩, ?_⟩))
      by_cases h1 : j + 1 = i
      · have := ho.not hj h1
        simp [hji, hj1, this]
      · simp [hji, h1, hj1]
/-- fewer known -/
theorem xw_L.fewer {ls : Array Slot} {nL : Nat} {lv lv' : List (Option Value)} (h : xw_L ls nL lv) (hs : ∀ (i : Nat) (v : Value), lv'[i]? = some (some v) → lv[i]? = some (some v)) : xw_L ls nL lv' := ⟨h.1, h.2.1, fun i v hi => h.2.2 i v (hs i v hi)⟩
section Rows
variable {G : xw_G} {M : xw_M} {F L bc bs : Nat} {pr : Option Value → xw_A → Prop} {px : String → xw_A → Prop} {pc : Nat} {lv : List (Option Value)} {rest st : List Value} {h : xw_A}
theorem x_fewer {lv' : List (Option Value)} (hs : ∀ (i : Nat) (v : Value), lv'[i]? = some (some v) → lv[i]? = some (some v)) (k : xw G M F L bc bs pr px pc lv' st h) : xw G M F L bc bs pr px pc lv st h :=
  fun p e R s m args below meth c H locs cells slots ls C hR hB hH hS hl => k p e R s m args below meth c H locs cells slots ls C hR hB hH hS (hl.fewer hs)
/-- less room asked -/
theorem x_room {F' L' bc' bs' : Nat} (h1 : F' ≤ F) (h2 : L' ≤ L) (h3 : bc' ≤ bc) (h4 : bs' ≤ bs) (k : xw G M F' L' bc' bs' pr px pc lv st h) : xw G M F L bc bs pr px pc lv st h :=
  fun p e R s m args below meth c H locs cells slots ls C hR hB hH hS hl => k p e R s m args below meth c H locs cells slots ls C ⟨Nat.le_trans h1 hR.1, Nat.le_trans h2 hR.2⟩ ⟨Nat.le_trans (Nat.add_le_add_left h3 _) hB.1, Nat.le_trans (Nat.add_le_add_left h4 _) hB.2⟩ hH hS hl
theorem x_iconst {n : Int} {v : Int32} (d : decode M.2.1 pc = .ok (.iconst n, 1)) (hv : Int32.ofInt n = v) (k : xw G M F L bc bs pr px (pc + 1) lv (.int v :: rest) h) : xw G M F L bc bs pr px pc lv rest h :=
  fun p e R s m args below meth c H locs cells slots ls C hR hB hH hS hl => lv_iconst C.1 C.2.1 d hv (k p e R s m args below meth c H locs cells slots ls C hR hB hH hS hl)
theorem x_bipush {n : Int} {v : Int32} (d : decode M.2.1 pc = .ok (.bipush n, 2)) (hv : (Int8.ofInt n).toInt32 = v) (k : xw G M F L bc bs pr px (pc + 2) lv (.int v :: rest) h) : xw G M F L bc bs pr px pc lv rest h :=
  fun p e R s m args below meth c H locs cells slots ls C hR hB hH hS hl => lv_bipush C.1 C.2.1 d hv (k p e R s m args below meth c H locs cells slots ls C hR hB hH hS hl)
theorem x_sipush {n : Int} {v : Int32} (d : decode M.2.1 pc = .ok (.sipush n, 3)) (hv : (Int16.ofInt n).toInt32 = v) (k : xw G M F L bc bs pr px (pc + 3) lv (.int v :: rest) h) : xw G M F L bc bs pr px pc lv rest h :=
  fun p e R s m args below meth c H locs cells slots ls C hR hB hH hS hl => lv_sipush C.1 C.2.1 d hv (k p e R s m args below meth c H locs cells slots ls C hR hB hH hS hl)
theorem x_lconst {n : Fin 2} {v : Int64} (d : decode M.2.1 pc = .ok (.lconst n, 1)) (hv : Int64.ofNat (n : Nat) = v) (k : xw G M F L bc bs pr px (pc + 1) lv (.long v :: rest) h) : xw G M F L bc bs pr px pc lv rest h :=
  fun p e R s m args below meth c H locs cells slots ls C hR hB hH hS hl => lv_lconst C.1 C.2.1 d hv (k p e R s m args below meth c H locs cells slots ls C hR hB hH hS hl)
theorem x_dconst0  (d : decode M.2.1 pc = .ok (.dconst 0, 1))  (k : xw G M F L bc bs pr px (pc + 1) lv (.double FP.dconst0 :: rest) h) : xw G M F L bc bs pr px pc lv rest h :=
  fun p e R s m args below meth c H locs cells slots ls C hR hB hH hS hl => lv_dconst0 C.1 C.2.1 d  (k p e R s m args below meth c H locs cells slots ls C hR hB hH hS hl)
theorem x_dconst1  (d : decode M.2.1 pc = .ok (.dconst 1, 1))  (k : xw G M F L bc bs pr px (pc + 1) lv (.double FP.dconst1 :: rest) h) : xw G M F L bc bs pr px pc lv rest h :=
  fun p e R s m args below meth c H locs cells slots ls C hR hB hH hS hl => lv_dconst1 C.1 C.2.1 d  (k p e R s m args below meth c H locs cells slots ls C hR hB hH hS hl)
theorem x_null  (d : decode M.2.1 pc = .ok (.aconst_null, 1))  (k : xw G M F L bc bs pr px (pc + 1) lv (.null :: rest) h) : xw G M F L bc bs pr px pc lv rest h :=
  fun p e R s m args below meth c H locs cells slots ls C hR hB hH hS hl => lv_null C.1 C.2.1 d  (k p e R s m args below meth c H locs cells slots ls C hR hB hH hS hl)
theorem x_iload_n {k4 : Fin 4} {i : Nat} {x : Int32} (d : decode M.2.1 pc = .ok (.iload_n k4, 1)) (hi : (k4 : Nat) = i) (hv : lv[i]? = some (some (.int x))) (k : xw G M F L bc bs pr px (pc + 1) lv (.int x :: rest) h) : xw G M F L bc bs pr px pc lv rest h :=
  fun p e R s m args below meth c H locs cells slots ls C hR hB hH hS hl => lv_iload_n C.1 C.2.1 d hi (hl.2.2 i _ hv) (k p e R s m args below meth c H locs cells slots ls C hR hB hH hS hl)
theorem x_iload {i : Nat} {x : Int32} (d : decode M.2.1 pc = .ok (.iload i, 2)) (hv : lv[i]? = some (some (.int x))) (k : xw G M F L bc bs pr px (pc + 2) lv (.int x :: rest) h) : xw G M F L bc bs pr px pc lv rest h :=
  fun p e R s m args below meth c H locs cells slots ls C hR hB hH hS hl => lv_iload C.1 C.2.1 d (hl.2.2 i _ hv) (k p e R s m args below meth c H locs cells slots ls C hR hB hH hS hl)
theorem x_lload_n {k4 : Fin 4} {i : Nat} {x : Int64} (d : decode M.2.1 pc = .ok (.lload_n k4, 1)) (hi : (k4 : Nat) = i) (hv : lv[i]? = some (some (.long x))) (k : xw G M F L bc bs pr px (pc + 1) lv (.long x :: rest) h) : xw G M F L bc bs pr px pc lv rest h :=
  fun p e R s m args below meth c H locs cells slots ls C hR hB hH hS hl => lv_lload_n C.1 C.2.1 d hi (hl.2.2 i _ hv) (k p e R s m args below meth c H locs cells slots ls C hR hB hH hS hl)
theorem x_lload {i : Nat} {x : Int64} (d : decode M.2.1 pc = .ok (.lload i, 2)) (hv : lv[i]? = some (some (.long x))) (k : xw G M F L bc bs pr px (pc + 2) lv (.long x :: rest) h) : xw G M F L bc bs pr px pc lv rest h :=
  fun p e R s m args below meth c H locs cells slots ls C hR hB hH hS hl => lv_lload C.1 C.2.1 d (hl.2.2 i _ hv) (k p e R s m args below meth c H locs cells slots ls C hR hB hH hS hl)
theorem x_aload_n {k4 : Fin 4} {i : Nat} {x : Nat} (d : decode M.2.1 pc = .ok (.aload_n k4, 1)) (hi : (k4 : Nat) = i) (hv : lv[i]? = some (some (.ref x))) (k : xw G M F L bc bs pr px (pc + 1) lv (.ref x :: rest) h) : xw G M F L bc bs pr px pc lv rest h :=
  fun p e R s m args below meth c H locs cells slots ls C hR hB hH hS hl => lv_aload_n C.1 C.2.1 d hi (hl.2.2 i _ hv) (k p e R s m args below meth c H locs cells slots ls C hR hB hH hS hl)
theorem x_aload {i : Nat} {x : Nat} (d : decode M.2.1 pc = .ok (.aload i, 2)) (hv : lv[i]? = some (some (.ref x))) (k : xw G M F L bc bs pr px (pc + 2) lv (.ref x :: rest) h) : xw G M F L bc bs pr px pc lv rest h :=
  fun p e R s m args below meth c H locs cells slots ls C hR hB hH hS hl => lv_aload C.1 C.2.1 d (hl.2.2 i _ hv) (k p e R s m args below meth c H locs cells slots ls C hR hB hH hS hl)
theorem x_dload_n {k4 : Fin 4} {i : Nat} {x : UInt64} (d : decode M.2.1 pc = .ok (.dload_n k4, 1)) (hi : (k4 : Nat) = i) (hv : lv[i]? = some (some (.double x))) (k : xw G M F L bc bs pr px (pc + 1) lv (.double x :: rest) h) : xw G M F L bc bs pr px pc lv rest h :=
  fun p e R s m args below meth c H locs cells slots ls C hR hB hH hS hl => lv_dload_n C.1 C.2.1 d hi (hl.2.2 i _ hv) (k p e R s m args below meth c H locs cells slots ls C hR hB hH hS hl)
theorem x_dload {i : Nat} {x : UInt64} (d : decode M.2.1 pc = .ok (.dload i, 2)) (hv : lv[i]? = some (some (.double x))) (k : xw G M F L bc bs pr px (pc + 2) lv (.double x :: rest) h) : xw G M F L bc bs pr px pc lv rest h :=
  fun p e R s m args below meth c H locs cells slots ls C hR hB hH hS hl => lv_dload C.1 C.2.1 d (hl.2.2 i _ hv) (k p e R s m args below meth c H locs cells slots ls C hR hB hH hS hl)
theorem x_istore_n {k4 : Fin 4} {i : Nat} {x : Int32} (d : decode M.2.1 pc = .ok (.istore_n k4, 1)) (hi : (k4 : Nat) = i) (hn : i < M.2.2.1) (ho : xw_o lv i) (k : xw G M F L bc bs pr px (pc + 1) (lv.set i (some (.int x))) rest h) : xw G M F L bc bs pr px pc lv (.int x :: rest) h :=
  fun p e R s m args below meth c H locs cells slots ls C hR hB hH hS hl => lv_istore_n C.1 C.2.1 d hi hl.has hn rfl (fun ls2 h2 => k p e R s m args below meth c H locs cells slots ls2 C hR hB hH hS (xw_L.st1 ho h2))
theorem x_istore {i : Nat} {x : Int32} (d : decode M.2.1 pc = .ok (.istore i, 2)) (hn : i < M.2.2.1) (ho : xw_o lv i) (k : xw G M F L bc bs pr px (pc + 2) (lv.set i (some (.int x))) rest h) : xw G M F L bc bs pr px pc lv (.int x :: rest) h :=
  fun p e R s m args below meth c H locs cells slots ls C hR hB hH hS hl => lv_istore C.1 C.2.1 d hl.has hn rfl (fun ls2 h2 => k p e R s m args below meth c H locs cells slots ls2 C hR hB hH hS (xw_L.st1 ho h2))
theorem x_lstore_n {k4 : Fin 4} {i : Nat} {x : Int64} (d : decode M.2.1 pc = .ok (.lstore_n k4, 1)) (hi : (k4 : Nat) = i) (hn : i + 1 < M.2.2.1) (ho : xw_o lv i) (k : xw G M F L bc bs pr px (pc + 1) ((lv.set i (some (.long x))).set (i + 1) none) rest h) : xw G M F L bc bs pr px pc lv (.long x :: rest) h :=
  fun p e R s m args below meth c H locs cells slots ls C hR hB hH hS hl => lv_lstore_n C.1 C.2.1 d hi hl.has hn rfl (fun ls2 h2 => k p e R s m args below meth c H locs cells slots ls2 C hR hB hH hS (xw_L.st2 ho h2))
theorem x_lstore {i : Nat} {x : Int64} (d : decode M.2.1 pc = .ok (.lstore i, 2)) (hn : i + 1 < M.2.2.1) (ho : xw_o lv i) (k : xw G M F L bc bs pr px (pc + 2) ((lv.set i (some (.long x))).set (i + 1) none) rest h) : xw G M F L bc bs pr px pc lv (.long x :: rest) h :=
  fun p e R s m args below meth c H locs cells slots ls C hR hB hH hS hl => lv_lstore C.1 C.2.1 d hl.has hn rfl (fun ls2 h2 => k p e R s m args below meth c H locs cells slots ls2 C hR hB hH hS (xw_L.st2 ho h2))
theorem x_astore_n {k4 : Fin 4} {i : Nat} {x : Nat} (d : decode M.2.1 pc = .ok (.astore_n k4, 1)) (hi : (k4 : Nat) = i) (hn : i < M.2.2.1) (ho : xw_o lv i) (k : xw G M F L bc bs pr px (pc + 1) (lv.set i (some (.ref x))) rest h) : xw G M F L bc bs pr px pc lv (.ref x :: rest) h :=
  fun p e R s m args below meth c H locs cells slots ls C hR hB hH hS hl => lv_astore_n C.1 C.2.1 d hi hl.has hn rfl (fun ls2 h2 => k p e R s m args below meth c H locs cells slots ls2 C hR hB hH hS (xw_L.st1 ho h2))
theorem x_astore {i : Nat} {x : Nat} (d : decode M.2.1 pc = .ok (.astore i, 2)) (hn : i < M.2.2.1) (ho : xw_o lv i) (k : xw G M F L bc bs pr px (pc + 2) (lv.set i (some (.ref x))) rest h) : xw G M F L bc bs pr px pc lv (.ref x :: rest) h :=
  fun p e R s m args below meth c H locs cells slots ls C hR hB hH hS hl => lv_astore C.1 C.2.1 d hl.has hn rfl (fun ls2 h2 => k p e R s m args below meth c H locs cells slots ls2 C hR hB hH hS (xw_L.st1 ho h2))
theorem x_dstore_n {k4 : Fin 4} {i : Nat} {x : UInt64} (d : decode M.2.1 pc = .ok (.dstore_n k4, 1)) (hi : (k4 : Nat) = i) (hn : i + 1 < M.2.2.1) (ho : xw_o lv i) (k : xw G M F L bc bs pr px (pc + 1) ((lv.set i (some (.double x))).set (i + 1) none) rest h) : xw G M F L bc bs pr px pc lv (.double x :: rest) h :=
  fun p e R s m args below meth c H locs cells slots ls C hR hB hH hS hl => lv_dstore_n C.1 C.2.1 d hi hl.has hn rfl (fun ls2 h2 => k p e R s m args below meth c H locs cells slots ls2 C hR hB hH hS (xw_L.st2 ho h2))
theorem x_dstore {i : Nat} {x : UInt64} (d : decode M.2.1 pc = .ok (.dstore i, 2)) (hn : i + 1 < M.2.2.1) (ho : xw_o lv i) (k : xw G M F L bc bs pr px (pc + 2) ((lv.set i (some (.double x))).set (i + 1) none) rest h) : xw G M F L bc bs pr px pc lv (.double x :: rest) h :=
  fun p e R s m args below meth c H locs cells slots ls C hR hB hH hS hl => lv_dstore C.1 C.2.1 d hl.has hn rfl (fun ls2 h2 => k p e R s m args below meth c H locs cells slots ls2 C hR hB hH hS (xw_L.st2 ho h2))
theorem x_iinc {i : Nat} {n : Int} {x v : Int32} (d : decode M.2.1 pc = .ok (.iinc i n, 3)) (hv : lv[i]? = some (some (.int x))) (he : x + Int32.ofInt n = v) (hn : i < M.2.2.1) (ho : xw_o lv i) (k : xw G M F L bc bs pr px (pc + 3) (lv.set i (some (.int v))) rest h) : xw G M F L bc bs pr px pc lv rest h :=
  fun p e R s m args below meth c H locs cells slots ls C hR hB hH hS hl => by
    obtain ⟨j, hj⟩ := List.getElem?_of_mem ((xw_prs_in lv 0 i (.int x)).mpr ⟨i, by omega, hv⟩)
    exact lv_iinc C.1 C.2.1 d hl.has hj he hn rfl (fun ls2 h2 => k p e R s m args below meth c H locs cells slots ls2 C hR hB hH hS (xw_L.st1 ho h2))
theorem x_iadd {x y : Int32} (d : decode M.2.1 pc = .ok (.iadd, 1))  (k : xw G M F L bc bs pr px (pc + 1) lv (.int (x + y) :: rest) h) : xw G M F L bc bs pr px pc lv (.int y :: .int x :: rest) h :=
  fun p e R s m args below meth c H locs cells slots ls C hR hB hH hS hl => lv_iadd C.1 C.2.1 d  (k p e R s m args below meth c H locs cells slots ls C hR hB hH hS hl)
theorem x_isub {x y : Int32} (d : decode M.2.1 pc = .ok (.isub, 1))  (k : xw G M F L bc bs pr px (pc + 1) lv (.int (x - y) :: rest) h) : xw G M F L bc bs pr px pc lv (.int y :: .int x :: rest) h :=
  fun p e R s m args below meth c H locs cells slots ls C hR hB hH hS hl => lv_isub C.1 C.2.1 d  (k p e R s m args below meth c H locs cells slots ls C hR hB hH hS hl)
theorem x_imul {x y : Int32} (d : decode M.2.1 pc = .ok (.imul, 1))  (k : xw G M F L bc bs pr px (pc + 1) lv (.int (x * y) :: rest) h) : xw G M F L bc bs pr px pc lv (.int y :: .int x :: rest) h :=
  fun p e R s m args below meth c H locs cells slots ls C hR hB hH hS hl => lv_imul C.1 C.2.1 d  (k p e R s m args below meth c H locs cells slots ls C hR hB hH hS hl)
theorem x_iand {x y : Int32} (d : decode M.2.1 pc = .ok (.iand, 1))  (k : xw G M F L bc bs pr px (pc + 1) lv (.int (x &&& y) :: rest) h) : xw G M F L bc bs pr px pc lv (.int y :: .int x :: rest) h :=
  fun p e R s m args below meth c H locs cells slots ls C hR hB hH hS hl => lv_iand C.1 C.2.1 d  (k p e R s m args below meth c H locs cells slots ls C hR hB hH hS hl)
theorem x_ior {x y : Int32} (d : decode M.2.1 pc = .ok (.ior, 1))  (k : xw G M F L bc bs pr px (pc + 1) lv (.int (x ||| y) :: rest) h) : xw G M F L bc bs pr px pc lv (.int y :: .int x :: rest) h :=
  fun p e R s m args below meth c H locs cells slots ls C hR hB hH hS hl => lv_ior C.1 C.2.1 d  (k p e R s m args below meth c H locs cells slots ls C hR hB hH hS hl)
theorem x_ixor {x y : Int32} (d : decode M.2.1 pc = .ok (.ixor, 1))  (k : xw G M F L bc bs pr px (pc + 1) lv (.int (x ^^^ y) :: rest) h) : xw G M F L bc bs pr px pc lv (.int y :: .int x :: rest) h :=
  fun p e R s m args below meth c H locs cells slots ls C hR hB hH hS hl => lv_ixor C.1 C.2.1 d  (k p e R s m args below meth c H locs cells slots ls C hR hB hH hS hl)
theorem x_ishl {x y : Int32} (d : decode M.2.1 pc = .ok (.ishl, 1))  (k : xw G M F L bc bs pr px (pc + 1) lv (.int (x <<< (y &&& 31)) :: rest) h) : xw G M F L bc bs pr px pc lv (.int y :: .int x :: rest) h :=
  fun p e R s m args below meth c H locs cells slots ls C hR hB hH hS hl => lv_ishl C.1 C.2.1 d  (k p e R s m args below meth c H locs cells slots ls C hR hB hH hS hl)
theorem x_ishr {x y : Int32} (d : decode M.2.1 pc = .ok (.ishr, 1))  (k : xw G M F L bc bs pr px (pc + 1) lv (.int (x >>> (y &&& 31)) :: rest) h) : xw G M F L bc bs pr px pc lv (.int y :: .int x :: rest) h :=
  fun p e R s m args below meth c H locs cells slots ls C hR hB hH hS hl => lv_ishr C.1 C.2.1 d  (k p e R s m args below meth c H locs cells slots ls C hR hB hH hS hl)
theorem x_idiv {x y : Int32} (d : decode M.2.1 pc = .ok (.idiv, 1)) (hne : ¬ y = 0) (k : xw G M F L bc bs pr px (pc + 1) lv (.int (x / y) :: rest) h) : xw G M F L bc bs pr px pc lv (.int y :: .int x :: rest) h :=
  fun p e R s m args below meth c H locs cells slots ls C hR hB hH hS hl => lv_idiv C.1 C.2.1 d hne (k p e R s m args below meth c H locs cells slots ls C hR hB hH hS hl)
theorem x_irem {x y : Int32} (d : decode M.2.1 pc = .ok (.irem, 1)) (hne : ¬ y = 0) (k : xw G M F L bc bs pr px (pc + 1) lv (.int (x - x / y * y) :: rest) h) : xw G M F L bc bs pr px pc lv (.int y :: .int x :: rest) h :=
  fun p e R s m args below meth c H locs cells slots ls C hR hB hH hS hl => lv_irem C.1 C.2.1 d hne (k p e R s m args below meth c H locs cells slots ls C hR hB hH hS hl)
theorem x_ineg {x : Int32} (d : decode M.2.1 pc = .ok (.ineg, 1))  (k : xw G M F L bc bs pr px (pc + 1) lv (.int (-x) :: rest) h) : xw G M F L bc bs pr px pc lv (.int x :: rest) h :=
  fun p e R s m args below meth c H locs cells slots ls C hR hB hH hS hl => lv_ineg C.1 C.2.1 d  (k p e R s m args below meth c H locs cells slots ls C hR hB hH hS hl)
theorem x_iushr {x y v : Int32} (d : decode M.2.1 pc = .ok (.iushr, 1)) (hv : (x.toUInt32 >>> (y.toUInt32 &&& Int32.toUInt32 31)).toInt32 = v) (k : xw G M F L bc bs pr px (pc + 1) lv (.int v :: rest) h) : xw G M F L bc bs pr px pc lv (.int y :: .int x :: rest) h :=
  fun p e R s m args below meth c H locs cells slots ls C hR hB hH hS hl => lv_iushr C.1 C.2.1 d hv (k p e R s m args below meth c H locs cells slots ls C hR hB hH hS hl)
theorem x_ladd {x y : Int64} (d : decode M.2.1 pc = .ok (.ladd, 1))  (k : xw G M F L bc bs pr px (pc + 1) lv (.long (x + y) :: rest) h) : xw G M F L bc bs pr px pc lv (.long y :: .long x :: rest) h :=
  fun p e R s m args below meth c H locs cells slots ls C hR hB hH hS hl => lv_ladd C.1 C.2.1 d  (k p e R s m args below meth c H locs cells slots ls C hR hB hH hS hl)
theorem x_lsub {x y : Int64} (d : decode M.2.1 pc = .ok (.lsub, 1))  (k : xw G M F L bc bs pr px (pc + 1) lv (.long (x - y) :: rest) h) : xw G M F L bc bs pr px pc lv (.long y :: .long x :: rest) h :=
  fun p e R s m args below meth c H locs cells slots ls C hR hB hH hS hl => lv_lsub C.1 C.2.1 d  (k p e R s m args below meth c H locs cells slots ls C hR hB hH hS hl)
theorem x_lmul {x y : Int64} (d : decode M.2.1 pc = .ok (.lmul, 1))  (k : xw G M F L bc bs pr px (pc + 1) lv (.long (x * y) :: rest) h) : xw G M F L bc bs pr px pc lv (.long y :: .long x :: rest) h :=
  fun p e R s m args below meth c H locs cells slots ls C hR hB hH hS hl => lv_lmul C.1 C.2.1 d  (k p e R s m args below meth c H locs cells slots ls C hR hB hH hS hl)
theorem x_land {x y : Int64} (d : decode M.2.1 pc = .ok (.land, 1))  (k : xw G M F L bc bs pr px (pc + 1) lv (.long (x &&& y) :: rest) h) : xw G M F L bc bs pr px pc lv (.long y :: .long x :: rest) h :=
  fun p e R s m args below meth c H locs cells slots ls C hR hB hH hS hl => lv_land C.1 C.2.1 d  (k p e R s m args below meth c H locs cells slots ls C hR hB hH hS hl)
theorem x_lor {x y : Int64} (d : decode M.2.1 pc = .ok (.lor, 1))  (k : xw G M F L bc bs pr px (pc + 1) lv (.long (x ||| y) :: rest) h) : xw G M F L bc bs pr px pc lv (.long y :: .long x :: rest) h :=
  fun p e R s m args below meth c H locs cells slots ls C hR hB hH hS hl => lv_lor C.1 C.2.1 d  (k p e R s m args below meth c H locs cells slots ls C hR hB hH hS hl)
theorem x_lxor {x y : Int64} (d : decode M.2.1 pc = .ok (.lxor, 1))  (k : xw G M F L bc bs pr px (pc + 1) lv (.long (x ^^^ y) :: rest) h) : xw G M F L bc bs pr px pc lv (.long y :: .long x :: rest) h :=
  fun p e R s m args below meth c H locs cells slots ls C hR hB hH hS hl => lv_lxor C.1 C.2.1 d  (k p e R s m args below meth c H locs cells slots ls C hR hB hH hS hl)
theorem x_lushr {x v : Int64} {y : Int32} (d : decode M.2.1 pc = .ok (.lushr, 1)) (hv : (x.toUInt64 >>> (y.toInt64.toUInt64 &&& Int64.toUInt64 63)).toInt64 = v) (k : xw G M F L bc bs pr px (pc + 1) lv (.long v :: rest) h) : xw G M F L bc bs pr px pc lv (.int y :: .long x :: rest) h :=
  fun p e R s m args below meth c H locs cells slots ls C hR hB hH hS hl => lv_lushr C.1 C.2.1 d hv (k p e R s m args below meth c H locs cells slots ls C hR hB hH hS hl)
theorem x_lshl {x v : Int64} {y : Int32} (d : decode M.2.1 pc = .ok (.lshl, 1)) (hv : x <<< (y.toInt64 &&& 63) = v) (k : xw G M F L bc bs pr px (pc + 1) lv (.long v :: rest) h) : xw G M F L bc bs pr px pc lv (.int y :: .long x :: rest) h :=
  fun p e R s m args below meth c H locs cells slots ls C hR hB hH hS hl => lv_lshl C.1 C.2.1 d hv (k p e R s m args below meth c H locs cells slots ls C hR hB hH hS hl)
theorem x_lshr {x v : Int64} {y : Int32} (d : decode M.2.1 pc = .ok (.lshr, 1)) (hv : x >>> (y.toInt64 &&& 63) = v) (k : xw G M F L bc bs pr px (pc + 1) lv (.long v :: rest) h) : xw G M F L bc bs pr px pc lv (.int y :: .long x :: rest) h :=
  fun p e R s m args below meth c H locs cells slots ls C hR hB hH hS hl => lv_lshr C.1 C.2.1 d hv (k p e R s m args below meth c H locs cells slots ls C hR hB hH hS hl)
theorem x_i2l {x : Int32} {v : Int64} (d : decode M.2.1 pc = .ok (.i2l, 1)) (hv : x.toInt64 = v) (k : xw G M F L bc bs pr px (pc + 1) lv (.long v :: rest) h) : xw G M F L bc bs pr px pc lv (.int x :: rest) h :=
  fun p e R s m args below meth c H locs cells slots ls C hR hB hH hS hl => lv_i2l C.1 C.2.1 d hv (k p e R s m args below meth c H locs cells slots ls C hR hB hH hS hl)
theorem x_l2i {x : Int64} {v : Int32} (d : decode M.2.1 pc = .ok (.l2i, 1)) (hv : x.toInt32 = v) (k : xw G M F L bc bs pr px (pc + 1) lv (.int v :: rest) h) : xw G M F L bc bs pr px pc lv (.long x :: rest) h :=
  fun p e R s m args below meth c H locs cells slots ls C hR hB hH hS hl => lv_l2i C.1 C.2.1 d hv (k p e R s m args below meth c H locs cells slots ls C hR hB hH hS hl)
theorem x_i2c {x v : Int32} (d : decode M.2.1 pc = .ok (.i2c, 1)) (hv : (x.toUInt32 % 65536).toInt32 = v) (k : xw G M F L bc bs pr px (pc + 1) lv (.int v :: rest) h) : xw G M F L bc bs pr px pc lv (.int x :: rest) h :=
  fun p e R s m args below meth c H locs cells slots ls C hR hB hH hS hl => lv_i2c C.1 C.2.1 d hv (k p e R s m args below meth c H locs cells slots ls C hR hB hH hS hl)
theorem x_i2b {x v : Int32} (d : decode M.2.1 pc = .ok (.i2b, 1)) (hv : x.toInt8.toInt32 = v) (k : xw G M F L bc bs pr px (pc + 1) lv (.int v :: rest) h) : xw G M F L bc bs pr px pc lv (.int x :: rest) h :=
  fun p e R s m args below meth c H locs cells slots ls C hR hB hH hS hl => lv_i2b C.1 C.2.1 d hv (k p e R s m args below meth c H locs cells slots ls C hR hB hH hS hl)
theorem x_lcmp {x y : Int64} (d : decode M.2.1 pc = .ok (.lcmp, 1))  (k : xw G M F L bc bs pr px (pc + 1) lv (.int (lg_cmp x y) :: rest) h) : xw G M F L bc bs pr px pc lv (.long y :: .long x :: rest) h :=
  fun p e R s m args below meth c H locs cells slots ls C hR hB hH hS hl => W.lcmp C.1 C.2.1 d  (k p e R s m args below meth c H locs cells slots ls C hR hB hH hS hl)
theorem x_i2d {x : Int32} (d : decode M.2.1 pc = .ok (.i2d, 1))  (k : xw G M F L bc bs pr px (pc + 1) lv (.double (FP.i2d x) :: rest) h) : xw G M F L bc bs pr px pc lv (.int x :: rest) h :=
  fun p e R s m args below meth c H locs cells slots ls C hR hB hH hS hl => lv_i2d C.1 C.2.1 d  (k p e R s m args below meth c H locs cells slots ls C hR hB hH hS hl)
theorem x_dadd {x y : UInt64} (d : decode M.2.1 pc = .ok (.dadd, 1)) (hne : vf_n64 (FP.dadd x y)) (k : xw G M F L bc bs pr px (pc + 1) lv (.double (FP.dadd x y) :: rest) h) : xw G M F L bc bs pr px pc lv (.double y :: .double x :: rest) h :=
  fun p e R s m args below meth c H locs cells slots ls C hR hB hH hS hl => lv_dadd C.1 C.2.1 d hne (k p e R s m args below meth c H locs cells slots ls C hR hB hH hS hl)
theorem x_dsub {x y : UInt64} (d : decode M.2.1 pc = .ok (.dsub, 1)) (hne : vf_n64 (FP.dsub x y)) (k : xw G M F L bc bs pr px (pc + 1) lv (.double (FP.dsub x y) :: rest) h) : xw G M F L bc bs pr px pc lv (.double y :: .double x :: rest) h :=
  fun p e R s m args below meth c H locs cells slots ls C hR hB hH hS hl => lv_dsub C.1 C.2.1 d hne (k p e R s m args below meth c H locs cells slots ls C hR hB hH hS hl)
theorem x_dmul {x y : UInt64} (d : decode M.2.1 pc = .ok (.dmul, 1)) (hne : vf_n64 (FP.dmul x y)) (k : xw G M F L bc bs pr px (pc + 1) lv (.double (FP.dmul x y) :: rest) h) : xw G M F L bc bs pr px pc lv (.double y :: .double x :: rest) h :=
  fun p e R s m args below meth c H locs cells slots ls C hR hB hH hS hl => lv_dmul C.1 C.2.1 d hne (k p e R s m args below meth c H locs cells slots ls C hR hB hH hS hl)
theorem x_ddiv {x y : UInt64} (d : decode M.2.1 pc = .ok (.ddiv, 1)) (hne : vf_n64 (FP.ddiv x y)) (k : xw G M F L bc bs pr px (pc + 1) lv (.double (FP.ddiv x y) :: rest) h) : xw G M F L bc bs pr px pc lv (.double y :: .double x :: rest) h :=
  fun p e R s m args below meth c H locs cells slots ls C hR hB hH hS hl => lv_ddiv C.1 C.2.1 d hne (k p e R s m args below meth c H locs cells slots ls C hR hB hH hS hl)
theorem x_dcmp {x y : UInt64} {op : CmpOp} (d : decode M.2.1 pc = .ok (.dcmp op, 1))  (k : xw G M F L bc bs pr px (pc + 1) lv (.int (Op.cmpValue (FP.dcmp x y) op) :: rest) h) : xw G M F L bc bs pr px pc lv (.double y :: .double x :: rest) h :=
  fun p e R s m args below meth c H locs cells slots ls C hR hB hH hS hl => lv_dcmp C.1 C.2.1 d  (k p e R s m args below meth c H locs cells slots ls C hR hB hH hS hl)
theorem x_dup {va : Value} (d : decode M.2.1 pc = .ok (.dup, 1)) (hva : va.category = 1) (k : xw G M F L bc bs pr px (pc + 1) lv (va :: va :: rest) h) : xw G M F L bc bs pr px pc lv (va :: rest) h :=
  fun p e R s m args below meth c H locs cells slots ls C hR hB hH hS hl => lv_dup C.1 C.2.1 d hva (k p e R s m args below meth c H locs cells slots ls C hR hB hH hS hl)
theorem x_pop {va : Value} (d : decode M.2.1 pc = .ok (.pop, 1)) (hva : va.category = 1) (k : xw G M F L bc bs pr px (pc + 1) lv rest h) : xw G M F L bc bs pr px pc lv (va :: rest) h :=
  fun p e R s m args below meth c H locs cells slots ls C hR hB hH hS hl => lv_pop C.1 C.2.1 d hva (k p e R s m args below meth c H locs cells slots ls C hR hB hH hS hl)
theorem x_dup_x1 {va vb : Value} (d : decode M.2.1 pc = .ok (.dup_x1, 1)) (hva : va.category = 1) (hvb : vb.category = 1) (k : xw G M F L bc bs pr px (pc + 1) lv (va :: vb :: va :: rest) h) : xw G M F L bc bs pr px pc lv (va :: vb :: rest) h :=
  fun p e R s m args below meth c H locs cells slots ls C hR hB hH hS hl => lv_dup_x1 C.1 C.2.1 d hva hvb (k p e R s m args below meth c H locs cells slots ls C hR hB hH hS hl)
theorem x_dup_x2 {va vb vd : Value} (d : decode M.2.1 pc = .ok (.dup_x2, 1)) (hva : va.category = 1) (hvb : vb.category = 1) (hvd : vd.category = 1) (k : xw G M F L bc bs pr px (pc + 1) lv (va :: vb :: vd :: va :: rest) h) : xw G M F L bc bs pr px pc lv (va :: vb :: vd :: rest) h :=
  fun p e R s m args below meth c H locs cells slots ls C hR hB hH hS hl => lv_dup_x2 C.1 C.2.1 d hva hvb hvd (k p e R s m args below meth c H locs cells slots ls C hR hB hH hS hl)
theorem x_dup2 {va vb : Value} (d : decode M.2.1 pc = .ok (.dup2, 1)) (hva : va.category = 1) (hvb : vb.category = 1) (k : xw G M F L bc bs pr px (pc + 1) lv (va :: vb :: va :: vb :: rest) h) : xw G M F L bc bs pr px pc lv (va :: vb :: rest) h :=
  fun p e R s m args below meth c H locs cells slots ls C hR hB hH hS hl => lv_dup2_11 C.1 C.2.1 d hva hvb (k p e R s m args below meth c H locs cells slots ls C hR hB hH hS hl)
theorem x_if_eq {x : Int32} {off : Int} {tgt : Nat} (d : decode M.2.1 pc = .ok (.ifCond .eq off, 3)) (ht : (pc : Int) + off = (tgt : Int)) (kt : x = 0 → xw G M F L bc bs pr px tgt lv rest h) (kf : ¬ x = 0 → xw G M F L bc bs pr px (pc + 3) lv rest h) : xw G M F L bc bs pr px pc lv (.int x :: rest) h :=
  fun p e R s m args below meth c H locs cells slots ls C hR hB hH hS hl => lv_if_eq C.1 C.2.1 d ht (fun hc => kt hc p e R s m args below meth c H locs cells slots ls C hR hB hH hS hl) (fun hc => kf hc p e R s m args below meth c H locs cells slots ls C hR hB hH hS hl)
theorem x_icmp_eq {x y : Int32} {off : Int} {tgt : Nat} (d : decode M.2.1 pc = .ok (.if_icmp .eq off, 3)) (ht : (pc : Int) + off = (tgt : Int)) (kt : x = y → xw G M F L bc bs pr px tgt lv rest h) (kf : ¬ x = y → xw G M F L bc bs pr px (pc + 3) lv rest h) : xw G M F L bc bs pr px pc lv (.int y :: .int x :: rest) h :=
  fun p e R s m args below meth c H locs cells slots ls C hR hB hH hS hl => lv_icmp_eq C.1 C.2.1 d ht (fun hc => kt hc p e R s m args below meth c H locs cells slots ls C hR hB hH hS hl) (fun hc => kf hc p e R s m args below meth c H locs cells slots ls C hR hB hH hS hl)
theorem x_if_ne {x : Int32} {off : Int} {tgt : Nat} (d : decode M.2.1 pc = .ok (.ifCond .ne off, 3)) (ht : (pc : Int) + off = (tgt : Int)) (kt : ¬ x = 0 → xw G M F L bc bs pr px tgt lv rest h) (kf : x = 0 → xw G M F L bc bs pr px (pc + 3) lv rest h) : xw G M F L bc bs pr px pc lv (.int x :: rest) h :=
  fun p e R s m args below meth c H locs cells slots ls C hR hB hH hS hl => lv_if_ne C.1 C.2.1 d ht (fun hc => kt hc p e R s m args below meth c H locs cells slots ls C hR hB hH hS hl) (fun hc => kf hc p e R s m args below meth c H locs cells slots ls C hR hB hH hS hl)
theorem x_icmp_ne {x y : Int32} {off : Int} {tgt : Nat} (d : decode M.2.1 pc = .ok (.if_icmp .ne off, 3)) (ht : (pc : Int) + off = (tgt : Int)) (kt : ¬ x = y → xw G M F L bc bs pr px tgt lv rest h) (kf : x = y → xw G M F L bc bs pr px (pc + 3) lv rest h) : xw G M F L bc bs pr px pc lv (.int y :: .int x :: rest) h :=
  fun p e R s m args below meth c H locs cells slots ls C hR hB hH hS hl => lv_icmp_ne C.1 C.2.1 d ht (fun hc => kt hc p e R s m args below meth c H locs cells slots ls C hR hB hH hS hl) (fun hc => kf hc p e R s m args below meth c H locs cells slots ls C hR hB hH hS hl)
theorem x_if_lt {x : Int32} {off : Int} {tgt : Nat} (d : decode M.2.1 pc = .ok (.ifCond .lt off, 3)) (ht : (pc : Int) + off = (tgt : Int)) (kt : x < 0 → xw G M F L bc bs pr px tgt lv rest h) (kf : ¬ x < 0 → xw G M F L bc bs pr px (pc + 3) lv rest h) : xw G M F L bc bs pr px pc lv (.int x :: rest) h :=
  fun p e R s m args below meth c H locs cells slots ls C hR hB hH hS hl => lv_if_lt C.1 C.2.1 d ht (fun hc => kt hc p e R s m args below meth c H locs cells slots ls C hR hB hH hS hl) (fun hc => kf hc p e R s m args below meth c H locs cells slots ls C hR hB hH hS hl)
theorem x_icmp_lt {x y : Int32} {off : Int} {tgt : Nat} (d : decode M.2.1 pc = .ok (.if_icmp .lt off, 3)) (ht : (pc : Int) + off = (tgt : Int)) (kt : x < y → xw G M F L bc bs pr px tgt lv rest h) (kf : ¬ x < y → xw G M F L bc bs pr px (pc + 3) lv rest h) : xw G M F L bc bs pr px pc lv (.int y :: .int x :: rest) h :=
  fun p e R s m args below meth c H locs cells slots ls C hR hB hH hS hl => lv_icmp_lt C.1 C.2.1 d ht (fun hc => kt hc p e R s m args below meth c H locs cells slots ls C hR hB hH hS hl) (fun hc => kf hc p e R s m args below meth c H locs cells slots ls C hR hB hH hS hl)
theorem x_if_ge {x : Int32} {off : Int} {tgt : Nat} (d : decode M.2.1 pc = .ok (.ifCond .ge off, 3)) (ht : (pc : Int) + off = (tgt : Int)) (kt : 0 ≤ x → xw G M F L bc bs pr px tgt lv rest h) (kf : ¬ 0 ≤ x → xw G M F L bc bs pr px (pc + 3) lv rest h) : xw G M F L bc bs pr px pc lv (.int x :: rest) h :=
  fun p e R s m args below meth c H locs cells slots ls C hR hB hH hS hl => lv_if_ge C.1 C.2.1 d ht (fun hc => kt hc p e R s m args below meth c H locs cells slots ls C hR hB hH hS hl) (fun hc => kf hc p e R s m args below meth c H locs cells slots ls C hR hB hH hS hl)
theorem x_icmp_ge {x y : Int32} {off : Int} {tgt : Nat} (d : decode M.2.1 pc = .ok (.if_icmp .ge off, 3)) (ht : (pc : Int) + off = (tgt : Int)) (kt : y ≤ x → xw G M F L bc bs pr px tgt lv rest h) (kf : ¬ y ≤ x → xw G M F L bc bs pr px (pc + 3) lv rest h) : xw G M F L bc bs pr px pc lv (.int y :: .int x :: rest) h :=
  fun p e R s m args below meth c H locs cells slots ls C hR hB hH hS hl => lv_icmp_ge C.1 C.2.1 d ht (fun hc => kt hc p e R s m args below meth c H locs cells slots ls C hR hB hH hS hl) (fun hc => kf hc p e R s m args below meth c H locs cells slots ls C hR hB hH hS hl)
theorem x_if_gt {x : Int32} {off : Int} {tgt : Nat} (d : decode M.2.1 pc = .ok (.ifCond .gt off, 3)) (ht : (pc : Int) + off = (tgt : Int)) (kt : 0 < x → xw G M F L bc bs pr px tgt lv rest h) (kf : ¬ 0 < x → xw G M F L bc bs pr px (pc + 3) lv rest h) : xw G M F L bc bs pr px pc lv (.int x :: rest) h :=
  fun p e R s m args below meth c H locs cells slots ls C hR hB hH hS hl => lv_if_gt C.1 C.2.1 d ht (fun hc => kt hc p e R s m args below meth c H locs cells slots ls C hR hB hH hS hl) (fun hc => kf hc p e R s m args below meth c H locs cells slots ls C hR hB hH hS hl)
theorem x_icmp_gt {x y : Int32} {off : Int} {tgt : Nat} (d : decode M.2.1 pc = .ok (.if_icmp .gt off, 3)) (ht : (pc : Int) + off = (tgt : Int)) (kt : y < x → xw G M F L bc bs pr px tgt lv rest h) (kf : ¬ y < x → xw G M F L bc bs pr px (pc + 3) lv rest h) : xw G M F L bc bs pr px pc lv (.int y :: .int x :: rest) h :=
  fun p e R s m args below meth c H locs cells slots ls C hR hB hH hS hl => lv_icmp_gt C.1 C.2.1 d ht (fun hc => kt hc p e R s m args below meth c H locs cells slots ls C hR hB hH hS hl) (fun hc => kf hc p e R s m args below meth c H locs cells slots ls C hR hB hH hS hl)
theorem x_if_le {x : Int32} {off : Int} {tgt : Nat} (d : decode M.2.1 pc = .ok (.ifCond .le off, 3)) (ht : (pc : Int) + off = (tgt : Int)) (kt : x ≤ 0 → xw G M F L bc bs pr px tgt lv rest h) (kf : ¬ x ≤ 0 → xw G M F L bc bs pr px (pc + 3) lv rest h) : xw G M F L bc bs pr px pc lv (.int x :: rest) h :=
  fun p e R s m args below meth c H locs cells slots ls C hR hB hH hS hl => lv_if_le C.1 C.2.1 d ht (fun hc => kt hc p e R s m args below meth c H locs cells slots ls C hR hB hH hS hl) (fun hc => kf hc p e R s m args below meth c H locs cells slots ls C hR hB hH hS hl)
theorem x_icmp_le {x y : Int32} {off : Int} {tgt : Nat} (d : decode M.2.1 pc = .ok (.if_icmp .le off, 3)) (ht : (pc : Int) + off = (tgt : Int)) (kt : x ≤ y → xw G M F L bc bs pr px tgt lv rest h) (kf : ¬ x ≤ y → xw G M F L bc bs pr px (pc + 3) lv rest h) : xw G M F L bc bs pr px pc lv (.int y :: .int x :: rest) h :=
  fun p e R s m args below meth c H locs cells slots ls C hR hB hH hS hl => lv_icmp_le C.1 C.2.1 d ht (fun hc => kt hc p e R s m args below meth c H locs cells slots ls C hR hB hH hS hl) (fun hc => kf hc p e R s m args below meth c H locs cells slots ls C hR hB hH hS hl)
theorem x_goto {off : Int} {tgt : Nat} (d : decode M.2.1 pc = .ok (.goto off, 3)) (ht : (pc : Int) + off = (tgt : Int)) (k : xw G M F L bc bs pr px tgt lv rest h) : xw G M F L bc bs pr px pc lv rest h :=
  fun p e R s m args below meth c H locs cells slots ls C hR hB hH hS hl => lv_goto C.1 C.2.1 d ht (k p e R s m args below meth c H locs cells slots ls C hR hB hH hS hl)
theorem x_ifnull {a : Nat} {off : Int} (d : decode M.2.1 pc = .ok (.ifnull off, 3)) (k : xw G M F L bc bs pr px (pc + 3) lv rest h) : xw G M F L bc bs pr px pc lv (.ref a :: rest) h :=
  fun p e R s m args below meth c H locs cells slots ls C hR hB hH hS hl => lv_ifnull C.1 C.2.1 d (k p e R s m args below meth c H locs cells slots ls C hR hB hH hS hl)
theorem x_ifnullN {off : Int} {tgt : Nat} (d : decode M.2.1 pc = .ok (.ifnull off, 3)) (ht : (pc : Int) + off = (tgt : Int)) (k : xw G M F L bc bs pr px tgt lv rest h) : xw G M F L bc bs pr px pc lv (.null :: rest) h :=
  fun p e R s m args below meth c H locs cells slots ls C hR hB hH hS hl => lv_ifnullN C.1 C.2.1 d ht (k p e R s m args below meth c H locs cells slots ls C hR hB hH hS hl)
theorem x_ifnonnull {a : Nat} {off : Int} {tgt : Nat} (d : decode M.2.1 pc = .ok (.ifnonnull off, 3)) (ht : (pc : Int) + off = (tgt : Int)) (k : xw G M F L bc bs pr px tgt lv rest h) : xw G M F L bc bs pr px pc lv (.ref a :: rest) h :=
  fun p e R s m args below meth c H locs cells slots ls C hR hB hH hS hl => lv_ifnonnull C.1 C.2.1 d ht (k p e R s m args below meth c H locs cells slots ls C hR hB hH hS hl)
theorem x_ifnonnullN {off : Int} (d : decode M.2.1 pc = .ok (.ifnonnull off, 3)) (k : xw G M F L bc bs pr px (pc + 3) lv rest h) : xw G M F L bc bs pr px pc lv (.null :: rest) h :=
  fun p e R s m args below meth c H locs cells slots ls C hR hB hH hS hl => lv_ifnonnullN C.1 C.2.1 d (k p e R s m args below meth c H locs cells slots ls C hR hB hH hS hl)
theorem x_table {dflt lo hi : Int} {offs : Array Int} {len : Nat} {x : Int32} (d : decode M.2.1 pc = .ok (.tableswitch dflt lo hi offs, len)) (ki : ∀ (off : Int) (tgt : Nat), ¬ x.toInt < lo → ¬ hi < x.toInt → offs[(x.toInt - lo).toNat]? = some off → (pc : Int) + off = (tgt : Int) → xw G M F L bc bs pr px tgt lv rest h) (kn : ¬ x.toInt < lo → ¬ hi < x.toInt → ∃ (off : Int) (tgt : Nat), offs[(x.toInt - lo).toNat]? = some off ∧ (pc : Int) + off = (tgt : Int)) {dt : Nat} (ht : (pc : Int) + dflt = (dt : Int)) (ko : x.toInt < lo ∨ hi < x.toInt → xw G M F L bc bs pr px dt lv rest h) : xw G M F L bc bs pr px pc lv (.int x :: rest) h :=
  fun p e R s m args below meth c H locs cells slots ls C hR hB hH hS hl => by
    by_cases h1 : x.toInt < lo
    · exact lv_tableOut C.1 C.2.1 d (Or.inl h1) ht (ko (Or.inl h1) p e R s m args below meth c H locs cells slots ls C hR hB hH hS hl)
    · by_cases h2 : hi < x.toInt
      · exact lv_tableOut C.1 C.2.1 d (Or.inr h2) ht (ko (Or.inr h2) p e R s m args below meth c H locs cells slots ls C hR hB hH hS hl)
      · obtain ⟨off, tgt, g1, g2⟩ := kn h1 h2
        exact lv_tableIn C.1 C.2.1 d h1 h2 g1 g2 (ki off tgt h1 h2 g1 g2 p e R s m args below meth c H locs cells slots ls C hR hB hH hS hl)
theorem x_iret {v : Int32} (d : decode M.2.1 pc = .ok (.ireturn, 1)) (hr : M.2.2.2.1 = some .int) (hp : pr (some (.int v)) h) : xw G M F L bc bs pr px pc lv [.int v] h :=
  fun p e R s m args below meth c H locs cells slots ls C hR hB hH hS hl => by
    have hq : ∀ t : State, t.heap = H → s.WarmedH t.vm → xw_Q G pr args s (.returned (some (.int v))) t := fun t ht hW => ⟨⟨_, h, rfl, hp, xw_H.moved hW.alike (by rw [ht]; exact hH)⟩, hS.F ht⟩
    have hlocks := C.2.2.2.2.2.2.1
    refine xw_ret (W.widen (k := R.cells) (n := R.slots) (Nat.le_trans (Nat.le_add_right _ _) hB.1) (Nat.le_trans (Nat.le_add_right _ _) hB.2) ?_)
    exact W.iret C.1 C.2.1 (C.2.2.1.trans hr) hq hS.2.2 d
theorem x_zret {v : Int32} {ty : FieldType} (d : decode M.2.1 pc = .ok (.ireturn, 1)) (hr : M.2.2.2.1 = some ty) (hn : narrow ty (.int v) = .int v) (hp : pr (some (.int v)) h) : xw G M F L bc bs pr px pc lv [.int v] h :=
  fun p e R s m args below meth c H locs cells slots ls C hR hB hH hS hl => by
    have hq : ∀ t : State, t.heap = H → s.WarmedH t.vm → xw_Q G pr args s (.returned (some (.int v))) t := fun t ht hW => ⟨⟨_, h, rfl, hp, xw_H.moved hW.alike (by rw [ht]; exact hH)⟩, hS.F ht⟩
    have hlocks := C.2.2.2.2.2.2.1
    refine xw_ret (W.widen (k := R.cells) (n := R.slots) (Nat.le_trans (Nat.le_add_right _ _) hB.1) (Nat.le_trans (Nat.le_add_right _ _) hB.2) ?_)
    exact W.zret C.1 C.2.1 (C.2.2.1.trans hr) hn hq hS.2.2 d
theorem x_lret {v : Int64} (d : decode M.2.1 pc = .ok (.lreturn, 1)) (hr : M.2.2.2.1 = some .long) (hp : pr (some (.long v)) h) : xw G M F L bc bs pr px pc lv [.long v] h :=
  fun p e R s m args below meth c H locs cells slots ls C hR hB hH hS hl => by
    have hq : ∀ t : State, t.heap = H → s.WarmedH t.vm → xw_Q G pr args s (.returned (some (.long v))) t := fun t ht hW => ⟨⟨_, h, rfl, hp, xw_H.moved hW.alike (by rw [ht]; exact hH)⟩, hS.F ht⟩
    have hlocks := C.2.2.2.2.2.2.1
    refine xw_ret (W.widen (k := R.cells) (n := R.slots) (Nat.le_trans (Nat.le_add_right _ _) hB.1) (Nat.le_trans (Nat.le_add_right _ _) hB.2) ?_)
    exact W.lret C.1 C.2.1 (C.2.2.1.trans hr) hq hS.2.2 d
theorem x_dret {v : UInt64} (d : decode M.2.1 pc = .ok (.dreturn, 1)) (hr : M.2.2.2.1 = some .double) (hp : pr (some (.double v)) h) : xw G M F L bc bs pr px pc lv [.double v] h :=
  fun p e R s m args below meth c H locs cells slots ls C hR hB hH hS hl => by
    have hq : ∀ t : State, t.heap = H → s.WarmedH t.vm → xw_Q G pr args s (.returned (some (.double v))) t := fun t ht hW => ⟨⟨_, h, rfl, hp, xw_H.moved hW.alike (by rw [ht]; exact hH)⟩, hS.F ht⟩
    have hlocks := C.2.2.2.2.2.2.1
    refine xw_ret (W.widen (k := R.cells) (n := R.slots) (Nat.le_trans (Nat.le_add_right _ _) hB.1) (Nat.le_trans (Nat.le_add_right _ _) hB.2) ?_)
    exact W.dret C.1 C.2.1 (C.2.2.1.trans hr) hq hS.2.2 d
theorem x_aret {v : Value} {rt : FieldType} (d : decode M.2.1 pc = .ok (.areturn, 1)) (hr : M.2.2.2.1 = some rt) (hrt : (∃ n, rt = .object n) ∨ ∃ t, rt = .array t) (hv : v = .null ∨ ∃ a, v = .ref a) (hp : pr (some v) h) : xw G M F L bc bs pr px pc lv [v] h :=
  fun p e R s m args below meth c H locs cells slots ls C hR hB hH hS hl => by
    have hq : ∀ t : State, t.heap = H → s.WarmedH t.vm → xw_Q G pr args s (.returned (some v)) t := fun t ht hW => ⟨⟨_, h, rfl, hp, xw_H.moved hW.alike (by rw [ht]; exact hH)⟩, hS.F ht⟩
    have hlocks := C.2.2.2.2.2.2.1
    refine xw_ret (W.widen (k := R.cells) (n := R.slots) (Nat.le_trans (Nat.le_add_right _ _) hB.1) (Nat.le_trans (Nat.le_add_right _ _) hB.2) ?_)
    exact W.aret C.1 C.2.1 (C.2.2.1.trans hr) hrt hv hq hS.2.2 d
theorem x_vret  (d : decode M.2.1 pc = .ok (.return_, 1)) (hr : M.2.2.2.1 = none) (hp : pr none h) : xw G M F L bc bs pr px pc lv [] h :=
  fun p e R s m args below meth c H locs cells slots ls C hR hB hH hS hl => by
    have hq : ∀ t : State, t.heap = H → s.WarmedH t.vm → xw_Q G pr args s (.returned none) t := fun t ht hW => ⟨⟨_, h, rfl, hp, xw_H.moved hW.alike (by rw [ht]; exact hH)⟩, hS.F ht⟩
    have hlocks := C.2.2.2.2.2.2.1
    refine xw_ret (W.widen (k := R.cells) (n := R.slots) (Nat.le_trans (Nat.le_add_right _ _) hB.1) (Nat.le_trans (Nat.le_add_right _ _) hB.2) ?_)
    exact W.vret C.1 C.2.1 (C.2.2.1.trans hr) hq hS.2.2 d
/-! fields: xw_f own index ci k: by entry 'index' of own's pool field k of class ci is reached -/
def xw_f (own : String) (index ci k : Nat) : Prop := ci < vwCl.length ∧ k < (xw_cl ci).2.2 ∧ Cond.fieldLink own index (xw_cl ci).1 ((xw_cl ci).2.1 k).2.1 ((xw_cl ci).2.1 k).2.2.1 ∈ xw_tbl ∧ ((xw_cl ci).2.1 k).1 = (xw_cl ci).1
theorem x_get {index ci j a : Nat} {fs : List Value} {v : Value} (d : decode M.2.1 pc = .ok (.getfield index, 3)) (hf : xw_f M.1.cls index ci j) (ha : h a = some (.inr (ci, fs))) (hv : fs[j]? = some v) (k : xw G M F L bc bs pr px (pc + 3) lv (v :: rest) h) : xw G M F L bc bs pr px pc lv (.ref a :: rest) h :=
  fun p e R s m args below meth c H locs cells slots ls C hR hB hH hS hl => by
    obtain ⟨ws, tys, hP, hK, hD, hA, hO⟩ := id hH
    obtain ⟨q, hq⟩ := hO a ci fs ha
    obtain ⟨f1, f2, f3, f4⟩ := hf
    exact va_get C.1 C.2.1 (Ts := xw_tbl) C.2.2.2.2.2.1 (xw_lays ci f1) C.2.2.2.2.1 hK hP q hq (xw_cl_get f1) j f2 (C.2.2.2.2.2.1 _ f3) (fun x hx => by rw [f4] at hx; exact hx) hv d (k p e R s m args below meth c H locs cells slots ls C hR hB hH hS hl)
theorem x_put {index ci j a : Nat} {fs : List Value} {v : Value} {ty : FieldType} (d : decode M.2.1 pc = .ok (.putfield index, 3)) (hf : xw_f M.1.cls index ci j) (hfin : ((xw_cl ci).2.1 j).2.2.2 = false) (hd : parseFieldDescriptor ((xw_cl ci).2.1 j).2.2.1 = some ty) (hn : narrow ty v = v) (hfit : fits ty v = true) (hl9 : j < fs.length) (ha : h a = some (.inr (ci, fs))) (k : xw G M F L bc bs pr px (pc + 3) lv rest (xw_up h a (.inr (ci, fs.set j v)))) : xw G M F L bc bs pr px pc lv (v :: .ref a :: rest) h :=
  fun p e R s m args below meth c H locs cells slots ls C hR hB hH hS hl => by
    obtain ⟨ws, tys, hP, hK, hD, hA, hO⟩ := id hH
    obtain ⟨q, hq⟩ := hO a ci fs ha
    obtain ⟨f1, f2, f3, f4⟩ := hf
    exact va_put C.1 C.2.1 (Ts := xw_tbl) C.2.2.2.2.2.1 (xw_lays ci f1) (xw_fty ci) (xw_fty_ok ci f1) (xw_fnm ci f1) C.2.2.2.2.1 hK hP hD hS q hq (xw_cl_get f1) j f2 (C.2.2.2.2.2.1 _ f3) (fun x hx => by rw [f4] at hx; exact hx) hfin hd hn hfit hl9 d
      (fun H1 locs1 hP1 hD1 hS1 => k p e R s m args below meth c H1 locs1 cells slots ls C hR hB (xw_H.set hq hP1 hK hD1 hA hO (Or.inr ⟨ci, _, rfl, rfl⟩)) hS1 hl)
theorem x_putF {index ci j a : Nat} {fs : List Value} {v : Value} {ty : FieldType} (d : decode M.2.1 pc = .ok (.putfield index, 3)) (hf : xw_f M.1.cls index ci j) (hfin : ((xw_cl ci).2.1 j).2.2.2 = true) (hini : M.1.name = "<init>") (hdecl : (xw_cl ci).1 = M.1.cls) (hd : parseFieldDescriptor ((xw_cl ci).2.1 j).2.2.1 = some ty) (hn : narrow ty v = v) (hfit : fits ty v = true) (hl9 : j < fs.length) (ha : h a = some (.inr (ci, fs))) (k : xw G M F L bc bs pr px (pc + 3) lv rest (xw_up h a (.inr (ci, fs.set j v)))) : xw G M F L bc bs pr px pc lv (v :: .ref a :: rest) h :=
  fun p e R s m args below meth c H locs cells slots ls C hR hB hH hS hl => by
    obtain ⟨ws, tys, hP, hK, hD, hA, hO⟩ := id hH
    obtain ⟨q, hq⟩ := hO a ci fs ha
    obtain ⟨f1, f2, f3, f4⟩ := hf
    exact va_putF C.1 C.2.1 (Ts := xw_tbl) C.2.2.2.2.2.1 (xw_lays ci f1) (xw_fty ci) (xw_fty_ok ci f1) (xw_fnm ci f1) C.2.2.2.2.1 hK hP hD hS q hq (xw_cl_get f1) j f2 (C.2.2.2.2.2.1 _ f3) (fun x hx => by rw [f4] at hx; exact hx) hfin (C.2.2.2.2.2.2.2.2.1.trans hini) (f4.trans hdecl) hd hn hfit hl9 d
      (fun H1 locs1 hP1 hD1 hS1 => k p e R s m args below meth c H1 locs1 cells slots ls C hR hB (xw_H.set hq hP1 hK hD1 hA hO (Or.inr ⟨ci, _, rfl, rfl⟩)) hS1 hl)
theorem xw_none {A : Nat → Prop} {ws : va_W} {tys : List (ClassId × FieldType)} {q : Nat} {e1 : va_E} (hD : va_D A (ws ++ [(q, e1)]))
    (hA : ∀ (a c : Nat) (x : vp_A), h a = some (.inl (c, x)) → ∃ (k t : Nat) (cA : ClassId), ws[k]? = some (a, .inl (cA, x)) ∧ tys[t]? = some (cA, xw_ty c))
    (hO : ∀ (a ci : Nat) (fs : List Value), h a = some (.inr (ci, fs)) → ∃ k : Nat, ws[k]? = some (a, .inr (ci, fs))) : h q = none := by
  have key : ∀ (k : Nat) (y : va_E), ws[k]? = some (q, y) → False := by
    intro k y hk
    have hl := (List.getElem?_eq_some_iff.mp hk).1
    have h1 : (ws ++ [(q, e1)])[k]? = some (q, y) := by rw [List.getElem?_append_left hl]; exact hk
    have h2 : (ws ++ [(q, e1)])[ws.length]? = some (q, e1) := by simp
    have h3 := hD.1 k ws.length _ _ h1 h2 rfl
    omega
  cases hq : h q with
  | none => rfl
  | some e =>
    exfalso
    rcases e with ⟨c, x⟩ | ⟨ci, fs⟩
    · obtain ⟨k, t, cA, g1, -⟩ := hA q c x hq
      exact key k _ g1
    · obtain ⟨k, g1⟩ := hO q ci fs hq
      exact key k _ g1
theorem x_new {index ci : Nat} {fs : List Value} (d : decode M.2.1 pc = .ok (.new index, 3)) (hci : ci < vwCl.length) (hcl : Cond.classLink M.1.cls index (xw_cl ci).1 ∈ xw_tbl) (hinst : Cond.instantiable (xw_cl ci).1 (xw_cl ci).2.2 ∈ xw_tbl) (hini : Cond.initialized (xw_cl ci).1 ∈ xw_tbl) (hfs : ∀ j, j < (xw_cl ci).2.2 → defaultValue (xw_fty ci j) = vp_V fs j) (hb : 1 ≤ bc ∧ (xw_cl ci).2.2 ≤ bs)
    (k : ∀ q : Nat, h q = none → xw G M F L (bc - 1) (bs - (xw_cl ci).2.2) pr px (pc + 3) lv (.ref q :: rest) (xw_up h q (.inr (ci, fs)))) : xw G M F L bc bs pr px pc lv rest h :=
  fun p e R s m args below meth c H locs cells slots ls C hR hB hH hS hl => by
    obtain ⟨ws, tys, hP, hK, hD, hA, hO⟩ := id hH
    refine va_new C.1 C.2.1 (Ts := xw_tbl) C.2.2.2.2.2.1 (xw_lays ci hci) (xw_fty ci) (xw_fty_ok ci hci) C.2.2.2.2.1 (C.2.2.2.2.2.1 _ hcl) (C.2.2.2.2.2.1 _ hinst) (C.2.2.2.2.2.1 _ hini) hK hP hD hS (xw_F.S0 C.2.2.2.2.2.2.2.2.2) (xw_cl_get hci) hfs (by omega) (by omega) d
      (fun q H1 hP1 hD1 hS1 => ?_)
    have hn : h q = none := xw_none hD1 hA hO
    refine k q hn p e R s m args below meth c H1 locs (cells + 1) (slots + (xw_cl ci).2.2) ls C hR ⟨by omega, by omega⟩ (xw_H.push (tys1 := []) hP1 (by rw [List.append_nil]; exact hK) hD1 hn hA hO (Or.inr ⟨ci, fs, rfl, rfl⟩)) hS1 hl

theorem x_iald {a n : Nat} {f : Nat → Int32} {i : Int32} (d : decode M.2.1 pc = .ok (.iaload, 1)) (ha : h a = some (.inl (0, n, .inl f))) (hi : vp_in i n) (k : xw G M F L bc bs pr px (pc + 1) lv (.int (f i.toNatClampNeg) :: rest) h) : xw G M F L bc bs pr px pc lv (.int i :: .ref a :: rest) h :=
  fun p e R s m args below meth c H locs cells slots ls C hR hB hH hS hl => by
    obtain ⟨ws, tys, hP, hK, hD, hA, hO⟩ := id hH
    obtain ⟨q, t, cA, hq, ht⟩ := hA a 0 _ ha
    exact va_iald C.1 C.2.1 hK hP q t hq ht hi d (k p e R s m args below meth c H locs cells slots ls C hR hB hH hS hl)
theorem x_iast {a n : Nat} {f : Nat → Int32} {i : Int32} {x : Int32} (d : decode M.2.1 pc = .ok (.iastore, 1)) (ha : h a = some (.inl (0, n, .inl f))) (hi : vp_in i n) (k : xw G M F L bc bs pr px (pc + 1) lv rest (xw_up h a (.inl (0, n, .inl (upd f i.toNatClampNeg x))))) : xw G M F L bc bs pr px pc lv (.int x :: .int i :: .ref a :: rest) h :=
  fun p e R s m args below meth c H locs cells slots ls C hR hB hH hS hl => by
    obtain ⟨ws, tys, hP, hK, hD, hA, hO⟩ := id hH
    obtain ⟨q, t, cA, hq, ht⟩ := hA a 0 _ ha
    exact va_iast C.1 C.2.1 hK hP hD hS q t hq ht hi d (fun H1 locs1 hP1 hD1 hS1 => k p e R s m args below meth c H1 locs1 cells slots ls C hR hB (xw_H.set hq hP1 hK hD1 hA hO (Or.inl ⟨0, t, cA, _, rfl, rfl, ht⟩)) hS1 hl)
theorem x_cald {a n : Nat} {f : Nat → Int32} {i : Int32} (d : decode M.2.1 pc = .ok (.caload, 1)) (ha : h a = some (.inl (1, n, .inl f))) (hi : vp_in i n) (k : xw G M F L bc bs pr px (pc + 1) lv (.int (f i.toNatClampNeg) :: rest) h) : xw G M F L bc bs pr px pc lv (.int i :: .ref a :: rest) h :=
  fun p e R s m args below meth c H locs cells slots ls C hR hB hH hS hl => by
    obtain ⟨ws, tys, hP, hK, hD, hA, hO⟩ := id hH
    obtain ⟨q, t, cA, hq, ht⟩ := hA a 1 _ ha
    exact va_cald C.1 C.2.1 hK hP q t hq ht hi d (k p e R s m args below meth c H locs cells slots ls C hR hB hH hS hl)
theorem x_cast {a n : Nat} {f : Nat → Int32} {i : Int32} {x : Int32} (d : decode M.2.1 pc = .ok (.castore, 1)) (ha : h a = some (.inl (1, n, .inl f))) (hi : vp_in i n) (k : xw G M F L bc bs pr px (pc + 1) lv rest (xw_up h a (.inl (1, n, .inl (upd f i.toNatClampNeg (vp_nar .char x)))))) : xw G M F L bc bs pr px pc lv (.int x :: .int i :: .ref a :: rest) h :=
  fun p e R s m args below meth c H locs cells slots ls C hR hB hH hS hl => by
    obtain ⟨ws, tys, hP, hK, hD, hA, hO⟩ := id hH
    obtain ⟨q, t, cA, hq, ht⟩ := hA a 1 _ ha
    exact va_cast C.1 C.2.1 hK hP hD hS q t hq ht hi d (fun H1 locs1 hP1 hD1 hS1 => k p e R s m args below meth c H1 locs1 cells slots ls C hR hB (xw_H.set hq hP1 hK hD1 hA hO (Or.inl ⟨1, t, cA, _, rfl, rfl, ht⟩)) hS1 hl)
theorem x_lald {a n : Nat} {f : Nat → Int64} {i : Int32} (d : decode M.2.1 pc = .ok (.laload, 1)) (ha : h a = some (.inl (2, n, .inr (.inl f)))) (hi : vp_in i n) (k : xw G M F L bc bs pr px (pc + 1) lv (.long (f i.toNatClampNeg) :: rest) h) : xw G M F L bc bs pr px pc lv (.int i :: .ref a :: rest) h :=
  fun p e R s m args below meth c H locs cells slots ls C hR hB hH hS hl => by
    obtain ⟨ws, tys, hP, hK, hD, hA, hO⟩ := id hH
    obtain ⟨q, t, cA, hq, ht⟩ := hA a 2 _ ha
    exact va_lald C.1 C.2.1 hK hP q t hq ht hi d (k p e R s m args below meth c H locs cells slots ls C hR hB hH hS hl)
theorem x_last {a n : Nat} {f : Nat → Int64} {i : Int32} {x : Int64} (d : decode M.2.1 pc = .ok (.lastore, 1)) (ha : h a = some (.inl (2, n, .inr (.inl f)))) (hi : vp_in i n) (k : xw G M F L bc bs pr px (pc + 1) lv rest (xw_up h a (.inl (2, n, .inr (.inl (vp_updL f i.toNatClampNeg x)))))) : xw G M F L bc bs pr px pc lv (.long x :: .int i :: .ref a :: rest) h :=
  fun p e R s m args below meth c H locs cells slots ls C hR hB hH hS hl => by
    obtain ⟨ws, tys, hP, hK, hD, hA, hO⟩ := id hH
    obtain ⟨q, t, cA, hq, ht⟩ := hA a 2 _ ha
    exact va_last C.1 C.2.1 hK hP hD hS q t hq ht hi d (fun H1 locs1 hP1 hD1 hS1 => k p e R s m args below meth c H1 locs1 cells slots ls C hR hB (xw_H.set hq hP1 hK hD1 hA hO (Or.inl ⟨2, t, cA, _, rfl, rfl, ht⟩)) hS1 hl)
theorem x_dald {a n : Nat} {f : Nat → UInt64} {i : Int32} (d : decode M.2.1 pc = .ok (.daload, 1)) (ha : h a = some (.inl (3, n, .inr (.inr (.inr (.inl f)))))) (hi : vp_in i n) (k : xw G M F L bc bs pr px (pc + 1) lv (.double (f i.toNatClampNeg) :: rest) h) : xw G M F L bc bs pr px pc lv (.int i :: .ref a :: rest) h :=
  fun p e R s m args below meth c H locs cells slots ls C hR hB hH hS hl => by
    obtain ⟨ws, tys, hP, hK, hD, hA, hO⟩ := id hH
    obtain ⟨q, t, cA, hq, ht⟩ := hA a 3 _ ha
    exact va_dald C.1 C.2.1 hK hP q t hq ht hi d (k p e R s m args below meth c H locs cells slots ls C hR hB hH hS hl)
theorem x_dast {a n : Nat} {f : Nat → UInt64} {i : Int32} {x : UInt64} (d : decode M.2.1 pc = .ok (.dastore, 1)) (ha : h a = some (.inl (3, n, .inr (.inr (.inr (.inl f)))))) (hi : vp_in i n) (k : xw G M F L bc bs pr px (pc + 1) lv rest (xw_up h a (.inl (3, n, .inr (.inr (.inr (.inl (vf_upd f i.toNatClampNeg x)))))))) : xw G M F L bc bs pr px pc lv (.double x :: .int i :: .ref a :: rest) h :=
  fun p e R s m args below meth c H locs cells slots ls C hR hB hH hS hl => by
    obtain ⟨ws, tys, hP, hK, hD, hA, hO⟩ := id hH
    obtain ⟨q, t, cA, hq, ht⟩ := hA a 3 _ ha
    exact va_dast C.1 C.2.1 hK hP hD hS q t hq ht hi d (fun H1 locs1 hP1 hD1 hS1 => k p e R s m args below meth c H1 locs1 cells slots ls C hR hB (xw_H.set hq hP1 hK hD1 hA hO (Or.inl ⟨3, t, cA, _, rfl, rfl, ht⟩)) hS1 hl)
theorem x_aald {a n ci : Nat} {f : Nat → Option Nat} {i : Int32} {v : Value} (d : decode M.2.1 pc = .ok (.aaload, 1)) (ha : h a = some (.inl (ci + 6, n, .inr (.inr (.inr (.inr f)))))) (hi : vp_in i n) (hv : va_rf (f i.toNatClampNeg) = v) (k : xw G M F L bc bs pr px (pc + 1) lv (v :: rest) h) : xw G M F L bc bs pr px pc lv (.int i :: .ref a :: rest) h :=
  fun p e R s m args below meth c H locs cells slots ls C hR hB hH hS hl => by
    obtain ⟨ws, tys, hP, hK, hD, hA, hO⟩ := id hH
    obtain ⟨q, t, cA, hq, ht⟩ := hA a (ci + 6) _ ha
    subst hv
    exact va_aldq C.1 C.2.1 hK hP q t hq ht hi d (k p e R s m args below meth c H locs cells slots ls C hR hB hH hS hl)
theorem x_aast {a n ci b : Nat} {fs : List Value} {f : Nat → Option Nat} {i : Int32} (d : decode M.2.1 pc = .ok (.aastore, 1)) (hci : ci < vwCl.length) (ha : h a = some (.inl (ci + 6, n, .inr (.inr (.inr (.inr f)))))) (hb : h b = some (.inr (ci, fs))) (hi : vp_in i n) (k : xw G M F L bc bs pr px (pc + 1) lv rest (xw_up h a (.inl (ci + 6, n, .inr (.inr (.inr (.inr (va_up f i.toNatClampNeg (some b))))))))) : xw G M F L bc bs pr px pc lv (.ref b :: .int i :: .ref a :: rest) h :=
  fun p e R s m args below meth c H locs cells slots ls C hR hB hH hS hl => by
    obtain ⟨ws, tys, hP, hK, hD, hA, hO⟩ := id hH
    obtain ⟨q, t, cA, hq, ht⟩ := hA a (ci + 6) _ ha
    obtain ⟨qb, hqb⟩ := hO b ci fs hb
    have ht' : tys[t]? = some (cA, .object (xw_cl ci).1) := by
      rw [ht, xw_ty_o hci]
    exact va_astq C.1 C.2.1 hK hP hD hS q t qb ci (r := ((xw_cl ci).1, (xw_cl ci).2.1, (xw_cl ci).2.2)) hq ht' hqb (xw_cl_get hci) hi d (fun H1 locs1 hP1 hD1 hS1 => k p e R s m args below meth c H1 locs1 cells slots ls C hR hB (xw_H.set hq hP1 hK hD1 hA hO (Or.inl ⟨ci + 6, t, cA, _, rfl, rfl, ht⟩)) hS1 hl)
theorem x_aastN {a n ci : Nat} {f : Nat → Option Nat} {i : Int32} (d : decode M.2.1 pc = .ok (.aastore, 1)) (ha : h a = some (.inl (ci + 6, n, .inr (.inr (.inr (.inr f)))))) (hi : vp_in i n) (k : xw G M F L bc bs pr px (pc + 1) lv rest (xw_up h a (.inl (ci + 6, n, .inr (.inr (.inr (.inr (va_up f i.toNatClampNeg none)))))))) : xw G M F L bc bs pr px pc lv (.null :: .int i :: .ref a :: rest) h :=
  fun p e R s m args below meth c H locs cells slots ls C hR hB hH hS hl => by
    obtain ⟨ws, tys, hP, hK, hD, hA, hO⟩ := id hH
    obtain ⟨q, t, cA, hq, ht⟩ := hA a (ci + 6) _ ha
    exact va_astqN C.1 C.2.1 hK hP hD hS q t hq ht hi d (fun H1 locs1 hP1 hD1 hS1 => k p e R s m args below meth c H1 locs1 cells slots ls C hR hB (xw_H.set hq hP1 hK hD1 hA hO (Or.inl ⟨ci + 6, t, cA, _, rfl, rfl, ht⟩)) hS1 hl)
theorem x_alen {a c0 : Nat} {x : vp_A} {v : Int32} (d : decode M.2.1 pc = .ok (.arraylength, 1)) (ha : h a = some (.inl (c0, x))) (hv : Int32.ofNat x.1 = v) (k : xw G M F L bc bs pr px (pc + 1) lv (.int v :: rest) h) : xw G M F L bc bs pr px pc lv (.ref a :: rest) h :=
  fun p e R s m args below meth c H locs cells slots ls C hR hB hH hS hl => by
    obtain ⟨ws, tys, hP, hK, hD, hA, hO⟩ := id hH
    obtain ⟨q, t, cA, hq, ht⟩ := hA a c0 _ ha
    exact va_alen C.1 C.2.1 hK hP q t hq ht hv d (k p e R s m args below meth c H locs cells slots ls C hR hB hH hS hl)
theorem x_inew {n : Int32} {N : Nat} (d : decode M.2.1 pc = .ok (.newarray .int, 2)) (harr : Cond.arrayClass .int ∈ xw_tbl) (hn : ¬ n < 0) (hN : n.toNatClampNeg = N) (hbytes : N * componentBytes .int ≤ 536870912) (hb : 1 ≤ bc ∧ N ≤ bs)
    (k : ∀ q : Nat, h q = none → xw G M F L (bc - 1) (bs - N) pr px (pc + 2) lv (.ref q :: rest) (xw_up h q (.inl (0, N, .inl (fun _ => 0))))) : xw G M F L bc bs pr px pc lv (.int n :: rest) h :=
  fun p e R s m args below meth c H locs cells slots ls C hR hB hH hS hl => by
    obtain ⟨ws, tys, hP, hK, hD, hA, hO⟩ := id hH
    refine va_newa (a0 := (N, .inl (fun _ => 0))) C.1 C.2.1 (atype := .int) (C.2.2.2.2.2.1 _ harr) rfl hK hP hD hS (xw_F.S0 C.2.2.2.2.2.2.2.2.2) (fun cA => rfl) hn hN hbytes (by omega) (by omega) d (fun q cA H1 hK1 hP1 hD1 hS1 => ?_)
    have hn9 : h q = none := xw_none hD1 hA hO
    exact k q hn9 p e R s m args below meth c H1 locs (cells + 1) (slots + N) ls C hR ⟨by omega, by omega⟩ (xw_H.push hP1 hK1 hD1 hn9 hA hO (Or.inl ⟨0, tys.length, cA, _, rfl, rfl, by simp [xw_ty, newarray.typeOf]⟩)) hS1 hl
theorem x_cnew {n : Int32} {N : Nat} (d : decode M.2.1 pc = .ok (.newarray .char, 2)) (harr : Cond.arrayClass .char ∈ xw_tbl) (hn : ¬ n < 0) (hN : n.toNatClampNeg = N) (hbytes : N * componentBytes .char ≤ 536870912) (hb : 1 ≤ bc ∧ N ≤ bs)
    (k : ∀ q : Nat, h q = none → xw G M F L (bc - 1) (bs - N) pr px (pc + 2) lv (.ref q :: rest) (xw_up h q (.inl (1, N, .inl (fun _ => 0))))) : xw G M F L bc bs pr px pc lv (.int n :: rest) h :=
  fun p e R s m args below meth c H locs cells slots ls C hR hB hH hS hl => by
    obtain ⟨ws, tys, hP, hK, hD, hA, hO⟩ := id hH
    refine va_newa (a0 := (N, .inl (fun _ => 0))) C.1 C.2.1 (atype := .char) (C.2.2.2.2.2.1 _ harr) rfl hK hP hD hS (xw_F.S0 C.2.2.2.2.2.2.2.2.2) (fun cA => rfl) hn hN hbytes (by omega) (by omega) d (fun q cA H1 hK1 hP1 hD1 hS1 => ?_)
    have hn9 : h q = none := xw_none hD1 hA hO
    exact k q hn9 p e R s m args below meth c H1 locs (cells + 1) (slots + N) ls C hR ⟨by omega, by omega⟩ (xw_H.push hP1 hK1 hD1 hn9 hA hO (Or.inl ⟨1, tys.length, cA, _, rfl, rfl, by simp [xw_ty, newarray.typeOf]⟩)) hS1 hl
theorem x_lnew {n : Int32} {N : Nat} (d : decode M.2.1 pc = .ok (.newarray .long, 2)) (harr : Cond.arrayClass .long ∈ xw_tbl) (hn : ¬ n < 0) (hN : n.toNatClampNeg = N) (hbytes : N * componentBytes .long ≤ 536870912) (hb : 1 ≤ bc ∧ N ≤ bs)
    (k : ∀ q : Nat, h q = none → xw G M F L (bc - 1) (bs - N) pr px (pc + 2) lv (.ref q :: rest) (xw_up h q (.inl (2, N, .inr (.inl (fun _ => 0)))))) : xw G M F L bc bs pr px pc lv (.int n :: rest) h :=
  fun p e R s m args below meth c H locs cells slots ls C hR hB hH hS hl => by
    obtain ⟨ws, tys, hP, hK, hD, hA, hO⟩ := id hH
    refine va_newa (a0 := (N, .inr (.inl (fun _ => 0)))) C.1 C.2.1 (atype := .long) (C.2.2.2.2.2.1 _ harr) rfl hK hP hD hS (xw_F.S0 C.2.2.2.2.2.2.2.2.2) (fun cA => rfl) hn hN hbytes (by omega) (by omega) d (fun q cA H1 hK1 hP1 hD1 hS1 => ?_)
    have hn9 : h q = none := xw_none hD1 hA hO
    exact k q hn9 p e R s m args below meth c H1 locs (cells + 1) (slots + N) ls C hR ⟨by omega, by omega⟩ (xw_H.push hP1 hK1 hD1 hn9 hA hO (Or.inl ⟨2, tys.length, cA, _, rfl, rfl, by simp [xw_ty, newarray.typeOf]⟩)) hS1 hl
theorem x_dnew {n : Int32} {N : Nat} (d : decode M.2.1 pc = .ok (.newarray .double, 2)) (harr : Cond.arrayClass .double ∈ xw_tbl) (hn : ¬ n < 0) (hN : n.toNatClampNeg = N) (hbytes : N * componentBytes .double ≤ 536870912) (hb : 1 ≤ bc ∧ N ≤ bs)
    (k : ∀ q : Nat, h q = none → xw G M F L (bc - 1) (bs - N) pr px (pc + 2) lv (.ref q :: rest) (xw_up h q (.inl (3, N, .inr (.inr (.inr (.inl (fun _ => 0)))))))) : xw G M F L bc bs pr px pc lv (.int n :: rest) h :=
  fun p e R s m args below meth c H locs cells slots ls C hR hB hH hS hl => by
    obtain ⟨ws, tys, hP, hK, hD, hA, hO⟩ := id hH
    refine va_newa (a0 := (N, .inr (.inr (.inr (.inl (fun _ => 0)))))) C.1 C.2.1 (atype := .double) (C.2.2.2.2.2.1 _ harr) rfl hK hP hD hS (xw_F.S0 C.2.2.2.2.2.2.2.2.2) (fun cA => rfl) hn hN hbytes (by omega) (by omega) d (fun q cA H1 hK1 hP1 hD1 hS1 => ?_)
    have hn9 : h q = none := xw_none hD1 hA hO
    exact k q hn9 p e R s m args below meth c H1 locs (cells + 1) (slots + N) ls C hR ⟨by omega, by omega⟩ (xw_H.push hP1 hK1 hD1 hn9 hA hO (Or.inl ⟨3, tys.length, cA, _, rfl, rfl, by simp [xw_ty, newarray.typeOf]⟩)) hS1 hl
theorem x_anew {index ci : Nat} {n : Int32} {N : Nat} (d : decode M.2.1 pc = .ok (.anewarray index, 3)) (hci : ci < vwCl.length) (hcl : Cond.classLink M.1.cls index (xw_cl ci).1 ∈ xw_tbl) (hover : ∀ U H, xw_F G U H → va_AO (xw_cl ci).1 U) (hn : ¬ n < 0) (hN : n.toNatClampNeg = N) (hbytes : N * 4 ≤ 536870912) (hb : 1 ≤ bc ∧ N ≤ bs)
    (k : ∀ q : Nat, h q = none → xw G M F L (bc - 1) (bs - N) pr px (pc + 3) lv (.ref q :: rest) (xw_up h q (.inl (ci + 6, N, .inr (.inr (.inr (.inr (fun _ => none)))))))) : xw G M F L bc bs pr px pc lv (.int n :: rest) h :=
  fun p e R s m args below meth c H locs cells slots ls C hR hB hH hS hl => by
    obtain ⟨ws, tys, hP, hK, hD, hA, hO⟩ := id hH
    refine va_newq C.1 C.2.1 C.2.2.2.2.1 (C.2.2.2.2.2.1 _ hcl) (hover s s.heap C.2.2.2.2.2.2.2.2.2) hK hP hD hS (xw_F.S0 C.2.2.2.2.2.2.2.2.2) hn hN hbytes (by omega) (by omega) d (fun q cA H1 hK1 hP1 hD1 hS1 => ?_)
    have hn9 : h q = none := xw_none hD1 hA hO
    exact k q hn9 p e R s m args below meth c H1 locs (cells + 1) (slots + N) ls C hR ⟨by omega, by omega⟩ (xw_H.push hP1 hK1 hD1 hn9 hA hO (Or.inl ⟨ci + 6, tys.length, cA, _, rfl, rfl, by rw [xw_ty_o hci]; simp⟩)) hS1 hl
/-- fewer known, by shape -/
def xw_le : List (Option Value) → List (Option Value) → Prop
  | [], _ => True
  | none :: t, _ :: u => xw_le t u
  | none :: t, [] => xw_le t []
  | some v :: t, some w :: u => v = w ∧ xw_le t u
  | some _ :: _, none :: _ => False
  | some _ :: _, [] => False
theorem xw_le.at : ∀ {lv' lv : List (Option Value)}, xw_le lv' lv → ∀ (i : Nat) (v : Value), lv'[i]? = some (some v) → lv[i]? = some (some v)
  | [], _, _, i, v, hi => by simp at hi
  | none :: t, w :: u, hs, i, v, hi => by
    cases i with
    | zero => simp at hi
    | succ i =>
      have := xw_le.at (lv' := t) (lv := u) hs i v (by simpa using hi)
      simpa using this
  | none :: t, [], hs, i, v, hi => by
    cases i with
    | zero => simp at hi
    | succ i =>
      have := xw_le.at (lv' := t) (lv := []) hs i v (by simpa using hi)
      simp at this
  | some x :: t, some w :: u, hs, i, v, hi => by
    cases i with
    | zero =>
      rw [← hs.1]
      simpa using hi
    | succ i =>
      have := xw_le.at (lv' := t) (lv := u) hs.2 i v (by simpa using hi)
      simpa using this
  | some x :: t, none :: u, hs, i, v, hi => hs.elim
  | some x :: t, [], hs, i, v, hi => hs.elim
theorem x_le {lv' : List (Option Value)} (hs : xw_le lv' lv) (k : xw G M F L bc bs pr px pc lv' st h) : xw G M F L bc bs pr px pc lv st h := x_fewer hs.at k
theorem xw_ne {h : xw_A} {a b : Nat} {x y : xw_C} (ha : h a = some x) (hb : h b = some y) (n : ¬ x = y) : a ≠ b := fun q => by
  subst q
  rw [ha] at hb
  exact n (Option.some.inj hb)
theorem xw_neN {h : xw_A} {a b : Nat} {x : xw_C} (ha : h a = some x) (hb : h b = none) : a ≠ b := fun q => by
  subst q
  rw [ha] at hb
  cases hb
theorem xw_narq (C : String) (r : Option Nat) : narrow (.object C) (va_rf r) = va_rf r := by cases r <;> rfl
theorem xw_fitq (C : String) (r : Option Nat) : fits (.object C) (va_rf r) = true := by cases r <;> rfl
theorem xw_narqA (t : FieldType) (r : Option Nat) : narrow (.array t) (va_rf r) = va_rf r := by cases r <;> rfl
theorem xw_fitqA (t : FieldType) (r : Option Nat) : fits (.array t) (va_rf r) = true := by cases r <;> rfl
theorem x_aloadN_n {k4 : Fin 4} {i : Nat} (d : decode M.2.1 pc = .ok (.aload_n k4, 1)) (hi : (k4 : Nat) = i) (hv : lv[i]? = some (some .null)) (k : xw G M F L bc bs pr px (pc + 1) lv (.null :: rest) h) : xw G M F L bc bs pr px pc lv rest h :=
  fun p e R s m args below meth c H locs cells slots ls C hR hB hH hS hl => lv_aload_nN C.1 C.2.1 d hi (hl.2.2 i _ hv) (k p e R s m args below meth c H locs cells slots ls C hR hB hH hS hl)
theorem x_aloadN {i : Nat} (d : decode M.2.1 pc = .ok (.aload i, 2)) (hv : lv[i]? = some (some .null)) (k : xw G M F L bc bs pr px (pc + 2) lv (.null :: rest) h) : xw G M F L bc bs pr px pc lv rest h :=
  fun p e R s m args below meth c H locs cells slots ls C hR hB hH hS hl => lv_aloadN C.1 C.2.1 d (hl.2.2 i _ hv) (k p e R s m args below meth c H locs cells slots ls C hR hB hH hS hl)
theorem x_aloadq_n {k4 : Fin 4} {i : Nat} {x : Option Nat} (d : decode M.2.1 pc = .ok (.aload_n k4, 1)) (hi : (k4 : Nat) = i) (hv : lv[i]? = some (some (va_rf x))) (k : xw G M F L bc bs pr px (pc + 1) lv (va_rf x :: rest) h) : xw G M F L bc bs pr px pc lv rest h := by
  cases x with
  | none => exact x_aloadN_n d hi hv k
  | some a => exact x_aload_n d hi hv k
theorem x_aloadq {i : Nat} {x : Option Nat} (d : decode M.2.1 pc = .ok (.aload i, 2)) (hv : lv[i]? = some (some (va_rf x))) (k : xw G M F L bc bs pr px (pc + 2) lv (va_rf x :: rest) h) : xw G M F L bc bs pr px pc lv rest h := by
  cases x with
  | none => exact x_aloadN d hv k
  | some a => exact x_aload d hv k
theorem vl_cat (x : Option Nat) : (va_rf x).category = 1 := by cases x <;> rfl
theorem x_astoreN_n {k4 : Fin 4} {i : Nat} (d : decode M.2.1 pc = .ok (.astore_n k4, 1)) (hi : (k4 : Nat) = i) (hn : i < M.2.2.1) (ho : xw_o lv i) (k : xw G M F L bc bs pr px (pc + 1) (lv.set i (some .null)) rest h) : xw G M F L bc bs pr px pc lv (.null :: rest) h :=
  fun p e R s m args below meth c H locs cells slots ls C hR hB hH hS hl => lv_astore_nN C.1 C.2.1 d hi hl.has hn rfl (fun ls2 h2 => k p e R s m args below meth c H locs cells slots ls2 C hR hB hH hS (xw_L.st1 ho h2))
theorem x_astoreN {i : Nat} (d : decode M.2.1 pc = .ok (.astore i, 2)) (hn : i < M.2.2.1) (ho : xw_o lv i) (k : xw G M F L bc bs pr px (pc + 2) (lv.set i (some .null)) rest h) : xw G M F L bc bs pr px pc lv (.null :: rest) h :=
  fun p e R s m args below meth c H locs cells slots ls C hR hB hH hS hl => lv_astoreN C.1 C.2.1 d hl.has hn rfl (fun ls2 h2 => k p e R s m args below meth c H locs cells slots ls2 C hR hB hH hS (xw_L.st1 ho h2))
theorem x_astoreq_n {k4 : Fin 4} {i : Nat} {x : Option Nat} (d : decode M.2.1 pc = .ok (.astore_n k4, 1)) (hi : (k4 : Nat) = i) (hn : i < M.2.2.1) (ho : xw_o lv i) (k : xw G M F L bc bs pr px (pc + 1) (lv.set i (some (va_rf x))) rest h) : xw G M F L bc bs pr px pc lv (va_rf x :: rest) h := by
  cases x with
  | none => exact x_astoreN_n d hi hn ho k
  | some a => exact x_astore_n d hi hn ho k
theorem x_astoreq {i : Nat} {x : Option Nat} (d : decode M.2.1 pc = .ok (.astore i, 2)) (hn : i < M.2.2.1) (ho : xw_o lv i) (k : xw G M F L bc bs pr px (pc + 2) (lv.set i (some (va_rf x))) rest h) : xw G M F L bc bs pr px pc lv (va_rf x :: rest) h := by
  cases x with
  | none => exact x_astoreN d hn ho k
  | some a => exact x_astore d hn ho k
theorem x_ifnullq {x : Option Nat} {off : Int} {tgt : Nat} (d : decode M.2.1 pc = .ok (.ifnull off, 3)) (ht : (pc : Int) + off = (tgt : Int)) (kn : x = none → xw G M F L bc bs pr px tgt lv rest h) (ks : ∀ a : Nat, x = some a → xw G M F L bc bs pr px (pc + 3) lv rest h) : xw G M F L bc bs pr px pc lv (va_rf x :: rest) h := by
  cases x with
  | none => exact x_ifnullN d ht (kn rfl)
  | some a => exact x_ifnull d (ks a rfl)
theorem x_ifnonnullq {x : Option Nat} {off : Int} {tgt : Nat} (d : decode M.2.1 pc = .ok (.ifnonnull off, 3)) (ht : (pc : Int) + off = (tgt : Int)) (kn : x = none → xw G M F L bc bs pr px (pc + 3) lv rest h) (ks : ∀ a : Nat, x = some a → xw G M F L bc bs pr px tgt lv rest h) : xw G M F L bc bs pr px pc lv (va_rf x :: rest) h := by
  cases x with
  | none => exact x_ifnonnullN d (kn rfl)
  | some a => exact x_ifnonnull d ht (ks a rfl)
theorem x_ldc {index : Nat} {v : Int32} (d : decode M.2.1 pc = .ok (.ldc index, 2)) (hw : Cond.constant M.1.cls index v ∈ xw_tbl) (k : xw G M F L bc bs pr px (pc + 2) lv (.int v :: rest) h) : xw G M F L bc bs pr px pc lv rest h :=
  fun p e R s m args below meth c H locs cells slots ls C hR hB hH hS hl => lv_ldc C.1 C.2.1 C.2.2.2.2.1 (C.2.2.2.2.2.1 _ hw) d (k p e R s m args below meth c H locs cells slots ls C hR hB hH hS hl)
theorem x_ldc2 {index : Nat} {v : Int64} (d : decode M.2.1 pc = .ok (.ldc2_w index, 3)) (hw : Cond.constantLong M.1.cls index v ∈ xw_tbl) (k : xw G M F L bc bs pr px (pc + 3) lv (.long v :: rest) h) : xw G M F L bc bs pr px pc lv rest h :=
  fun p e R s m args below meth c H locs cells slots ls C hR hB hH hS hl => lv_ldc2 C.1 C.2.1 C.2.2.2.2.1 (C.2.2.2.2.2.1 _ hw) d (k p e R s m args below meth c H locs cells slots ls C hR hB hH hS hl)
theorem x_ldc2d {index : Nat} {v : UInt64} (d : decode M.2.1 pc = .ok (.ldc2_w index, 3)) (hw : Cond.constantDouble M.1.cls index v ∈ xw_tbl) (k : xw G M F L bc bs pr px (pc + 3) lv (.double v :: rest) h) : xw G M F L bc bs pr px pc lv rest h :=
  fun p e R s m args below meth c H locs cells slots ls C hR hB hH hS hl => lv_ldc2d C.1 C.2.1 C.2.2.2.2.1 (C.2.2.2.2.2.1 _ hw) d (k p e R s m args below meth c H locs cells slots ls C hR hB hH hS hl)
end Rows
end
section
/-! CONTRACTS of xw, and calls by them -/
/-- the locals at the entry -/
def xw_sl : List Value → List (Option Value)
  | [] => []
  | .long x :: t => some (.long x) :: none :: xw_sl t
  | .double x :: t => some (.double x) :: none :: xw_sl t
  | .int x :: t => some (.int x) :: xw_sl t
  | .float x :: t => some (.float x) :: xw_sl t
  | .null :: t => some .null :: xw_sl t
  | .ref a :: t => some (.ref a) :: xw_sl t
  | .retAddr a :: t => some (.retAddr a) :: xw_sl t
theorem xw_sl_at : ∀ (vs : List Value) (i : Nat) (v : Value), (xw_sl vs)[i]? = some (some v) → (lg_sl vs)[i]? = some (.val v)
  | [], i, v, h => by simp [xw_sl] at h
  | .long x :: t, i, v, h => by
    simp only [xw_sl] at h
    have e : lg_sl (.long x :: t) = .val (.long x) :: .second :: lg_sl t := by simp [lg_sl, Value.category]
    rw [e]
    match i, h with
    | 0, h => simpa using h
    | 1, h => simp at h
    | i + 2, h => simpa using xw_sl_at t i v (by simpa using h)
  | .double x :: t, i, v, h => by
    simp only [xw_sl] at h
    have e : lg_sl (.double x :: t) = .val (.double x) :: .second :: lg_sl t := by simp [lg_sl, Value.category]
    rw [e]
    match i, h with
    | 0, h => simpa using h
    | 1, h => simp at h
    | i + 2, h => simpa using xw_sl_at t i v (by simpa using h)
  | .int x :: t, i, v, h => by
    simp only [xw_sl] at h
    have e : lg_sl (.int x :: t) = .val (.int x) :: lg_sl t := by simp [lg_sl, Value.category]
    rw [e]
    match i, h with
    | 0, h => simpa using h
    | i + 1, h => simpa using xw_sl_at t i v (by simpa using h)
  | .float x :: t, i, v, h => by
    simp only [xw_sl] at h
    have e : lg_sl (.float x :: t) = .val (.float x) :: lg_sl t := by simp [lg_sl, Value.category]
    rw [e]
    match i, h with
    | 0, h => simpa using h
    | i + 1, h => simpa using xw_sl_at t i v (by simpa using h)
  | .null :: t, i, v, h => by
    simp only [xw_sl] at h
    have e : lg_sl (.null :: t) = .val .null :: lg_sl t := by simp [lg_sl, Value.category]
    rw [e]
    match i, h with
    | 0, h => simpa using h
    | i + 1, h => simpa using xw_sl_at t i v (by simpa using h)
  | .ref a :: t, i, v, h => by
    simp only [xw_sl] at h
    have e : lg_sl (.ref a :: t) = .val (.ref a) :: lg_sl t := by simp [lg_sl, Value.category]
    rw [e]
    match i, h with
    | 0, h => simpa using h
    | i + 1, h => simpa using xw_sl_at t i v (by simpa using h)
  | .retAddr a :: t, i, v, h => by
    simp only [xw_sl] at h
    have e : lg_sl (.retAddr a :: t) = .val (.retAddr a) :: lg_sl t := by simp [lg_sl, Value.category]
    rw [e]
    match i, h with
    | 0, h => simpa using h
    | i + 1, h => simpa using xw_sl_at t i v (by simpa using h)
theorem xw_L.entry {vs : List Value} {n : Nat} (hn : (lg_sl vs).length ≤ n) {lv : List (Option Value)} (hs : ∀ (i : Nat) (v : Value), lv[i]? = some (some v) → (xw_sl vs)[i]? = some (some v)) : xw_L ((lg_sl vs ++ List.replicate (n - (lg_sl vs).length) Slot.unset).toArray) n lv := by
  obtain ⟨h1, h2, -⟩ := lv_entry vs hn
  refine ⟨h1, h2, fun i v hi => ?_⟩
  have h3 := xw_sl_at vs i v (hs i v hi)
  simp only [List.getElem?_toArray]
  rw [List.getElem?_append_left (List.getElem?_eq_some_iff.mp h3).1]
  exact h3
/-- the locals at the entry, filled up with unknown ones -/
def xw_en (n : Nat) (vs : List Value) : List (Option Value) := xw_sl vs ++ List.replicate (n - (xw_sl vs).length) none
theorem xw_en_at {n : Nat} {vs : List Value} (i : Nat) (v : Value) (h : (xw_en n vs)[i]? = some (some v)) : (xw_sl vs)[i]? = some (some v) := by
  unfold xw_en at h
  by_cases hl : i < (xw_sl vs).length
  · rw [List.getElem?_append_left hl] at h
    exact h
  · rw [List.getElem?_append_right (by omega), List.getElem?_replicate] at h
    split at h
    · cases h
    · cases h
def xw_Met (G : xw_G) (M : xw_M) (F L mc ms : Nat) (av : List Value) (h : xw_A) (pr : Option Value → xw_A → Prop) (px : String → xw_A → Prop) : Prop :=
  MetFree G.1 M.1 (headSpec (Cond.code M.1 M.2.1 M.2.2.1 M.2.2.2.1 :: xw_tbl) { frames := F, cells := mc, slots := ms, locals := L }) (va_Pc av (fun U => xw_H G h U U.heap ∧ xw_F G U U.heap)) (fun _ _ _ _ _ => True) (xw_E G pr px mc ms)
/-- it never throws: the kit's contract -/
theorem xw_Met.met {G : xw_G} {M : xw_M} {F L mc ms : Nat} {av : List Value} {h : xw_A} {pr : Option Value → xw_A → Prop} (k : xw_Met G M F L mc ms av h pr (fun _ _ => False)) :
    Met G.1 M.1 (Cond.code M.1 M.2.1 M.2.2.1 M.2.2.2.1 :: xw_tbl) { frames := F, cells := mc, slots := ms, locals := L } (va_Pc av (fun U => xw_H G h U U.heap ∧ xw_F G U U.heap)) (xw_Q G pr) mc ms (xw_g G) := by
  intro p e h1 h2 h3 s m args below h4 h5 h6 h7
  obtain ⟨n, o, a1, a2, a3, a4⟩ := k p e h1 h2 h3 s m args below h4 h5 h6 h7
  refine ⟨n, o, a1, a2, a3, ?_⟩
  rcases a4 with a4 | ⟨q, -, E, ce, LL, g, hf, -⟩
  · exact a4
  · exact hf.elim
theorem xw_Met.of {G : xw_G} {M : xw_M} {F L mc ms : Nat} {av : List Value} {h : xw_A} {pr : Option Value → xw_A → Prop} {px : String → xw_A → Prop} (hM : M.2.2.2.2 = []) (hpl : plainName M.1.cls = true) (hsl : (lg_sl av).length ≤ M.2.2.1)
    (k : xw G M F L mc ms pr px 0 (xw_en M.2.2.1 av) [] h) : xw_Met G M F L mc ms av h pr px := by
  refine MetFree.of_bodyS (code := M.2.1) (maxLocals := M.2.2.1) (ret := M.2.2.2.1) hpl ?_ ?_
  · intro args s m h hn
    obtain ⟨meth, c, h1, h2, h3, h4, h5, h6, -, -⟩ := Cond.code_spec hn (atoms_spec (ws := Cond.code M.1 M.2.1 M.2.2.1 M.2.2.2.1 :: xw_tbl) h _ List.mem_cons_self)
    exact ⟨meth, c, h1, h2, h3, h4, h5, h6⟩
  intro p e s m args below meth c s₁ B hml hv _
  obtain ⟨rfl, hH, hF⟩ := hv
  have hts := atoms_spec (ws := Cond.code M.1 M.2.1 M.2.2.1 M.2.2.2.1 :: xw_tbl) B.pre
  have htab : c.exceptionTable.toList = tableOf M.2.2.2.2 := by
    obtain ⟨meth9, c9, h1, h2, -, -, -, -, h7, -⟩ := Cond.code_spec B.named (hts _ List.mem_cons_self)
    cases Option.some.inj (h1.symm.trans B.method)
    cases Option.some.inj (h2.symm.trans (Stand.of_body B).code)
    rw [hM, Array.isEmpty_iff.mp h7]
    rfl
  have hh0 : s₁.heap = s.heap := by rw [B.state]; rfl
  have K : W p G.1 e (headSpec (Cond.code M.1 M.2.1 M.2.2.1 M.2.2.2.1 :: xw_tbl) { frames := F, cells := mc, slots := ms, locals := L }).room s m av.toArray below meth c s.heap [] 0 0 (xw_Z G pr px below av.toArray s mc ms) (entryFrame m av.toArray M.2.2.1) := by
    rw [lg_entry_eq]
    exact k p e _ s m av.toArray below meth c s.heap [] 0 0 _ ⟨B.exec, B.bytes, B.returns, hml, findClass_of_methodNamed B.named, fun w hw => hts w (List.mem_cons_of_mem _ hw), B.notSynchronized, htab, (name_of_methodNamed B.named B.method).1, hF⟩
      ⟨Nat.le_refl _, Nat.le_refl _⟩ ⟨Nat.le_of_eq (Nat.zero_add _), Nat.le_of_eq (Nat.zero_add _)⟩ hH va_S.rf (xw_L.entry hsl xw_en_at)
  obtain ⟨t, a1, o, b1, b2, b3⟩ := K s₁ hh0 (Stand.of_body B)
  exact ⟨t, o, a1, b1, b2, b3⟩
/-- weaker ends -/
theorem xw.mono {G : xw_G} {M : xw_M} {F L bc bs : Nat} {pr pr' : Option Value → xw_A → Prop} {px px' : String → xw_A → Prop} {pc : Nat} {lv : List (Option Value)} {st : List Value} {h : xw_A} (h1 : ∀ v h1, pr v h1 → pr' v h1) (h2 : ∀ E h1, px E h1 → px' E h1) (k : xw G M F L bc bs pr px pc lv st h) : xw G M F L bc bs pr' px' pc lv st h := by
  intro p e R s m args below meth c H locs cells slots ls C hR hB hH hS hl T hT X
  obtain ⟨t, a, o, b1, b2, b3⟩ := k p e R s m args below meth c H locs cells slots ls C hR hB hH hS hl T hT X
  refine ⟨t, a, o, b1, b2, ?_⟩
  rcases b3 with ⟨⟨⟨v, g, e1, e2, e3⟩, e4⟩, b4⟩ | ⟨q, e1, E, ce, LL, g, e2, b4⟩
  · exact Or.inl ⟨⟨⟨v, g, e1, h1 v g e2, e3⟩, e4⟩, b4⟩
  · exact Or.inr ⟨q, e1, E, ce, LL, g, h2 E g e2, b4⟩
theorem xw_blind {G : xw_G} {h : xw_A} {av : List Value} : FrameBlind (va_Pc av (fun U => xw_H G h U U.heap ∧ xw_F G U U.heap)) :=
  fun a U g mk q => ⟨q.1, xw_H.moved (u := U) (U := U.calling g mk a) (Vm.Alike.refl U.vm) q.2.1, xw_F.moved (u := U) (U := U.calling g mk a) (State.WarmedH.refl U) (fun _ _ _ => rfl) q.2.2⟩
section Calls
variable {G : xw_G} {M : xw_M} {F L bc bs : Nat} {pr : Option Value → xw_A → Prop} {px : String → xw_A → Prop} {pc : Nat} {lv : List (Option Value)} {rest st : List Value} {h : xw_A}
/-- behind a run of a callee that returns -/
theorem xw_run {mc ms : Nat} {pq : Option Value → xw_A → Prop} (hc : mc ≤ bc ∧ ms ≤ bs) {st0 : List Value} {a9 : Array Value}
    (k : ∀ v h1, pq v h1 → xw G M F L (bc - mc) (bs - ms) pr px (pc + 3) lv (v.toList ++ rest) h1)
    {p : Program} {e : Env} {R : Room} {s : State} {m : MethodId} {args : Array Value} {below : List Frame} {meth : Method} {c : Code} {H : Heap} {locs : List Loc} {cells slots : Nat} {ls : Array Slot}
    (C : xw_K G M p s m args meth c) (hR : F ≤ R.frames ∧ L ≤ R.locals) (hB : cells + bc ≤ R.cells ∧ slots + bs ≤ R.slots) (hS : va_S (xw_g G) s.heap H locs) (hl : xw_L ls M.2.2.1 lv)
    (hr : va_Run p G.1 e R s m args below meth c H locs cells slots mc ms (F0 m pc ls st0) rest (xw_Q G pq a9) (xw_g G)) :
    W p G.1 e R s m args below meth c H locs cells slots (xw_Z G pr px below args s R.cells R.slots) (F0 m pc ls st0) := by
  intro T hT X
  obtain ⟨v, st₀, t, T', LL, h0, X', hL, e1, e2, ⟨⟨v', h1, hv, hp, hH1⟩, hF⟩, stp⟩ := hr T hT X
  cases hv
  obtain ⟨hz, hk⟩ := hF
  rw [h0] at hz hk
  have k3 : va_S (xw_g G) s.heap T'.heap (locs ++ LL) := ⟨Nat.le_trans hS.1 (by rw [e1]; exact hz), fun q h1 h2 => by rw [e1, hk q (Nat.lt_of_lt_of_le h1 hS.1) h2]; exact hS.2.1 q h1 h2, fun q hq => by
    rcases List.mem_append.mp hq with h | h
    · exact hS.2.2 q h
    · exact hL q h⟩
  obtain ⟨t2, a1, b1⟩ := k v h1 hp p e R s m args below meth c T'.heap (locs ++ LL) (cells + mc) (slots + ms) ls C hR ⟨by omega, by omega⟩ (xw_H.moved (u := t) (by rw [← e2]; exact X'.warmed.alike.symm) (by rw [e1]; exact hH1)) k3 hl T' rfl X'
  exact ⟨t2, stp t2 a1, b1⟩
/-- the words of a callee are among ours -/
theorem xw_goodIn {M1 : xw_M} {pre : List Cond} (hpre : ∀ w ∈ pre, w ∈ xw_tbl) (hcode : Cond.code M1.1 M1.2.1 M1.2.2.1 M1.2.2.2.1 ∈ xw_tbl) : GoodIn xw_tbl (pre ++ Cond.code M1.1 M1.2.1 M1.2.2.1 M1.2.2.2.1 :: xw_tbl) := by
  have key : ∀ w ∈ pre ++ Cond.code M1.1 M1.2.1 M1.2.2.1 M1.2.2.2.1 :: xw_tbl, w ∈ xw_tbl := by
    intro w hw
    rcases List.mem_append.mp hw with h1 | h1
    · exact hpre w h1
    · rcases List.mem_cons.mp h1 with h2 | h2
      · rw [h2]; exact hcode
      · exact h2
  exact fun w hw => ⟨key w hw, xw_good w (key w hw)⟩
/-- a call's site: virtual, of a method of the class itself -/
def xw_sV (own : String) (index : Nat) (M1 : xw_M) (n : Nat) : Prop :=
  (∀ w ∈ ([.methodLink own index M1.1, .instanceMethod M1.1, .selects M1.1.cls M1.1 M1.1, .initialized M1.1.cls] : List Cond), w ∈ xw_tbl) ∧ Cond.code M1.1 M1.2.1 M1.2.2.1 M1.2.2.2.1 ∈ xw_tbl ∧ M1.1.cls ≠ "java/lang/invoke/MethodHandle" ∧ M1.1.cls ≠ "java/lang/invoke/VarHandle" ∧ (parseMethodDescriptor M1.1.desc).map (fun d => d.parameters.length) = some n
theorem x_callV {index b ci F1 L1 mc ms : Nat} {M1 : xw_M} {As fs : List Value} {pq : Option Value → xw_A → Prop} (d : decode M.2.1 pc = .ok (.invokevirtual index, 3)) (hs : xw_sV M.1.cls index M1 As.length)
    (hM : xw_Met G M1 F1 L1 mc ms (.ref b :: As) h pq (fun _ _ => False)) (hb : h b = some (.inr (ci, fs))) (hci : ci < vwCl.length ∧ (xw_cl ci).1 = M1.1.cls) (hr : F1 + 1 ≤ F ∧ 8 + (M1.2.2.1 + 11) + L1 ≤ L) (hc : mc ≤ bc ∧ ms ≤ bs) (hw : (rest.map fun v => v.category).sum ≤ 8)
    (k : ∀ v h1, pq v h1 → xw G M F L (bc - mc) (bs - ms) pr px (pc + 3) lv (v.toList ++ rest) h1) : xw G M F L bc bs pr px pc lv (As.reverse ++ .ref b :: rest) h := by
  intro p e R s m args below meth c H locs cells slots ls C hR hB hH hS hl
  obtain ⟨ws, tys, hP, hK, hD, hA, hO⟩ := id hH
  obtain ⟨q, hq⟩ := hO b ci fs hb
  obtain ⟨s1, s2, s3, s4, s5⟩ := hs
  have hrecv := va_recv hK hP (xw_cl_get hci.1) hq
  rw [hci.2] at hrecv
  exact xw_run hc k C hR hB hS hl (va_runV (C := M1.1.cls) (As := As) (rest := rest) (n := As.length) (Ts := xw_tbl) ⟨C.1, C.2.1, C.2.2.2.1, C.2.2.2.2.1, C.2.2.2.2.2.1⟩ hM.met
    (cwV As.length C.2.2.2.2.2.1 (xw_goodIn s1 s2) rfl rfl rfl ⟨rfl, s3, s4, s5⟩ ⟨Nat.le_trans hr.1 hR.1, Nat.le_trans hr.2 hR.2⟩)
    ⟨xw_blind, hrecv, fun U hU hW => ⟨rfl, xw_H.moved hW.alike (by rw [hU]; exact hH), xw_F.moved hW (fun q h1 h2 => by rw [hU]; exact hS.2.1 q h1 (fun h3 => Nat.lt_irrefl _ (Nat.lt_of_lt_of_le h2 h3))) C.2.2.2.2.2.2.2.2.2⟩⟩ rfl rfl hl.1 rfl (lv_room hw) d ⟨by omega, by omega⟩)
/-- a call's site: static -/
def xw_sS (own : String) (index : Nat) (M1 : xw_M) (n : Nat) : Prop :=
  (∀ w ∈ ([.methodLink own index M1.1, .static M1.1, .initialized M1.1.cls] : List Cond), w ∈ xw_tbl) ∧ Cond.code M1.1 M1.2.1 M1.2.2.1 M1.2.2.2.1 ∈ xw_tbl ∧ M1.1.cls ≠ "java/lang/invoke/MethodHandle" ∧ M1.1.cls ≠ "java/lang/invoke/VarHandle" ∧ (parseMethodDescriptor M1.1.desc).map (fun d => d.parameters.length) = some n
theorem x_callS {index F1 L1 mc ms : Nat} {M1 : xw_M} {As : List Value} {pq : Option Value → xw_A → Prop} (d : decode M.2.1 pc = .ok (.invokestatic index, 3)) (hs : xw_sS M.1.cls index M1 As.length)
    (hM : xw_Met G M1 F1 L1 mc ms As h pq (fun _ _ => False)) (hr : F1 + 1 ≤ F ∧ 8 + (M1.2.2.1 + 11) + L1 ≤ L) (hc : mc ≤ bc ∧ ms ≤ bs) (hw : (rest.map fun v => v.category).sum ≤ 8)
    (k : ∀ v h1, pq v h1 → xw G M F L (bc - mc) (bs - ms) pr px (pc + 3) lv (v.toList ++ rest) h1) : xw G M F L bc bs pr px pc lv (As.reverse ++ rest) h := by
  intro p e R s m args below meth c H locs cells slots ls C hR hB hH hS hl
  obtain ⟨s1, s2, s3, s4, s5⟩ := hs
  exact xw_run hc k C hR hB hS hl (va_runS (As := As) (rest := rest) (n := As.length) (Ts := xw_tbl) ⟨C.1, C.2.1, C.2.2.2.1, C.2.2.2.2.1, C.2.2.2.2.2.1⟩ hM.met
    (va_cwS As.length C.2.2.2.2.2.1 (xw_goodIn s1 s2) rfl rfl rfl ⟨s3, s4, s5⟩ ⟨Nat.le_trans hr.1 hR.1, Nat.le_trans hr.2 hR.2⟩)
    ⟨xw_blind, fun U hU hW => ⟨rfl, xw_H.moved hW.alike (by rw [hU]; exact hH), xw_F.moved hW (fun q h1 h2 => by rw [hU]; exact hS.2.1 q h1 (fun h3 => Nat.lt_irrefl _ (Nat.lt_of_lt_of_le h2 h3))) C.2.2.2.2.2.2.2.2.2⟩⟩ rfl rfl hl.1 rfl (lv_room hw) d ⟨by omega, by omega⟩)
/-- a call's site: a constructor -/
def xw_sI (own : String) (index : Nat) (M1 : xw_M) (n : Nat) : Prop :=
  (∀ w ∈ ([.methodLink own index M1.1, .instanceMethod M1.1, .initialized M1.1.cls] : List Cond), w ∈ xw_tbl) ∧ Cond.code M1.1 M1.2.1 M1.2.2.1 M1.2.2.2.1 ∈ xw_tbl ∧ M1.1.cls ≠ "java/lang/invoke/MethodHandle" ∧ M1.1.cls ≠ "java/lang/invoke/VarHandle" ∧ (parseMethodDescriptor M1.1.desc).map (fun d => d.parameters.length) = some n ∧ M1.1.name = "<init>" ∧ M1.2.2.2.1 = none
theorem x_callI {index b F1 L1 mc ms : Nat} {M1 : xw_M} {As : List Value} {pq : Option Value → xw_A → Prop} (d : decode M.2.1 pc = .ok (.invokespecial index, 3)) (hs : xw_sI M.1.cls index M1 As.length)
    (hM : xw_Met G M1 F1 L1 mc ms (.ref b :: As) h pq (fun _ _ => False)) (hr : F1 + 1 ≤ F ∧ 8 + (M1.2.2.1 + 11) + L1 ≤ L) (hc : mc ≤ bc ∧ ms ≤ bs) (hw : (rest.map fun v => v.category).sum ≤ 8)
    (k : ∀ v h1, pq v h1 → xw G M F L (bc - mc) (bs - ms) pr px (pc + 3) lv (v.toList ++ rest) h1) : xw G M F L bc bs pr px pc lv (As.reverse ++ .ref b :: rest) h := by
  intro p e R s m args below meth c H locs cells slots ls C hR hB hH hS hl
  obtain ⟨s1, s2, s3, s4, s5, s6, s7⟩ := hs
  have cb := callB_of (R := R) (s := s) (args := args) (own := M.1.cls) (index := index) (y := M1.1) (rm := { frames := F1, cells := mc, slots := ms, locals := L1 }) (mc := mc) (ms := ms) As.length C.2.2.2.2.2.1 (xw_goodIn (pre := []) (M1 := M1) (fun w hw => by cases hw) s2) rfl rfl rfl (C.2.2.2.2.2.1 _ (s1 _ (by simp))) (C.2.2.2.2.2.1 _ (s1 _ (by simp))) ⟨s3, s4, s5⟩ ⟨Nat.le_trans hr.1 hR.1, Nat.le_trans hr.2 hR.2⟩
  rw [s7] at cb
  have hM' := hM.met
  rw [s7] at hM'
  exact xw_run hc k C hR hB hS hl (va_runI (As := As) (rest := rest) (n := As.length) (Ts := xw_tbl) ⟨C.1, C.2.1, C.2.2.2.1, C.2.2.2.2.1, C.2.2.2.2.2.1⟩ hM'
    ⟨cb, s6, C.2.2.2.2.2.1 _ (s1 _ (by simp))⟩
    ⟨xw_blind, fun U hU hW => ⟨rfl, xw_H.moved hW.alike (by rw [hU]; exact hH), xw_F.moved hW (fun q h1 h2 => by rw [hU]; exact hS.2.1 q h1 (fun h3 => Nat.lt_irrefl _ (Nat.lt_of_lt_of_le h2 h3))) C.2.2.2.2.2.2.2.2.2⟩⟩ rfl rfl hl.1 rfl (lv_room hw) d ⟨by omega, by omega⟩)
/-- Object's constructor -/
theorem x_objInit {index a : Nat} (d : decode M.2.1 pc = .ok (.invokespecial index, 3)) (hs : ∀ w ∈ ([.methodLink M.1.cls index objectInit, .instanceMethod objectInit, .code objectInit ⟨#[0xb1]⟩ 1 none] : List Cond), w ∈ xw_tbl) (hF : 1 ≤ F) (hL : (rest.map fun v => v.category).sum + 12 ≤ L)
    (k : xw G M F L bc bs pr px (pc + 3) lv rest h) : xw G M F L bc bs pr px pc lv (.ref a :: rest) h := by
  intro p e R s m args below meth c H locs cells slots ls C hR hB hH hS hl
  exact W.objInit C.1 C.2.1 C.2.2.2.2.1 (C.2.2.2.2.2.1 _ (hs _ (by simp))) (C.2.2.2.2.2.1 _ (hs _ (by simp))) (C.2.2.2.2.2.1 _ (hs _ (by simp))) rfl (hl.1.trans C.2.2.2.1.symm) rfl d (Nat.le_trans hF hR.1)
    (by have := hR.2; show 2 * 0 + _ + 12 ≤ _; omega) (k p e R s m args below meth c H locs cells slots ls C hR hB hH hS hl)
end Calls
end
