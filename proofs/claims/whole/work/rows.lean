section
-- ===== PART A: goes FIRST, ahead of the names: the tables' words, and 'selects' of the private methods out of them =====
/-- a private method of a class that the tables say can be made, by its rows of tables_1 -/
def lw_okq (q : MethodName × Nat) : Prop := (q.1.cls ≠ "java/lang/invoke/MethodHandle" ∧ q.1.cls ≠ "java/lang/invoke/VarHandle") ∧ Cond.instantiable q.1.cls q.2 ∈ tables_1 ∧ Cond.privateMethod q.1 ∈ tables_1 ∧ Cond.instanceMethod q.1 ∈ tables_1
theorem lw_p0 : lw_okq (⟨"PhraseShelf$Store", "gatherLive", "(LPhraseShelf$Version;)V"⟩, 10) := ⟨⟨by decide +kernel, by decide +kernel⟩, List.mem_of_getElem? (i := 38) (by decide +kernel), List.mem_of_getElem? (i := 330) (by decide +kernel), List.mem_of_getElem? (i := 331) (by decide +kernel)⟩
theorem lw_p1 : lw_okq (⟨"PhraseShelf$Store", "addSegment", "(I)V"⟩, 10) := ⟨⟨by decide +kernel, by decide +kernel⟩, List.mem_of_getElem? (i := 38) (by decide +kernel), List.mem_of_getElem? (i := 334) (by decide +kernel), List.mem_of_getElem? (i := 335) (by decide +kernel)⟩
theorem lw_p2 : lw_okq (⟨"PhraseShelf$Store", "segmentsOf", "(I)I"⟩, 10) := ⟨⟨by decide +kernel, by decide +kernel⟩, List.mem_of_getElem? (i := 38) (by decide +kernel), List.mem_of_getElem? (i := 359) (by decide +kernel), List.mem_of_getElem? (i := 360) (by decide +kernel)⟩
theorem lw_p3 : lw_okq (⟨"PhraseShelf$Store", "mergeLevels", "(III)V"⟩, 10) := ⟨⟨by decide +kernel, by decide +kernel⟩, List.mem_of_getElem? (i := 38) (by decide +kernel), List.mem_of_getElem? (i := 363) (by decide +kernel), List.mem_of_getElem? (i := 364) (by decide +kernel)⟩
theorem lw_p4 : lw_okq (⟨"PhraseShelf$Store", "gatherAllLive", "(LPhraseShelf$Segment;)V"⟩, 10) := ⟨⟨by decide +kernel, by decide +kernel⟩, List.mem_of_getElem? (i := 38) (by decide +kernel), List.mem_of_getElem? (i := 367) (by decide +kernel), List.mem_of_getElem? (i := 368) (by decide +kernel)⟩
theorem lw_p5 : lw_okq (⟨"java/lang/Throwable", "fillInStackTrace", "(I)Ljava/lang/Throwable;"⟩, 6) := ⟨⟨by decide +kernel, by decide +kernel⟩, List.mem_of_getElem? (i := 440) (by decide +kernel), List.mem_of_getElem? (i := 438) (by decide +kernel), List.mem_of_getElem? (i := 439) (by decide +kernel)⟩
theorem lw_p6 : lw_okq (⟨"PhraseShelf$Tokens", "addLetter", "(C)V"⟩, 3) := ⟨⟨by decide +kernel, by decide +kernel⟩, List.mem_of_getElem? (i := 92) (by decide +kernel), List.mem_of_getElem? (i := 505) (by decide +kernel), List.mem_of_getElem? (i := 506) (by decide +kernel)⟩
theorem lw_p7 : lw_okq (⟨"PhraseShelf", "giveTexts", "(I)I"⟩, 14) := ⟨⟨by decide +kernel, by decide +kernel⟩, List.mem_of_getElem? (i := 28) (by decide +kernel), List.mem_of_getElem? (i := 521) (by decide +kernel), List.mem_of_getElem? (i := 522) (by decide +kernel)⟩
theorem lw_p8 : lw_okq (⟨"PhraseShelf$Tokens", "isEarlier", "(I)Z"⟩, 3) := ⟨⟨by decide +kernel, by decide +kernel⟩, List.mem_of_getElem? (i := 92) (by decide +kernel), List.mem_of_getElem? (i := 533) (by decide +kernel), List.mem_of_getElem? (i := 534) (by decide +kernel)⟩
theorem lw_p9 : lw_okq (⟨"PhraseShelf$Parts", "blanksEnd", "(I)I"⟩, 5) := ⟨⟨by decide +kernel, by decide +kernel⟩, List.mem_of_getElem? (i := 116) (by decide +kernel), List.mem_of_getElem? (i := 693) (by decide +kernel), List.mem_of_getElem? (i := 694) (by decide +kernel)⟩
theorem lw_p10 : lw_okq (⟨"PhraseShelf$Parts", "readPart", "(I)V"⟩, 5) := ⟨⟨by decide +kernel, by decide +kernel⟩, List.mem_of_getElem? (i := 116) (by decide +kernel), List.mem_of_getElem? (i := 697) (by decide +kernel), List.mem_of_getElem? (i := 698) (by decide +kernel)⟩
theorem lw_p11 : lw_okq (⟨"PhraseShelf$Parts", "wordEnd", "(I)I"⟩, 5) := ⟨⟨by decide +kernel, by decide +kernel⟩, List.mem_of_getElem? (i := 116) (by decide +kernel), List.mem_of_getElem? (i := 702) (by decide +kernel), List.mem_of_getElem? (i := 703) (by decide +kernel)⟩
theorem lw_p12 : lw_okq (⟨"PhraseShelf$Parts", "wordKind", "(II)I"⟩, 5) := ⟨⟨by decide +kernel, by decide +kernel⟩, List.mem_of_getElem? (i := 116) (by decide +kernel), List.mem_of_getElem? (i := 706) (by decide +kernel), List.mem_of_getElem? (i := 707) (by decide +kernel)⟩
theorem lw_p13 : lw_okq (⟨"PhraseShelf$Parts", "isName", "(IILjava/lang/String;)Z"⟩, 5) := ⟨⟨by decide +kernel, by decide +kernel⟩, List.mem_of_getElem? (i := 116) (by decide +kernel), List.mem_of_getElem? (i := 711) (by decide +kernel), List.mem_of_getElem? (i := 712) (by decide +kernel)⟩
theorem lw_p14 : lw_okq (⟨"PhraseShelf$Parts", "quoteEnd", "(I)I"⟩, 5) := ⟨⟨by decide +kernel, by decide +kernel⟩, List.mem_of_getElem? (i := 116) (by decide +kernel), List.mem_of_getElem? (i := 766) (by decide +kernel), List.mem_of_getElem? (i := 767) (by decide +kernel)⟩
theorem lw_p15 : lw_okq (⟨"PhraseShelf$Question", "joined", "(III)LPhraseShelf$Node;"⟩, 9) := ⟨⟨by decide +kernel, by decide +kernel⟩, List.mem_of_getElem? (i := 86) (by decide +kernel), List.mem_of_getElem? (i := 828) (by decide +kernel), List.mem_of_getElem? (i := 829) (by decide +kernel)⟩
def lw_privs_1 : List (MethodName × Nat) := [(⟨"PhraseShelf$Store", "gatherLive", "(LPhraseShelf$Version;)V"⟩, 10), (⟨"PhraseShelf$Store", "addSegment", "(I)V"⟩, 10), (⟨"PhraseShelf$Store", "segmentsOf", "(I)I"⟩, 10), (⟨"PhraseShelf$Store", "mergeLevels", "(III)V"⟩, 10), (⟨"PhraseShelf$Store", "gatherAllLive", "(LPhraseShelf$Segment;)V"⟩, 10), (⟨"java/lang/Throwable", "fillInStackTrace", "(I)Ljava/lang/Throwable;"⟩, 6), (⟨"PhraseShelf$Tokens", "addLetter", "(C)V"⟩, 3), (⟨"PhraseShelf", "giveTexts", "(I)I"⟩, 14), (⟨"PhraseShelf$Tokens", "isEarlier", "(I)Z"⟩, 3), (⟨"PhraseShelf$Parts", "blanksEnd", "(I)I"⟩, 5), (⟨"PhraseShelf$Parts", "readPart", "(I)V"⟩, 5), (⟨"PhraseShelf$Parts", "wordEnd", "(I)I"⟩, 5), (⟨"PhraseShelf$Parts", "wordKind", "(II)I"⟩, 5), (⟨"PhraseShelf$Parts", "isName", "(IILjava/lang/String;)Z"⟩, 5), (⟨"PhraseShelf$Parts", "quoteEnd", "(I)I"⟩, 5), (⟨"PhraseShelf$Question", "joined", "(III)LPhraseShelf$Node;"⟩, 9)]
theorem lw_r1 : ∀ q ∈ lw_privs_1, lw_okq q := List.forall_mem_cons.mpr ⟨lw_p0, List.forall_mem_cons.mpr ⟨lw_p1, List.forall_mem_cons.mpr ⟨lw_p2, List.forall_mem_cons.mpr ⟨lw_p3, List.forall_mem_cons.mpr ⟨lw_p4, List.forall_mem_cons.mpr ⟨lw_p5, List.forall_mem_cons.mpr ⟨lw_p6, List.forall_mem_cons.mpr ⟨lw_p7, List.forall_mem_cons.mpr ⟨lw_p8, List.forall_mem_cons.mpr ⟨lw_p9, List.forall_mem_cons.mpr ⟨lw_p10, List.forall_mem_cons.mpr ⟨lw_p11, List.forall_mem_cons.mpr ⟨lw_p12, List.forall_mem_cons.mpr ⟨lw_p13, List.forall_mem_cons.mpr ⟨lw_p14, List.forall_mem_cons.mpr ⟨lw_p15, fun _ h => absurd h List.not_mem_nil⟩⟩⟩⟩⟩⟩⟩⟩⟩⟩⟩⟩⟩⟩⟩⟩
theorem lw_p16 : lw_okq (⟨"PhraseShelf$Question", "operand", "(III)LPhraseShelf$Node;"⟩, 9) := ⟨⟨by decide +kernel, by decide +kernel⟩, List.mem_of_getElem? (i := 86) (by decide +kernel), List.mem_of_getElem? (i := 832) (by decide +kernel), List.mem_of_getElem? (i := 833) (by decide +kernel)⟩
theorem lw_p17 : lw_okq (⟨"PhraseShelf$Question", "atom", "(II)LPhraseShelf$Node;"⟩, 9) := ⟨⟨by decide +kernel, by decide +kernel⟩, List.mem_of_getElem? (i := 86) (by decide +kernel), List.mem_of_getElem? (i := 836) (by decide +kernel), List.mem_of_getElem? (i := 837) (by decide +kernel)⟩
theorem lw_p18 : lw_okq (⟨"PhraseShelf$Question", "beginsDeeper", "()Z"⟩, 9) := ⟨⟨by decide +kernel, by decide +kernel⟩, List.mem_of_getElem? (i := 86) (by decide +kernel), List.mem_of_getElem? (i := 840) (by decide +kernel), List.mem_of_getElem? (i := 841) (by decide +kernel)⟩
theorem lw_p19 : lw_okq (⟨"PhraseShelf$Question", "kind", "()I"⟩, 9) := ⟨⟨by decide +kernel, by decide +kernel⟩, List.mem_of_getElem? (i := 86) (by decide +kernel), List.mem_of_getElem? (i := 844) (by decide +kernel), List.mem_of_getElem? (i := 845) (by decide +kernel)⟩
theorem lw_p20 : lw_okq (⟨"PhraseShelf$Question", "refuse", "()LPhraseShelf$Node;"⟩, 9) := ⟨⟨by decide +kernel, by decide +kernel⟩, List.mem_of_getElem? (i := 86) (by decide +kernel), List.mem_of_getElem? (i := 848) (by decide +kernel), List.mem_of_getElem? (i := 849) (by decide +kernel)⟩
theorem lw_p21 : lw_okq (⟨"PhraseShelf$Question", "deeper", "(II)LPhraseShelf$Node;"⟩, 9) := ⟨⟨by decide +kernel, by decide +kernel⟩, List.mem_of_getElem? (i := 86) (by decide +kernel), List.mem_of_getElem? (i := 852) (by decide +kernel), List.mem_of_getElem? (i := 853) (by decide +kernel)⟩
theorem lw_p22 : lw_okq (⟨"PhraseShelf$Question", "takes", "(I)Z"⟩, 9) := ⟨⟨by decide +kernel, by decide +kernel⟩, List.mem_of_getElem? (i := 86) (by decide +kernel), List.mem_of_getElem? (i := 856) (by decide +kernel), List.mem_of_getElem? (i := 857) (by decide +kernel)⟩
theorem lw_p23 : lw_okq (⟨"PhraseShelf$Question", "near", "(I)LPhraseShelf$Node;"⟩, 9) := ⟨⟨by decide +kernel, by decide +kernel⟩, List.mem_of_getElem? (i := 86) (by decide +kernel), List.mem_of_getElem? (i := 865) (by decide +kernel), List.mem_of_getElem? (i := 866) (by decide +kernel)⟩
theorem lw_p24 : lw_okq (⟨"PhraseShelf$Question", "readPhrase", "()Z"⟩, 9) := ⟨⟨by decide +kernel, by decide +kernel⟩, List.mem_of_getElem? (i := 86) (by decide +kernel), List.mem_of_getElem? (i := 869) (by decide +kernel), List.mem_of_getElem? (i := 870) (by decide +kernel)⟩
theorem lw_p25 : lw_okq (⟨"PhraseShelf$Question", "readString", "()Z"⟩, 9) := ⟨⟨by decide +kernel, by decide +kernel⟩, List.mem_of_getElem? (i := 86) (by decide +kernel), List.mem_of_getElem? (i := 873) (by decide +kernel), List.mem_of_getElem? (i := 874) (by decide +kernel)⟩
theorem lw_p26 : lw_okq (⟨"PhraseShelf$Question", "beginsString", "()Z"⟩, 9) := ⟨⟨by decide +kernel, by decide +kernel⟩, List.mem_of_getElem? (i := 86) (by decide +kernel), List.mem_of_getElem? (i := 877) (by decide +kernel), List.mem_of_getElem? (i := 878) (by decide +kernel)⟩
theorem lw_p27 : lw_okq (⟨"PhraseShelf$Question", "group", "(IIII)LPhraseShelf$Node;"⟩, 9) := ⟨⟨by decide +kernel, by decide +kernel⟩, List.mem_of_getElem? (i := 86) (by decide +kernel), List.mem_of_getElem? (i := 886) (by decide +kernel), List.mem_of_getElem? (i := 887) (by decide +kernel)⟩
theorem lw_p28 : lw_okq (⟨"PhraseShelf$Question", "newNode", "(I)LPhraseShelf$Node;"⟩, 9) := ⟨⟨by decide +kernel, by decide +kernel⟩, List.mem_of_getElem? (i := 86) (by decide +kernel), List.mem_of_getElem? (i := 890) (by decide +kernel), List.mem_of_getElem? (i := 891) (by decide +kernel)⟩
theorem lw_p29 : lw_okq (⟨"PhraseShelf$Question", "single", "(I)LPhraseShelf$Node;"⟩, 9) := ⟨⟨by decide +kernel, by decide +kernel⟩, List.mem_of_getElem? (i := 86) (by decide +kernel), List.mem_of_getElem? (i := 894) (by decide +kernel), List.mem_of_getElem? (i := 895) (by decide +kernel)⟩
theorem lw_p30 : lw_okq (⟨"PhraseShelf$Question", "goesOn", "(I)Z"⟩, 9) := ⟨⟨by decide +kernel, by decide +kernel⟩, List.mem_of_getElem? (i := 86) (by decide +kernel), List.mem_of_getElem? (i := 898) (by decide +kernel), List.mem_of_getElem? (i := 899) (by decide +kernel)⟩
theorem lw_p31 : lw_okq (⟨"PhraseShelf$Question", "beginsAtom", "()Z"⟩, 9) := ⟨⟨by decide +kernel, by decide +kernel⟩, List.mem_of_getElem? (i := 86) (by decide +kernel), List.mem_of_getElem? (i := 902) (by decide +kernel), List.mem_of_getElem? (i := 903) (by decide +kernel)⟩
def lw_privs_2 : List (MethodName × Nat) := [(⟨"PhraseShelf$Question", "operand", "(III)LPhraseShelf$Node;"⟩, 9), (⟨"PhraseShelf$Question", "atom", "(II)LPhraseShelf$Node;"⟩, 9), (⟨"PhraseShelf$Question", "beginsDeeper", "()Z"⟩, 9), (⟨"PhraseShelf$Question", "kind", "()I"⟩, 9), (⟨"PhraseShelf$Question", "refuse", "()LPhraseShelf$Node;"⟩, 9), (⟨"PhraseShelf$Question", "deeper", "(II)LPhraseShelf$Node;"⟩, 9), (⟨"PhraseShelf$Question", "takes", "(I)Z"⟩, 9), (⟨"PhraseShelf$Question", "near", "(I)LPhraseShelf$Node;"⟩, 9), (⟨"PhraseShelf$Question", "readPhrase", "()Z"⟩, 9), (⟨"PhraseShelf$Question", "readString", "()Z"⟩, 9), (⟨"PhraseShelf$Question", "beginsString", "()Z"⟩, 9), (⟨"PhraseShelf$Question", "group", "(IIII)LPhraseShelf$Node;"⟩, 9), (⟨"PhraseShelf$Question", "newNode", "(I)LPhraseShelf$Node;"⟩, 9), (⟨"PhraseShelf$Question", "single", "(I)LPhraseShelf$Node;"⟩, 9), (⟨"PhraseShelf$Question", "goesOn", "(I)Z"⟩, 9), (⟨"PhraseShelf$Question", "beginsAtom", "()Z"⟩, 9)]
theorem lw_r2 : ∀ q ∈ lw_privs_2, lw_okq q := List.forall_mem_cons.mpr ⟨lw_p16, List.forall_mem_cons.mpr ⟨lw_p17, List.forall_mem_cons.mpr ⟨lw_p18, List.forall_mem_cons.mpr ⟨lw_p19, List.forall_mem_cons.mpr ⟨lw_p20, List.forall_mem_cons.mpr ⟨lw_p21, List.forall_mem_cons.mpr ⟨lw_p22, List.forall_mem_cons.mpr ⟨lw_p23, List.forall_mem_cons.mpr ⟨lw_p24, List.forall_mem_cons.mpr ⟨lw_p25, List.forall_mem_cons.mpr ⟨lw_p26, List.forall_mem_cons.mpr ⟨lw_p27, List.forall_mem_cons.mpr ⟨lw_p28, List.forall_mem_cons.mpr ⟨lw_p29, List.forall_mem_cons.mpr ⟨lw_p30, List.forall_mem_cons.mpr ⟨lw_p31, fun _ h => absurd h List.not_mem_nil⟩⟩⟩⟩⟩⟩⟩⟩⟩⟩⟩⟩⟩⟩⟩⟩
theorem lw_p32 : lw_okq (⟨"PhraseShelf$Question", "join", "(ILPhraseShelf$Node;LPhraseShelf$Node;)LPhraseShelf$Node;"⟩, 9) := ⟨⟨by decide +kernel, by decide +kernel⟩, List.mem_of_getElem? (i := 86) (by decide +kernel), List.mem_of_getElem? (i := 906) (by decide +kernel), List.mem_of_getElem? (i := 907) (by decide +kernel)⟩
theorem lw_p33 : lw_okq (⟨"PhraseShelf$Standing", "placesIn", "(LPhraseShelf$Phrase;LPhraseShelf$Tokens;)I"⟩, 2) := ⟨⟨by decide +kernel, by decide +kernel⟩, List.mem_of_getElem? (i := 235) (by decide +kernel), List.mem_of_getElem? (i := 920) (by decide +kernel), List.mem_of_getElem? (i := 921) (by decide +kernel)⟩
theorem lw_p34 : lw_okq (⟨"PhraseShelf$Standing", "standsAt", "(LPhraseShelf$Phrase;LPhraseShelf$Tokens;I)Z"⟩, 2) := ⟨⟨by decide +kernel, by decide +kernel⟩, List.mem_of_getElem? (i := 235) (by decide +kernel), List.mem_of_getElem? (i := 924) (by decide +kernel), List.mem_of_getElem? (i := 925) (by decide +kernel)⟩
theorem lw_p35 : lw_okq (⟨"PhraseShelf$Standing", "rowsOfGroup", "(LPhraseShelf$Node;)I"⟩, 2) := ⟨⟨by decide +kernel, by decide +kernel⟩, List.mem_of_getElem? (i := 235) (by decide +kernel), List.mem_of_getElem? (i := 936) (by decide +kernel), List.mem_of_getElem? (i := 937) (by decide +kernel)⟩
theorem lw_p36 : lw_okq (⟨"PhraseShelf$Standing", "holds", "(LPhraseShelf$Node;II)Z"⟩, 2) := ⟨⟨by decide +kernel, by decide +kernel⟩, List.mem_of_getElem? (i := 235) (by decide +kernel), List.mem_of_getElem? (i := 940) (by decide +kernel), List.mem_of_getElem? (i := 941) (by decide +kernel)⟩
theorem lw_p37 : lw_okq (⟨"PhraseShelf$Standing", "areNear", "(LPhraseShelf$Node;II)Z"⟩, 2) := ⟨⟨by decide +kernel, by decide +kernel⟩, List.mem_of_getElem? (i := 235) (by decide +kernel), List.mem_of_getElem? (i := 948) (by decide +kernel), List.mem_of_getElem? (i := 949) (by decide +kernel)⟩
theorem lw_p38 : lw_okq (⟨"PhraseShelf$Standing", "allReach", "(LPhraseShelf$Node;III)Z"⟩, 2) := ⟨⟨by decide +kernel, by decide +kernel⟩, List.mem_of_getElem? (i := 235) (by decide +kernel), List.mem_of_getElem? (i := 952) (by decide +kernel), List.mem_of_getElem? (i := 953) (by decide +kernel)⟩
theorem lw_p39 : lw_okq (⟨"PhraseShelf$Answers", "addPhrase", "(LPhraseShelf$Standing;I[IDD)V"⟩, 5) := ⟨⟨by decide +kernel, by decide +kernel⟩, List.mem_of_getElem? (i := 248) (by decide +kernel), List.mem_of_getElem? (i := 997) (by decide +kernel), List.mem_of_getElem? (i := 998) (by decide +kernel)⟩
theorem lw_p40 : lw_okq (⟨"PhraseShelf$Answers", "sort", "()V"⟩, 5) := ⟨⟨by decide +kernel, by decide +kernel⟩, List.mem_of_getElem? (i := 248) (by decide +kernel), List.mem_of_getElem? (i := 1011) (by decide +kernel), List.mem_of_getElem? (i := 1012) (by decide +kernel)⟩
theorem lw_p41 : lw_okq (⟨"PhraseShelfModel", "fails", "(ZI)Z"⟩, 62) := ⟨⟨by decide +kernel, by decide +kernel⟩, List.mem_of_getElem? (i := 1063) (by decide +kernel), List.mem_of_getElem? (i := 1269) (by decide +kernel), List.mem_of_getElem? (i := 1270) (by decide +kernel)⟩
theorem lw_p42 : lw_okq (⟨"PhraseShelfModel", "gets", "(I)I"⟩, 62) := ⟨⟨by decide +kernel, by decide +kernel⟩, List.mem_of_getElem? (i := 1063) (by decide +kernel), List.mem_of_getElem? (i := 1288) (by decide +kernel), List.mem_of_getElem? (i := 1289) (by decide +kernel)⟩
theorem lw_p43 : lw_okq (⟨"PhraseShelfModel", "entriesOf", "(I)I"⟩, 62) := ⟨⟨by decide +kernel, by decide +kernel⟩, List.mem_of_getElem? (i := 1063) (by decide +kernel), List.mem_of_getElem? (i := 1292) (by decide +kernel), List.mem_of_getElem? (i := 1293) (by decide +kernel)⟩
theorem lw_p44 : lw_okq (⟨"PhraseShelfModel", "opens", "(II)V"⟩, 62) := ⟨⟨by decide +kernel, by decide +kernel⟩, List.mem_of_getElem? (i := 1063) (by decide +kernel), List.mem_of_getElem? (i := 1296) (by decide +kernel), List.mem_of_getElem? (i := 1297) (by decide +kernel)⟩
theorem lw_p45 : lw_okq (⟨"PhraseShelfModel", "alike", "(II)Z"⟩, 62) := ⟨⟨by decide +kernel, by decide +kernel⟩, List.mem_of_getElem? (i := 1063) (by decide +kernel), List.mem_of_getElem? (i := 1300) (by decide +kernel), List.mem_of_getElem? (i := 1301) (by decide +kernel)⟩
theorem lw_p46 : lw_okq (⟨"PhraseShelfModel", "pending", "()I"⟩, 62) := ⟨⟨by decide +kernel, by decide +kernel⟩, List.mem_of_getElem? (i := 1063) (by decide +kernel), List.mem_of_getElem? (i := 1307) (by decide +kernel), List.mem_of_getElem? (i := 1308) (by decide +kernel)⟩
theorem lw_p47 : lw_okq (⟨"PhraseShelfModel", "flushes", "()V"⟩, 62) := ⟨⟨by decide +kernel, by decide +kernel⟩, List.mem_of_getElem? (i := 1063) (by decide +kernel), List.mem_of_getElem? (i := 1311) (by decide +kernel), List.mem_of_getElem? (i := 1312) (by decide +kernel)⟩
def lw_privs_3 : List (MethodName × Nat) := [(⟨"PhraseShelf$Question", "join", "(ILPhraseShelf$Node;LPhraseShelf$Node;)LPhraseShelf$Node;"⟩, 9), (⟨"PhraseShelf$Standing", "placesIn", "(LPhraseShelf$Phrase;LPhraseShelf$Tokens;)I"⟩, 2), (⟨"PhraseShelf$Standing", "standsAt", "(LPhraseShelf$Phrase;LPhraseShelf$Tokens;I)Z"⟩, 2), (⟨"PhraseShelf$Standing", "rowsOfGroup", "(LPhraseShelf$Node;)I"⟩, 2), (⟨"PhraseShelf$Standing", "holds", "(LPhraseShelf$Node;II)Z"⟩, 2), (⟨"PhraseShelf$Standing", "areNear", "(LPhraseShelf$Node;II)Z"⟩, 2), (⟨"PhraseShelf$Standing", "allReach", "(LPhraseShelf$Node;III)Z"⟩, 2), (⟨"PhraseShelf$Answers", "addPhrase", "(LPhraseShelf$Standing;I[IDD)V"⟩, 5), (⟨"PhraseShelf$Answers", "sort", "()V"⟩, 5), (⟨"PhraseShelfModel", "fails", "(ZI)Z"⟩, 62), (⟨"PhraseShelfModel", "gets", "(I)I"⟩, 62), (⟨"PhraseShelfModel", "entriesOf", "(I)I"⟩, 62), (⟨"PhraseShelfModel", "opens", "(II)V"⟩, 62), (⟨"PhraseShelfModel", "alike", "(II)Z"⟩, 62), (⟨"PhraseShelfModel", "pending", "()I"⟩, 62), (⟨"PhraseShelfModel", "flushes", "()V"⟩, 62)]
theorem lw_r3 : ∀ q ∈ lw_privs_3, lw_okq q := List.forall_mem_cons.mpr ⟨lw_p32, List.forall_mem_cons.mpr ⟨lw_p33, List.forall_mem_cons.mpr ⟨lw_p34, List.forall_mem_cons.mpr ⟨lw_p35, List.forall_mem_cons.mpr ⟨lw_p36, List.forall_mem_cons.mpr ⟨lw_p37, List.forall_mem_cons.mpr ⟨lw_p38, List.forall_mem_cons.mpr ⟨lw_p39, List.forall_mem_cons.mpr ⟨lw_p40, List.forall_mem_cons.mpr ⟨lw_p41, List.forall_mem_cons.mpr ⟨lw_p42, List.forall_mem_cons.mpr ⟨lw_p43, List.forall_mem_cons.mpr ⟨lw_p44, List.forall_mem_cons.mpr ⟨lw_p45, List.forall_mem_cons.mpr ⟨lw_p46, List.forall_mem_cons.mpr ⟨lw_p47, fun _ h => absurd h List.not_mem_nil⟩⟩⟩⟩⟩⟩⟩⟩⟩⟩⟩⟩⟩⟩⟩⟩
theorem lw_p48 : lw_okq (⟨"PhraseShelfModel", "gathers", "(II)V"⟩, 62) := ⟨⟨by decide +kernel, by decide +kernel⟩, List.mem_of_getElem? (i := 1063) (by decide +kernel), List.mem_of_getElem? (i := 1315) (by decide +kernel), List.mem_of_getElem? (i := 1316) (by decide +kernel)⟩
theorem lw_p49 : lw_okq (⟨"PhraseShelfModel", "isLive", "(I)Z"⟩, 62) := ⟨⟨by decide +kernel, by decide +kernel⟩, List.mem_of_getElem? (i := 1063) (by decide +kernel), List.mem_of_getElem? (i := 1319) (by decide +kernel), List.mem_of_getElem? (i := 1320) (by decide +kernel)⟩
theorem lw_p50 : lw_okq (⟨"PhraseShelfModel", "has", "(I)Z"⟩, 62) := ⟨⟨by decide +kernel, by decide +kernel⟩, List.mem_of_getElem? (i := 1063) (by decide +kernel), List.mem_of_getElem? (i := 1327) (by decide +kernel), List.mem_of_getElem? (i := 1328) (by decide +kernel)⟩
theorem lw_p51 : lw_okq (⟨"PhraseShelfModel", "tokensOf", "(I)I"⟩, 62) := ⟨⟨by decide +kernel, by decide +kernel⟩, List.mem_of_getElem? (i := 1063) (by decide +kernel), List.mem_of_getElem? (i := 1335) (by decide +kernel), List.mem_of_getElem? (i := 1336) (by decide +kernel)⟩
theorem lw_p52 : lw_okq (⟨"PhraseShelfModel", "rows", "()I"⟩, 62) := ⟨⟨by decide +kernel, by decide +kernel⟩, List.mem_of_getElem? (i := 1063) (by decide +kernel), List.mem_of_getElem? (i := 1359) (by decide +kernel), List.mem_of_getElem? (i := 1360) (by decide +kernel)⟩
theorem lw_p53 : lw_okq (⟨"PhraseShelfModel", "reads", "()V"⟩, 62) := ⟨⟨by decide +kernel, by decide +kernel⟩, List.mem_of_getElem? (i := 1063) (by decide +kernel), List.mem_of_getElem? (i := 1375) (by decide +kernel), List.mem_of_getElem? (i := 1376) (by decide +kernel)⟩
theorem lw_p54 : lw_okq (⟨"PhraseShelfModel", "part", "()V"⟩, 62) := ⟨⟨by decide +kernel, by decide +kernel⟩, List.mem_of_getElem? (i := 1063) (by decide +kernel), List.mem_of_getElem? (i := 1379) (by decide +kernel), List.mem_of_getElem? (i := 1380) (by decide +kernel)⟩
theorem lw_p55 : lw_okq (⟨"PhraseShelfModel", "q", "(I)I"⟩, 62) := ⟨⟨by decide +kernel, by decide +kernel⟩, List.mem_of_getElem? (i := 1063) (by decide +kernel), List.mem_of_getElem? (i := 1383) (by decide +kernel), List.mem_of_getElem? (i := 1384) (by decide +kernel)⟩
theorem lw_p56 : lw_okq (⟨"PhraseShelfModel", "spells", "(IIII)Z"⟩, 62) := ⟨⟨by decide +kernel, by decide +kernel⟩, List.mem_of_getElem? (i := 1063) (by decide +kernel), List.mem_of_getElem? (i := 1387) (by decide +kernel), List.mem_of_getElem? (i := 1388) (by decide +kernel)⟩
theorem lw_p57 : lw_okq (⟨"PhraseShelfModel", "follows", "()V"⟩, 62) := ⟨⟨by decide +kernel, by decide +kernel⟩, List.mem_of_getElem? (i := 1063) (by decide +kernel), List.mem_of_getElem? (i := 1391) (by decide +kernel), List.mem_of_getElem? (i := 1392) (by decide +kernel)⟩
theorem lw_p58 : lw_okq (⟨"PhraseShelfModel", "reduces", "(I)V"⟩, 62) := ⟨⟨by decide +kernel, by decide +kernel⟩, List.mem_of_getElem? (i := 1063) (by decide +kernel), List.mem_of_getElem? (i := 1395) (by decide +kernel), List.mem_of_getElem? (i := 1396) (by decide +kernel)⟩
theorem lw_p59 : lw_okq (⟨"PhraseShelfModel", "wrongs", "(ZI)V"⟩, 62) := ⟨⟨by decide +kernel, by decide +kernel⟩, List.mem_of_getElem? (i := 1063) (by decide +kernel), List.mem_of_getElem? (i := 1399) (by decide +kernel), List.mem_of_getElem? (i := 1400) (by decide +kernel)⟩
theorem lw_p60 : lw_okq (⟨"PhraseShelfModel", "closesFilters", "()V"⟩, 62) := ⟨⟨by decide +kernel, by decide +kernel⟩, List.mem_of_getElem? (i := 1063) (by decide +kernel), List.mem_of_getElem? (i := 1403) (by decide +kernel), List.mem_of_getElem? (i := 1404) (by decide +kernel)⟩
theorem lw_p61 : lw_okq (⟨"PhraseShelfModel", "next", "()V"⟩, 62) := ⟨⟨by decide +kernel, by decide +kernel⟩, List.mem_of_getElem? (i := 1063) (by decide +kernel), List.mem_of_getElem? (i := 1407) (by decide +kernel), List.mem_of_getElem? (i := 1408) (by decide +kernel)⟩
theorem lw_p62 : lw_okq (⟨"PhraseShelfModel", "joins", "(I)V"⟩, 62) := ⟨⟨by decide +kernel, by decide +kernel⟩, List.mem_of_getElem? (i := 1063) (by decide +kernel), List.mem_of_getElem? (i := 1411) (by decide +kernel), List.mem_of_getElem? (i := 1412) (by decide +kernel)⟩
theorem lw_p63 : lw_okq (⟨"PhraseShelfModel", "pushes", "(I)V"⟩, 62) := ⟨⟨by decide +kernel, by decide +kernel⟩, List.mem_of_getElem? (i := 1063) (by decide +kernel), List.mem_of_getElem? (i := 1415) (by decide +kernel), List.mem_of_getElem? (i := 1416) (by decide +kernel)⟩
def lw_privs_4 : List (MethodName × Nat) := [(⟨"PhraseShelfModel", "gathers", "(II)V"⟩, 62), (⟨"PhraseShelfModel", "isLive", "(I)Z"⟩, 62), (⟨"PhraseShelfModel", "has", "(I)Z"⟩, 62), (⟨"PhraseShelfModel", "tokensOf", "(I)I"⟩, 62), (⟨"PhraseShelfModel", "rows", "()I"⟩, 62), (⟨"PhraseShelfModel", "reads", "()V"⟩, 62), (⟨"PhraseShelfModel", "part", "()V"⟩, 62), (⟨"PhraseShelfModel", "q", "(I)I"⟩, 62), (⟨"PhraseShelfModel", "spells", "(IIII)Z"⟩, 62), (⟨"PhraseShelfModel", "follows", "()V"⟩, 62), (⟨"PhraseShelfModel", "reduces", "(I)V"⟩, 62), (⟨"PhraseShelfModel", "wrongs", "(ZI)V"⟩, 62), (⟨"PhraseShelfModel", "closesFilters", "()V"⟩, 62), (⟨"PhraseShelfModel", "next", "()V"⟩, 62), (⟨"PhraseShelfModel", "joins", "(I)V"⟩, 62), (⟨"PhraseShelfModel", "pushes", "(I)V"⟩, 62)]
theorem lw_r4 : ∀ q ∈ lw_privs_4, lw_okq q := List.forall_mem_cons.mpr ⟨lw_p48, List.forall_mem_cons.mpr ⟨lw_p49, List.forall_mem_cons.mpr ⟨lw_p50, List.forall_mem_cons.mpr ⟨lw_p51, List.forall_mem_cons.mpr ⟨lw_p52, List.forall_mem_cons.mpr ⟨lw_p53, List.forall_mem_cons.mpr ⟨lw_p54, List.forall_mem_cons.mpr ⟨lw_p55, List.forall_mem_cons.mpr ⟨lw_p56, List.forall_mem_cons.mpr ⟨lw_p57, List.forall_mem_cons.mpr ⟨lw_p58, List.forall_mem_cons.mpr ⟨lw_p59, List.forall_mem_cons.mpr ⟨lw_p60, List.forall_mem_cons.mpr ⟨lw_p61, List.forall_mem_cons.mpr ⟨lw_p62, List.forall_mem_cons.mpr ⟨lw_p63, fun _ h => absurd h List.not_mem_nil⟩⟩⟩⟩⟩⟩⟩⟩⟩⟩⟩⟩⟩⟩⟩⟩
theorem lw_p64 : lw_okq (⟨"PhraseShelfModel", "atom", "()V"⟩, 62) := ⟨⟨by decide +kernel, by decide +kernel⟩, List.mem_of_getElem? (i := 1063) (by decide +kernel), List.mem_of_getElem? (i := 1419) (by decide +kernel), List.mem_of_getElem? (i := 1420) (by decide +kernel)⟩
theorem lw_p65 : lw_okq (⟨"PhraseShelfModel", "depth", "()I"⟩, 62) := ⟨⟨by decide +kernel, by decide +kernel⟩, List.mem_of_getElem? (i := 1063) (by decide +kernel), List.mem_of_getElem? (i := 1423) (by decide +kernel), List.mem_of_getElem? (i := 1424) (by decide +kernel)⟩
theorem lw_p66 : lw_okq (⟨"PhraseShelfModel", "isFilter", "()Z"⟩, 62) := ⟨⟨by decide +kernel, by decide +kernel⟩, List.mem_of_getElem? (i := 1063) (by decide +kernel), List.mem_of_getElem? (i := 1427) (by decide +kernel), List.mem_of_getElem? (i := 1428) (by decide +kernel)⟩
theorem lw_p67 : lw_okq (⟨"PhraseShelfModel", "filter", "()V"⟩, 62) := ⟨⟨by decide +kernel, by decide +kernel⟩, List.mem_of_getElem? (i := 1063) (by decide +kernel), List.mem_of_getElem? (i := 1431) (by decide +kernel), List.mem_of_getElem? (i := 1432) (by decide +kernel)⟩
theorem lw_p68 : lw_okq (⟨"PhraseShelfModel", "isString", "()Z"⟩, 62) := ⟨⟨by decide +kernel, by decide +kernel⟩, List.mem_of_getElem? (i := 1063) (by decide +kernel), List.mem_of_getElem? (i := 1435) (by decide +kernel), List.mem_of_getElem? (i := 1436) (by decide +kernel)⟩
theorem lw_p69 : lw_okq (⟨"PhraseShelfModel", "group", "()V"⟩, 62) := ⟨⟨by decide +kernel, by decide +kernel⟩, List.mem_of_getElem? (i := 1063) (by decide +kernel), List.mem_of_getElem? (i := 1439) (by decide +kernel), List.mem_of_getElem? (i := 1440) (by decide +kernel)⟩
theorem lw_p70 : lw_okq (⟨"PhraseShelfModel", "near", "()V"⟩, 62) := ⟨⟨by decide +kernel, by decide +kernel⟩, List.mem_of_getElem? (i := 1063) (by decide +kernel), List.mem_of_getElem? (i := 1443) (by decide +kernel), List.mem_of_getElem? (i := 1444) (by decide +kernel)⟩
theorem lw_p71 : lw_okq (⟨"PhraseShelfModel", "phrase", "()V"⟩, 62) := ⟨⟨by decide +kernel, by decide +kernel⟩, List.mem_of_getElem? (i := 1063) (by decide +kernel), List.mem_of_getElem? (i := 1447) (by decide +kernel), List.mem_of_getElem? (i := 1448) (by decide +kernel)⟩
theorem lw_p72 : lw_okq (⟨"PhraseShelfModel", "takeTokens", "()V"⟩, 62) := ⟨⟨by decide +kernel, by decide +kernel⟩, List.mem_of_getElem? (i := 1063) (by decide +kernel), List.mem_of_getElem? (i := 1451) (by decide +kernel), List.mem_of_getElem? (i := 1452) (by decide +kernel)⟩
theorem lw_p73 : lw_okq (⟨"PhraseShelfModel", "finds", "(I)Z"⟩, 62) := ⟨⟨by decide +kernel, by decide +kernel⟩, List.mem_of_getElem? (i := 1063) (by decide +kernel), List.mem_of_getElem? (i := 1455) (by decide +kernel), List.mem_of_getElem? (i := 1456) (by decide +kernel)⟩
theorem lw_p74 : lw_okq (⟨"PhraseShelfModel", "holds", "(II)Z"⟩, 62) := ⟨⟨by decide +kernel, by decide +kernel⟩, List.mem_of_getElem? (i := 1063) (by decide +kernel), List.mem_of_getElem? (i := 1459) (by decide +kernel), List.mem_of_getElem? (i := 1460) (by decide +kernel)⟩
theorem lw_p75 : lw_okq (⟨"PhraseShelfModel", "holdsHere", "(I)Z"⟩, 62) := ⟨⟨by decide +kernel, by decide +kernel⟩, List.mem_of_getElem? (i := 1063) (by decide +kernel), List.mem_of_getElem? (i := 1463) (by decide +kernel), List.mem_of_getElem? (i := 1464) (by decide +kernel)⟩
theorem lw_p76 : lw_okq (⟨"PhraseShelfModel", "stands", "(II)Z"⟩, 62) := ⟨⟨by decide +kernel, by decide +kernel⟩, List.mem_of_getElem? (i := 1063) (by decide +kernel), List.mem_of_getElem? (i := 1467) (by decide +kernel), List.mem_of_getElem? (i := 1468) (by decide +kernel)⟩
theorem lw_p77 : lw_okq (⟨"PhraseShelfModel", "length", "(I)I"⟩, 62) := ⟨⟨by decide +kernel, by decide +kernel⟩, List.mem_of_getElem? (i := 1063) (by decide +kernel), List.mem_of_getElem? (i := 1471) (by decide +kernel), List.mem_of_getElem? (i := 1472) (by decide +kernel)⟩
theorem lw_p78 : lw_okq (⟨"PhraseShelfModel", "matches", "(IIZ)Z"⟩, 62) := ⟨⟨by decide +kernel, by decide +kernel⟩, List.mem_of_getElem? (i := 1063) (by decide +kernel), List.mem_of_getElem? (i := 1475) (by decide +kernel), List.mem_of_getElem? (i := 1476) (by decide +kernel)⟩
theorem lw_p79 : lw_okq (⟨"PhraseShelfModel", "standsBetween", "(III)Z"⟩, 62) := ⟨⟨by decide +kernel, by decide +kernel⟩, List.mem_of_getElem? (i := 1063) (by decide +kernel), List.mem_of_getElem? (i := 1479) (by decide +kernel), List.mem_of_getElem? (i := 1480) (by decide +kernel)⟩
def lw_privs_5 : List (MethodName × Nat) := [(⟨"PhraseShelfModel", "atom", "()V"⟩, 62), (⟨"PhraseShelfModel", "depth", "()I"⟩, 62), (⟨"PhraseShelfModel", "isFilter", "()Z"⟩, 62), (⟨"PhraseShelfModel", "filter", "()V"⟩, 62), (⟨"PhraseShelfModel", "isString", "()Z"⟩, 62), (⟨"PhraseShelfModel", "group", "()V"⟩, 62), (⟨"PhraseShelfModel", "near", "()V"⟩, 62), (⟨"PhraseShelfModel", "phrase", "()V"⟩, 62), (⟨"PhraseShelfModel", "takeTokens", "()V"⟩, 62), (⟨"PhraseShelfModel", "finds", "(I)Z"⟩, 62), (⟨"PhraseShelfModel", "holds", "(II)Z"⟩, 62), (⟨"PhraseShelfModel", "holdsHere", "(I)Z"⟩, 62), (⟨"PhraseShelfModel", "stands", "(II)Z"⟩, 62), (⟨"PhraseShelfModel", "length", "(I)I"⟩, 62), (⟨"PhraseShelfModel", "matches", "(IIZ)Z"⟩, 62), (⟨"PhraseShelfModel", "standsBetween", "(III)Z"⟩, 62)]
theorem lw_r5 : ∀ q ∈ lw_privs_5, lw_okq q := List.forall_mem_cons.mpr ⟨lw_p64, List.forall_mem_cons.mpr ⟨lw_p65, List.forall_mem_cons.mpr ⟨lw_p66, List.forall_mem_cons.mpr ⟨lw_p67, List.forall_mem_cons.mpr ⟨lw_p68, List.forall_mem_cons.mpr ⟨lw_p69, List.forall_mem_cons.mpr ⟨lw_p70, List.forall_mem_cons.mpr ⟨lw_p71, List.forall_mem_cons.mpr ⟨lw_p72, List.forall_mem_cons.mpr ⟨lw_p73, List.forall_mem_cons.mpr ⟨lw_p74, List.forall_mem_cons.mpr ⟨lw_p75, List.forall_mem_cons.mpr ⟨lw_p76, List.forall_mem_cons.mpr ⟨lw_p77, List.forall_mem_cons.mpr ⟨lw_p78, List.forall_mem_cons.mpr ⟨lw_p79, fun _ h => absurd h List.not_mem_nil⟩⟩⟩⟩⟩⟩⟩⟩⟩⟩⟩⟩⟩⟩⟩⟩
theorem lw_p80 : lw_okq (⟨"PhraseShelfModel", "scoreOf", "(I)D"⟩, 62) := ⟨⟨by decide +kernel, by decide +kernel⟩, List.mem_of_getElem? (i := 1063) (by decide +kernel), List.mem_of_getElem? (i := 1483) (by decide +kernel), List.mem_of_getElem? (i := 1484) (by decide +kernel)⟩
theorem lw_p81 : lw_okq (⟨"PhraseShelfModel", "countIn", "(III)I"⟩, 62) := ⟨⟨by decide +kernel, by decide +kernel⟩, List.mem_of_getElem? (i := 1063) (by decide +kernel), List.mem_of_getElem? (i := 1487) (by decide +kernel), List.mem_of_getElem? (i := 1488) (by decide +kernel)⟩
theorem lw_p82 : lw_okq (⟨"PhraseShelfModel", "clean", "(I)I"⟩, 62) := ⟨⟨by decide +kernel, by decide +kernel⟩, List.mem_of_getElem? (i := 1063) (by decide +kernel), List.mem_of_getElem? (i := 1507) (by decide +kernel), List.mem_of_getElem? (i := 1508) (by decide +kernel)⟩
def lw_privs_6 : List (MethodName × Nat) := [(⟨"PhraseShelfModel", "scoreOf", "(I)D"⟩, 62), (⟨"PhraseShelfModel", "countIn", "(III)I"⟩, 62), (⟨"PhraseShelfModel", "clean", "(I)I"⟩, 62)]
theorem lw_r6 : ∀ q ∈ lw_privs_6, lw_okq q := List.forall_mem_cons.mpr ⟨lw_p80, List.forall_mem_cons.mpr ⟨lw_p81, List.forall_mem_cons.mpr ⟨lw_p82, fun _ h => absurd h List.not_mem_nil⟩⟩⟩
def lw_privs : List (MethodName × Nat) := lw_privs_1 ++ (lw_privs_2 ++ (lw_privs_3 ++ (lw_privs_4 ++ (lw_privs_5 ++ (lw_privs_6)))))
def lw_tbl : List Cond := k2_sels lw_privs ++ tables_1
theorem lw_privs_ok : ∀ q ∈ lw_privs, lw_okq q := by
  show ∀ q ∈ lw_privs_1 ++ (lw_privs_2 ++ (lw_privs_3 ++ (lw_privs_4 ++ (lw_privs_5 ++ (lw_privs_6))))), lw_okq q
  exact List.forall_mem_append.mpr ⟨lw_r1, List.forall_mem_append.mpr ⟨lw_r2, List.forall_mem_append.mpr ⟨lw_r3, List.forall_mem_append.mpr ⟨lw_r4, List.forall_mem_append.mpr ⟨lw_r5, lw_r6⟩⟩⟩⟩⟩
end
section
/-! classes, fields, methods: by program (wip/tools) -/
abbrev xw_G : Type := Launch × va_G × Nat × (Nat → Nat) × (Nat → Nat)
def xw_tbl : List Cond := lw_tbl.filter goodWord
theorem xw_in {w : Cond} (i : Nat) (h : lw_tbl[i]? = some w) (g : goodWord w = true) : w ∈ xw_tbl := List.mem_filter.mpr ⟨List.mem_of_getElem? h, g⟩
theorem xw_good : ∀ w ∈ xw_tbl, (w.onTables && w.keeps) = true ∨ ∃ ty, w = .arrayClass ty := fun w h => good_of_word (List.mem_filter.mp h).2
theorem xw_tbl_lw : ∀ w ∈ xw_tbl, w ∈ lw_tbl := fun w h => (List.mem_filter.mp h).1
def T_Shelf : u_T := fun k => match k with
  | 0 => ("PhraseShelf", "draft", "[C", true)
  | 1 => ("PhraseShelf", "texts", "[LPhraseShelf$Tokens;", true)
  | 2 => ("PhraseShelf", "weights", "[I", true)
  | 3 => ("PhraseShelf", "store", "LPhraseShelf$Store;", true)
  | 4 => ("PhraseShelf", "saved", "LPhraseShelf$Store;", true)
  | 5 => ("PhraseShelf", "question", "LPhraseShelf$Question;", true)
  | 6 => ("PhraseShelf", "standing", "LPhraseShelf$Standing;", true)
  | 7 => ("PhraseShelf", "answers", "LPhraseShelf$Answers;", true)
  | 8 => ("PhraseShelf", "draftLength", "I", false)
  | 9 => ("PhraseShelf", "most", "I", false)
  | 10 => ("PhraseShelf", "limit", "I", false)
  | 11 => ("PhraseShelf", "open", "Z", false)
  | 12 => ("PhraseShelf", "wrongPlace", "I", false)
  | _ => ("PhraseShelf", "goodPhrases", "I", false)
def ty_Shelf : Nat → FieldType := fun k => match k with
  | 0 => (.array .char)
  | 1 => (.array (.object "PhraseShelf$Tokens"))
  | 2 => (.array .int)
  | 3 => (.object "PhraseShelf$Store")
  | 4 => (.object "PhraseShelf$Store")
  | 5 => (.object "PhraseShelf$Question")
  | 6 => (.object "PhraseShelf$Standing")
  | 7 => (.object "PhraseShelf$Answers")
  | 8 => .int
  | 9 => .int
  | 10 => .int
  | 11 => .boolean
  | 12 => .int
  | _ => .int
def T_Answers : u_T := fun k => match k with
  | 0 => ("PhraseShelf$Answers", "rows", "[I", true)
  | 1 => ("PhraseShelf$Answers", "scores", "[D", true)
  | 2 => ("PhraseShelf$Answers", "size", "I", false)
  | 3 => ("PhraseShelf$Answers", "lengths", "[I", true)
  | _ => ("PhraseShelf$Answers", "order", "[I", true)
def ty_Answers : Nat → FieldType := fun k => match k with
  | 0 => (.array .int)
  | 1 => (.array .double)
  | 2 => .int
  | 3 => (.array .int)
  | _ => (.array .int)
def T_Node : u_T := fun k => match k with
  | 0 => ("PhraseShelf$Node", "kind", "I", false)
  | 1 => ("PhraseShelf$Node", "left", "LPhraseShelf$Node;", false)
  | 2 => ("PhraseShelf$Node", "right", "LPhraseShelf$Node;", false)
  | 3 => ("PhraseShelf$Node", "firstPhrase", "I", false)
  | 4 => ("PhraseShelf$Node", "phraseEnd", "I", false)
  | 5 => ("PhraseShelf$Node", "reach", "I", false)
  | 6 => ("PhraseShelf$Node", "columns", "I", false)
  | 7 => ("PhraseShelf$Node", "places", "I", false)
  | _ => ("PhraseShelf$Node", "rows", "I", false)
def ty_Node : Nat → FieldType := fun k => match k with
  | 0 => .int
  | 1 => (.object "PhraseShelf$Node")
  | 2 => (.object "PhraseShelf$Node")
  | 3 => .int
  | 4 => .int
  | 5 => .int
  | 6 => .int
  | 7 => .int
  | _ => .int
def T_Parts : u_T := fun k => match k with
  | 0 => ("PhraseShelf$Parts", "kinds", "[I", true)
  | 1 => ("PhraseShelf$Parts", "starts", "[I", true)
  | 2 => ("PhraseShelf$Parts", "ends", "[I", true)
  | 3 => ("PhraseShelf$Parts", "letters", "[C", false)
  | _ => ("PhraseShelf$Parts", "length", "I", false)
def ty_Parts : Nat → FieldType := fun k => match k with
  | 0 => (.array .int)
  | 1 => (.array .int)
  | 2 => (.array .int)
  | 3 => (.array .char)
  | _ => .int
def T_Phrase : u_T := fun k => match k with
  | 0 => ("PhraseShelf$Phrase", "first", "I", false)
  | 1 => ("PhraseShelf$Phrase", "size", "I", false)
  | _ => ("PhraseShelf$Phrase", "beginning", "Z", false)
def ty_Phrase : Nat → FieldType := fun k => match k with
  | 0 => .int
  | 1 => .int
  | _ => .boolean
def T_Question : u_T := fun k => match k with
  | 0 => ("PhraseShelf$Question", "tokens", "LPhraseShelf$Tokens;", true)
  | 1 => ("PhraseShelf$Question", "phrases", "[LPhraseShelf$Phrase;", true)
  | 2 => ("PhraseShelf$Question", "nodes", "[LPhraseShelf$Node;", true)
  | 3 => ("PhraseShelf$Question", "phraseCount", "I", false)
  | 4 => ("PhraseShelf$Question", "nodeCount", "I", false)
  | 5 => ("PhraseShelf$Question", "wrongPlace", "I", false)
  | 6 => ("PhraseShelf$Question", "parts", "LPhraseShelf$Parts;", true)
  | 7 => ("PhraseShelf$Question", "letters", "[C", false)
  | _ => ("PhraseShelf$Question", "at", "I", false)
def ty_Question : Nat → FieldType := fun k => match k with
  | 0 => (.object "PhraseShelf$Tokens")
  | 1 => (.array (.object "PhraseShelf$Phrase"))
  | 2 => (.array (.object "PhraseShelf$Node"))
  | 3 => .int
  | 4 => .int
  | 5 => .int
  | 6 => (.object "PhraseShelf$Parts")
  | 7 => (.array .char)
  | _ => .int
def T_Segment : u_T := fun k => match k with
  | 0 => ("PhraseShelf$Segment", "level", "I", true)
  | 1 => ("PhraseShelf$Segment", "versions", "[LPhraseShelf$Version;", true)
  | _ => ("PhraseShelf$Segment", "entries", "I", true)
def ty_Segment : Nat → FieldType := fun k => match k with
  | 0 => .int
  | 1 => (.array (.object "PhraseShelf$Version"))
  | _ => .int
def T_Standing : u_T := fun k => match k with
  | 0 => ("PhraseShelf$Standing", "places", "[I", true)
  | _ => ("PhraseShelf$Standing", "question", "LPhraseShelf$Question;", false)
def ty_Standing : Nat → FieldType := fun k => match k with
  | 0 => (.array .int)
  | _ => (.object "PhraseShelf$Question")
def T_Store : u_T := fun k => match k with
  | 0 => ("PhraseShelf$Store", "rows", "[LPhraseShelf$Version;", true)
  | 1 => ("PhraseShelf$Store", "pending", "[LPhraseShelf$Version;", true)
  | 2 => ("PhraseShelf$Store", "segments", "[LPhraseShelf$Segment;", true)
  | 3 => ("PhraseShelf$Store", "live", "[LPhraseShelf$Version;", true)
  | 4 => ("PhraseShelf$Store", "pendingCount", "I", false)
  | 5 => ("PhraseShelf$Store", "pendingEntries", "I", false)
  | 6 => ("PhraseShelf$Store", "segmentCount", "I", false)
  | 7 => ("PhraseShelf$Store", "versionsMade", "I", false)
  | 8 => ("PhraseShelf$Store", "segmentsMade", "I", false)
  | _ => ("PhraseShelf$Store", "liveCount", "I", false)
def ty_Store : Nat → FieldType := fun k => match k with
  | 0 => (.array (.object "PhraseShelf$Version"))
  | 1 => (.array (.object "PhraseShelf$Version"))
  | 2 => (.array (.object "PhraseShelf$Segment"))
  | 3 => (.array (.object "PhraseShelf$Version"))
  | 4 => .int
  | 5 => .int
  | 6 => .int
  | 7 => .int
  | 8 => .int
  | _ => .int
def T_Tokens : u_T := fun k => match k with
  | 0 => ("PhraseShelf$Tokens", "letters", "[C", true)
  | 1 => ("PhraseShelf$Tokens", "starts", "[I", true)
  | _ => ("PhraseShelf$Tokens", "count", "I", false)
def ty_Tokens : Nat → FieldType := fun k => match k with
  | 0 => (.array .char)
  | 1 => (.array .int)
  | _ => .int
def T_Version : u_T := fun k => match k with
  | 0 => ("PhraseShelf$Version", "number", "I", true)
  | 1 => ("PhraseShelf$Version", "row", "I", true)
  | 2 => ("PhraseShelf$Version", "first", "LPhraseShelf$Tokens;", true)
  | 3 => ("PhraseShelf$Version", "second", "LPhraseShelf$Tokens;", true)
  | _ => ("PhraseShelf$Version", "entries", "I", true)
def ty_Version : Nat → FieldType := fun k => match k with
  | 0 => .int
  | 1 => .int
  | 2 => (.object "PhraseShelf$Tokens")
  | 3 => (.object "PhraseShelf$Tokens")
  | _ => .int
def T_Model : u_T := fun k => match k with
  | 0 => ("PhraseShelfModel", "err", "I", false)
  | 1 => ("PhraseShelfModel", "most", "I", false)
  | 2 => ("PhraseShelfModel", "limit", "I", false)
  | 3 => ("PhraseShelfModel", "draft", "[I", true)
  | 4 => ("PhraseShelfModel", "asked", "[I", true)
  | 5 => ("PhraseShelfModel", "prepared", "[I", true)
  | 6 => ("PhraseShelfModel", "preparedSize", "[I", true)
  | 7 => ("PhraseShelfModel", "texts", "[I", true)
  | 8 => ("PhraseShelfModel", "sizes", "[I", true)
  | 9 => ("PhraseShelfModel", "weights", "[I", true)
  | 10 => ("PhraseShelfModel", "drafted", "I", false)
  | 11 => ("PhraseShelfModel", "askedSize", "I", false)
  | 12 => ("PhraseShelfModel", "entries", "[I", true)
  | 13 => ("PhraseShelfModel", "lies", "[I", true)
  | 14 => ("PhraseShelfModel", "live", "[I", true)
  | 15 => ("PhraseShelfModel", "versions", "I", false)
  | 16 => ("PhraseShelfModel", "made", "I", false)
  | 17 => ("PhraseShelfModel", "row", "[I", true)
  | 18 => ("PhraseShelfModel", "level", "[I", true)
  | 19 => ("PhraseShelfModel", "segments", "I", false)
  | 20 => ("PhraseShelfModel", "open", "Z", false)
  | 21 => ("PhraseShelfModel", "oldTexts", "[I", true)
  | 22 => ("PhraseShelfModel", "oldSizes", "[I", true)
  | 23 => ("PhraseShelfModel", "oldLies", "[I", true)
  | 24 => ("PhraseShelfModel", "oldLive", "[I", true)
  | 25 => ("PhraseShelfModel", "oldRow", "[I", true)
  | 26 => ("PhraseShelfModel", "oldVersions", "I", false)
  | 27 => ("PhraseShelfModel", "oldSegments", "I", false)
  | 28 => ("PhraseShelfModel", "at", "I", false)
  | 29 => ("PhraseShelfModel", "kind", "I", false)
  | 30 => ("PhraseShelfModel", "from", "I", false)
  | 31 => ("PhraseShelfModel", "to", "I", false)
  | 32 => ("PhraseShelfModel", "wrongAt", "I", false)
  | 33 => ("PhraseShelfModel", "bad", "I", false)
  | 34 => ("PhraseShelfModel", "phrases", "I", false)
  | 35 => ("PhraseShelfModel", "tokens", "I", false)
  | 36 => ("PhraseShelfModel", "groups", "I", false)
  | 37 => ("PhraseShelfModel", "outs", "I", false)
  | 38 => ("PhraseShelfModel", "tops", "I", false)
  | 39 => ("PhraseShelfModel", "mask", "I", false)
  | 40 => ("PhraseShelfModel", "good", "I", false)
  | 41 => ("PhraseShelfModel", "firstToken", "[I", true)
  | 42 => ("PhraseShelfModel", "starred", "[I", true)
  | 43 => ("PhraseShelfModel", "tokenAt", "[I", true)
  | 44 => ("PhraseShelfModel", "tokenSize", "[I", true)
  | 45 => ("PhraseShelfModel", "groupKind", "[I", true)
  | 46 => ("PhraseShelfModel", "groupPhrase", "[I", true)
  | 47 => ("PhraseShelfModel", "groupSize", "[I", true)
  | 48 => ("PhraseShelfModel", "groupMask", "[I", true)
  | 49 => ("PhraseShelfModel", "groupFar", "[I", true)
  | 50 => ("PhraseShelfModel", "out", "[I", true)
  | 51 => ("PhraseShelfModel", "top", "[I", true)
  | 52 => ("PhraseShelfModel", "masks", "[I", true)
  | 53 => ("PhraseShelfModel", "begins", "[I", true)
  | 54 => ("PhraseShelfModel", "lasts", "[I", true)
  | 55 => ("PhraseShelfModel", "column", "I", false)
  | 56 => ("PhraseShelfModel", "found", "I", false)
  | 57 => ("PhraseShelfModel", "truth", "[Z", true)
  | 58 => ("PhraseShelfModel", "answers", "[I", true)
  | 59 => ("PhraseShelfModel", "order", "[I", true)
  | 60 => ("PhraseShelfModel", "scores", "[D", true)
  | _ => ("PhraseShelfModel", "behind", "Z", false)
def ty_Model : Nat → FieldType := fun k => match k with
  | 0 => .int
  | 1 => .int
  | 2 => .int
  | 3 => (.array .int)
  | 4 => (.array .int)
  | 5 => (.array .int)
  | 6 => (.array .int)
  | 7 => (.array .int)
  | 8 => (.array .int)
  | 9 => (.array .int)
  | 10 => .int
  | 11 => .int
  | 12 => (.array .int)
  | 13 => (.array .int)
  | 14 => (.array .int)
  | 15 => .int
  | 16 => .int
  | 17 => (.array .int)
  | 18 => (.array .int)
  | 19 => .int
  | 20 => .boolean
  | 21 => (.array .int)
  | 22 => (.array .int)
  | 23 => (.array .int)
  | 24 => (.array .int)
  | 25 => (.array .int)
  | 26 => .int
  | 27 => .int
  | 28 => .int
  | 29 => .int
  | 30 => .int
  | 31 => .int
  | 32 => .int
  | 33 => .int
  | 34 => .int
  | 35 => .int
  | 36 => .int
  | 37 => .int
  | 38 => .int
  | 39 => .int
  | 40 => .int
  | 41 => (.array .int)
  | 42 => (.array .int)
  | 43 => (.array .int)
  | 44 => (.array .int)
  | 45 => (.array .int)
  | 46 => (.array .int)
  | 47 => (.array .int)
  | 48 => (.array .int)
  | 49 => (.array .int)
  | 50 => (.array .int)
  | 51 => (.array .int)
  | 52 => (.array .int)
  | 53 => (.array .int)
  | 54 => (.array .int)
  | 55 => .int
  | 56 => .int
  | 57 => (.array .boolean)
  | 58 => (.array .int)
  | 59 => (.array .int)
  | 60 => (.array .double)
  | _ => .boolean
abbrev vwCl : List vw_C := [("PhraseShelf", T_Shelf, 14), ("PhraseShelf$Answers", T_Answers, 5), ("PhraseShelf$Node", T_Node, 9), ("PhraseShelf$Parts", T_Parts, 5), ("PhraseShelf$Phrase", T_Phrase, 3), ("PhraseShelf$Question", T_Question, 9), ("PhraseShelf$Segment", T_Segment, 3), ("PhraseShelf$Standing", T_Standing, 2), ("PhraseShelf$Store", T_Store, 10), ("PhraseShelf$Tokens", T_Tokens, 3), ("PhraseShelf$Version", T_Version, 5), ("PhraseShelfModel", T_Model, 62)]
def xw_fty (ci : Nat) : Nat → FieldType := match ci with
  | 0 => ty_Shelf
  | 1 => ty_Answers
  | 2 => ty_Node
  | 3 => ty_Parts
  | 4 => ty_Phrase
  | 5 => ty_Question
  | 6 => ty_Segment
  | 7 => ty_Standing
  | 8 => ty_Store
  | 9 => ty_Tokens
  | 10 => ty_Version
  | _ => ty_Model
theorem nm_Shelf : ∀ a, a < 14 → ∀ b, b < 14 → a ≠ b → (T_Shelf a).2.1 ≠ (T_Shelf b).2.1 := by decide +kernel
theorem ty_Shelf_ok : ∀ k, k < 14 → parseFieldDescriptor (T_Shelf k).2.2.1 = some (ty_Shelf k) := by decide +kernel
theorem ly_Shelf : ∀ w ∈ u_ws "PhraseShelf" T_Shelf 14, w ∈ xw_tbl := by
  intro w hw
  have h : ∀ k, k < 14 → lw_tbl[([371, 373, 375, 377, 379, 381, 383, 385, 387, 389, 391, 393, 395, 397] : List Nat).getD k 0]? = some (u_lay "PhraseShelf" T_Shelf k) ∧ goodWord (u_lay "PhraseShelf" T_Shelf k) = true := by decide +kernel
  obtain ⟨k, hk, rfl⟩ := List.mem_map.mp hw
  obtain ⟨h1, h2⟩ := h k (List.mem_range.mp hk)
  exact xw_in _ h1 h2
theorem nm_Answers : ∀ a, a < 5 → ∀ b, b < 5 → a ≠ b → (T_Answers a).2.1 ≠ (T_Answers b).2.1 := by decide +kernel
theorem ty_Answers_ok : ∀ k, k < 5 → parseFieldDescriptor (T_Answers k).2.2.1 = some (ty_Answers k) := by decide +kernel
theorem ly_Answers : ∀ w ∈ u_ws "PhraseShelf$Answers" T_Answers 5, w ∈ xw_tbl := by
  intro w hw
  have h : ∀ k, k < 5 → lw_tbl[([344, 346, 348, 350, 352] : List Nat).getD k 0]? = some (u_lay "PhraseShelf$Answers" T_Answers k) ∧ goodWord (u_lay "PhraseShelf$Answers" T_Answers k) = true := by decide +kernel
  obtain ⟨k, hk, rfl⟩ := List.mem_map.mp hw
  obtain ⟨h1, h2⟩ := h k (List.mem_range.mp hk)
  exact xw_in _ h1 h2
theorem nm_Node : ∀ a, a < 9 → ∀ b, b < 9 → a ≠ b → (T_Node a).2.1 ≠ (T_Node b).2.1 := by decide +kernel
theorem ty_Node_ok : ∀ k, k < 9 → parseFieldDescriptor (T_Node k).2.2.1 = some (ty_Node k) := by decide +kernel
theorem ly_Node : ∀ w ∈ u_ws "PhraseShelf$Node" T_Node 9, w ∈ xw_tbl := by
  intro w hw
  have h : ∀ k, k < 9 → lw_tbl[([263, 265, 267, 269, 271, 273, 275, 277, 279] : List Nat).getD k 0]? = some (u_lay "PhraseShelf$Node" T_Node k) ∧ goodWord (u_lay "PhraseShelf$Node" T_Node k) = true := by decide +kernel
  obtain ⟨k, hk, rfl⟩ := List.mem_map.mp hw
  obtain ⟨h1, h2⟩ := h k (List.mem_range.mp hk)
  exact xw_in _ h1 h2
theorem nm_Parts : ∀ a, a < 5 → ∀ b, b < 5 → a ≠ b → (T_Parts a).2.1 ≠ (T_Parts b).2.1 := by decide +kernel
theorem ty_Parts_ok : ∀ k, k < 5 → parseFieldDescriptor (T_Parts k).2.2.1 = some (ty_Parts k) := by decide +kernel
theorem ly_Parts : ∀ w ∈ u_ws "PhraseShelf$Parts" T_Parts 5, w ∈ xw_tbl := by
  intro w hw
  have h : ∀ k, k < 5 → lw_tbl[([212, 214, 216, 218, 220] : List Nat).getD k 0]? = some (u_lay "PhraseShelf$Parts" T_Parts k) ∧ goodWord (u_lay "PhraseShelf$Parts" T_Parts k) = true := by decide +kernel
  obtain ⟨k, hk, rfl⟩ := List.mem_map.mp hw
  obtain ⟨h1, h2⟩ := h k (List.mem_range.mp hk)
  exact xw_in _ h1 h2
theorem nm_Phrase : ∀ a, a < 3 → ∀ b, b < 3 → a ≠ b → (T_Phrase a).2.1 ≠ (T_Phrase b).2.1 := by decide +kernel
theorem ty_Phrase_ok : ∀ k, k < 3 → parseFieldDescriptor (T_Phrase k).2.2.1 = some (ty_Phrase k) := by decide +kernel
theorem ly_Phrase : ∀ w ∈ u_ws "PhraseShelf$Phrase" T_Phrase 3, w ∈ xw_tbl := by
  intro w hw
  have h : ∀ k, k < 3 → lw_tbl[([234, 236, 238] : List Nat).getD k 0]? = some (u_lay "PhraseShelf$Phrase" T_Phrase k) ∧ goodWord (u_lay "PhraseShelf$Phrase" T_Phrase k) = true := by decide +kernel
  obtain ⟨k, hk, rfl⟩ := List.mem_map.mp hw
  obtain ⟨h1, h2⟩ := h k (List.mem_range.mp hk)
  exact xw_in _ h1 h2
theorem nm_Question : ∀ a, a < 9 → ∀ b, b < 9 → a ≠ b → (T_Question a).2.1 ≠ (T_Question b).2.1 := by decide +kernel
theorem ty_Question_ok : ∀ k, k < 9 → parseFieldDescriptor (T_Question k).2.2.1 = some (ty_Question k) := by decide +kernel
theorem ly_Question : ∀ w ∈ u_ws "PhraseShelf$Question" T_Question 9, w ∈ xw_tbl := by
  intro w hw
  have h : ∀ k, k < 9 → lw_tbl[([298, 300, 302, 304, 306, 308, 310, 312, 314] : List Nat).getD k 0]? = some (u_lay "PhraseShelf$Question" T_Question k) ∧ goodWord (u_lay "PhraseShelf$Question" T_Question k) = true := by decide +kernel
  obtain ⟨k, hk, rfl⟩ := List.mem_map.mp hw
  obtain ⟨h1, h2⟩ := h k (List.mem_range.mp hk)
  exact xw_in _ h1 h2
theorem nm_Segment : ∀ a, a < 3 → ∀ b, b < 3 → a ≠ b → (T_Segment a).2.1 ≠ (T_Segment b).2.1 := by decide +kernel
theorem ty_Segment_ok : ∀ k, k < 3 → parseFieldDescriptor (T_Segment k).2.2.1 = some (ty_Segment k) := by decide +kernel
theorem ly_Segment : ∀ w ∈ u_ws "PhraseShelf$Segment" T_Segment 3, w ∈ xw_tbl := by
  intro w hw
  have h : ∀ k, k < 3 → lw_tbl[([434, 436, 438] : List Nat).getD k 0]? = some (u_lay "PhraseShelf$Segment" T_Segment k) ∧ goodWord (u_lay "PhraseShelf$Segment" T_Segment k) = true := by decide +kernel
  obtain ⟨k, hk, rfl⟩ := List.mem_map.mp hw
  obtain ⟨h1, h2⟩ := h k (List.mem_range.mp hk)
  exact xw_in _ h1 h2
theorem nm_Standing : ∀ a, a < 2 → ∀ b, b < 2 → a ≠ b → (T_Standing a).2.1 ≠ (T_Standing b).2.1 := by decide +kernel
theorem ty_Standing_ok : ∀ k, k < 2 → parseFieldDescriptor (T_Standing k).2.2.1 = some (ty_Standing k) := by decide +kernel
theorem ly_Standing : ∀ w ∈ u_ws "PhraseShelf$Standing" T_Standing 2, w ∈ xw_tbl := by
  intro w hw
  have h : ∀ k, k < 2 → lw_tbl[([325, 327] : List Nat).getD k 0]? = some (u_lay "PhraseShelf$Standing" T_Standing k) ∧ goodWord (u_lay "PhraseShelf$Standing" T_Standing k) = true := by decide +kernel
  obtain ⟨k, hk, rfl⟩ := List.mem_map.mp hw
  obtain ⟨h1, h2⟩ := h k (List.mem_range.mp hk)
  exact xw_in _ h1 h2
theorem nm_Store : ∀ a, a < 10 → ∀ b, b < 10 → a ≠ b → (T_Store a).2.1 ≠ (T_Store b).2.1 := by decide +kernel
theorem ty_Store_ok : ∀ k, k < 10 → parseFieldDescriptor (T_Store k).2.2.1 = some (ty_Store k) := by decide +kernel
theorem ly_Store : ∀ w ∈ u_ws "PhraseShelf$Store" T_Store 10, w ∈ xw_tbl := by
  intro w hw
  have h : ∀ k, k < 10 → lw_tbl[([145, 147, 149, 151, 153, 155, 157, 159, 161, 163] : List Nat).getD k 0]? = some (u_lay "PhraseShelf$Store" T_Store k) ∧ goodWord (u_lay "PhraseShelf$Store" T_Store k) = true := by decide +kernel
  obtain ⟨k, hk, rfl⟩ := List.mem_map.mp hw
  obtain ⟨h1, h2⟩ := h k (List.mem_range.mp hk)
  exact xw_in _ h1 h2
theorem nm_Tokens : ∀ a, a < 3 → ∀ b, b < 3 → a ≠ b → (T_Tokens a).2.1 ≠ (T_Tokens b).2.1 := by decide +kernel
theorem ty_Tokens_ok : ∀ k, k < 3 → parseFieldDescriptor (T_Tokens k).2.2.1 = some (ty_Tokens k) := by decide +kernel
theorem ly_Tokens : ∀ w ∈ u_ws "PhraseShelf$Tokens" T_Tokens 3, w ∈ xw_tbl := by
  intro w hw
  have h : ∀ k, k < 3 → lw_tbl[([187, 189, 191] : List Nat).getD k 0]? = some (u_lay "PhraseShelf$Tokens" T_Tokens k) ∧ goodWord (u_lay "PhraseShelf$Tokens" T_Tokens k) = true := by decide +kernel
  obtain ⟨k, hk, rfl⟩ := List.mem_map.mp hw
  obtain ⟨h1, h2⟩ := h k (List.mem_range.mp hk)
  exact xw_in _ h1 h2
theorem nm_Version : ∀ a, a < 5 → ∀ b, b < 5 → a ≠ b → (T_Version a).2.1 ≠ (T_Version b).2.1 := by decide +kernel
theorem ty_Version_ok : ∀ k, k < 5 → parseFieldDescriptor (T_Version k).2.2.1 = some (ty_Version k) := by decide +kernel
theorem ly_Version : ∀ w ∈ u_ws "PhraseShelf$Version" T_Version 5, w ∈ xw_tbl := by
  intro w hw
  have h : ∀ k, k < 5 → lw_tbl[([643, 645, 647, 649, 651] : List Nat).getD k 0]? = some (u_lay "PhraseShelf$Version" T_Version k) ∧ goodWord (u_lay "PhraseShelf$Version" T_Version k) = true := by decide +kernel
  obtain ⟨k, hk, rfl⟩ := List.mem_map.mp hw
  obtain ⟨h1, h2⟩ := h k (List.mem_range.mp hk)
  exact xw_in _ h1 h2
theorem nm_Model : ∀ a, a < 62 → ∀ b, b < 62 → a ≠ b → (T_Model a).2.1 ≠ (T_Model b).2.1 := by decide +kernel
theorem ty_Model_ok : ∀ k, k < 62 → parseFieldDescriptor (T_Model k).2.2.1 = some (ty_Model k) := by decide +kernel
theorem ly_Model : ∀ w ∈ u_ws "PhraseShelfModel" T_Model 62, w ∈ xw_tbl := by
  intro w hw
  have h : ∀ k, k < 62 → lw_tbl[([1213, 1215, 1217, 1219, 1221, 1223, 1225, 1227, 1229, 1231, 1233, 1235, 1237, 1239, 1241, 1243, 1245, 1247, 1249, 1251, 1253, 1255, 1257, 1259, 1261, 1263, 1265, 1267, 1269, 1271, 1273, 1275, 1277, 1279, 1281, 1283, 1285, 1287, 1289, 1291, 1293, 1295, 1297, 1299, 1301, 1303, 1305, 1307, 1309, 1311, 1313, 1315, 1317, 1319, 1321, 1323, 1325, 1327, 1329, 1331, 1333, 1335] : List Nat).getD k 0]? = some (u_lay "PhraseShelfModel" T_Model k) ∧ goodWord (u_lay "PhraseShelfModel" T_Model k) = true := by decide +kernel
  obtain ⟨k, hk, rfl⟩ := List.mem_map.mp hw
  obtain ⟨h1, h2⟩ := h k (List.mem_range.mp hk)
  exact xw_in _ h1 h2
def xw_cl (ci : Nat) : vw_C := vwCl.getD ci ("", fun _ => ("", "", "", false), 0)
theorem xw_lays : ∀ ci : Nat, ci < vwCl.length → ∀ w ∈ u_ws (xw_cl ci).1 (xw_cl ci).2.1 (xw_cl ci).2.2, w ∈ xw_tbl := by
  intro ci hci
  match ci, hci with
  | 0, _ => exact ly_Shelf
  | 1, _ => exact ly_Answers
  | 2, _ => exact ly_Node
  | 3, _ => exact ly_Parts
  | 4, _ => exact ly_Phrase
  | 5, _ => exact ly_Question
  | 6, _ => exact ly_Segment
  | 7, _ => exact ly_Standing
  | 8, _ => exact ly_Store
  | 9, _ => exact ly_Tokens
  | 10, _ => exact ly_Version
  | 11, _ => exact ly_Model
  | n + 12, h => exact absurd h (by simp [vwCl])
theorem xw_fty_ok : ∀ ci : Nat, ci < vwCl.length → ∀ k, k < (xw_cl ci).2.2 → parseFieldDescriptor ((xw_cl ci).2.1 k).2.2.1 = some (xw_fty ci k) := by
  intro ci hci
  match ci, hci with
  | 0, _ => exact ty_Shelf_ok
  | 1, _ => exact ty_Answers_ok
  | 2, _ => exact ty_Node_ok
  | 3, _ => exact ty_Parts_ok
  | 4, _ => exact ty_Phrase_ok
  | 5, _ => exact ty_Question_ok
  | 6, _ => exact ty_Segment_ok
  | 7, _ => exact ty_Standing_ok
  | 8, _ => exact ty_Store_ok
  | 9, _ => exact ty_Tokens_ok
  | 10, _ => exact ty_Version_ok
  | 11, _ => exact ty_Model_ok
  | n + 12, h => exact absurd h (by simp [vwCl])
theorem xw_fnm : ∀ ci : Nat, ci < vwCl.length → ∀ a, a < (xw_cl ci).2.2 → ∀ b, b < (xw_cl ci).2.2 → a ≠ b → ((xw_cl ci).2.1 a).2.1 ≠ ((xw_cl ci).2.1 b).2.1 := by
  intro ci hci
  match ci, hci with
  | 0, _ => exact nm_Shelf
  | 1, _ => exact nm_Answers
  | 2, _ => exact nm_Node
  | 3, _ => exact nm_Parts
  | 4, _ => exact nm_Phrase
  | 5, _ => exact nm_Question
  | 6, _ => exact nm_Segment
  | 7, _ => exact nm_Standing
  | 8, _ => exact nm_Store
  | 9, _ => exact nm_Tokens
  | 10, _ => exact nm_Version
  | 11, _ => exact nm_Model
  | n + 12, h => exact absurd h (by simp [vwCl])
theorem xw_cl_get {ci : Nat} (h : ci < vwCl.length) : vwCl[ci]? = some ((xw_cl ci).1, (xw_cl ci).2.1, (xw_cl ci).2.2) := by
  rw [List.getElem?_eq_getElem h]
  simp only [xw_cl, List.getD_eq_getElem?_getD, List.getElem?_eq_getElem h, Option.getD_some]
abbrev xw_M : Type := MethodName × ByteArray × Nat × Option FieldType × List (Nat × Nat × Nat × Nat)
abbrev m_Shelf_init : xw_M := (⟨"PhraseShelf", "<init>", "()V"⟩, prog_1_method_1_code, 2, (Option.none : Option Jvm.ClassFile.FieldType), [])
abbrev m_Store_init : xw_M := (⟨"PhraseShelf$Store", "<init>", "()V"⟩, prog_9_method_1_code, 1, (Option.none : Option Jvm.ClassFile.FieldType), [])
abbrev m_Question_init : xw_M := (⟨"PhraseShelf$Question", "<init>", "()V"⟩, prog_6_method_1_code, 2, (Option.none : Option Jvm.ClassFile.FieldType), [])
abbrev m_Tokens_init : xw_M := (⟨"PhraseShelf$Tokens", "<init>", "(I)V"⟩, prog_10_method_1_code, 2, (Option.none : Option Jvm.ClassFile.FieldType), [])
abbrev m_Parts_init : xw_M := (⟨"PhraseShelf$Parts", "<init>", "()V"⟩, prog_4_method_1_code, 1, (Option.none : Option Jvm.ClassFile.FieldType), [])
abbrev m_Phrase_init : xw_M := (⟨"PhraseShelf$Phrase", "<init>", "()V"⟩, prog_5_method_1_code, 1, (Option.none : Option Jvm.ClassFile.FieldType), [])
abbrev m_Node_init : xw_M := (⟨"PhraseShelf$Node", "<init>", "()V"⟩, prog_3_method_1_code, 1, (Option.none : Option Jvm.ClassFile.FieldType), [])
abbrev m_Standing_init : xw_M := (⟨"PhraseShelf$Standing", "<init>", "()V"⟩, prog_8_method_1_code, 1, (Option.none : Option Jvm.ClassFile.FieldType), [])
abbrev m_Answers_init : xw_M := (⟨"PhraseShelf$Answers", "<init>", "()V"⟩, prog_2_method_1_code, 1, (Option.none : Option Jvm.ClassFile.FieldType), [])
abbrev m_Shelf_drop : xw_M := (⟨"PhraseShelf", "drop", "()I"⟩, prog_1_method_3_code, 2, (Option.some Jvm.ClassFile.FieldType.int), [])
abbrev m_Shelf_flush : xw_M := (⟨"PhraseShelf", "flush", "()I"⟩, prog_1_method_11_code, 1, (Option.some Jvm.ClassFile.FieldType.int), [])
abbrev m_Store_flushPending : xw_M := (⟨"PhraseShelf$Store", "flushPending", "(I)V"⟩, prog_9_method_8_code, 3, (Option.none : Option Jvm.ClassFile.FieldType), [])
abbrev m_Store_gatherLive : xw_M := (⟨"PhraseShelf$Store", "gatherLive", "(LPhraseShelf$Version;)V"⟩, prog_9_method_13_code, 4, (Option.none : Option Jvm.ClassFile.FieldType), [])
abbrev m_Store_addSegment : xw_M := (⟨"PhraseShelf$Store", "addSegment", "(I)V"⟩, prog_9_method_14_code, 2, (Option.none : Option Jvm.ClassFile.FieldType), [])
abbrev m_Segment_init : xw_M := (⟨"PhraseShelf$Segment", "<init>", "(I[LPhraseShelf$Version;I)V"⟩, prog_7_method_1_code, 6, (Option.none : Option Jvm.ClassFile.FieldType), [])
abbrev m_Store_segmentsOf : xw_M := (⟨"PhraseShelf$Store", "segmentsOf", "(I)I"⟩, prog_9_method_10_code, 4, (Option.some Jvm.ClassFile.FieldType.int), [])
abbrev m_Store_mergeLevels : xw_M := (⟨"PhraseShelf$Store", "mergeLevels", "(III)V"⟩, prog_9_method_11_code, 7, (Option.none : Option Jvm.ClassFile.FieldType), [])
abbrev m_Store_gatherAllLive : xw_M := (⟨"PhraseShelf$Store", "gatherAllLive", "(LPhraseShelf$Segment;)V"⟩, prog_9_method_12_code, 3, (Option.none : Option Jvm.ClassFile.FieldType), [])
abbrev m_Shelf_optimize : xw_M := (⟨"PhraseShelf", "optimize", "()I"⟩, prog_1_method_12_code, 1, (Option.some Jvm.ClassFile.FieldType.int), [])
abbrev m_Store_mergeAll : xw_M := (⟨"PhraseShelf$Store", "mergeAll", "()I"⟩, prog_9_method_9_code, 4, (Option.some Jvm.ClassFile.FieldType.int), [])
abbrev m_Shelf_wrong : xw_M := (⟨"PhraseShelf", "wrong", "()I"⟩, prog_1_method_16_code, 1, (Option.some Jvm.ClassFile.FieldType.int), [])
abbrev m_Shelf_letters : xw_M := (⟨"PhraseShelf", "letters", "(J)I"⟩, prog_1_method_2_code, 5, (Option.some Jvm.ClassFile.FieldType.int), [])
abbrev m_Shelf_lettersIn : xw_M := (⟨"PhraseShelf", "lettersIn", "(J)I"⟩, prog_1_method_23_code, 4, (Option.some Jvm.ClassFile.FieldType.int), [])
abbrev m_Shelf_octet : xw_M := (⟨"PhraseShelf", "octet", "(JI)I"⟩, prog_1_method_24_code, 3, (Option.some Jvm.ClassFile.FieldType.int), [])
abbrev m_Shelf_set : xw_M := (⟨"PhraseShelf", "set", "(I)I"⟩, prog_1_method_4_code, 3, (Option.some Jvm.ClassFile.FieldType.int), [])
abbrev m_Shelf_isColumn : xw_M := (⟨"PhraseShelf", "isColumn", "(I)Z"⟩, prog_1_method_25_code, 1, (Option.some Jvm.ClassFile.FieldType.boolean), [])
abbrev m_Tokens_gather : xw_M := (⟨"PhraseShelf$Tokens", "gather", "([CII)V"⟩, prog_10_method_2_code, 7, (Option.none : Option Jvm.ClassFile.FieldType), [])
abbrev m_Shelf_isWord : xw_M := (⟨"PhraseShelf", "isWord", "(C)Z"⟩, prog_1_method_26_code, 1, (Option.some Jvm.ClassFile.FieldType.boolean), [])
abbrev m_Tokens_addLetter : xw_M := (⟨"PhraseShelf$Tokens", "addLetter", "(C)V"⟩, prog_10_method_3_code, 3, (Option.none : Option Jvm.ClassFile.FieldType), [])
abbrev m_Shelf_insert : xw_M := (⟨"PhraseShelf", "insert", "()I"⟩, prog_1_method_5_code, 2, (Option.some Jvm.ClassFile.FieldType.int), [])
abbrev m_Store_freeRow : xw_M := (⟨"PhraseShelf$Store", "freeRow", "()I"⟩, prog_9_method_5_code, 2, (Option.some Jvm.ClassFile.FieldType.int), [])
abbrev m_Shelf_giveTexts : xw_M := (⟨"PhraseShelf", "giveTexts", "(I)I"⟩, prog_1_method_22_code, 3, (Option.some Jvm.ClassFile.FieldType.int), [])
abbrev m_Store_putVersion : xw_M := (⟨"PhraseShelf$Store", "putVersion", "(ILPhraseShelf$Tokens;LPhraseShelf$Tokens;)I"⟩, prog_9_method_7_code, 6, (Option.some Jvm.ClassFile.FieldType.int), [])
abbrev m_Tokens_different : xw_M := (⟨"PhraseShelf$Tokens", "different", "()I"⟩, prog_10_method_6_code, 3, (Option.some Jvm.ClassFile.FieldType.int), [])
abbrev m_Tokens_isEarlier : xw_M := (⟨"PhraseShelf$Tokens", "isEarlier", "(I)Z"⟩, prog_10_method_7_code, 3, (Option.some Jvm.ClassFile.FieldType.boolean), [])
abbrev m_Tokens_fits : xw_M := (⟨"PhraseShelf$Tokens", "fits", "(ILPhraseShelf$Tokens;IZ)Z"⟩, prog_10_method_5_code, 8, (Option.some Jvm.ClassFile.FieldType.boolean), [])
abbrev m_Tokens_lengthOf : xw_M := (⟨"PhraseShelf$Tokens", "lengthOf", "(I)I"⟩, prog_10_method_4_code, 2, (Option.some Jvm.ClassFile.FieldType.int), [])
abbrev m_Version_init : xw_M := (⟨"PhraseShelf$Version", "<init>", "(IILPhraseShelf$Tokens;LPhraseShelf$Tokens;I)V"⟩, prog_11_method_1_code, 6, (Option.none : Option Jvm.ClassFile.FieldType), [])
abbrev m_Shelf_replace : xw_M := (⟨"PhraseShelf", "replace", "(I)I"⟩, prog_1_method_6_code, 2, (Option.some Jvm.ClassFile.FieldType.int), [])
abbrev m_Store_versionOf : xw_M := (⟨"PhraseShelf$Store", "versionOf", "(I)LPhraseShelf$Version;"⟩, prog_9_method_2_code, 2, (Option.some (Jvm.ClassFile.FieldType.object "PhraseShelf$Version")), [])
abbrev m_Shelf_delete : xw_M := (⟨"PhraseShelf", "delete", "(I)I"⟩, prog_1_method_7_code, 3, (Option.some Jvm.ClassFile.FieldType.int), [])
abbrev m_Store_clearRow : xw_M := (⟨"PhraseShelf$Store", "clearRow", "(I)V"⟩, prog_9_method_6_code, 2, (Option.none : Option Jvm.ClassFile.FieldType), [])
abbrev m_Version_tokens : xw_M := (⟨"PhraseShelf$Version", "tokens", "()I"⟩, prog_11_method_3_code, 1, (Option.some Jvm.ClassFile.FieldType.int), [])
abbrev m_Shelf_begin : xw_M := (⟨"PhraseShelf", "begin", "()V"⟩, prog_1_method_8_code, 1, (Option.none : Option Jvm.ClassFile.FieldType), [])
abbrev m_Store_copyFrom : xw_M := (⟨"PhraseShelf$Store", "copyFrom", "(LPhraseShelf$Store;)V"⟩, prog_9_method_15_code, 3, (Option.none : Option Jvm.ClassFile.FieldType), [])
abbrev m_Shelf_commit : xw_M := (⟨"PhraseShelf", "commit", "()I"⟩, prog_1_method_9_code, 1, (Option.some Jvm.ClassFile.FieldType.int), [])
abbrev m_Shelf_rollback : xw_M := (⟨"PhraseShelf", "rollback", "()I"⟩, prog_1_method_10_code, 1, (Option.some Jvm.ClassFile.FieldType.int), [])
abbrev m_Store_rowCount : xw_M := (⟨"PhraseShelf$Store", "rowCount", "()I"⟩, prog_9_method_3_code, 3, (Option.some Jvm.ClassFile.FieldType.int), [])
abbrev m_Shelf_ways : xw_M := (⟨"PhraseShelf", "ways", "(II)V"⟩, prog_1_method_13_code, 3, (Option.none : Option Jvm.ClassFile.FieldType), [])
abbrev m_Shelf_weight : xw_M := (⟨"PhraseShelf", "weight", "(II)I"⟩, prog_1_method_14_code, 4, (Option.some Jvm.ClassFile.FieldType.int), [])
abbrev m_Shelf_ask : xw_M := (⟨"PhraseShelf", "ask", "()I"⟩, prog_1_method_15_code, 3, (Option.some Jvm.ClassFile.FieldType.int), [])
abbrev m_Question_read : xw_M := (⟨"PhraseShelf$Question", "read", "([CI)Z"⟩, prog_6_method_2_code, 4, (Option.some Jvm.ClassFile.FieldType.boolean), [])
abbrev m_Parts_split : xw_M := (⟨"PhraseShelf$Parts", "split", "([CI)V"⟩, prog_4_method_2_code, 5, (Option.none : Option Jvm.ClassFile.FieldType), [])
abbrev m_Parts_blanksEnd : xw_M := (⟨"PhraseShelf$Parts", "blanksEnd", "(I)I"⟩, prog_4_method_3_code, 3, (Option.some Jvm.ClassFile.FieldType.int), [])
abbrev m_Parts_readPart : xw_M := (⟨"PhraseShelf$Parts", "readPart", "(I)V"⟩, prog_4_method_4_code, 4, (Option.none : Option Jvm.ClassFile.FieldType), [])
abbrev m_Parts_wordEnd : xw_M := (⟨"PhraseShelf$Parts", "wordEnd", "(I)I"⟩, prog_4_method_5_code, 3, (Option.some Jvm.ClassFile.FieldType.int), [])
abbrev m_Parts_wordKind : xw_M := (⟨"PhraseShelf$Parts", "wordKind", "(II)I"⟩, prog_4_method_7_code, 3, (Option.some Jvm.ClassFile.FieldType.int), [])
abbrev m_Parts_isName : xw_M := (⟨"PhraseShelf$Parts", "isName", "(IILjava/lang/String;)Z"⟩, prog_4_method_8_code, 5, (Option.some Jvm.ClassFile.FieldType.boolean), [])
abbrev m_Parts_quoteEnd : xw_M := (⟨"PhraseShelf$Parts", "quoteEnd", "(I)I"⟩, prog_4_method_6_code, 3, (Option.some Jvm.ClassFile.FieldType.int), [])
abbrev m_Question_joined : xw_M := (⟨"PhraseShelf$Question", "joined", "(III)LPhraseShelf$Node;"⟩, prog_6_method_6_code, 7, (Option.some (Jvm.ClassFile.FieldType.object "PhraseShelf$Node")), [])
abbrev m_Question_operand : xw_M := (⟨"PhraseShelf$Question", "operand", "(III)LPhraseShelf$Node;"⟩, prog_6_method_7_code, 4, (Option.some (Jvm.ClassFile.FieldType.object "PhraseShelf$Node")), [])
abbrev m_Question_atom : xw_M := (⟨"PhraseShelf$Question", "atom", "(II)LPhraseShelf$Node;"⟩, prog_6_method_12_code, 3, (Option.some (Jvm.ClassFile.FieldType.object "PhraseShelf$Node")), [])
abbrev m_Question_beginsDeeper : xw_M := (⟨"PhraseShelf$Question", "beginsDeeper", "()Z"⟩, prog_6_method_10_code, 2, (Option.some Jvm.ClassFile.FieldType.boolean), [])
abbrev m_Question_kind : xw_M := (⟨"PhraseShelf$Question", "kind", "()I"⟩, prog_6_method_3_code, 1, (Option.some Jvm.ClassFile.FieldType.int), [])
abbrev m_Question_refuse : xw_M := (⟨"PhraseShelf$Question", "refuse", "()LPhraseShelf$Node;"⟩, prog_6_method_5_code, 1, (Option.some (Jvm.ClassFile.FieldType.object "PhraseShelf$Node")), [])
abbrev m_Question_deeper : xw_M := (⟨"PhraseShelf$Question", "deeper", "(II)LPhraseShelf$Node;"⟩, prog_6_method_13_code, 6, (Option.some (Jvm.ClassFile.FieldType.object "PhraseShelf$Node")), [])
abbrev m_Question_takes : xw_M := (⟨"PhraseShelf$Question", "takes", "(I)Z"⟩, prog_6_method_4_code, 2, (Option.some Jvm.ClassFile.FieldType.boolean), [])
abbrev m_Parts_columnNamed : xw_M := (⟨"PhraseShelf$Parts", "columnNamed", "(I)I"⟩, prog_4_method_9_code, 3, (Option.some Jvm.ClassFile.FieldType.int), [])
abbrev m_Question_near : xw_M := (⟨"PhraseShelf$Question", "near", "(I)LPhraseShelf$Node;"⟩, prog_6_method_15_code, 5, (Option.some (Jvm.ClassFile.FieldType.object "PhraseShelf$Node")), [])
abbrev m_Question_readPhrase : xw_M := (⟨"PhraseShelf$Question", "readPhrase", "()Z"⟩, prog_6_method_16_code, 3, (Option.some Jvm.ClassFile.FieldType.boolean), [])
abbrev m_Question_readString : xw_M := (⟨"PhraseShelf$Question", "readString", "()Z"⟩, prog_6_method_17_code, 1, (Option.some Jvm.ClassFile.FieldType.boolean), [])
abbrev m_Question_beginsString : xw_M := (⟨"PhraseShelf$Question", "beginsString", "()Z"⟩, prog_6_method_11_code, 2, (Option.some Jvm.ClassFile.FieldType.boolean), [])
abbrev m_Parts_number : xw_M := (⟨"PhraseShelf$Parts", "number", "(I)I"⟩, prog_4_method_10_code, 4, (Option.some Jvm.ClassFile.FieldType.int), [])
abbrev m_Question_group : xw_M := (⟨"PhraseShelf$Question", "group", "(IIII)LPhraseShelf$Node;"⟩, prog_6_method_18_code, 6, (Option.some (Jvm.ClassFile.FieldType.object "PhraseShelf$Node")), [])
abbrev m_Question_newNode : xw_M := (⟨"PhraseShelf$Question", "newNode", "(I)LPhraseShelf$Node;"⟩, prog_6_method_20_code, 3, (Option.some (Jvm.ClassFile.FieldType.object "PhraseShelf$Node")), [])
abbrev m_Question_single : xw_M := (⟨"PhraseShelf$Question", "single", "(I)LPhraseShelf$Node;"⟩, prog_6_method_14_code, 4, (Option.some (Jvm.ClassFile.FieldType.object "PhraseShelf$Node")), [])
abbrev m_Question_goesOn : xw_M := (⟨"PhraseShelf$Question", "goesOn", "(I)Z"⟩, prog_6_method_8_code, 2, (Option.some Jvm.ClassFile.FieldType.boolean), [])
abbrev m_Question_beginsAtom : xw_M := (⟨"PhraseShelf$Question", "beginsAtom", "()Z"⟩, prog_6_method_9_code, 2, (Option.some Jvm.ClassFile.FieldType.boolean), [])
abbrev m_Question_join : xw_M := (⟨"PhraseShelf$Question", "join", "(ILPhraseShelf$Node;LPhraseShelf$Node;)LPhraseShelf$Node;"⟩, prog_6_method_19_code, 5, (Option.some (Jvm.ClassFile.FieldType.object "PhraseShelf$Node")), [])
abbrev m_Standing_fill : xw_M := (⟨"PhraseShelf$Standing", "fill", "(LPhraseShelf$Question;LPhraseShelf$Store;)V"⟩, prog_8_method_2_code, 8, (Option.none : Option Jvm.ClassFile.FieldType), [])
abbrev m_Version_text : xw_M := (⟨"PhraseShelf$Version", "text", "(I)LPhraseShelf$Tokens;"⟩, prog_11_method_2_code, 2, (Option.some (Jvm.ClassFile.FieldType.object "PhraseShelf$Tokens")), [])
abbrev m_Standing_placesIn : xw_M := (⟨"PhraseShelf$Standing", "placesIn", "(LPhraseShelf$Phrase;LPhraseShelf$Tokens;)I"⟩, prog_8_method_5_code, 5, (Option.some Jvm.ClassFile.FieldType.int), [])
abbrev m_Standing_standsAt : xw_M := (⟨"PhraseShelf$Standing", "standsAt", "(LPhraseShelf$Phrase;LPhraseShelf$Tokens;I)Z"⟩, prog_8_method_6_code, 6, (Option.some Jvm.ClassFile.FieldType.boolean), [])
abbrev m_Standing_index : xw_M := (⟨"PhraseShelf$Standing", "index", "(III)I"⟩, prog_8_method_3_code, 3, (Option.some Jvm.ClassFile.FieldType.int), [])
abbrev m_Standing_rowsFound : xw_M := (⟨"PhraseShelf$Standing", "rowsFound", "(LPhraseShelf$Question;)I"⟩, prog_8_method_9_code, 5, (Option.some Jvm.ClassFile.FieldType.int), [])
abbrev m_Standing_rowsOfGroup : xw_M := (⟨"PhraseShelf$Standing", "rowsOfGroup", "(LPhraseShelf$Node;)I"⟩, prog_8_method_11_code, 5, (Option.some Jvm.ClassFile.FieldType.int), [])
abbrev m_Standing_holds : xw_M := (⟨"PhraseShelf$Standing", "holds", "(LPhraseShelf$Node;II)Z"⟩, prog_8_method_12_code, 5, (Option.some Jvm.ClassFile.FieldType.boolean), [])
abbrev m_Standing_placesOf : xw_M := (⟨"PhraseShelf$Standing", "placesOf", "(III)I"⟩, prog_8_method_4_code, 4, (Option.some Jvm.ClassFile.FieldType.int), [])
abbrev m_Standing_areNear : xw_M := (⟨"PhraseShelf$Standing", "areNear", "(LPhraseShelf$Node;II)Z"⟩, prog_8_method_13_code, 5, (Option.some Jvm.ClassFile.FieldType.boolean), [])
abbrev m_Standing_allReach : xw_M := (⟨"PhraseShelf$Standing", "allReach", "(LPhraseShelf$Node;III)Z"⟩, prog_8_method_14_code, 9, (Option.some Jvm.ClassFile.FieldType.boolean), [])
abbrev m_Standing_rowsOfJoin : xw_M := (⟨"PhraseShelf$Standing", "rowsOfJoin", "(LPhraseShelf$Node;)I"⟩, prog_8_method_10_code, 1, (Option.some Jvm.ClassFile.FieldType.int), [])
abbrev m_Answers_take : xw_M := (⟨"PhraseShelf$Answers", "take", "(ILPhraseShelf$Store;)V"⟩, prog_2_method_4_code, 5, (Option.none : Option Jvm.ClassFile.FieldType), [])
abbrev m_Answers_rank : xw_M := (⟨"PhraseShelf$Answers", "rank", "(LPhraseShelf$Standing;I[ILPhraseShelf$Store;)V"⟩, prog_2_method_5_code, 10, (Option.none : Option Jvm.ClassFile.FieldType), [])
abbrev m_Store_tokenCount : xw_M := (⟨"PhraseShelf$Store", "tokenCount", "()I"⟩, prog_9_method_4_code, 3, (Option.some Jvm.ClassFile.FieldType.int), [])
abbrev m_Standing_rowsWith : xw_M := (⟨"PhraseShelf$Standing", "rowsWith", "(I)I"⟩, prog_8_method_8_code, 4, (Option.some Jvm.ClassFile.FieldType.int), [])
abbrev m_Standing_standsIn : xw_M := (⟨"PhraseShelf$Standing", "standsIn", "(II)Z"⟩, prog_8_method_7_code, 3, (Option.some Jvm.ClassFile.FieldType.boolean), [])
abbrev m_Answers_rarity : xw_M := (⟨"PhraseShelf$Answers", "rarity", "(II)D"⟩, prog_2_method_7_code, 4, (Option.some Jvm.ClassFile.FieldType.double), [])
abbrev m_Answers_ln : xw_M := (⟨"PhraseShelf$Answers", "ln", "(D)D"⟩, prog_2_method_8_code, 12, (Option.some Jvm.ClassFile.FieldType.double), [])
abbrev m_Answers_addPhrase : xw_M := (⟨"PhraseShelf$Answers", "addPhrase", "(LPhraseShelf$Standing;I[IDD)V"⟩, prog_2_method_6_code, 10, (Option.none : Option Jvm.ClassFile.FieldType), [])
abbrev m_Answers_sort : xw_M := (⟨"PhraseShelf$Answers", "sort", "()V"⟩, prog_2_method_9_code, 3, (Option.none : Option Jvm.ClassFile.FieldType), [])
abbrev m_Shelf_answer : xw_M := (⟨"PhraseShelf", "answer", "(IZ)I"⟩, prog_1_method_17_code, 3, (Option.some Jvm.ClassFile.FieldType.int), [])
abbrev m_Answers_has : xw_M := (⟨"PhraseShelf$Answers", "has", "(I)Z"⟩, prog_2_method_2_code, 2, (Option.some Jvm.ClassFile.FieldType.boolean), [])
abbrev m_Answers_place : xw_M := (⟨"PhraseShelf$Answers", "place", "(IZ)I"⟩, prog_2_method_3_code, 3, (Option.some Jvm.ClassFile.FieldType.int), [])
abbrev m_Shelf_score : xw_M := (⟨"PhraseShelf", "score", "(IZ)D"⟩, prog_1_method_18_code, 3, (Option.some Jvm.ClassFile.FieldType.double), [])
abbrev m_Shelf_look : xw_M := (⟨"PhraseShelf", "look", "(II)I"⟩, prog_1_method_19_code, 4, (Option.some Jvm.ClassFile.FieldType.int), [])
abbrev m_Shelf_segment : xw_M := (⟨"PhraseShelf", "segment", "(II)I"⟩, prog_1_method_20_code, 4, (Option.some Jvm.ClassFile.FieldType.int), [])
abbrev m_Shelf_count : xw_M := (⟨"PhraseShelf", "count", "(I)I"⟩, prog_1_method_21_code, 2, (Option.some Jvm.ClassFile.FieldType.int), [])
abbrev m_Model_init : xw_M := (⟨"PhraseShelfModel", "<init>", "()V"⟩, prog_13_method_1_code, 2, (Option.none : Option Jvm.ClassFile.FieldType), [])
abbrev m_Model_thrown : xw_M := (⟨"PhraseShelfModel", "thrown", "()I"⟩, prog_13_method_2_code, 1, (Option.some Jvm.ClassFile.FieldType.int), [])
abbrev m_Model_letters : xw_M := (⟨"PhraseShelfModel", "letters", "(J)I"⟩, prog_13_method_7_code, 6, (Option.some Jvm.ClassFile.FieldType.int), [])
abbrev m_Model_in : xw_M := (⟨"PhraseShelfModel", "in", "(III)Z"⟩, prog_13_method_3_code, 3, (Option.some Jvm.ClassFile.FieldType.boolean), [])
abbrev m_Model_fails : xw_M := (⟨"PhraseShelfModel", "fails", "(ZI)Z"⟩, prog_13_method_4_code, 3, (Option.some Jvm.ClassFile.FieldType.boolean), [])
abbrev m_Model_drop : xw_M := (⟨"PhraseShelfModel", "drop", "()I"⟩, prog_13_method_8_code, 2, (Option.some Jvm.ClassFile.FieldType.int), [])
abbrev m_Model_set : xw_M := (⟨"PhraseShelfModel", "set", "(I)I"⟩, prog_13_method_9_code, 4, (Option.some Jvm.ClassFile.FieldType.int), [])
abbrev m_Model_isSign : xw_M := (⟨"PhraseShelfModel", "isSign", "(I)Z"⟩, prog_13_method_5_code, 1, (Option.some Jvm.ClassFile.FieldType.boolean), [])
abbrev m_Model_insert : xw_M := (⟨"PhraseShelfModel", "insert", "()I"⟩, prog_13_method_18_code, 2, (Option.some Jvm.ClassFile.FieldType.int), [])
abbrev m_Model_gets : xw_M := (⟨"PhraseShelfModel", "gets", "(I)I"⟩, prog_13_method_15_code, 4, (Option.some Jvm.ClassFile.FieldType.int), [])
abbrev m_Model_entriesOf : xw_M := (⟨"PhraseShelfModel", "entriesOf", "(I)I"⟩, prog_13_method_13_code, 7, (Option.some Jvm.ClassFile.FieldType.int), [])
abbrev m_Model_opens : xw_M := (⟨"PhraseShelfModel", "opens", "(II)V"⟩, prog_13_method_10_code, 6, (Option.none : Option Jvm.ClassFile.FieldType), [])
abbrev m_Model_alike : xw_M := (⟨"PhraseShelfModel", "alike", "(II)Z"⟩, prog_13_method_12_code, 5, (Option.some Jvm.ClassFile.FieldType.boolean), [])
abbrev m_Model_small : xw_M := (⟨"PhraseShelfModel", "small", "(I)I"⟩, prog_13_method_6_code, 1, (Option.some Jvm.ClassFile.FieldType.int), [])
abbrev m_Model_pending : xw_M := (⟨"PhraseShelfModel", "pending", "()I"⟩, prog_13_method_16_code, 3, (Option.some Jvm.ClassFile.FieldType.int), [])
abbrev m_Model_flushes : xw_M := (⟨"PhraseShelfModel", "flushes", "()V"⟩, prog_13_method_22_code, 4, (Option.none : Option Jvm.ClassFile.FieldType), [])
abbrev m_Model_gathers : xw_M := (⟨"PhraseShelfModel", "gathers", "(II)V"⟩, prog_13_method_21_code, 8, (Option.none : Option Jvm.ClassFile.FieldType), [])
abbrev m_Model_isLive : xw_M := (⟨"PhraseShelfModel", "isLive", "(I)Z"⟩, prog_13_method_17_code, 3, (Option.some Jvm.ClassFile.FieldType.boolean), [])
abbrev m_Model_replace : xw_M := (⟨"PhraseShelfModel", "replace", "(I)I"⟩, prog_13_method_19_code, 2, (Option.some Jvm.ClassFile.FieldType.int), [])
abbrev m_Model_has : xw_M := (⟨"PhraseShelfModel", "has", "(I)Z"⟩, prog_13_method_14_code, 2, (Option.some Jvm.ClassFile.FieldType.boolean), [])
abbrev m_Model_delete : xw_M := (⟨"PhraseShelfModel", "delete", "(I)I"⟩, prog_13_method_20_code, 3, (Option.some Jvm.ClassFile.FieldType.int), [])
abbrev m_Model_tokensOf : xw_M := (⟨"PhraseShelfModel", "tokensOf", "(I)I"⟩, prog_13_method_11_code, 3, (Option.some Jvm.ClassFile.FieldType.int), [])
abbrev m_Model_flush : xw_M := (⟨"PhraseShelfModel", "flush", "()I"⟩, prog_13_method_23_code, 1, (Option.some Jvm.ClassFile.FieldType.int), [])
abbrev m_Model_optimize : xw_M := (⟨"PhraseShelfModel", "optimize", "()I"⟩, prog_13_method_24_code, 4, (Option.some Jvm.ClassFile.FieldType.int), [])
abbrev m_Model_begin : xw_M := (⟨"PhraseShelfModel", "begin", "()V"⟩, prog_13_method_25_code, 2, (Option.none : Option Jvm.ClassFile.FieldType), [])
abbrev m_Model_commit : xw_M := (⟨"PhraseShelfModel", "commit", "()I"⟩, prog_13_method_26_code, 1, (Option.some Jvm.ClassFile.FieldType.int), [])
abbrev m_Model_rollback : xw_M := (⟨"PhraseShelfModel", "rollback", "()I"⟩, prog_13_method_27_code, 2, (Option.some Jvm.ClassFile.FieldType.int), [])
abbrev m_Model_rows : xw_M := (⟨"PhraseShelfModel", "rows", "()I"⟩, prog_13_method_28_code, 3, (Option.some Jvm.ClassFile.FieldType.int), [])
abbrev m_Model_ways : xw_M := (⟨"PhraseShelfModel", "ways", "(II)V"⟩, prog_13_method_29_code, 3, (Option.none : Option Jvm.ClassFile.FieldType), [])
abbrev m_Model_weight : xw_M := (⟨"PhraseShelfModel", "weight", "(II)I"⟩, prog_13_method_30_code, 4, (Option.some Jvm.ClassFile.FieldType.int), [])
abbrev m_Model_ask : xw_M := (⟨"PhraseShelfModel", "ask", "()I"⟩, prog_13_method_61_code, 3, (Option.some Jvm.ClassFile.FieldType.int), [])
abbrev m_Model_reads : xw_M := (⟨"PhraseShelfModel", "reads", "()V"⟩, prog_13_method_50_code, 1, (Option.none : Option Jvm.ClassFile.FieldType), [])
abbrev m_Model_part : xw_M := (⟨"PhraseShelfModel", "part", "()V"⟩, prog_13_method_33_code, 2, (Option.none : Option Jvm.ClassFile.FieldType), [])
abbrev m_Model_q : xw_M := (⟨"PhraseShelfModel", "q", "(I)I"⟩, prog_13_method_31_code, 2, (Option.some Jvm.ClassFile.FieldType.int), [])
abbrev m_Model_spells : xw_M := (⟨"PhraseShelfModel", "spells", "(IIII)Z"⟩, prog_13_method_32_code, 6, (Option.some Jvm.ClassFile.FieldType.boolean), [])
abbrev m_Model_follows : xw_M := (⟨"PhraseShelfModel", "follows", "()V"⟩, prog_13_method_49_code, 3, (Option.none : Option Jvm.ClassFile.FieldType), [])
abbrev m_Model_reduces : xw_M := (⟨"PhraseShelfModel", "reduces", "(I)V"⟩, prog_13_method_45_code, 2, (Option.none : Option Jvm.ClassFile.FieldType), [])
abbrev m_Model_wrongs : xw_M := (⟨"PhraseShelfModel", "wrongs", "(ZI)V"⟩, prog_13_method_35_code, 3, (Option.none : Option Jvm.ClassFile.FieldType), [])
abbrev m_Model_closesFilters : xw_M := (⟨"PhraseShelfModel", "closesFilters", "()V"⟩, prog_13_method_43_code, 1, (Option.none : Option Jvm.ClassFile.FieldType), [])
abbrev m_Model_next : xw_M := (⟨"PhraseShelfModel", "next", "()V"⟩, prog_13_method_34_code, 1, (Option.none : Option Jvm.ClassFile.FieldType), [])
abbrev m_Model_joins : xw_M := (⟨"PhraseShelfModel", "joins", "(I)V"⟩, prog_13_method_46_code, 2, (Option.none : Option Jvm.ClassFile.FieldType), [])
abbrev m_Model_pushes : xw_M := (⟨"PhraseShelfModel", "pushes", "(I)V"⟩, prog_13_method_42_code, 2, (Option.none : Option Jvm.ClassFile.FieldType), [])
abbrev m_Model_atom : xw_M := (⟨"PhraseShelfModel", "atom", "()V"⟩, prog_13_method_48_code, 1, (Option.none : Option Jvm.ClassFile.FieldType), [])
abbrev m_Model_depth : xw_M := (⟨"PhraseShelfModel", "depth", "()I"⟩, prog_13_method_44_code, 3, (Option.some Jvm.ClassFile.FieldType.int), [])
abbrev m_Model_isFilter : xw_M := (⟨"PhraseShelfModel", "isFilter", "()Z"⟩, prog_13_method_36_code, 1, (Option.some Jvm.ClassFile.FieldType.boolean), [])
abbrev m_Model_filter : xw_M := (⟨"PhraseShelfModel", "filter", "()V"⟩, prog_13_method_47_code, 4, (Option.none : Option Jvm.ClassFile.FieldType), [])
abbrev m_Model_isString : xw_M := (⟨"PhraseShelfModel", "isString", "()Z"⟩, prog_13_method_37_code, 1, (Option.some Jvm.ClassFile.FieldType.boolean), [])
abbrev m_Model_group : xw_M := (⟨"PhraseShelfModel", "group", "()V"⟩, prog_13_method_41_code, 1, (Option.none : Option Jvm.ClassFile.FieldType), [])
abbrev m_Model_near : xw_M := (⟨"PhraseShelfModel", "near", "()V"⟩, prog_13_method_40_code, 4, (Option.none : Option Jvm.ClassFile.FieldType), [])
abbrev m_Model_phrase : xw_M := (⟨"PhraseShelfModel", "phrase", "()V"⟩, prog_13_method_39_code, 1, (Option.none : Option Jvm.ClassFile.FieldType), [])
abbrev m_Model_takeTokens : xw_M := (⟨"PhraseShelfModel", "takeTokens", "()V"⟩, prog_13_method_38_code, 2, (Option.none : Option Jvm.ClassFile.FieldType), [])
abbrev m_Model_finds : xw_M := (⟨"PhraseShelfModel", "finds", "(I)Z"⟩, prog_13_method_57_code, 6, (Option.some Jvm.ClassFile.FieldType.boolean), [])
abbrev m_Model_holds : xw_M := (⟨"PhraseShelfModel", "holds", "(II)Z"⟩, prog_13_method_56_code, 4, (Option.some Jvm.ClassFile.FieldType.boolean), [])
abbrev m_Model_holdsHere : xw_M := (⟨"PhraseShelfModel", "holdsHere", "(I)Z"⟩, prog_13_method_55_code, 6, (Option.some Jvm.ClassFile.FieldType.boolean), [])
abbrev m_Model_stands : xw_M := (⟨"PhraseShelfModel", "stands", "(II)Z"⟩, prog_13_method_53_code, 6, (Option.some Jvm.ClassFile.FieldType.boolean), [])
abbrev m_Model_length : xw_M := (⟨"PhraseShelfModel", "length", "(I)I"⟩, prog_13_method_52_code, 2, (Option.some Jvm.ClassFile.FieldType.int), [])
abbrev m_Model_matches : xw_M := (⟨"PhraseShelfModel", "matches", "(IIZ)Z"⟩, prog_13_method_51_code, 6, (Option.some Jvm.ClassFile.FieldType.boolean), [])
abbrev m_Model_standsBetween : xw_M := (⟨"PhraseShelfModel", "standsBetween", "(III)Z"⟩, prog_13_method_54_code, 5, (Option.some Jvm.ClassFile.FieldType.boolean), [])
abbrev m_Model_scoreOf : xw_M := (⟨"PhraseShelfModel", "scoreOf", "(I)D"⟩, prog_13_method_60_code, 16, (Option.some Jvm.ClassFile.FieldType.double), [])
abbrev m_Model_countIn : xw_M := (⟨"PhraseShelfModel", "countIn", "(III)I"⟩, prog_13_method_58_code, 6, (Option.some Jvm.ClassFile.FieldType.int), [])
abbrev m_Model_logarithm : xw_M := (⟨"PhraseShelfModel", "logarithm", "(D)D"⟩, prog_13_method_59_code, 12, (Option.some Jvm.ClassFile.FieldType.double), [])
abbrev m_Model_wrong : xw_M := (⟨"PhraseShelfModel", "wrong", "()I"⟩, prog_13_method_62_code, 1, (Option.some Jvm.ClassFile.FieldType.int), [])
abbrev m_Model_clean : xw_M := (⟨"PhraseShelfModel", "clean", "(I)I"⟩, prog_13_method_63_code, 2, (Option.some Jvm.ClassFile.FieldType.int), [])
abbrev m_Model_answer : xw_M := (⟨"PhraseShelfModel", "answer", "(IZ)I"⟩, prog_13_method_64_code, 3, (Option.some Jvm.ClassFile.FieldType.int), [])
abbrev m_Model_score : xw_M := (⟨"PhraseShelfModel", "score", "(IZ)D"⟩, prog_13_method_65_code, 3, (Option.some Jvm.ClassFile.FieldType.double), [])
abbrev m_Model_look : xw_M := (⟨"PhraseShelfModel", "look", "(II)I"⟩, prog_13_method_66_code, 3, (Option.some Jvm.ClassFile.FieldType.int), [])
abbrev m_Model_segment : xw_M := (⟨"PhraseShelfModel", "segment", "(II)I"⟩, prog_13_method_67_code, 5, (Option.some Jvm.ClassFile.FieldType.int), [])
abbrev m_Model_count : xw_M := (⟨"PhraseShelfModel", "count", "(I)I"⟩, prog_13_method_68_code, 2, (Option.some Jvm.ClassFile.FieldType.int), [])
end
section
/-! what holds of the machine's constants in every state of the run -/
abbrev xw_g (G : xw_G) : Nat → Prop := fun q => G.2.2.1 ≤ q
def xw_nest : List (String × Nat × MethodName × String) := [("PhraseShelf", 25, ⟨"PhraseShelf$Store", "<init>", "()V"⟩, "PhraseShelf"), ("PhraseShelf$Question", 34, ⟨"PhraseShelf$Parts", "<init>", "()V"⟩, "PhraseShelf"), ("PhraseShelf$Question", 39, ⟨"PhraseShelf$Phrase", "<init>", "()V"⟩, "PhraseShelf"), ("PhraseShelf$Question", 40, ⟨"PhraseShelf$Node", "<init>", "()V"⟩, "PhraseShelf"), ("PhraseShelf", 42, ⟨"PhraseShelf$Standing", "<init>", "()V"⟩, "PhraseShelf"), ("PhraseShelf", 49, ⟨"PhraseShelf$Answers", "<init>", "()V"⟩, "PhraseShelf"), ("PhraseShelf$Tokens", 17, ⟨"PhraseShelf", "isWord", "(C)Z"⟩, "PhraseShelf"), ("PhraseShelf$Parts", 37, ⟨"PhraseShelf", "isWord", "(C)Z"⟩, "PhraseShelf"), ("PhraseShelf$Parts", 77, ⟨"PhraseShelf", "isColumn", "(I)Z"⟩, "PhraseShelf")]
def xw_over : List String := ["PhraseShelf$Tokens", "PhraseShelf$Version", "PhraseShelf$Segment", "PhraseShelf$Phrase", "PhraseShelf$Node"]
def xw_strs : List (String × Nat × String × Nat) := [("PhraseShelf", 73, "no letter, or an octet that is none", 0), ("PhraseShelf", 83, "the draft is full", 1), ("PhraseShelf", 94, "no such column", 2), ("PhraseShelf", 96, "the draft is too long for a text", 3), ("PhraseShelf", 109, "all rows are taken", 4), ("PhraseShelf", 121, "no such row", 5), ("PhraseShelf", 138, "a transaction is open", 6), ("PhraseShelf", 145, "no transaction is open", 7), ("PhraseShelf", 159, "most or limit is out of range", 8), ("PhraseShelf", 161, "column or weight is out of range", 9), ("PhraseShelf$Parts", 58, "OR", 10), ("PhraseShelf$Parts", 64, "AND", 11), ("PhraseShelf$Parts", 66, "NOT", 12), ("PhraseShelf$Parts", 68, "NEAR", 13), ("PhraseShelf$Parts", 51, "()-^,+*:", 14), ("PhraseShelf", 168, "the draft is no question", 15), ("PhraseShelf", 198, "no such answer", 16), ("PhraseShelf", 221, "nothing of a row has that number", 17), ("PhraseShelf", 223, "no such segment", 18), ("PhraseShelf", 239, "nothing of a segment has that number", 19), ("PhraseShelf", 250, "nothing counted has that number", 20)]
def xw_F (G : xw_G) (U : State) (H : Heap) : Prop :=
  G.2.2.1 ≤ H.size ∧ G.1.stackTraces = false ∧ (∀ C ∈ xw_over, va_AO C U) ∧ (∀ q ∈ xw_nest, va_Nw (.methodLinkNest q.1 q.2.1 q.2.2.1 q.2.2.2) U) ∧ (∀ q ∈ xw_strs, vk_R q.1 q.2.1 q.2.2.1 (G.2.2.2.1 q.2.2.2) U) ∧
    va_Zq "java/lang/Throwable" "UNASSIGNED_STACK" "[Ljava/lang/StackTraceElement;" (xw_g G) U H ∧ va_Zq "java/lang/Throwable" "SUPPRESSED_SENTINEL" "Ljava/util/List;" (xw_g G) U H
theorem xw_F.S0 {G : xw_G} {U : State} {H : Heap} (h : xw_F G U H) : ∀ q, H.size ≤ q → xw_g G q := fun q hq => Nat.le_trans h.1 hq
theorem xw_F.moved {G : xw_G} {u U : State} {H H1 : Heap} (hW : u.WarmedH U.vm) (hq : ∀ q : Nat, q < H.size → q < G.2.2.1 → H1[q]? = H[q]?) (h : xw_F G u H) : xw_F G U H1 := by
  obtain ⟨h1, h2, h3, h4, h5, h6, h7⟩ := h
  have hk : ∀ a : Nat, a < H.size → ¬ xw_g G a → H1[a]? = H[a]? := fun a ha hn => hq a ha (Nat.not_le.mp hn)
  refine ⟨?_, h2, fun C hC => va_AO.moved hW.alike (h3 C hC), fun q hq => va_Nw.warmM hW (h4 q hq), fun q hq => vk_R.warm hW (h5 q hq), va_Zq.moved hW.alike (h6.kept hk), va_Zq.moved hW.alike (h7.kept hk)⟩
  cases hz : G.2.2.1 with
  | zero => exact Nat.zero_le _
  | succ n =>
    have hn : n < H.size := by omega
    have h9 := hq n hn (by omega)
    rw [Array.getElem?_eq_getElem hn] at h9
    exact (Array.getElem?_eq_some_iff.mp h9).1
end
section
/-! THE JUDGEMENT xw: a frame of a method with the machine hidden. The heap is a function from addresses to cells; every cell of it lies at or above G's S0; all else of the machine's heap that is older than S0 stays. -/
abbrev xw_C : Type := (Nat × vp_A) ⊕ (Nat × List Value)
abbrev xw_A : Type := Nat → Option xw_C
def xw_up (h : xw_A) (a : Nat) (e : xw_C) : xw_A := fun q => if q = a then some e else h q
theorem xw_up_s (h : xw_A) (a : Nat) (e : xw_C) : xw_up h a e a = some e := by simp [xw_up]
theorem xw_up_n (h : xw_A) {a b : Nat} (e : xw_C) (n : b ≠ a) : xw_up h a e b = h b := by simp [xw_up, n]
/-- the types of arrays, by number: 6 + i is an array of objects of class i -/
def xw_ty (c : Nat) : FieldType := match c with
  | 0 => .int
  | 1 => .char
  | 2 => .long
  | 3 => .double
  | 4 => .boolean
  | 5 => .byte
  | n + 6 => .object ((vwCl[n]?.map (fun r => r.1)).getD "")
theorem xw_ty_o {ci : Nat} (h : ci < vwCl.length) : xw_ty (ci + 6) = .object (xw_cl ci).1 := by
  show FieldType.object _ = FieldType.object _
  rw [List.getElem?_eq_getElem h]
  simp only [xw_cl, List.getD_eq_getElem?_getD, List.getElem?_eq_getElem h, Option.getD_some, Option.map_some]
/-- the machine's heap holds the abstract one -/
def xw_H (G : xw_G) (h : xw_A) (s : State) (H : Heap) : Prop :=
  ∃ (ws : va_W) (tys : List (ClassId × FieldType)), va_P G.2.1 vwCl ws H ∧ va_K G.2.1 vwCl tys s ∧ va_D (xw_g G) ws ∧
    (∀ (a c : Nat) (x : vp_A), h a = some (.inl (c, x)) → ∃ (k t : Nat) (cA : ClassId), ws[k]? = some (a, .inl (cA, x)) ∧ tys[t]? = some (cA, xw_ty c)) ∧
    (∀ (a ci : Nat) (fs : List Value), h a = some (.inr (ci, fs)) → ∃ k : Nat, ws[k]? = some (a, .inr (ci, fs)))
theorem xw_H.moved {G : xw_G} {h : xw_A} {u U : State} {H : Heap} (hvm : u.vm.Alike U.vm) (q : xw_H G h u H) : xw_H G h U H := by
  obtain ⟨ws, tys, a, b, c, d, e⟩ := q
  exact ⟨ws, tys, a, va_K.moved hvm b, c, d, e⟩
theorem xw_H.lt {G : xw_G} {h : xw_A} {s : State} {H : Heap} (q : xw_H G h s H) {a : Nat} {e : xw_C} (ha : h a = some e) : a < H.size := by
  obtain ⟨ws, tys, hP, hK, hD, hA, hO⟩ := q
  rcases e with ⟨c, x⟩ | ⟨ci, fs⟩
  · obtain ⟨k, t, cA, h1, -⟩ := hA a c x ha
    exact (hP k _ h1).lt
  · obtain ⟨k, h1⟩ := hO a ci fs ha
    exact (hP k _ h1).lt
/-- one cell has changed -/
theorem xw_H.set {G : xw_G} {h : xw_A} {s : State} {H1 : Heap} {ws : va_W} {tys : List (ClassId × FieldType)} {k a : Nat} {e0 e1 : va_E} {e : xw_C} (hk : ws[k]? = some (a, e0))
    (hP : va_P G.2.1 vwCl (ws.set k (a, e1)) H1) (hK : va_K G.2.1 vwCl tys s) (hD : va_D (xw_g G) (ws.set k (a, e1)))
    (hA : ∀ (a c : Nat) (x : vp_A), h a = some (.inl (c, x)) → ∃ (k t : Nat) (cA : ClassId), ws[k]? = some (a, .inl (cA, x)) ∧ tys[t]? = some (cA, xw_ty c))
    (hO : ∀ (a ci : Nat) (fs : List Value), h a = some (.inr (ci, fs)) → ∃ k : Nat, ws[k]? = some (a, .inr (ci, fs)))
    (he : (∃ (c t : Nat) (cA : ClassId) (x : vp_A), e = .inl (c, x) ∧ e1 = .inl (cA, x) ∧ tys[t]? = some (cA, xw_ty c)) ∨ ∃ (ci : Nat) (fs : List Value), e = .inr (ci, fs) ∧ e1 = .inr (ci, fs)) : xw_H G (xw_up h a e) s H1 := by
  have hl := (List.getElem?_eq_some_iff.mp hk).1
  have hself : (ws.set k (a, e1))[k]? = some (a, e1) := List.getElem?_set_self hl
  have other : ∀ (j b : Nat) (y : va_E), b ≠ a → ws[j]? = some (b, y) → (ws.set k (a, e1))[j]? = some (b, y) := by
    intro j b y hb hj
    by_cases hjk : j = k
    · subst hjk
      rw [hk] at hj
      cases hj
      exact absurd rfl hb
    · rw [List.getElem?_set_ne (Ne.symm hjk)]
      exact hj
  refine ⟨_, tys, hP, hK, hD, fun b c x hb => ?_, fun b ci fs hb => ?_⟩
  · by_cases hba : b = a
    · subst hba
      rw [xw_up_s] at hb
      rcases he with ⟨c', t, cA, x', q1, q2, q3⟩ | ⟨ci, fs, q1, -⟩
      · rw [q1] at hb
        cases hb
        exact ⟨k, t, cA, by rw [hself, q2], q3⟩
      · rw [q1] at hb
        cases hb
    · rw [xw_up_n _ _ hba] at hb
      obtain ⟨j, t, cA, q1, q2⟩ := hA b c x hb
      exact ⟨j, t, cA, other j b _ hba q1, q2⟩
  · by_cases hba : b = a
    · subst hba
      rw [xw_up_s] at hb
      rcases he with ⟨c', t, cA, x', q1, -⟩ | ⟨ci', fs', q1, q2⟩
      · rw [q1] at hb
        cases hb
      · rw [q1] at hb
        cases hb
        exact ⟨k, by rw [hself, q2]⟩
    · rw [xw_up_n _ _ hba] at hb
      obtain ⟨j, q1⟩ := hO b ci fs hb
      exact ⟨j, other j b _ hba q1⟩
/-- one cell has come -/
theorem xw_H.push {G : xw_G} {h : xw_A} {s : State} {H1 : Heap} {ws : va_W} {tys tys1 : List (ClassId × FieldType)} {a : Nat} {e1 : va_E} {e : xw_C}
    (hP : va_P G.2.1 vwCl (ws ++ [(a, e1)]) H1) (hK : va_K G.2.1 vwCl (tys ++ tys1) s) (hD : va_D (xw_g G) (ws ++ [(a, e1)])) (hn : h a = none)
    (hA : ∀ (a c : Nat) (x : vp_A), h a = some (.inl (c, x)) → ∃ (k t : Nat) (cA : ClassId), ws[k]? = some (a, .inl (cA, x)) ∧ tys[t]? = some (cA, xw_ty c))
    (hO : ∀ (a ci : Nat) (fs : List Value), h a = some (.inr (ci, fs)) → ∃ k : Nat, ws[k]? = some (a, .inr (ci, fs)))
    (he : (∃ (c t : Nat) (cA : ClassId) (x : vp_A), e = .inl (c, x) ∧ e1 = .inl (cA, x) ∧ (tys ++ tys1)[t]? = some (cA, xw_ty c)) ∨ ∃ (ci : Nat) (fs : List Value), e = .inr (ci, fs) ∧ e1 = .inr (ci, fs)) : xw_H G (xw_up h a e) s H1 := by
  have hself : (ws ++ [(a, e1)])[ws.length]? = some (a, e1) := by simp
  have other : ∀ (j b : Nat) (y : va_E), ws[j]? = some (b, y) → (ws ++ [(a, e1)])[j]? = some (b, y) := by
    intro j b y hj
    rw [List.getElem?_append_left (List.getElem?_eq_some_iff.mp hj).1]
    exact hj
  have othert : ∀ (j : Nat) (y : ClassId × FieldType), tys[j]? = some y → (tys ++ tys1)[j]? = some y := by
    intro j y hj
    rw [List.getElem?_append_left (List.getElem?_eq_some_iff.mp hj).1]
    exact hj
  refine ⟨_, _, hP, hK, hD, fun b c x hb => ?_, fun b ci fs hb => ?_⟩
  · by_cases hba : b = a
    · subst hba
      rw [xw_up_s] at hb
      rcases he with ⟨c', t, cA, x', q1, q2, q3⟩ | ⟨ci, fs, q1, -⟩
      · rw [q1] at hb
        cases hb
        exact ⟨_, t, cA, by rw [hself, q2], q3⟩
      · rw [q1] at hb
        cases hb
    · rw [xw_up_n _ _ hba] at hb
      obtain ⟨j, t, cA, q1, q2⟩ := hA b c x hb
      exact ⟨j, t, cA, other j b _ q1, othert t _ q2⟩
  · by_cases hba : b = a
    · subst hba
      rw [xw_up_s] at hb
      rcases he with ⟨c', t, cA, x', q1, -⟩ | ⟨ci', fs', q1, q2⟩
      · rw [q1] at hb
        cases hb
      · rw [q1] at hb
        cases hb
        exact ⟨_, by rw [hself, q2]⟩
    · rw [xw_up_n _ _ hba] at hb
      obtain ⟨j, q1⟩ := hO b ci fs hb
      exact ⟨j, other j b _ q1⟩
/-- what holds of the machine at every step of the method -/
def xw_K (G : xw_G) (M : xw_M) (p : Program) (s : State) (m : MethodId) (args : Array Value) (meth : Method) (c : Code) : Prop :=
  p.tables.exec = Jvm.exec ∧ c.code = M.2.1 ∧ meth.sig.returnType = M.2.2.2.1 ∧ c.maxLocals = M.2.2.1 ∧ s.vm.findClass M.1.cls = some m.cls ∧ (∀ w ∈ xw_tbl, w.before args s = true) ∧ meth.locks = false ∧ c.exceptionTable.toList = tableOf M.2.2.2.2 ∧ meth.name = M.1.name ∧ xw_F G s s.heap
/-- the locals, by place; none: not known -/
def xw_L (ls : Array Slot) (nL : Nat) (lv : List (Option Value)) : Prop := ls.size = nL ∧ lv_wf ls ∧ ∀ (i : Nat) (v : Value), lv[i]? = some (some v) → ls[i]? = some (.val v)
def xw_Q (G : xw_G) (pr : Option Value → xw_A → Prop) : Array Value → State → Outcome → State → Prop := fun _ st oc t =>
  (∃ (v : Option Value) (h1 : xw_A), oc = .returned v ∧ pr v h1 ∧ xw_H G h1 t t.heap) ∧ va_F (xw_g G) st t
/-- the method has thrown q -/
def xw_X (G : xw_G) (px : String → xw_A → Prop) (st : State) (q : Addr) (t : State) (mc ms : Nat) : Prop :=
  ∃ (E : String) (ce : Cell) (LL : List Loc) (h1 : xw_A), px E h1 ∧ xw_H G h1 t t.heap ∧ va_F (xw_g G) st t ∧ t.heap[q]? = some ce ∧ ce.vm = .none ∧ st.vm.findClass E = some ce.cls ∧ st.WarmedH t.vm ∧ st.sameButNew ({ t with vm := st.vm } : State) LL mc ms ∧ ∀ z ∈ LL, xw_g G z.base
/-- what a method owes at its end -/
def xw_E (G : xw_G) (pr : Option Value → xw_A → Prop) (px : String → xw_A → Prop) (mc ms : Nat) (a : Array Value) (st : State) (o : Outcome) (t : State) : Prop :=
  (xw_Q G pr a st o t ∧ ∃ LL, FrameEnd st o t LL mc ms ∧ ∀ q ∈ LL, xw_g G q.base) ∨ ∃ q, o = .threw q ∧ xw_X G px st q t mc ms
def xw_Z (G : xw_G) (pr : Option Value → xw_A → Prop) (px : String → xw_A → Prop) (below : List Frame) (a : Array Value) (s : State) (mc ms : Nat) : State → Prop := fun t => ∃ o, t.status = .running ∧ Ended t below o ∧ xw_E G pr px mc ms a s o t
theorem xw_ret {p : Program} {l : Launch} {e : Env} {R : Room} {s : State} {m : MethodId} {args : Array Value} {below : List Frame} {meth : Method} {c : Code} {H : Heap} {locs : List Loc} {cells slots : Nat} {G : xw_G} {pr : Option Value → xw_A → Prop} {px : String → xw_A → Prop} {g : JFrame} {mc ms : Nat} (k : W p l e R s m args below meth c H locs cells slots (MQ below (xw_Q G pr) args s mc ms (xw_g G)) g) : W p l e R s m args below meth c H locs cells slots (xw_Z G pr px below args s mc ms) g := by
  intro T hT X
  obtain ⟨t, a1, o, b1, b2, b3, b4⟩ := k T hT X
  exact ⟨t, a1, o, b1, b2, Or.inl ⟨b3, b4⟩⟩
/-- from this frame of M, with F frames and L words of locals left, bc cells and bs slots to make, the method comes to its end: it returns with pr, or throws with px -/
def xw (G : xw_G) (M : xw_M) (F L bc bs : Nat) (pr : Option Value → xw_A → Prop) (px : String → xw_A → Prop) (pc : Nat) (lv : List (Option Value)) (st : List Value) (h : xw_A) : Prop :=
  ∀ (p : Program) (e : Env) (R : Room) (s : State) (m : MethodId) (args : Array Value) (below : List Frame) (meth : Method) (c : Code) (H : Heap) (locs : List Loc) (cells slots : Nat) (ls : Array Slot),
    xw_K G M p s m args meth c → (F ≤ R.frames ∧ L ≤ R.locals) → (cells + bc ≤ R.cells ∧ slots + bs ≤ R.slots) → xw_H G h s H → va_S (xw_g G) s.heap H locs → xw_L ls M.2.2.1 lv →
    W p G.1 e R s m args below meth c H locs cells slots (xw_Z G pr px below args s R.cells R.slots) (F0 m pc ls st)

/-! locals -/
def xw_prs : Nat → List (Option Value) → List (Nat × Value)
  | _, [] => []
  | k, none :: t => xw_prs (k + 1) t
  | k, some v :: t => (k, v) :: xw_prs (k + 1) t
theorem xw_prs_in : ∀ (lv : List (Option Value)) (k j : Nat) (v : Value), (j, v) ∈ xw_prs k lv ↔ ∃ i, j = k + i ∧ lv[i]? = some (some v)
  | [], k, j, v => by simp [xw_prs]
  | none :: t, k, j, v => by
    rw [xw_prs, xw_prs_in t (k + 1) j v]
    constructor
    · rintro ⟨i, h1, h2⟩
      exact ⟨i + 1, by omega, by simpa using h2⟩
    · rintro ⟨i, h1, h2⟩
      cases i with
      | zero => simp at h2
      | succ i => exact ⟨i, by omega, by simpa using h2⟩
  | some w :: t, k, j, v => by
    rw [xw_prs, List.mem_cons, xw_prs_in t (k + 1) j v]
    constructor
    · rintro (h | ⟨i, h1, h2⟩)
      · cases h
        exact ⟨0, by omega, by simp⟩
      · exact ⟨i + 1, by omega, by simpa using h2⟩
    · rintro ⟨i, h1, h2⟩
      cases i with
      | zero =>
        left
        simp at h2
        rw [h1, h2]
        rfl
      | succ i => exact Or.inr ⟨i, by omega, by simpa using h2⟩
theorem xw_L.has {ls : Array Slot} {nL : Nat} {lv : List (Option Value)} (h : xw_L ls nL lv) : lv_has ls nL (xw_prs 0 lv) :=
  ⟨h.1, h.2.1, fun q hq => by
    obtain ⟨i, h1, h2⟩ := (xw_prs_in lv 0 q.1 q.2).mp hq
    rw [h1, Nat.zero_add]
    exact h.2.2 i q.2 h2⟩
/-- no value of two places ends just before place i -/
def xw_o (lv : List (Option Value)) : Nat → Prop
  | 0 => True
  | i + 1 => match lv[i]? with
    | some (some w) => w.category = 1
    | _ => True
theorem xw_o.not {lv : List (Option Value)} {i j : Nat} {w : Value} (h : xw_o lv i) (hj : lv[j]? = some (some w)) (hi : j + 1 = i) : w.category = 1 := by
  subst hi
  simpa [xw_o, hj] using h
theorem xw_L.st1 {ls : Array Slot} {nL : Nat} {lv : List (Option Value)} {i : Nat} {v : Value} (ho : xw_o lv i) (h : lv_has ls nL ((i, v) :: (xw_prs 0 lv).filter (fun q => !(q.1 == i) && !(q.1 + 1 == i && q.2.category == 2)))) : xw_L ls nL (lv.set i (some v)) := by
  refine ⟨h.1, h.2.1, fun j w hj => ?_⟩
  by_cases hji : j = i
  · subst hji
    have hl : j < lv.length := by
      have := (List.getElem?_eq_some_iff.mp hj).1
      simpa using this
    rw [List.getElem?_set_self hl] at hj
    cases hj
    exact h.2.2 (j, v) List.mem_cons_self
  · rw [List.getElem?_set_ne (Ne.symm hji)] at hj
    refine h.2.2 (j, w) (List.mem_cons_of_mem _ (List.mem_filter.mpr ⟨(xw_prs_in lv 0 j w).mpr ⟨j, by omega, hj⟩, ?_⟩))
    by_cases h1 : j + 1 = i
    · have := ho.not hj h1
      simp [hji, this]
    · simp [hji, h1]
theorem xw_L.st2 {ls : Array Slot} {nL : Nat} {lv : List (Option Value)} {i : Nat} {v : Value} (ho : xw_o lv i) (h : lv_has ls nL ((i, v) :: (xw_prs 0 lv).filter (fun q => !(q.1 == i) && (!(q.1 == i + 1) && !(q.1 + 1 == i && q.2.category == 2))))) : xw_L ls nL ((lv.set i (some v)).set (i + 1) none) := by
  refine ⟨h.1, h.2.1, fun j w hj => ?_⟩
  by_cases hj1 : j = i + 1
  · subst hj1
    by_cases hl : i + 1 < (lv.set i (some v)).length
    · rw [List.getElem?_set_self hl] at hj
      cases hj
    · have := (List.getElem?_eq_some_iff.mp hj).1
      simp at this hl
      omega
  · rw [List.getElem?_set_ne (Ne.symm hj1)] at hj
    by_cases hji : j = i
    · subst hji
      have hl : j < lv.length := by
        have := (List.getElem?_eq_some_iff.mp hj).1
        simpa using this
      rw [List.getElem?_set_self hl] at hj
      cases hj
      exact h.2.2 (j, v) List.mem_cons_self
    · rw [List.getElem?_set_ne (Ne.symm hji)] at hj
      refine h.2.2 (j, w) (List.mem_cons_of_mem _ (List.mem_filter.mpr ⟨(xw_prs_in lv 0 j w).mpr ⟨j, by omega, hj⟩, ?_⟩))
      by_cases h1 : j + 1 = i
      · have := ho.not hj h1
        simp [hji, hj1, this]
      · simp [hji, h1, hj1]
/-- fewer known -/
theorem xw_L.fewer {ls : Array Slot} {nL : Nat} {lv lv' : List (Option Value)} (h : xw_L ls nL lv) (hs : ∀ (i : Nat) (v : Value), lv'[i]? = some (some v) → lv[i]? = some (some v)) : xw_L ls nL lv' := ⟨h.1, h.2.1, fun i v hi => h.2.2 i v (hs i v hi)⟩
section Rows
variable {G : xw_G} {M : xw_M} {F L bc bs : Nat} {pr : Option Value → xw_A → Prop} {px : String → xw_A → Prop} {pc : Nat} {lv : List (Option Value)} {rest st : List Value} {h : xw_A}
theorem x_fewer {lv' : List (Option Value)} (hs : ∀ (i : Nat) (v : Value), lv'[i]? = some (some v) → lv[i]? = some (some v)) (k : xw G M F L bc bs pr px pc lv' st h) : xw G M F L bc bs pr px pc lv st h :=
  fun p e R s m args below meth c H locs cells slots ls C hR hB hH hS hl => k p e R s m args below meth c H locs cells slots ls C hR hB hH hS (hl.fewer hs)
/-- less room asked -/
theorem x_room {F' L' bc' bs' : Nat} (h1 : F' ≤ F) (h2 : L' ≤ L) (h3 : bc' ≤ bc) (h4 : bs' ≤ bs) (k : xw G M F' L' bc' bs' pr px pc lv st h) : xw G M F L bc bs pr px pc lv st h :=
  fun p e R s m args below meth c H locs cells slots ls C hR hB hH hS hl => k p e R s m args below meth c H locs cells slots ls C ⟨Nat.le_trans h1 hR.1, Nat.le_trans h2 hR.2⟩ ⟨Nat.le_trans (Nat.add_le_add_left h3 _) hB.1, Nat.le_trans (Nat.add_le_add_left h4 _) hB.2⟩ hH hS hl
theorem x_iconst {n : Int} {v : Int32} (d : decode M.2.1 pc = .ok (.iconst n, 1)) (hv : Int32.ofInt n = v) (k : xw G M F L bc bs pr px (pc + 1) lv (.int v :: rest) h) : xw G M F L bc bs pr px pc lv rest h :=
  fun p e R s m args below meth c H locs cells slots ls C hR hB hH hS hl => lv_iconst C.1 C.2.1 d hv (k p e R s m args below meth c H locs cells slots ls C hR hB hH hS hl)
theorem x_bipush {n : Int} {v : Int32} (d : decode M.2.1 pc = .ok (.bipush n, 2)) (hv : (Int8.ofInt n).toInt32 = v) (k : xw G M F L bc bs pr px (pc + 2) lv (.int v :: rest) h) : xw G M F L bc bs pr px pc lv rest h :=
  fun p e R s m args below meth c H locs cells slots ls C hR hB hH hS hl => lv_bipush C.1 C.2.1 d hv (k p e R s m args below meth c H locs cells slots ls C hR hB hH hS hl)
theorem x_sipush {n : Int} {v : Int32} (d : decode M.2.1 pc = .ok (.sipush n, 3)) (hv : (Int16.ofInt n).toInt32 = v) (k : xw G M F L bc bs pr px (pc + 3) lv (.int v :: rest) h) : xw G M F L bc bs pr px pc lv rest h :=
  fun p e R s m args below meth c H locs cells slots ls C hR hB hH hS hl => lv_sipush C.1 C.2.1 d hv (k p e R s m args below meth c H locs cells slots ls C hR hB hH hS hl)
theorem x_lconst {n : Fin 2} {v : Int64} (d : decode M.2.1 pc = .ok (.lconst n, 1)) (hv : Int64.ofNat (n : Nat) = v) (k : xw G M F L bc bs pr px (pc + 1) lv (.long v :: rest) h) : xw G M F L bc bs pr px pc lv rest h :=
  fun p e R s m args below meth c H locs cells slots ls C hR hB hH hS hl => lv_lconst C.1 C.2.1 d hv (k p e R s m args below meth c H locs cells slots ls C hR hB hH hS hl)
theorem x_dconst0  (d : decode M.2.1 pc = .ok (.dconst 0, 1))  (k : xw G M F L bc bs pr px (pc + 1) lv (.double FP.dconst0 :: rest) h) : xw G M F L bc bs pr px pc lv rest h :=
  fun p e R s m args below meth c H locs cells slots ls C hR hB hH hS hl => lv_dconst0 C.1 C.2.1 d  (k p e R s m args below meth c H locs cells slots ls C hR hB hH hS hl)
theorem x_dconst1  (d : decode M.2.1 pc = .ok (.dconst 1, 1))  (k : xw G M F L bc bs pr px (pc + 1) lv (.double FP.dconst1 :: rest) h) : xw G M F L bc bs pr px pc lv rest h :=
  fun p e R s m args below meth c H locs cells slots ls C hR hB hH hS hl => lv_dconst1 C.1 C.2.1 d  (k p e R s m args below meth c H locs cells slots ls C hR hB hH hS hl)
theorem x_null  (d : decode M.2.1 pc = .ok (.aconst_null, 1))  (k : xw G M F L bc bs pr px (pc + 1) lv (.null :: rest) h) : xw G M F L bc bs pr px pc lv rest h :=
  fun p e R s m args below meth c H locs cells slots ls C hR hB hH hS hl => lv_null C.1 C.2.1 d  (k p e R s m args below meth c H locs cells slots ls C hR hB hH hS hl)
theorem x_iload_n {k4 : Fin 4} {i : Nat} {x : Int32} (d : decode M.2.1 pc = .ok (.iload_n k4, 1)) (hi : (k4 : Nat) = i) (hv : lv[i]? = some (some (.int x))) (k : xw G M F L bc bs pr px (pc + 1) lv (.int x :: rest) h) : xw G M F L bc bs pr px pc lv rest h :=
  fun p e R s m args below meth c H locs cells slots ls C hR hB hH hS hl => lv_iload_n C.1 C.2.1 d hi (hl.2.2 i _ hv) (k p e R s m args below meth c H locs cells slots ls C hR hB hH hS hl)
theorem x_iload {i : Nat} {x : Int32} (d : decode M.2.1 pc = .ok (.iload i, 2)) (hv : lv[i]? = some (some (.int x))) (k : xw G M F L bc bs pr px (pc + 2) lv (.int x :: rest) h) : xw G M F L bc bs pr px pc lv rest h :=
  fun p e R s m args below meth c H locs cells slots ls C hR hB hH hS hl => lv_iload C.1 C.2.1 d (hl.2.2 i _ hv) (k p e R s m args below meth c H locs cells slots ls C hR hB hH hS hl)
theorem x_lload_n {k4 : Fin 4} {i : Nat} {x : Int64} (d : decode M.2.1 pc = .ok (.lload_n k4, 1)) (hi : (k4 : Nat) = i) (hv : lv[i]? = some (some (.long x))) (k : xw G M F L bc bs pr px (pc + 1) lv (.long x :: rest) h) : xw G M F L bc bs pr px pc lv rest h :=
  fun p e R s m args below meth c H locs cells slots ls C hR hB hH hS hl => lv_lload_n C.1 C.2.1 d hi (hl.2.2 i _ hv) (k p e R s m args below meth c H locs cells slots ls C hR hB hH hS hl)
theorem x_lload {i : Nat} {x : Int64} (d : decode M.2.1 pc = .ok (.lload i, 2)) (hv : lv[i]? = some (some (.long x))) (k : xw G M F L bc bs pr px (pc + 2) lv (.long x :: rest) h) : xw G M F L bc bs pr px pc lv rest h :=
  fun p e R s m args below meth c H locs cells slots ls C hR hB hH hS hl => lv_lload C.1 C.2.1 d (hl.2.2 i _ hv) (k p e R s m args below meth c H locs cells slots ls C hR hB hH hS hl)
theorem x_aload_n {k4 : Fin 4} {i : Nat} {x : Nat} (d : decode M.2.1 pc = .ok (.aload_n k4, 1)) (hi : (k4 : Nat) = i) (hv : lv[i]? = some (some (.ref x))) (k : xw G M F L bc bs pr px (pc + 1) lv (.ref x :: rest) h) : xw G M F L bc bs pr px pc lv rest h :=
  fun p e R s m args below meth c H locs cells slots ls C hR hB hH hS hl => lv_aload_n C.1 C.2.1 d hi (hl.2.2 i _ hv) (k p e R s m args below meth c H locs cells slots ls C hR hB hH hS hl)
theorem x_aload {i : Nat} {x : Nat} (d : decode M.2.1 pc = .ok (.aload i, 2)) (hv : lv[i]? = some (some (.ref x))) (k : xw G M F L bc bs pr px (pc + 2) lv (.ref x :: rest) h) : xw G M F L bc bs pr px pc lv rest h :=
  fun p e R s m args below meth c H locs cells slots ls C hR hB hH hS hl => lv_aload C.1 C.2.1 d (hl.2.2 i _ hv) (k p e R s m args below meth c H locs cells slots ls C hR hB hH hS hl)
theorem x_dload_n {k4 : Fin 4} {i : Nat} {x : UInt64} (d : decode M.2.1 pc = .ok (.dload_n k4, 1)) (hi : (k4 : Nat) = i) (hv : lv[i]? = some (some (.double x))) (k : xw G M F L bc bs pr px (pc + 1) lv (.double x :: rest) h) : xw G M F L bc bs pr px pc lv rest h :=
  fun p e R s m args below meth c H locs cells slots ls C hR hB hH hS hl => lv_dload_n C.1 C.2.1 d hi (hl.2.2 i _ hv) (k p e R s m args below meth c H locs cells slots ls C hR hB hH hS hl)
theorem x_dload {i : Nat} {x : UInt64} (d : decode M.2.1 pc = .ok (.dload i, 2)) (hv : lv[i]? = some (some (.double x))) (k : xw G M F L bc bs pr px (pc + 2) lv (.double x :: rest) h) : xw G M F L bc bs pr px pc lv rest h :=
  fun p e R s m args below meth c H locs cells slots ls C hR hB hH hS hl => lv_dload C.1 C.2.1 d (hl.2.2 i _ hv) (k p e R s m args below meth c H locs cells slots ls C hR hB hH hS hl)
theorem x_istore_n {k4 : Fin 4} {i : Nat} {x : Int32} (d : decode M.2.1 pc = .ok (.istore_n k4, 1)) (hi : (k4 : Nat) = i) (hn : i < M.2.2.1) (ho : xw_o lv i) (k : xw G M F L bc bs pr px (pc + 1) (lv.set i (some (.int x))) rest h) : xw G M F L bc bs pr px pc lv (.int x :: rest) h :=
  fun p e R s m args below meth c H locs cells slots ls C hR hB hH hS hl => lv_istore_n C.1 C.2.1 d hi hl.has hn rfl (fun ls2 h2 => k p e R s m args below meth c H locs cells slots ls2 C hR hB hH hS (xw_L.st1 ho h2))
theorem x_istore {i : Nat} {x : Int32} (d : decode M.2.1 pc = .ok (.istore i, 2)) (hn : i < M.2.2.1) (ho : xw_o lv i) (k : xw G M F L bc bs pr px (pc + 2) (lv.set i (some (.int x))) rest h) : xw G M F L bc bs pr px pc lv (.int x :: rest) h :=
  fun p e R s m args below meth c H locs cells slots ls C hR hB hH hS hl => lv_istore C.1 C.2.1 d hl.has hn rfl (fun ls2 h2 => k p e R s m args below meth c H locs cells slots ls2 C hR hB hH hS (xw_L.st1 ho h2))
theorem x_lstore_n {k4 : Fin 4} {i : Nat} {x : Int64} (d : decode M.2.1 pc = .ok (.lstore_n k4, 1)) (hi : (k4 : Nat) = i) (hn : i + 1 < M.2.2.1) (ho : xw_o lv i) (k : xw G M F L bc bs pr px (pc + 1) ((lv.set i (some (.long x))).set (i + 1) none) rest h) : xw G M F L bc bs pr px pc lv (.long x :: rest) h :=
  fun p e R s m args below meth c H locs cells slots ls C hR hB hH hS hl => lv_lstore_n C.1 C.2.1 d hi hl.has hn rfl (fun ls2 h2 => k p e R s m args below meth c H locs cells slots ls2 C hR hB hH hS (xw_L.st2 ho h2))
theorem x_lstore {i : Nat} {x : Int64} (d : decode M.2.1 pc = .ok (.lstore i, 2)) (hn : i + 1 < M.2.2.1) (ho : xw_o lv i) (k : xw G M F L bc bs pr px (pc + 2) ((lv.set i (some (.long x))).set (i + 1) none) rest h) : xw G M F L bc bs pr px pc lv (.long x :: rest) h :=
  fun p e R s m args below meth c H locs cells slots ls C hR hB hH hS hl => lv_lstore C.1 C.2.1 d hl.has hn rfl (fun ls2 h2 => k p e R s m args below meth c H locs cells slots ls2 C hR hB hH hS (xw_L.st2 ho h2))
theorem x_astore_n {k4 : Fin 4} {i : Nat} {x : Nat} (d : decode M.2.1 pc = .ok (.astore_n k4, 1)) (hi : (k4 : Nat) = i) (hn : i < M.2.2.1) (ho : xw_o lv i) (k : xw G M F L bc bs pr px (pc + 1) (lv.set i (some (.ref x))) rest h) : xw G M F L bc bs pr px pc lv (.ref x :: rest) h :=
  fun p e R s m args below meth c H locs cells slots ls C hR hB hH hS hl => lv_astore_n C.1 C.2.1 d hi hl.has hn rfl (fun ls2 h2 => k p e R s m args below meth c H locs cells slots ls2 C hR hB hH hS (xw_L.st1 ho h2))
theorem x_astore {i : Nat} {x : Nat} (d : decode M.2.1 pc = .ok (.astore i, 2)) (hn : i < M.2.2.1) (ho : xw_o lv i) (k : xw G M F L bc bs pr px (pc + 2) (lv.set i (some (.ref x))) rest h) : xw G M F L bc bs pr px pc lv (.ref x :: rest) h :=
  fun p e R s m args below meth c H locs cells slots ls C hR hB hH hS hl => lv_astore C.1 C.2.1 d hl.has hn rfl (fun ls2 h2 => k p e R s m args below meth c H locs cells slots ls2 C hR hB hH hS (xw_L.st1 ho h2))
theorem x_dstore_n {k4 : Fin 4} {i : Nat} {x : UInt64} (d : decode M.2.1 pc = .ok (.dstore_n k4, 1)) (hi : (k4 : Nat) = i) (hn : i + 1 < M.2.2.1) (ho : xw_o lv i) (k : xw G M F L bc bs pr px (pc + 1) ((lv.set i (some (.double x))).set (i + 1) none) rest h) : xw G M F L bc bs pr px pc lv (.double x :: rest) h :=
  fun p e R s m args below meth c H locs cells slots ls C hR hB hH hS hl => lv_dstore_n C.1 C.2.1 d hi hl.has hn rfl (fun ls2 h2 => k p e R s m args below meth c H locs cells slots ls2 C hR hB hH hS (xw_L.st2 ho h2))
theorem x_dstore {i : Nat} {x : UInt64} (d : decode M.2.1 pc = .ok (.dstore i, 2)) (hn : i + 1 < M.2.2.1) (ho : xw_o lv i) (k : xw G M F L bc bs pr px (pc + 2) ((lv.set i (some (.double x))).set (i + 1) none) rest h) : xw G M F L bc bs pr px pc lv (.double x :: rest) h :=
  fun p e R s m args below meth c H locs cells slots ls C hR hB hH hS hl => lv_dstore C.1 C.2.1 d hl.has hn rfl (fun ls2 h2 => k p e R s m args below meth c H locs cells slots ls2 C hR hB hH hS (xw_L.st2 ho h2))
theorem x_iinc {i : Nat} {n : Int} {x v : Int32} (d : decode M.2.1 pc = .ok (.iinc i n, 3)) (hv : lv[i]? = some (some (.int x))) (he : x + Int32.ofInt n = v) (hn : i < M.2.2.1) (ho : xw_o lv i) (k : xw G M F L bc bs pr px (pc + 3) (lv.set i (some (.int v))) rest h) : xw G M F L bc bs pr px pc lv rest h :=
  fun p e R s m args below meth c H locs cells slots ls C hR hB hH hS hl => by
    obtain ⟨j, hj⟩ := List.getElem?_of_mem ((xw_prs_in lv 0 i (.int x)).mpr ⟨i, by omega, hv⟩)
    exact lv_iinc C.1 C.2.1 d hl.has hj he hn rfl (fun ls2 h2 => k p e R s m args below meth c H locs cells slots ls2 C hR hB hH hS (xw_L.st1 ho h2))
theorem x_iadd {x y : Int32} (d : decode M.2.1 pc = .ok (.iadd, 1))  (k : xw G M F L bc bs pr px (pc + 1) lv (.int (x + y) :: rest) h) : xw G M F L bc bs pr px pc lv (.int y :: .int x :: rest) h :=
  fun p e R s m args below meth c H locs cells slots ls C hR hB hH hS hl => lv_iadd C.1 C.2.1 d  (k p e R s m args below meth c H locs cells slots ls C hR hB hH hS hl)
theorem x_isub {x y : Int32} (d : decode M.2.1 pc = .ok (.isub, 1))  (k : xw G M F L bc bs pr px (pc + 1) lv (.int (x - y) :: rest) h) : xw G M F L bc bs pr px pc lv (.int y :: .int x :: rest) h :=
  fun p e R s m args below meth c H locs cells slots ls C hR hB hH hS hl => lv_isub C.1 C.2.1 d  (k p e R s m args below meth c H locs cells slots ls C hR hB hH hS hl)
theorem x_imul {x y : Int32} (d : decode M.2.1 pc = .ok (.imul, 1))  (k : xw G M F L bc bs pr px (pc + 1) lv (.int (x * y) :: rest) h) : xw G M F L bc bs pr px pc lv (.int y :: .int x :: rest) h :=
  fun p e R s m args below meth c H locs cells slots ls C hR hB hH hS hl => lv_imul C.1 C.2.1 d  (k p e R s m args below meth c H locs cells slots ls C hR hB hH hS hl)
theorem x_iand {x y : Int32} (d : decode M.2.1 pc = .ok (.iand, 1))  (k : xw G M F L bc bs pr px (pc + 1) lv (.int (x &&& y) :: rest) h) : xw G M F L bc bs pr px pc lv (.int y :: .int x :: rest) h :=
  fun p e R s m args below meth c H locs cells slots ls C hR hB hH hS hl => lv_iand C.1 C.2.1 d  (k p e R s m args below meth c H locs cells slots ls C hR hB hH hS hl)
theorem x_ior {x y : Int32} (d : decode M.2.1 pc = .ok (.ior, 1))  (k : xw G M F L bc bs pr px (pc + 1) lv (.int (x ||| y) :: rest) h) : xw G M F L bc bs pr px pc lv (.int y :: .int x :: rest) h :=
  fun p e R s m args below meth c H locs cells slots ls C hR hB hH hS hl => lv_ior C.1 C.2.1 d  (k p e R s m args below meth c H locs cells slots ls C hR hB hH hS hl)
theorem x_ixor {x y : Int32} (d : decode M.2.1 pc = .ok (.ixor, 1))  (k : xw G M F L bc bs pr px (pc + 1) lv (.int (x ^^^ y) :: rest) h) : xw G M F L bc bs pr px pc lv (.int y :: .int x :: rest) h :=
  fun p e R s m args below meth c H locs cells slots ls C hR hB hH hS hl => lv_ixor C.1 C.2.1 d  (k p e R s m args below meth c H locs cells slots ls C hR hB hH hS hl)
theorem x_ishl {x y : Int32} (d : decode M.2.1 pc = .ok (.ishl, 1))  (k : xw G M F L bc bs pr px (pc + 1) lv (.int (x <<< (y &&& 31)) :: rest) h) : xw G M F L bc bs pr px pc lv (.int y :: .int x :: rest) h :=
  fun p e R s m args below meth c H locs cells slots ls C hR hB hH hS hl => lv_ishl C.1 C.2.1 d  (k p e R s m args below meth c H locs cells slots ls C hR hB hH hS hl)
theorem x_ishr {x y : Int32} (d : decode M.2.1 pc = .ok (.ishr, 1))  (k : xw G M F L bc bs pr px (pc + 1) lv (.int (x >>> (y &&& 31)) :: rest) h) : xw G M F L bc bs pr px pc lv (.int y :: .int x :: rest) h :=
  fun p e R s m args below meth c H locs cells slots ls C hR hB hH hS hl => lv_ishr C.1 C.2.1 d  (k p e R s m args below meth c H locs cells slots ls C hR hB hH hS hl)
theorem x_idiv {x y : Int32} (d : decode M.2.1 pc = .ok (.idiv, 1)) (hne : ¬ y = 0) (k : xw G M F L bc bs pr px (pc + 1) lv (.int (x / y) :: rest) h) : xw G M F L bc bs pr px pc lv (.int y :: .int x :: rest) h :=
  fun p e R s m args below meth c H locs cells slots ls C hR hB hH hS hl => lv_idiv C.1 C.2.1 d hne (k p e R s m args below meth c H locs cells slots ls C hR hB hH hS hl)
theorem x_irem {x y : Int32} (d : decode M.2.1 pc = .ok (.irem, 1)) (hne : ¬ y = 0) (k : xw G M F L bc bs pr px (pc + 1) lv (.int (x - x / y * y) :: rest) h) : xw G M F L bc bs pr px pc lv (.int y :: .int x :: rest) h :=
  fun p e R s m args below meth c H locs cells slots ls C hR hB hH hS hl => lv_irem C.1 C.2.1 d hne (k p e R s m args below meth c H locs cells slots ls C hR hB hH hS hl)
theorem x_ineg {x : Int32} (d : decode M.2.1 pc = .ok (.ineg, 1))  (k : xw G M F L bc bs pr px (pc + 1) lv (.int (-x) :: rest) h) : xw G M F L bc bs pr px pc lv (.int x :: rest) h :=
  fun p e R s m args below meth c H locs cells slots ls C hR hB hH hS hl => lv_ineg C.1 C.2.1 d  (k p e R s m args below meth c H locs cells slots ls C hR hB hH hS hl)
theorem x_iushr {x y v : Int32} (d : decode M.2.1 pc = .ok (.iushr, 1)) (hv : (x.toUInt32 >>> (y.toUInt32 &&& Int32.toUInt32 31)).toInt32 = v) (k : xw G M F L bc bs pr px (pc + 1) lv (.int v :: rest) h) : xw G M F L bc bs pr px pc lv (.int y :: .int x :: rest) h :=
  fun p e R s m args below meth c H locs cells slots ls C hR hB hH hS hl => lv_iushr C.1 C.2.1 d hv (k p e R s m args below meth c H locs cells slots ls C hR hB hH hS hl)
theorem x_ladd {x y : Int64} (d : decode M.2.1 pc = .ok (.ladd, 1))  (k : xw G M F L bc bs pr px (pc + 1) lv (.long (x + y) :: rest) h) : xw G M F L bc bs pr px pc lv (.long y :: .long x :: rest) h :=
  fun p e R s m args below meth c H locs cells slots ls C hR hB hH hS hl => lv_ladd C.1 C.2.1 d  (k p e R s m args below meth c H locs cells slots ls C hR hB hH hS hl)
theorem x_lsub {x y : Int64} (d : decode M.2.1 pc = .ok (.lsub, 1))  (k : xw G M F L bc bs pr px (pc + 1) lv (.long (x - y) :: rest) h) : xw G M F L bc bs pr px pc lv (.long y :: .long x :: rest) h :=
  fun p e R s m args below meth c H locs cells slots ls C hR hB hH hS hl => lv_lsub C.1 C.2.1 d  (k p e R s m args below meth c H locs cells slots ls C hR hB hH hS hl)
theorem x_lmul {x y : Int64} (d : decode M.2.1 pc = .ok (.lmul, 1))  (k : xw G M F L bc bs pr px (pc + 1) lv (.long (x * y) :: rest) h) : xw G M F L bc bs pr px pc lv (.long y :: .long x :: rest) h :=
  fun p e R s m args below meth c H locs cells slots ls C hR hB hH hS hl => lv_lmul C.1 C.2.1 d  (k p e R s m args below meth c H locs cells slots ls C hR hB hH hS hl)
theorem x_land {x y : Int64} (d : decode M.2.1 pc = .ok (.land, 1))  (k : xw G M F L bc bs pr px (pc + 1) lv (.long (x &&& y) :: rest) h) : xw G M F L bc bs pr px pc lv (.long y :: .long x :: rest) h :=
  fun p e R s m args below meth c H locs cells slots ls C hR hB hH hS hl => lv_land C.1 C.2.1 d  (k p e R s m args below meth c H locs cells slots ls C hR hB hH hS hl)
theorem x_lor {x y : Int64} (d : decode M.2.1 pc = .ok (.lor, 1))  (k : xw G M F L bc bs pr px (pc + 1) lv (.long (x ||| y) :: rest) h) : xw G M F L bc bs pr px pc lv (.long y :: .long x :: rest) h :=
  fun p e R s m args below meth c H locs cells slots ls C hR hB hH hS hl => lv_lor C.1 C.2.1 d  (k p e R s m args below meth c H locs cells slots ls C hR hB hH hS hl)
theorem x_lxor {x y : Int64} (d : decode M.2.1 pc = .ok (.lxor, 1))  (k : xw G M F L bc bs pr px (pc + 1) lv (.long (x ^^^ y) :: rest) h) : xw G M F L bc bs pr px pc lv (.long y :: .long x :: rest) h :=
  fun p e R s m args below meth c H locs cells slots ls C hR hB hH hS hl => lv_lxor C.1 C.2.1 d  (k p e R s m args below meth c H locs cells slots ls C hR hB hH hS hl)
theorem x_lushr {x v : Int64} {y : Int32} (d : decode M.2.1 pc = .ok (.lushr, 1)) (hv : (x.toUInt64 >>> (y.toInt64.toUInt64 &&& Int64.toUInt64 63)).toInt64 = v) (k : xw G M F L bc bs pr px (pc + 1) lv (.long v :: rest) h) : xw G M F L bc bs pr px pc lv (.int y :: .long x :: rest) h :=
  fun p e R s m args below meth c H locs cells slots ls C hR hB hH hS hl => lv_lushr C.1 C.2.1 d hv (k p e R s m args below meth c H locs cells slots ls C hR hB hH hS hl)
theorem x_lshl {x v : Int64} {y : Int32} (d : decode M.2.1 pc = .ok (.lshl, 1)) (hv : x <<< (y.toInt64 &&& 63) = v) (k : xw G M F L bc bs pr px (pc + 1) lv (.long v :: rest) h) : xw G M F L bc bs pr px pc lv (.int y :: .long x :: rest) h :=
  fun p e R s m args below meth c H locs cells slots ls C hR hB hH hS hl => lv_lshl C.1 C.2.1 d hv (k p e R s m args below meth c H locs cells slots ls C hR hB hH hS hl)
theorem x_lshr {x v : Int64} {y : Int32} (d : decode M.2.1 pc = .ok (.lshr, 1)) (hv : x >>> (y.toInt64 &&& 63) = v) (k : xw G M F L bc bs pr px (pc + 1) lv (.long v :: rest) h) : xw G M F L bc bs pr px pc lv (.int y :: .long x :: rest) h :=
  fun p e R s m args below meth c H locs cells slots ls C hR hB hH hS hl => lv_lshr C.1 C.2.1 d hv (k p e R s m args below meth c H locs cells slots ls C hR hB hH hS hl)
theorem x_i2l {x : Int32} {v : Int64} (d : decode M.2.1 pc = .ok (.i2l, 1)) (hv : x.toInt64 = v) (k : xw G M F L bc bs pr px (pc + 1) lv (.long v :: rest) h) : xw G M F L bc bs pr px pc lv (.int x :: rest) h :=
  fun p e R s m args below meth c H locs cells slots ls C hR hB hH hS hl => lv_i2l C.1 C.2.1 d hv (k p e R s m args below meth c H locs cells slots ls C hR hB hH hS hl)
theorem x_l2i {x : Int64} {v : Int32} (d : decode M.2.1 pc = .ok (.l2i, 1)) (hv : x.toInt32 = v) (k : xw G M F L bc bs pr px (pc + 1) lv (.int v :: rest) h) : xw G M F L bc bs pr px pc lv (.long x :: rest) h :=
  fun p e R s m args below meth c H locs cells slots ls C hR hB hH hS hl => lv_l2i C.1 C.2.1 d hv (k p e R s m args below meth c H locs cells slots ls C hR hB hH hS hl)
theorem x_i2c {x v : Int32} (d : decode M.2.1 pc = .ok (.i2c, 1)) (hv : (x.toUInt32 % 65536).toInt32 = v) (k : xw G M F L bc bs pr px (pc + 1) lv (.int v :: rest) h) : xw G M F L bc bs pr px pc lv (.int x :: rest) h :=
  fun p e R s m args below meth c H locs cells slots ls C hR hB hH hS hl => lv_i2c C.1 C.2.1 d hv (k p e R s m args below meth c H locs cells slots ls C hR hB hH hS hl)
theorem x_i2b {x v : Int32} (d : decode M.2.1 pc = .ok (.i2b, 1)) (hv : x.toInt8.toInt32 = v) (k : xw G M F L bc bs pr px (pc + 1) lv (.int v :: rest) h) : xw G M F L bc bs pr px pc lv (.int x :: rest) h :=
  fun p e R s m args below meth c H locs cells slots ls C hR hB hH hS hl => lv_i2b C.1 C.2.1 d hv (k p e R s m args below meth c H locs cells slots ls C hR hB hH hS hl)
theorem x_lcmp {x y : Int64} (d : decode M.2.1 pc = .ok (.lcmp, 1))  (k : xw G M F L bc bs pr px (pc + 1) lv (.int (lg_cmp x y) :: rest) h) : xw G M F L bc bs pr px pc lv (.long y :: .long x :: rest) h :=
  fun p e R s m args below meth c H locs cells slots ls C hR hB hH hS hl => W.lcmp C.1 C.2.1 d  (k p e R s m args below meth c H locs cells slots ls C hR hB hH hS hl)
theorem x_i2d {x : Int32} (d : decode M.2.1 pc = .ok (.i2d, 1))  (k : xw G M F L bc bs pr px (pc + 1) lv (.double (FP.i2d x) :: rest) h) : xw G M F L bc bs pr px pc lv (.int x :: rest) h :=
  fun p e R s m args below meth c H locs cells slots ls C hR hB hH hS hl => lv_i2d C.1 C.2.1 d  (k p e R s m args below meth c H locs cells slots ls C hR hB hH hS hl)
theorem x_dadd {x y : UInt64} (d : decode M.2.1 pc = .ok (.dadd, 1)) (hne : vf_n64 (FP.dadd x y)) (k : xw G M F L bc bs pr px (pc + 1) lv (.double (FP.dadd x y) :: rest) h) : xw G M F L bc bs pr px pc lv (.double y :: .double x :: rest) h :=
  fun p e R s m args below meth c H locs cells slots ls C hR hB hH hS hl => lv_dadd C.1 C.2.1 d hne (k p e R s m args below meth c H locs cells slots ls C hR hB hH hS hl)
theorem x_dsub {x y : UInt64} (d : decode M.2.1 pc = .ok (.dsub, 1)) (hne : vf_n64 (FP.dsub x y)) (k : xw G M F L bc bs pr px (pc + 1) lv (.double (FP.dsub x y) :: rest) h) : xw G M F L bc bs pr px pc lv (.double y :: .double x :: rest) h :=
  fun p e R s m args below meth c H locs cells slots ls C hR hB hH hS hl => lv_dsub C.1 C.2.1 d hne (k p e R s m args below meth c H locs cells slots ls C hR hB hH hS hl)
theorem x_dmul {x y : UInt64} (d : decode M.2.1 pc = .ok (.dmul, 1)) (hne : vf_n64 (FP.dmul x y)) (k : xw G M F L bc bs pr px (pc + 1) lv (.double (FP.dmul x y) :: rest) h) : xw G M F L bc bs pr px pc lv (.double y :: .double x :: rest) h :=
  fun p e R s m args below meth c H locs cells slots ls C hR hB hH hS hl => lv_dmul C.1 C.2.1 d hne (k p e R s m args below meth c H locs cells slots ls C hR hB hH hS hl)
theorem x_ddiv {x y : UInt64} (d : decode M.2.1 pc = .ok (.ddiv, 1)) (hne : vf_n64 (FP.ddiv x y)) (k : xw G M F L bc bs pr px (pc + 1) lv (.double (FP.ddiv x y) :: rest) h) : xw G M F L bc bs pr px pc lv (.double y :: .double x :: rest) h :=
  fun p e R s m args below meth c H locs cells slots ls C hR hB hH hS hl => lv_ddiv C.1 C.2.1 d hne (k p e R s m args below meth c H locs cells slots ls C hR hB hH hS hl)
theorem x_dcmp {x y : UInt64} {op : CmpOp} (d : decode M.2.1 pc = .ok (.dcmp op, 1))  (k : xw G M F L bc bs pr px (pc + 1) lv (.int (Op.cmpValue (FP.dcmp x y) op) :: rest) h) : xw G M F L bc bs pr px pc lv (.double y :: .double x :: rest) h :=
  fun p e R s m args below meth c H locs cells slots ls C hR hB hH hS hl => lv_dcmp C.1 C.2.1 d  (k p e R s m args below meth c H locs cells slots ls C hR hB hH hS hl)
theorem x_dup {va : Value} (d : decode M.2.1 pc = .ok (.dup, 1)) (hva : va.category = 1) (k : xw G M F L bc bs pr px (pc + 1) lv (va :: va :: rest) h) : xw G M F L bc bs pr px pc lv (va :: rest) h :=
  fun p e R s m args below meth c H locs cells slots ls C hR hB hH hS hl => lv_dup C.1 C.2.1 d hva (k p e R s m args below meth c H locs cells slots ls C hR hB hH hS hl)
theorem x_pop {va : Value} (d : decode M.2.1 pc = .ok (.pop, 1)) (hva : va.category = 1) (k : xw G M F L bc bs pr px (pc + 1) lv rest h) : xw G M F L bc bs pr px pc lv (va :: rest) h :=
  fun p e R s m args below meth c H locs cells slots ls C hR hB hH hS hl => lv_pop C.1 C.2.1 d hva (k p e R s m args below meth c H locs cells slots ls C hR hB hH hS hl)
theorem x_dup_x1 {va vb : Value} (d : decode M.2.1 pc = .ok (.dup_x1, 1)) (hva : va.category = 1) (hvb : vb.category = 1) (k : xw G M F L bc bs pr px (pc + 1) lv (va :: vb :: va :: rest) h) : xw G M F L bc bs pr px pc lv (va :: vb :: rest) h :=
  fun p e R s m args below meth c H locs cells slots ls C hR hB hH hS hl => lv_dup_x1 C.1 C.2.1 d hva hvb (k p e R s m args below meth c H locs cells slots ls C hR hB hH hS hl)
theorem x_dup_x2 {va vb vd : Value} (d : decode M.2.1 pc = .ok (.dup_x2, 1)) (hva : va.category = 1) (hvb : vb.category = 1) (hvd : vd.category = 1) (k : xw G M F L bc bs pr px (pc + 1) lv (va :: vb :: vd :: va :: rest) h) : xw G M F L bc bs pr px pc lv (va :: vb :: vd :: rest) h :=
  fun p e R s m args below meth c H locs cells slots ls C hR hB hH hS hl => lv_dup_x2 C.1 C.2.1 d hva hvb hvd (k p e R s m args below meth c H locs cells slots ls C hR hB hH hS hl)
theorem x_dup2 {va vb : Value} (d : decode M.2.1 pc = .ok (.dup2, 1)) (hva : va.category = 1) (hvb : vb.category = 1) (k : xw G M F L bc bs pr px (pc + 1) lv (va :: vb :: va :: vb :: rest) h) : xw G M F L bc bs pr px pc lv (va :: vb :: rest) h :=
  fun p e R s m args below meth c H locs cells slots ls C hR hB hH hS hl => lv_dup2_11 C.1 C.2.1 d hva hvb (k p e R s m args below meth c H locs cells slots ls C hR hB hH hS hl)
theorem x_if_eq {x : Int32} {off : Int} {tgt : Nat} (d : decode M.2.1 pc = .ok (.ifCond .eq off, 3)) (ht : (pc : Int) + off = (tgt : Int)) (kt : x = 0 → xw G M F L bc bs pr px tgt lv rest h) (kf : ¬ x = 0 → xw G M F L bc bs pr px (pc + 3) lv rest h) : xw G M F L bc bs pr px pc lv (.int x :: rest) h :=
  fun p e R s m args below meth c H locs cells slots ls C hR hB hH hS hl => lv_if_eq C.1 C.2.1 d ht (fun hc => kt hc p e R s m args below meth c H locs cells slots ls C hR hB hH hS hl) (fun hc => kf hc p e R s m args below meth c H locs cells slots ls C hR hB hH hS hl)
theorem x_icmp_eq {x y : Int32} {off : Int} {tgt : Nat} (d : decode M.2.1 pc = .ok (.if_icmp .eq off, 3)) (ht : (pc : Int) + off = (tgt : Int)) (kt : x = y → xw G M F L bc bs pr px tgt lv rest h) (kf : ¬ x = y → xw G M F L bc bs pr px (pc + 3) lv rest h) : xw G M F L bc bs pr px pc lv (.int y :: .int x :: rest) h :=
  fun p e R s m args below meth c H locs cells slots ls C hR hB hH hS hl => lv_icmp_eq C.1 C.2.1 d ht (fun hc => kt hc p e R s m args below meth c H locs cells slots ls C hR hB hH hS hl) (fun hc => kf hc p e R s m args below meth c H locs cells slots ls C hR hB hH hS hl)
theorem x_if_ne {x : Int32} {off : Int} {tgt : Nat} (d : decode M.2.1 pc = .ok (.ifCond .ne off, 3)) (ht : (pc : Int) + off = (tgt : Int)) (kt : ¬ x = 0 → xw G M F L bc bs pr px tgt lv rest h) (kf : x = 0 → xw G M F L bc bs pr px (pc + 3) lv rest h) : xw G M F L bc bs pr px pc lv (.int x :: rest) h :=
  fun p e R s m args below meth c H locs cells slots ls C hR hB hH hS hl => lv_if_ne C.1 C.2.1 d ht (fun hc => kt hc p e R s m args below meth c H locs cells slots ls C hR hB hH hS hl) (fun hc => kf hc p e R s m args below meth c H locs cells slots ls C hR hB hH hS hl)
theorem x_icmp_ne {x y : Int32} {off : Int} {tgt : Nat} (d : decode M.2.1 pc = .ok (.if_icmp .ne off, 3)) (ht : (pc : Int) + off = (tgt : Int)) (kt : ¬ x = y → xw G M F L bc bs pr px tgt lv rest h) (kf : x = y → xw G M F L bc bs pr px (pc + 3) lv rest h) : xw G M F L bc bs pr px pc lv (.int y :: .int x :: rest) h :=
  fun p e R s m args below meth c H locs cells slots ls C hR hB hH hS hl => lv_icmp_ne C.1 C.2.1 d ht (fun hc => kt hc p e R s m args below meth c H locs cells slots ls C hR hB hH hS hl) (fun hc => kf hc p e R s m args below meth c H locs cells slots ls C hR hB hH hS hl)
theorem x_if_lt {x : Int32} {off : Int} {tgt : Nat} (d : decode M.2.1 pc = .ok (.ifCond .lt off, 3)) (ht : (pc : Int) + off = (tgt : Int)) (kt : x < 0 → xw G M F L bc bs pr px tgt lv rest h) (kf : ¬ x < 0 → xw G M F L bc bs pr px (pc + 3) lv rest h) : xw G M F L bc bs pr px pc lv (.int x :: rest) h :=
  fun p e R s m args below meth c H locs cells slots ls C hR hB hH hS hl => lv_if_lt C.1 C.2.1 d ht (fun hc => kt hc p e R s m args below meth c H locs cells slots ls C hR hB hH hS hl) (fun hc => kf hc p e R s m args below meth c H locs cells slots ls C hR hB hH hS hl)
theorem x_icmp_lt {x y : Int32} {off : Int} {tgt : Nat} (d : decode M.2.1 pc = .ok (.if_icmp .lt off, 3)) (ht : (pc : Int) + off = (tgt : Int)) (kt : x < y → xw G M F L bc bs pr px tgt lv rest h) (kf : ¬ x < y → xw G M F L bc bs pr px (pc + 3) lv rest h) : xw G M F L bc bs pr px pc lv (.int y :: .int x :: rest) h :=
  fun p e R s m args below meth c H locs cells slots ls C hR hB hH hS hl => lv_icmp_lt C.1 C.2.1 d ht (fun hc => kt hc p e R s m args below meth c H locs cells slots ls C hR hB hH hS hl) (fun hc => kf hc p e R s m args below meth c H locs cells slots ls C hR hB hH hS hl)
theorem x_if_ge {x : Int32} {off : Int} {tgt : Nat} (d : decode M.2.1 pc = .ok (.ifCond .ge off, 3)) (ht : (pc : Int) + off = (tgt : Int)) (kt : 0 ≤ x → xw G M F L bc bs pr px tgt lv rest h) (kf : ¬ 0 ≤ x → xw G M F L bc bs pr px (pc + 3) lv rest h) : xw G M F L bc bs pr px pc lv (.int x :: rest) h :=
  fun p e R s m args below meth c H locs cells slots ls C hR hB hH hS hl => lv_if_ge C.1 C.2.1 d ht (fun hc => kt hc p e R s m args below meth c H locs cells slots ls C hR hB hH hS hl) (fun hc => kf hc p e R s m args below meth c H locs cells slots ls C hR hB hH hS hl)
theorem x_icmp_ge {x y : Int32} {off : Int} {tgt : Nat} (d : decode M.2.1 pc = .ok (.if_icmp .ge off, 3)) (ht : (pc : Int) + off = (tgt : Int)) (kt : y ≤ x → xw G M F L bc bs pr px tgt lv rest h) (kf : ¬ y ≤ x → xw G M F L bc bs pr px (pc + 3) lv rest h) : xw G M F L bc bs pr px pc lv (.int y :: .int x :: rest) h :=
  fun p e R s m args below meth c H locs cells slots ls C hR hB hH hS hl => lv_icmp_ge C.1 C.2.1 d ht (fun hc => kt hc p e R s m args below meth c H locs cells slots ls C hR hB hH hS hl) (fun hc => kf hc p e R s m args below meth c H locs cells slots ls C hR hB hH hS hl)
theorem x_if_gt {x : Int32} {off : Int} {tgt : Nat} (d : decode M.2.1 pc = .ok (.ifCond .gt off, 3)) (ht : (pc : Int) + off = (tgt : Int)) (kt : 0 < x → xw G M F L bc bs pr px tgt lv rest h) (kf : ¬ 0 < x → xw G M F L bc bs pr px (pc + 3) lv rest h) : xw G M F L bc bs pr px pc lv (.int x :: rest) h :=
  fun p e R s m args below meth c H locs cells slots ls C hR hB hH hS hl => lv_if_gt C.1 C.2.1 d ht (fun hc => kt hc p e R s m args below meth c H locs cells slots ls C hR hB hH hS hl) (fun hc => kf hc p e R s m args below meth c H locs cells slots ls C hR hB hH hS hl)
theorem x_icmp_gt {x y : Int32} {off : Int} {tgt : Nat} (d : decode M.2.1 pc = .ok (.if_icmp .gt off, 3)) (ht : (pc : Int) + off = (tgt : Int)) (kt : y < x → xw G M F L bc bs pr px tgt lv rest h) (kf : ¬ y < x → xw G M F L bc bs pr px (pc + 3) lv rest h) : xw G M F L bc bs pr px pc lv (.int y :: .int x :: rest) h :=
  fun p e R s m args below meth c H locs cells slots ls C hR hB hH hS hl => lv_icmp_gt C.1 C.2.1 d ht (fun hc => kt hc p e R s m args below meth c H locs cells slots ls C hR hB hH hS hl) (fun hc => kf hc p e R s m args below meth c H locs cells slots ls C hR hB hH hS hl)
theorem x_if_le {x : Int32} {off : Int} {tgt : Nat} (d : decode M.2.1 pc = .ok (.ifCond .le off, 3)) (ht : (pc : Int) + off = (tgt : Int)) (kt : x ≤ 0 → xw G M F L bc bs pr px tgt lv rest h) (kf : ¬ x ≤ 0 → xw G M F L bc bs pr px (pc + 3) lv rest h) : xw G M F L bc bs pr px pc lv (.int x :: rest) h :=
  fun p e R s m args below meth c H locs cells slots ls C hR hB hH hS hl => lv_if_le C.1 C.2.1 d ht (fun hc => kt hc p e R s m args below meth c H locs cells slots ls C hR hB hH hS hl) (fun hc => kf hc p e R s m args below meth c H locs cells slots ls C hR hB hH hS hl)
theorem x_icmp_le {x y : Int32} {off : Int} {tgt : Nat} (d : decode M.2.1 pc = .ok (.if_icmp .le off, 3)) (ht : (pc : Int) + off = (tgt : Int)) (kt : x ≤ y → xw G M F L bc bs pr px tgt lv rest h) (kf : ¬ x ≤ y → xw G M F L bc bs pr px (pc + 3) lv rest h) : xw G M F L bc bs pr px pc lv (.int y :: .int x :: rest) h :=
  fun p e R s m args below meth c H locs cells slots ls C hR hB hH hS hl => lv_icmp_le C.1 C.2.1 d ht (fun hc => kt hc p e R s m args below meth c H locs cells slots ls C hR hB hH hS hl) (fun hc => kf hc p e R s m args below meth c H locs cells slots ls C hR hB hH hS hl)
theorem x_goto {off : Int} {tgt : Nat} (d : decode M.2.1 pc = .ok (.goto off, 3)) (ht : (pc : Int) + off = (tgt : Int)) (k : xw G M F L bc bs pr px tgt lv rest h) : xw G M F L bc bs pr px pc lv rest h :=
  fun p e R s m args below meth c H locs cells slots ls C hR hB hH hS hl => lv_goto C.1 C.2.1 d ht (k p e R s m args below meth c H locs cells slots ls C hR hB hH hS hl)
theorem x_ifnull {a : Nat} {off : Int} (d : decode M.2.1 pc = .ok (.ifnull off, 3)) (k : xw G M F L bc bs pr px (pc + 3) lv rest h) : xw G M F L bc bs pr px pc lv (.ref a :: rest) h :=
  fun p e R s m args below meth c H locs cells slots ls C hR hB hH hS hl => lv_ifnull C.1 C.2.1 d (k p e R s m args below meth c H locs cells slots ls C hR hB hH hS hl)
theorem x_ifnullN {off : Int} {tgt : Nat} (d : decode M.2.1 pc = .ok (.ifnull off, 3)) (ht : (pc : Int) + off = (tgt : Int)) (k : xw G M F L bc bs pr px tgt lv rest h) : xw G M F L bc bs pr px pc lv (.null :: rest) h :=
  fun p e R s m args below meth c H locs cells slots ls C hR hB hH hS hl => lv_ifnullN C.1 C.2.1 d ht (k p e R s m args below meth c H locs cells slots ls C hR hB hH hS hl)
theorem x_ifnonnull {a : Nat} {off : Int} {tgt : Nat} (d : decode M.2.1 pc = .ok (.ifnonnull off, 3)) (ht : (pc : Int) + off = (tgt : Int)) (k : xw G M F L bc bs pr px tgt lv rest h) : xw G M F L bc bs pr px pc lv (.ref a :: rest) h :=
  fun p e R s m args below meth c H locs cells slots ls C hR hB hH hS hl => lv_ifnonnull C.1 C.2.1 d ht (k p e R s m args below meth c H locs cells slots ls C hR hB hH hS hl)
theorem x_ifnonnullN {off : Int} (d : decode M.2.1 pc = .ok (.ifnonnull off, 3)) (k : xw G M F L bc bs pr px (pc + 3) lv rest h) : xw G M F L bc bs pr px pc lv (.null :: rest) h :=
  fun p e R s m args below meth c H locs cells slots ls C hR hB hH hS hl => lv_ifnonnullN C.1 C.2.1 d (k p e R s m args below meth c H locs cells slots ls C hR hB hH hS hl)
theorem x_table {dflt lo hi : Int} {offs : Array Int} {len : Nat} {x : Int32} (d : decode M.2.1 pc = .ok (.tableswitch dflt lo hi offs, len)) (ki : ∀ (off : Int) (tgt : Nat), ¬ x.toInt < lo → ¬ hi < x.toInt → offs[(x.toInt - lo).toNat]? = some off → (pc : Int) + off = (tgt : Int) → xw G M F L bc bs pr px tgt lv rest h) (kn : ¬ x.toInt < lo → ¬ hi < x.toInt → ∃ (off : Int) (tgt : Nat), offs[(x.toInt - lo).toNat]? = some off ∧ (pc : Int) + off = (tgt : Int)) {dt : Nat} (ht : (pc : Int) + dflt = (dt : Int)) (ko : x.toInt < lo ∨ hi < x.toInt → xw G M F L bc bs pr px dt lv rest h) : xw G M F L bc bs pr px pc lv (.int x :: rest) h :=
  fun p e R s m args below meth c H locs cells slots ls C hR hB hH hS hl => by
    by_cases h1 : x.toInt < lo
    · exact lv_tableOut C.1 C.2.1 d (Or.inl h1) ht (ko (Or.inl h1) p e R s m args below meth c H locs cells slots ls C hR hB hH hS hl)
    · by_cases h2 : hi < x.toInt
      · exact lv_tableOut C.1 C.2.1 d (Or.inr h2) ht (ko (Or.inr h2) p e R s m args below meth c H locs cells slots ls C hR hB hH hS hl)
      · obtain ⟨off, tgt, g1, g2⟩ := kn h1 h2
        exact lv_tableIn C.1 C.2.1 d h1 h2 g1 g2 (ki off tgt h1 h2 g1 g2 p e R s m args below meth c H locs cells slots ls C hR hB hH hS hl)
theorem x_iret {v : Int32} (d : decode M.2.1 pc = .ok (.ireturn, 1)) (hr : M.2.2.2.1 = some .int) (hp : pr (some (.int v)) h) : xw G M F L bc bs pr px pc lv [.int v] h :=
  fun p e R s m args below meth c H locs cells slots ls C hR hB hH hS hl => by
    have hq : ∀ t : State, t.heap = H → s.WarmedH t.vm → xw_Q G pr args s (.returned (some (.int v))) t := fun t ht hW => ⟨⟨_, h, rfl, hp, xw_H.moved hW.alike (by rw [ht]; exact hH)⟩, hS.F ht⟩
    have hlocks := C.2.2.2.2.2.2.1
    refine xw_ret (W.widen (k := R.cells) (n := R.slots) (Nat.le_trans (Nat.le_add_right _ _) hB.1) (Nat.le_trans (Nat.le_add_right _ _) hB.2) ?_)
    exact W.iret C.1 C.2.1 (C.2.2.1.trans hr) hq hS.2.2 d
theorem x_zret {v : Int32} {ty : FieldType} (d : decode M.2.1 pc = .ok (.ireturn, 1)) (hr : M.2.2.2.1 = some ty) (hn : narrow ty (.int v) = .int v) (hp : pr (some (.int v)) h) : xw G M F L bc bs pr px pc lv [.int v] h :=
  fun p e R s m args below meth c H locs cells slots ls C hR hB hH hS hl => by
    have hq : ∀ t : State, t.heap = H → s.WarmedH t.vm → xw_Q G pr args s (.returned (some (.int v))) t := fun t ht hW => ⟨⟨_, h, rfl, hp, xw_H.moved hW.alike (by rw [ht]; exact hH)⟩, hS.F ht⟩
    have hlocks := C.2.2.2.2.2.2.1
    refine xw_ret (W.widen (k := R.cells) (n := R.slots) (Nat.le_trans (Nat.le_add_right _ _) hB.1) (Nat.le_trans (Nat.le_add_right _ _) hB.2) ?_)
    exact W.zret C.1 C.2.1 (C.2.2.1.trans hr) hn hq hS.2.2 d
theorem x_lret {v : Int64} (d : decode M.2.1 pc = .ok (.lreturn, 1)) (hr : M.2.2.2.1 = some .long) (hp : pr (some (.long v)) h) : xw G M F L bc bs pr px pc lv [.long v] h :=
  fun p e R s m args below meth c H locs cells slots ls C hR hB hH hS hl => by
    have hq : ∀ t : State, t.heap = H → s.WarmedH t.vm → xw_Q G pr args s (.returned (some (.long v))) t := fun t ht hW => ⟨⟨_, h, rfl, hp, xw_H.moved hW.alike (by rw [ht]; exact hH)⟩, hS.F ht⟩
    have hlocks := C.2.2.2.2.2.2.1
    refine xw_ret (W.widen (k := R.cells) (n := R.slots) (Nat.le_trans (Nat.le_add_right _ _) hB.1) (Nat.le_trans (Nat.le_add_right _ _) hB.2) ?_)
    exact W.lret C.1 C.2.1 (C.2.2.1.trans hr) hq hS.2.2 d
theorem x_dret {v : UInt64} (d : decode M.2.1 pc = .ok (.dreturn, 1)) (hr : M.2.2.2.1 = some .double) (hp : pr (some (.double v)) h) : xw G M F L bc bs pr px pc lv [.double v] h :=
  fun p e R s m args below meth c H locs cells slots ls C hR hB hH hS hl => by
    have hq : ∀ t : State, t.heap = H → s.WarmedH t.vm → xw_Q G pr args s (.returned (some (.double v))) t := fun t ht hW => ⟨⟨_, h, rfl, hp, xw_H.moved hW.alike (by rw [ht]; exact hH)⟩, hS.F ht⟩
    have hlocks := C.2.2.2.2.2.2.1
    refine xw_ret (W.widen (k := R.cells) (n := R.slots) (Nat.le_trans (Nat.le_add_right _ _) hB.1) (Nat.le_trans (Nat.le_add_right _ _) hB.2) ?_)
    exact W.dret C.1 C.2.1 (C.2.2.1.trans hr) hq hS.2.2 d
theorem x_aret {v : Value} {rt : FieldType} (d : decode M.2.1 pc = .ok (.areturn, 1)) (hr : M.2.2.2.1 = some rt) (hrt : (∃ n, rt = .object n) ∨ ∃ t, rt = .array t) (hv : v = .null ∨ ∃ a, v = .ref a) (hp : pr (some v) h) : xw G M F L bc bs pr px pc lv [v] h :=
  fun p e R s m args below meth c H locs cells slots ls C hR hB hH hS hl => by
    have hq : ∀ t : State, t.heap = H → s.WarmedH t.vm → xw_Q G pr args s (.returned (some v)) t := fun t ht hW => ⟨⟨_, h, rfl, hp, xw_H.moved hW.alike (by rw [ht]; exact hH)⟩, hS.F ht⟩
    have hlocks := C.2.2.2.2.2.2.1
    refine xw_ret (W.widen (k := R.cells) (n := R.slots) (Nat.le_trans (Nat.le_add_right _ _) hB.1) (Nat.le_trans (Nat.le_add_right _ _) hB.2) ?_)
    exact W.aret C.1 C.2.1 (C.2.2.1.trans hr) hrt hv hq hS.2.2 d
theorem x_vret  (d : decode M.2.1 pc = .ok (.return_, 1)) (hr : M.2.2.2.1 = none) (hp : pr none h) : xw G M F L bc bs pr px pc lv [] h :=
  fun p e R s m args below meth c H locs cells slots ls C hR hB hH hS hl => by
    have hq : ∀ t : State, t.heap = H → s.WarmedH t.vm → xw_Q G pr args s (.returned none) t := fun t ht hW => ⟨⟨_, h, rfl, hp, xw_H.moved hW.alike (by rw [ht]; exact hH)⟩, hS.F ht⟩
    have hlocks := C.2.2.2.2.2.2.1
    refine xw_ret (W.widen (k := R.cells) (n := R.slots) (Nat.le_trans (Nat.le_add_right _ _) hB.1) (Nat.le_trans (Nat.le_add_right _ _) hB.2) ?_)
    exact W.vret C.1 C.2.1 (C.2.2.1.trans hr) hq hS.2.2 d
/-! fields: xw_f own index ci k: by entry 'index' of own's pool field k of class ci is reached -/
def xw_f (own : String) (index ci k : Nat) : Prop := ci < vwCl.length ∧ k < (xw_cl ci).2.2 ∧ Cond.fieldLink own index (xw_cl ci).1 ((xw_cl ci).2.1 k).2.1 ((xw_cl ci).2.1 k).2.2.1 ∈ xw_tbl ∧ ((xw_cl ci).2.1 k).1 = (xw_cl ci).1
theorem x_get {index ci j a : Nat} {fs : List Value} {v : Value} (d : decode M.2.1 pc = .ok (.getfield index, 3)) (hf : xw_f M.1.cls index ci j) (ha : h a = some (.inr (ci, fs))) (hv : fs[j]? = some v) (k : xw G M F L bc bs pr px (pc + 3) lv (v :: rest) h) : xw G M F L bc bs pr px pc lv (.ref a :: rest) h :=
  fun p e R s m args below meth c H locs cells slots ls C hR hB hH hS hl => by
    obtain ⟨ws, tys, hP, hK, hD, hA, hO⟩ := id hH
    obtain ⟨q, hq⟩ := hO a ci fs ha
    obtain ⟨f1, f2, f3, f4⟩ := hf
    exact va_get C.1 C.2.1 (Ts := xw_tbl) C.2.2.2.2.2.1 (xw_lays ci f1) C.2.2.2.2.1 hK hP q hq (xw_cl_get f1) j f2 (C.2.2.2.2.2.1 _ f3) (fun x hx => by rw [f4] at hx; exact hx) hv d (k p e R s m args below meth c H locs cells slots ls C hR hB hH hS hl)
theorem x_put {index ci j a : Nat} {fs : List Value} {v : Value} {ty : FieldType} (d : decode M.2.1 pc = .ok (.putfield index, 3)) (hf : xw_f M.1.cls index ci j) (hfin : ((xw_cl ci).2.1 j).2.2.2 = false) (hd : parseFieldDescriptor ((xw_cl ci).2.1 j).2.2.1 = some ty) (hn : narrow ty v = v) (hfit : fits ty v = true) (hl9 : j < fs.length) (ha : h a = some (.inr (ci, fs))) (k : xw G M F L bc bs pr px (pc + 3) lv rest (xw_up h a (.inr (ci, fs.set j v)))) : xw G M F L bc bs pr px pc lv (v :: .ref a :: rest) h :=
  fun p e R s m args below meth c H locs cells slots ls C hR hB hH hS hl => by
    obtain ⟨ws, tys, hP, hK, hD, hA, hO⟩ := id hH
    obtain ⟨q, hq⟩ := hO a ci fs ha
    obtain ⟨f1, f2, f3, f4⟩ := hf
    exact va_put C.1 C.2.1 (Ts := xw_tbl) C.2.2.2.2.2.1 (xw_lays ci f1) (xw_fty ci) (xw_fty_ok ci f1) (xw_fnm ci f1) C.2.2.2.2.1 hK hP hD hS q hq (xw_cl_get f1) j f2 (C.2.2.2.2.2.1 _ f3) (fun x hx => by rw [f4] at hx; exact hx) hfin hd hn hfit hl9 d
      (fun H1 locs1 hP1 hD1 hS1 => k p e R s m args below meth c H1 locs1 cells slots ls C hR hB (xw_H.set hq hP1 hK hD1 hA hO (Or.inr ⟨ci, _, rfl, rfl⟩)) hS1 hl)
theorem x_putF {index ci j a : Nat} {fs : List Value} {v : Value} {ty : FieldType} (d : decode M.2.1 pc = .ok (.putfield index, 3)) (hf : xw_f M.1.cls index ci j) (hfin : ((xw_cl ci).2.1 j).2.2.2 = true) (hini : M.1.name = "<init>") (hdecl : (xw_cl ci).1 = M.1.cls) (hd : parseFieldDescriptor ((xw_cl ci).2.1 j).2.2.1 = some ty) (hn : narrow ty v = v) (hfit : fits ty v = true) (hl9 : j < fs.length) (ha : h a = some (.inr (ci, fs))) (k : xw G M F L bc bs pr px (pc + 3) lv rest (xw_up h a (.inr (ci, fs.set j v)))) : xw G M F L bc bs pr px pc lv (v :: .ref a :: rest) h :=
  fun p e R s m args below meth c H locs cells slots ls C hR hB hH hS hl => by
    obtain ⟨ws, tys, hP, hK, hD, hA, hO⟩ := id hH
    obtain ⟨q, hq⟩ := hO a ci fs ha
    obtain ⟨f1, f2, f3, f4⟩ := hf
    exact va_putF C.1 C.2.1 (Ts := xw_tbl) C.2.2.2.2.2.1 (xw_lays ci f1) (xw_fty ci) (xw_fty_ok ci f1) (xw_fnm ci f1) C.2.2.2.2.1 hK hP hD hS q hq (xw_cl_get f1) j f2 (C.2.2.2.2.2.1 _ f3) (fun x hx => by rw [f4] at hx; exact hx) hfin (C.2.2.2.2.2.2.2.2.1.trans hini) (f4.trans hdecl) hd hn hfit hl9 d
      (fun H1 locs1 hP1 hD1 hS1 => k p e R s m args below meth c H1 locs1 cells slots ls C hR hB (xw_H.set hq hP1 hK hD1 hA hO (Or.inr ⟨ci, _, rfl, rfl⟩)) hS1 hl)
theorem xw_none {A : Nat → Prop} {ws : va_W} {tys : List (ClassId × FieldType)} {q : Nat} {e1 : va_E} (hD : va_D A (ws ++ [(q, e1)]))
    (hA : ∀ (a c : Nat) (x : vp_A), h a = some (.inl (c, x)) → ∃ (k t : Nat) (cA : ClassId), ws[k]? = some (a, .inl (cA, x)) ∧ tys[t]? = some (cA, xw_ty c))
    (hO : ∀ (a ci : Nat) (fs : List Value), h a = some (.inr (ci, fs)) → ∃ k : Nat, ws[k]? = some (a, .inr (ci, fs))) : h q = none := by
  have key : ∀ (k : Nat) (y : va_E), ws[k]? = some (q, y) → False := by
    intro k y hk
    have hl := (List.getElem?_eq_some_iff.mp hk).1
    have h1 : (ws ++ [(q, e1)])[k]? = some (q, y) := by rw [List.getElem?_append_left hl]; exact hk
    have h2 : (ws ++ [(q, e1)])[ws.length]? = some (q, e1) := by simp
    have h3 := hD.1 k ws.length _ _ h1 h2 rfl
    omega
  cases hq : h q with
  | none => rfl
  | some e =>
    exfalso
    rcases e with ⟨c, x⟩ | ⟨ci, fs⟩
    · obtain ⟨k, t, cA, g1, -⟩ := hA q c x hq
      exact key k _ g1
    · obtain ⟨k, g1⟩ := hO q ci fs hq
      exact key k _ g1
theorem x_new {index ci : Nat} {fs : List Value} (d : decode M.2.1 pc = .ok (.new index, 3)) (hci : ci < vwCl.length) (hcl : Cond.classLink M.1.cls index (xw_cl ci).1 ∈ xw_tbl) (hinst : Cond.instantiable (xw_cl ci).1 (xw_cl ci).2.2 ∈ xw_tbl) (hini : Cond.initialized (xw_cl ci).1 ∈ xw_tbl) (hfs : ∀ j, j < (xw_cl ci).2.2 → defaultValue (xw_fty ci j) = vp_V fs j) (hb : 1 ≤ bc ∧ (xw_cl ci).2.2 ≤ bs)
    (k : ∀ q : Nat, h q = none → xw G M F L (bc - 1) (bs - (xw_cl ci).2.2) pr px (pc + 3) lv (.ref q :: rest) (xw_up h q (.inr (ci, fs)))) : xw G M F L bc bs pr px pc lv rest h :=
  fun p e R s m args below meth c H locs cells slots ls C hR hB hH hS hl => by
    obtain ⟨ws, tys, hP, hK, hD, hA, hO⟩ := id hH
    refine va_new C.1 C.2.1 (Ts := xw_tbl) C.2.2.2.2.2.1 (xw_lays ci hci) (xw_fty ci) (xw_fty_ok ci hci) C.2.2.2.2.1 (C.2.2.2.2.2.1 _ hcl) (C.2.2.2.2.2.1 _ hinst) (C.2.2.2.2.2.1 _ hini) hK hP hD hS (xw_F.S0 C.2.2.2.2.2.2.2.2.2) (xw_cl_get hci) hfs (by omega) (by omega) d
      (fun q H1 hP1 hD1 hS1 => ?_)
    have hn : h q = none := xw_none hD1 hA hO
    refine k q hn p e R s m args below meth c H1 locs (cells + 1) (slots + (xw_cl ci).2.2) ls C hR ⟨by omega, by omega⟩ (xw_H.push (tys1 := []) hP1 (by rw [List.append_nil]; exact hK) hD1 hn hA hO (Or.inr ⟨ci, fs, rfl, rfl⟩)) hS1 hl

theorem x_iald {a n : Nat} {f : Nat → Int32} {i : Int32} (d : decode M.2.1 pc = .ok (.iaload, 1)) (ha : h a = some (.inl (0, n, .inl f))) (hi : vp_in i n) (k : xw G M F L bc bs pr px (pc + 1) lv (.int (f i.toNatClampNeg) :: rest) h) : xw G M F L bc bs pr px pc lv (.int i :: .ref a :: rest) h :=
  fun p e R s m args below meth c H locs cells slots ls C hR hB hH hS hl => by
    obtain ⟨ws, tys, hP, hK, hD, hA, hO⟩ := id hH
    obtain ⟨q, t, cA, hq, ht⟩ := hA a 0 _ ha
    exact va_iald C.1 C.2.1 hK hP q t hq ht hi d (k p e R s m args below meth c H locs cells slots ls C hR hB hH hS hl)
theorem x_iast {a n : Nat} {f : Nat → Int32} {i : Int32} {x : Int32} (d : decode M.2.1 pc = .ok (.iastore, 1)) (ha : h a = some (.inl (0, n, .inl f))) (hi : vp_in i n) (k : xw G M F L bc bs pr px (pc + 1) lv rest (xw_up h a (.inl (0, n, .inl (upd f i.toNatClampNeg x))))) : xw G M F L bc bs pr px pc lv (.int x :: .int i :: .ref a :: rest) h :=
  fun p e R s m args below meth c H locs cells slots ls C hR hB hH hS hl => by
    obtain ⟨ws, tys, hP, hK, hD, hA, hO⟩ := id hH
    obtain ⟨q, t, cA, hq, ht⟩ := hA a 0 _ ha
    exact va_iast C.1 C.2.1 hK hP hD hS q t hq ht hi d (fun H1 locs1 hP1 hD1 hS1 => k p e R s m args below meth c H1 locs1 cells slots ls C hR hB (xw_H.set hq hP1 hK hD1 hA hO (Or.inl ⟨0, t, cA, _, rfl, rfl, ht⟩)) hS1 hl)
theorem x_cald {a n : Nat} {f : Nat → Int32} {i : Int32} (d : decode M.2.1 pc = .ok (.caload, 1)) (ha : h a = some (.inl (1, n, .inl f))) (hi : vp_in i n) (k : xw G M F L bc bs pr px (pc + 1) lv (.int (f i.toNatClampNeg) :: rest) h) : xw G M F L bc bs pr px pc lv (.int i :: .ref a :: rest) h :=
  fun p e R s m args below meth c H locs cells slots ls C hR hB hH hS hl => by
    obtain ⟨ws, tys, hP, hK, hD, hA, hO⟩ := id hH
    obtain ⟨q, t, cA, hq, ht⟩ := hA a 1 _ ha
    exact va_cald C.1 C.2.1 hK hP q t hq ht hi d (k p e R s m args below meth c H locs cells slots ls C hR hB hH hS hl)
theorem x_cast {a n : Nat} {f : Nat → Int32} {i : Int32} {x : Int32} (d : decode M.2.1 pc = .ok (.castore, 1)) (ha : h a = some (.inl (1, n, .inl f))) (hi : vp_in i n) (k : xw G M F L bc bs pr px (pc + 1) lv rest (xw_up h a (.inl (1, n, .inl (upd f i.toNatClampNeg (vp_nar .char x)))))) : xw G M F L bc bs pr px pc lv (.int x :: .int i :: .ref a :: rest) h :=
  fun p e R s m args below meth c H locs cells slots ls C hR hB hH hS hl => by
    obtain ⟨ws, tys, hP, hK, hD, hA, hO⟩ := id hH
    obtain ⟨q, t, cA, hq, ht⟩ := hA a 1 _ ha
    exact va_cast C.1 C.2.1 hK hP hD hS q t hq ht hi d (fun H1 locs1 hP1 hD1 hS1 => k p e R s m args below meth c H1 locs1 cells slots ls C hR hB (xw_H.set hq hP1 hK hD1 hA hO (Or.inl ⟨1, t, cA, _, rfl, rfl, ht⟩)) hS1 hl)
theorem x_lald {a n : Nat} {f : Nat → Int64} {i : Int32} (d : decode M.2.1 pc = .ok (.laload, 1)) (ha : h a = some (.inl (2, n, .inr (.inl f)))) (hi : vp_in i n) (k : xw G M F L bc bs pr px (pc + 1) lv (.long (f i.toNatClampNeg) :: rest) h) : xw G M F L bc bs pr px pc lv (.int i :: .ref a :: rest) h :=
  fun p e R s m args below meth c H locs cells slots ls C hR hB hH hS hl => by
    obtain ⟨ws, tys, hP, hK, hD, hA, hO⟩ := id hH
    obtain ⟨q, t, cA, hq, ht⟩ := hA a 2 _ ha
    exact va_lald C.1 C.2.1 hK hP q t hq ht hi d (k p e R s m args below meth c H locs cells slots ls C hR hB hH hS hl)
theorem x_last {a n : Nat} {f : Nat → Int64} {i : Int32} {x : Int64} (d : decode M.2.1 pc = .ok (.lastore, 1)) (ha : h a = some (.inl (2, n, .inr (.inl f)))) (hi : vp_in i n) (k : xw G M F L bc bs pr px (pc + 1) lv rest (xw_up h a (.inl (2, n, .inr (.inl (vp_updL f i.toNatClampNeg x)))))) : xw G M F L bc bs pr px pc lv (.long x :: .int i :: .ref a :: rest) h :=
  fun p e R s m args below meth c H locs cells slots ls C hR hB hH hS hl => by
    obtain ⟨ws, tys, hP, hK, hD, hA, hO⟩ := id hH
    obtain ⟨q, t, cA, hq, ht⟩ := hA a 2 _ ha
    exact va_last C.1 C.2.1 hK hP hD hS q t hq ht hi d (fun H1 locs1 hP1 hD1 hS1 => k p e R s m args below meth c H1 locs1 cells slots ls C hR hB (xw_H.set hq hP1 hK hD1 hA hO (Or.inl ⟨2, t, cA, _, rfl, rfl, ht⟩)) hS1 hl)
theorem x_dald {a n : Nat} {f : Nat → UInt64} {i : Int32} (d : decode M.2.1 pc = .ok (.daload, 1)) (ha : h a = some (.inl (3, n, .inr (.inr (.inr (.inl f)))))) (hi : vp_in i n) (k : xw G M F L bc bs pr px (pc + 1) lv (.double (f i.toNatClampNeg) :: rest) h) : xw G M F L bc bs pr px pc lv (.int i :: .ref a :: rest) h :=
  fun p e R s m args below meth c H locs cells slots ls C hR hB hH hS hl => by
    obtain ⟨ws, tys, hP, hK, hD, hA, hO⟩ := id hH
    obtain ⟨q, t, cA, hq, ht⟩ := hA a 3 _ ha
    exact va_dald C.1 C.2.1 hK hP q t hq ht hi d (k p e R s m args below meth c H locs cells slots ls C hR hB hH hS hl)
theorem x_dast {a n : Nat} {f : Nat → UInt64} {i : Int32} {x : UInt64} (d : decode M.2.1 pc = .ok (.dastore, 1)) (ha : h a = some (.inl (3, n, .inr (.inr (.inr (.inl f)))))) (hi : vp_in i n) (k : xw G M F L bc bs pr px (pc + 1) lv rest (xw_up h a (.inl (3, n, .inr (.inr (.inr (.inl (vf_upd f i.toNatClampNeg x)))))))) : xw G M F L bc bs pr px pc lv (.double x :: .int i :: .ref a :: rest) h :=
  fun p e R s m args below meth c H locs cells slots ls C hR hB hH hS hl => by
    obtain ⟨ws, tys, hP, hK, hD, hA, hO⟩ := id hH
    obtain ⟨q, t, cA, hq, ht⟩ := hA a 3 _ ha
    exact va_dast C.1 C.2.1 hK hP hD hS q t hq ht hi d (fun H1 locs1 hP1 hD1 hS1 => k p e R s m args below meth c H1 locs1 cells slots ls C hR hB (xw_H.set hq hP1 hK hD1 hA hO (Or.inl ⟨3, t, cA, _, rfl, rfl, ht⟩)) hS1 hl)
theorem x_aald {a n ci : Nat} {f : Nat → Option Nat} {i : Int32} {v : Value} (d : decode M.2.1 pc = .ok (.aaload, 1)) (ha : h a = some (.inl (ci + 6, n, .inr (.inr (.inr (.inr f)))))) (hi : vp_in i n) (hv : va_rf (f i.toNatClampNeg) = v) (k : xw G M F L bc bs pr px (pc + 1) lv (v :: rest) h) : xw G M F L bc bs pr px pc lv (.int i :: .ref a :: rest) h :=
  fun p e R s m args below meth c H locs cells slots ls C hR hB hH hS hl => by
    obtain ⟨ws, tys, hP, hK, hD, hA, hO⟩ := id hH
    obtain ⟨q, t, cA, hq, ht⟩ := hA a (ci + 6) _ ha
    subst hv
    exact va_aldq C.1 C.2.1 hK hP q t hq ht hi d (k p e R s m args below meth c H locs cells slots ls C hR hB hH hS hl)
theorem x_aast {a n ci b : Nat} {fs : List Value} {f : Nat → Option Nat} {i : Int32} (d : decode M.2.1 pc = .ok (.aastore, 1)) (hci : ci < vwCl.length) (ha : h a = some (.inl (ci + 6, n, .inr (.inr (.inr (.inr f)))))) (hb : h b = some (.inr (ci, fs))) (hi : vp_in i n) (k : xw G M F L bc bs pr px (pc + 1) lv rest (xw_up h a (.inl (ci + 6, n, .inr (.inr (.inr (.inr (va_up f i.toNatClampNeg (some b))))))))) : xw G M F L bc bs pr px pc lv (.ref b :: .int i :: .ref a :: rest) h :=
  fun p e R s m args below meth c H locs cells slots ls C hR hB hH hS hl => by
    obtain ⟨ws, tys, hP, hK, hD, hA, hO⟩ := id hH
    obtain ⟨q, t, cA, hq, ht⟩ := hA a (ci + 6) _ ha
    obtain ⟨qb, hqb⟩ := hO b ci fs hb
    have ht' : tys[t]? = some (cA, .object (xw_cl ci).1) := by
      rw [ht, xw_ty_o hci]
    exact va_astq C.1 C.2.1 hK hP hD hS q t qb ci (r := ((xw_cl ci).1, (xw_cl ci).2.1, (xw_cl ci).2.2)) hq ht' hqb (xw_cl_get hci) hi d (fun H1 locs1 hP1 hD1 hS1 => k p e R s m args below meth c H1 locs1 cells slots ls C hR hB (xw_H.set hq hP1 hK hD1 hA hO (Or.inl ⟨ci + 6, t, cA, _, rfl, rfl, ht⟩)) hS1 hl)
theorem x_aastN {a n ci : Nat} {f : Nat → Option Nat} {i : Int32} (d : decode M.2.1 pc = .ok (.aastore, 1)) (ha : h a = some (.inl (ci + 6, n, .inr (.inr (.inr (.inr f)))))) (hi : vp_in i n) (k : xw G M F L bc bs pr px (pc + 1) lv rest (xw_up h a (.inl (ci + 6, n, .inr (.inr (.inr (.inr (va_up f i.toNatClampNeg none)))))))) : xw G M F L bc bs pr px pc lv (.null :: .int i :: .ref a :: rest) h :=
  fun p e R s m args below meth c H locs cells slots ls C hR hB hH hS hl => by
    obtain ⟨ws, tys, hP, hK, hD, hA, hO⟩ := id hH
    obtain ⟨q, t, cA, hq, ht⟩ := hA a (ci + 6) _ ha
    exact va_astqN C.1 C.2.1 hK hP hD hS q t hq ht hi d (fun H1 locs1 hP1 hD1 hS1 => k p e R s m args below meth c H1 locs1 cells slots ls C hR hB (xw_H.set hq hP1 hK hD1 hA hO (Or.inl ⟨ci + 6, t, cA, _, rfl, rfl, ht⟩)) hS1 hl)
theorem x_alen {a c0 : Nat} {x : vp_A} {v : Int32} (d : decode M.2.1 pc = .ok (.arraylength, 1)) (ha : h a = some (.inl (c0, x))) (hv : Int32.ofNat x.1 = v) (k : xw G M F L bc bs pr px (pc + 1) lv (.int v :: rest) h) : xw G M F L bc bs pr px pc lv (.ref a :: rest) h :=
  fun p e R s m args below meth c H locs cells slots ls C hR hB hH hS hl => by
    obtain ⟨ws, tys, hP, hK, hD, hA, hO⟩ := id hH
    obtain ⟨q, t, cA, hq, ht⟩ := hA a c0 _ ha
    exact va_alen C.1 C.2.1 hK hP q t hq ht hv d (k p e R s m args below meth c H locs cells slots ls C hR hB hH hS hl)
theorem x_inew {n : Int32} {N : Nat} (d : decode M.2.1 pc = .ok (.newarray .int, 2)) (harr : Cond.arrayClass .int ∈ xw_tbl) (hn : ¬ n < 0) (hN : n.toNatClampNeg = N) (hbytes : N * componentBytes .int ≤ 536870912) (hb : 1 ≤ bc ∧ N ≤ bs)
    (k : ∀ q : Nat, h q = none → xw G M F L (bc - 1) (bs - N) pr px (pc + 2) lv (.ref q :: rest) (xw_up h q (.inl (0, N, .inl (fun _ => 0))))) : xw G M F L bc bs pr px pc lv (.int n :: rest) h :=
  fun p e R s m args below meth c H locs cells slots ls C hR hB hH hS hl => by
    obtain ⟨ws, tys, hP, hK, hD, hA, hO⟩ := id hH
    refine va_newa (a0 := (N, .inl (fun _ => 0))) C.1 C.2.1 (atype := .int) (C.2.2.2.2.2.1 _ harr) rfl hK hP hD hS (xw_F.S0 C.2.2.2.2.2.2.2.2.2) (fun cA => rfl) hn hN hbytes (by omega) (by omega) d (fun q cA H1 hK1 hP1 hD1 hS1 => ?_)
    have hn9 : h q = none := xw_none hD1 hA hO
    exact k q hn9 p e R s m args below meth c H1 locs (cells + 1) (slots + N) ls C hR ⟨by omega, by omega⟩ (xw_H.push hP1 hK1 hD1 hn9 hA hO (Or.inl ⟨0, tys.length, cA, _, rfl, rfl, by simp [xw_ty, newarray.typeOf]⟩)) hS1 hl
theorem x_cnew {n : Int32} {N : Nat} (d : decode M.2.1 pc = .ok (.newarray .char, 2)) (harr : Cond.arrayClass .char ∈ xw_tbl) (hn : ¬ n < 0) (hN : n.toNatClampNeg = N) (hbytes : N * componentBytes .char ≤ 536870912) (hb : 1 ≤ bc ∧ N ≤ bs)
    (k : ∀ q : Nat, h q = none → xw G M F L (bc - 1) (bs - N) pr px (pc + 2) lv (.ref q :: rest) (xw_up h q (.inl (1, N, .inl (fun _ => 0))))) : xw G M F L bc bs pr px pc lv (.int n :: rest) h :=
  fun p e R s m args below meth c H locs cells slots ls C hR hB hH hS hl => by
    obtain ⟨ws, tys, hP, hK, hD, hA, hO⟩ := id hH
    refine va_newa (a0 := (N, .inl (fun _ => 0))) C.1 C.2.1 (atype := .char) (C.2.2.2.2.2.1 _ harr) rfl hK hP hD hS (xw_F.S0 C.2.2.2.2.2.2.2.2.2) (fun cA => rfl) hn hN hbytes (by omega) (by omega) d (fun q cA H1 hK1 hP1 hD1 hS1 => ?_)
    have hn9 : h q = none := xw_none hD1 hA hO
    exact k q hn9 p e R s m args below meth c H1 locs (cells + 1) (slots + N) ls C hR ⟨by omega, by omega⟩ (xw_H.push hP1 hK1 hD1 hn9 hA hO (Or.inl ⟨1, tys.length, cA, _, rfl, rfl, by simp [xw_ty, newarray.typeOf]⟩)) hS1 hl
theorem x_lnew {n : Int32} {N : Nat} (d : decode M.2.1 pc = .ok (.newarray .long, 2)) (harr : Cond.arrayClass .long ∈ xw_tbl) (hn : ¬ n < 0) (hN : n.toNatClampNeg = N) (hbytes : N * componentBytes .long ≤ 536870912) (hb : 1 ≤ bc ∧ N ≤ bs)
    (k : ∀ q : Nat, h q = none → xw G M F L (bc - 1) (bs - N) pr px (pc + 2) lv (.ref q :: rest) (xw_up h q (.inl (2, N, .inr (.inl (fun _ => 0)))))) : xw G M F L bc bs pr px pc lv (.int n :: rest) h :=
  fun p e R s m args below meth c H locs cells slots ls C hR hB hH hS hl => by
    obtain ⟨ws, tys, hP, hK, hD, hA, hO⟩ := id hH
    refine va_newa (a0 := (N, .inr (.inl (fun _ => 0)))) C.1 C.2.1 (atype := .long) (C.2.2.2.2.2.1 _ harr) rfl hK hP hD hS (xw_F.S0 C.2.2.2.2.2.2.2.2.2) (fun cA => rfl) hn hN hbytes (by omega) (by omega) d (fun q cA H1 hK1 hP1 hD1 hS1 => ?_)
    have hn9 : h q = none := xw_none hD1 hA hO
    exact k q hn9 p e R s m args below meth c H1 locs (cells + 1) (slots + N) ls C hR ⟨by omega, by omega⟩ (xw_H.push hP1 hK1 hD1 hn9 hA hO (Or.inl ⟨2, tys.length, cA, _, rfl, rfl, by simp [xw_ty, newarray.typeOf]⟩)) hS1 hl
theorem x_dnew {n : Int32} {N : Nat} (d : decode M.2.1 pc = .ok (.newarray .double, 2)) (harr : Cond.arrayClass .double ∈ xw_tbl) (hn : ¬ n < 0) (hN : n.toNatClampNeg = N) (hbytes : N * componentBytes .double ≤ 536870912) (hb : 1 ≤ bc ∧ N ≤ bs)
    (k : ∀ q : Nat, h q = none → xw G M F L (bc - 1) (bs - N) pr px (pc + 2) lv (.ref q :: rest) (xw_up h q (.inl (3, N, .inr (.inr (.inr (.inl (fun _ => 0)))))))) : xw G M F L bc bs pr px pc lv (.int n :: rest) h :=
  fun p e R s m args below meth c H locs cells slots ls C hR hB hH hS hl => by
    obtain ⟨ws, tys, hP, hK, hD, hA, hO⟩ := id hH
    refine va_newa (a0 := (N, .inr (.inr (.inr (.inl (fun _ => 0)))))) C.1 C.2.1 (atype := .double) (C.2.2.2.2.2.1 _ harr) rfl hK hP hD hS (xw_F.S0 C.2.2.2.2.2.2.2.2.2) (fun cA => rfl) hn hN hbytes (by omega) (by omega) d (fun q cA H1 hK1 hP1 hD1 hS1 => ?_)
    have hn9 : h q = none := xw_none hD1 hA hO
    exact k q hn9 p e R s m args below meth c H1 locs (cells + 1) (slots + N) ls C hR ⟨by omega, by omega⟩ (xw_H.push hP1 hK1 hD1 hn9 hA hO (Or.inl ⟨3, tys.length, cA, _, rfl, rfl, by simp [xw_ty, newarray.typeOf]⟩)) hS1 hl
theorem x_anew {index ci : Nat} {n : Int32} {N : Nat} (d : decode M.2.1 pc = .ok (.anewarray index, 3)) (hci : ci < vwCl.length) (hcl : Cond.classLink M.1.cls index (xw_cl ci).1 ∈ xw_tbl) (hover : ∀ U H, xw_F G U H → va_AO (xw_cl ci).1 U) (hn : ¬ n < 0) (hN : n.toNatClampNeg = N) (hbytes : N * 4 ≤ 536870912) (hb : 1 ≤ bc ∧ N ≤ bs)
    (k : ∀ q : Nat, h q = none → xw G M F L (bc - 1) (bs - N) pr px (pc + 3) lv (.ref q :: rest) (xw_up h q (.inl (ci + 6, N, .inr (.inr (.inr (.inr (fun _ => none)))))))) : xw G M F L bc bs pr px pc lv (.int n :: rest) h :=
  fun p e R s m args below meth c H locs cells slots ls C hR hB hH hS hl => by
    obtain ⟨ws, tys, hP, hK, hD, hA, hO⟩ := id hH
    refine va_newq C.1 C.2.1 C.2.2.2.2.1 (C.2.2.2.2.2.1 _ hcl) (hover s s.heap C.2.2.2.2.2.2.2.2.2) hK hP hD hS (xw_F.S0 C.2.2.2.2.2.2.2.2.2) hn hN hbytes (by omega) (by omega) d (fun q cA H1 hK1 hP1 hD1 hS1 => ?_)
    have hn9 : h q = none := xw_none hD1 hA hO
    exact k q hn9 p e R s m args below meth c H1 locs (cells + 1) (slots + N) ls C hR ⟨by omega, by omega⟩ (xw_H.push hP1 hK1 hD1 hn9 hA hO (Or.inl ⟨ci + 6, tys.length, cA, _, rfl, rfl, by rw [xw_ty_o hci]; simp⟩)) hS1 hl
/-- fewer known, by shape -/
def xw_le : List (Option Value) → List (Option Value) → Prop
  | [], _ => True
  | none :: t, _ :: u => xw_le t u
  | none :: t, [] => xw_le t []
  | some v :: t, some w :: u => v = w ∧ xw_le t u
  | some _ :: _, none :: _ => False
  | some _ :: _, [] => False
theorem xw_le.at : ∀ {lv' lv : List (Option Value)}, xw_le lv' lv → ∀ (i : Nat) (v : Value), lv'[i]? = some (some v) → lv[i]? = some (some v)
  | [], _, _, i, v, hi => by simp at hi
  | none :: t, w :: u, hs, i, v, hi => by
    cases i with
    | zero => simp at hi
    | succ i =>
      have := xw_le.at (lv' := t) (lv := u) hs i v (by simpa using hi)
      simpa using this
  | none :: t, [], hs, i, v, hi => by
    cases i with
    | zero => simp at hi
    | succ i =>
      have := xw_le.at (lv' := t) (lv := []) hs i v (by simpa using hi)
      simp at this
  | some x :: t, some w :: u, hs, i, v, hi => by
    cases i with
    | zero =>
      rw [← hs.1]
      simpa using hi
    | succ i =>
      have := xw_le.at (lv' := t) (lv := u) hs.2 i v (by simpa using hi)
      simpa using this
  | some x :: t, none :: u, hs, i, v, hi => hs.elim
  | some x :: t, [], hs, i, v, hi => hs.elim
theorem x_le {lv' : List (Option Value)} (hs : xw_le lv' lv) (k : xw G M F L bc bs pr px pc lv' st h) : xw G M F L bc bs pr px pc lv st h := x_fewer hs.at k
theorem xw_ne {h : xw_A} {a b : Nat} {x y : xw_C} (ha : h a = some x) (hb : h b = some y) (n : ¬ x = y) : a ≠ b := fun q => by
  subst q
  rw [ha] at hb
  exact n (Option.some.inj hb)
theorem xw_neN {h : xw_A} {a b : Nat} {x : xw_C} (ha : h a = some x) (hb : h b = none) : a ≠ b := fun q => by
  subst q
  rw [ha] at hb
  cases hb
theorem xw_narq (C : String) (r : Option Nat) : narrow (.object C) (va_rf r) = va_rf r := by cases r <;> rfl
theorem xw_fitq (C : String) (r : Option Nat) : fits (.object C) (va_rf r) = true := by cases r <;> rfl
theorem xw_narqA (t : FieldType) (r : Option Nat) : narrow (.array t) (va_rf r) = va_rf r := by cases r <;> rfl
theorem xw_fitqA (t : FieldType) (r : Option Nat) : fits (.array t) (va_rf r) = true := by cases r <;> rfl
theorem x_aloadN_n {k4 : Fin 4} {i : Nat} (d : decode M.2.1 pc = .ok (.aload_n k4, 1)) (hi : (k4 : Nat) = i) (hv : lv[i]? = some (some .null)) (k : xw G M F L bc bs pr px (pc + 1) lv (.null :: rest) h) : xw G M F L bc bs pr px pc lv rest h :=
  fun p e R s m args below meth c H locs cells slots ls C hR hB hH hS hl => lv_aload_nN C.1 C.2.1 d hi (hl.2.2 i _ hv) (k p e R s m args below meth c H locs cells slots ls C hR hB hH hS hl)
theorem x_aloadN {i : Nat} (d : decode M.2.1 pc = .ok (.aload i, 2)) (hv : lv[i]? = some (some .null)) (k : xw G M F L bc bs pr px (pc + 2) lv (.null :: rest) h) : xw G M F L bc bs pr px pc lv rest h :=
  fun p e R s m args below meth c H locs cells slots ls C hR hB hH hS hl => lv_aloadN C.1 C.2.1 d (hl.2.2 i _ hv) (k p e R s m args below meth c H locs cells slots ls C hR hB hH hS hl)
theorem x_aloadq_n {k4 : Fin 4} {i : Nat} {x : Option Nat} (d : decode M.2.1 pc = .ok (.aload_n k4, 1)) (hi : (k4 : Nat) = i) (hv : lv[i]? = some (some (va_rf x))) (k : xw G M F L bc bs pr px (pc + 1) lv (va_rf x :: rest) h) : xw G M F L bc bs pr px pc lv rest h := by
  cases x with
  | none => exact x_aloadN_n d hi hv k
  | some a => exact x_aload_n d hi hv k
theorem x_aloadq {i : Nat} {x : Option Nat} (d : decode M.2.1 pc = .ok (.aload i, 2)) (hv : lv[i]? = some (some (va_rf x))) (k : xw G M F L bc bs pr px (pc + 2) lv (va_rf x :: rest) h) : xw G M F L bc bs pr px pc lv rest h := by
  cases x with
  | none => exact x_aloadN d hv k
  | some a => exact x_aload d hv k
theorem vl_cat (x : Option Nat) : (va_rf x).category = 1 := by cases x <;> rfl
theorem x_astoreN_n {k4 : Fin 4} {i : Nat} (d : decode M.2.1 pc = .ok (.astore_n k4, 1)) (hi : (k4 : Nat) = i) (hn : i < M.2.2.1) (ho : xw_o lv i) (k : xw G M F L bc bs pr px (pc + 1) (lv.set i (some .null)) rest h) : xw G M F L bc bs pr px pc lv (.null :: rest) h :=
  fun p e R s m args below meth c H locs cells slots ls C hR hB hH hS hl => lv_astore_nN C.1 C.2.1 d hi hl.has hn rfl (fun ls2 h2 => k p e R s m args below meth c H locs cells slots ls2 C hR hB hH hS (xw_L.st1 ho h2))
theorem x_astoreN {i : Nat} (d : decode M.2.1 pc = .ok (.astore i, 2)) (hn : i < M.2.2.1) (ho : xw_o lv i) (k : xw G M F L bc bs pr px (pc + 2) (lv.set i (some .null)) rest h) : xw G M F L bc bs pr px pc lv (.null :: rest) h :=
  fun p e R s m args below meth c H locs cells slots ls C hR hB hH hS hl => lv_astoreN C.1 C.2.1 d hl.has hn rfl (fun ls2 h2 => k p e R s m args below meth c H locs cells slots ls2 C hR hB hH hS (xw_L.st1 ho h2))
theorem x_astoreq_n {k4 : Fin 4} {i : Nat} {x : Option Nat} (d : decode M.2.1 pc = .ok (.astore_n k4, 1)) (hi : (k4 : Nat) = i) (hn : i < M.2.2.1) (ho : xw_o lv i) (k : xw G M F L bc bs pr px (pc + 1) (lv.set i (some (va_rf x))) rest h) : xw G M F L bc bs pr px pc lv (va_rf x :: rest) h := by
  cases x with
  | none => exact x_astoreN_n d hi hn ho k
  | some a => exact x_astore_n d hi hn ho k
theorem x_astoreq {i : Nat} {x : Option Nat} (d : decode M.2.1 pc = .ok (.astore i, 2)) (hn : i < M.2.2.1) (ho : xw_o lv i) (k : xw G M F L bc bs pr px (pc + 2) (lv.set i (some (va_rf x))) rest h) : xw G M F L bc bs pr px pc lv (va_rf x :: rest) h := by
  cases x with
  | none => exact x_astoreN d hn ho k
  | some a => exact x_astore d hn ho k
theorem x_ifnullq {x : Option Nat} {off : Int} {tgt : Nat} (d : decode M.2.1 pc = .ok (.ifnull off, 3)) (ht : (pc : Int) + off = (tgt : Int)) (kn : x = none → xw G M F L bc bs pr px tgt lv rest h) (ks : ∀ a : Nat, x = some a → xw G M F L bc bs pr px (pc + 3) lv rest h) : xw G M F L bc bs pr px pc lv (va_rf x :: rest) h := by
  cases x with
  | none => exact x_ifnullN d ht (kn rfl)
  | some a => exact x_ifnull d (ks a rfl)
theorem x_ifnonnullq {x : Option Nat} {off : Int} {tgt : Nat} (d : decode M.2.1 pc = .ok (.ifnonnull off, 3)) (ht : (pc : Int) + off = (tgt : Int)) (kn : x = none → xw G M F L bc bs pr px (pc + 3) lv rest h) (ks : ∀ a : Nat, x = some a → xw G M F L bc bs pr px tgt lv rest h) : xw G M F L bc bs pr px pc lv (va_rf x :: rest) h := by
  cases x with
  | none => exact x_ifnonnullN d (kn rfl)
  | some a => exact x_ifnonnull d ht (ks a rfl)
theorem x_ldc {index : Nat} {v : Int32} (d : decode M.2.1 pc = .ok (.ldc index, 2)) (hw : Cond.constant M.1.cls index v ∈ xw_tbl) (k : xw G M F L bc bs pr px (pc + 2) lv (.int v :: rest) h) : xw G M F L bc bs pr px pc lv rest h :=
  fun p e R s m args below meth c H locs cells slots ls C hR hB hH hS hl => lv_ldc C.1 C.2.1 C.2.2.2.2.1 (C.2.2.2.2.2.1 _ hw) d (k p e R s m args below meth c H locs cells slots ls C hR hB hH hS hl)
theorem x_ldc2 {index : Nat} {v : Int64} (d : decode M.2.1 pc = .ok (.ldc2_w index, 3)) (hw : Cond.constantLong M.1.cls index v ∈ xw_tbl) (k : xw G M F L bc bs pr px (pc + 3) lv (.long v :: rest) h) : xw G M F L bc bs pr px pc lv rest h :=
  fun p e R s m args below meth c H locs cells slots ls C hR hB hH hS hl => lv_ldc2 C.1 C.2.1 C.2.2.2.2.1 (C.2.2.2.2.2.1 _ hw) d (k p e R s m args below meth c H locs cells slots ls C hR hB hH hS hl)
theorem x_ldc2d {index : Nat} {v : UInt64} (d : decode M.2.1 pc = .ok (.ldc2_w index, 3)) (hw : Cond.constantDouble M.1.cls index v ∈ xw_tbl) (k : xw G M F L bc bs pr px (pc + 3) lv (.double v :: rest) h) : xw G M F L bc bs pr px pc lv rest h :=
  fun p e R s m args below meth c H locs cells slots ls C hR hB hH hS hl => lv_ldc2d C.1 C.2.1 C.2.2.2.2.1 (C.2.2.2.2.2.1 _ hw) d (k p e R s m args below meth c H locs cells slots ls C hR hB hH hS hl)
end Rows
end
section
/-! CONTRACTS of xw, and calls by them -/
/-- the locals at the entry -/
def xw_sl : List Value → List (Option Value)
  | [] => []
  | .long x :: t => some (.long x) :: none :: xw_sl t
  | .double x :: t => some (.double x) :: none :: xw_sl t
  | .int x :: t => some (.int x) :: xw_sl t
  | .float x :: t => some (.float x) :: xw_sl t
  | .null :: t => some .null :: xw_sl t
  | .ref a :: t => some (.ref a) :: xw_sl t
  | .retAddr a :: t => some (.retAddr a) :: xw_sl t
theorem xw_sl_at : ∀ (vs : List Value) (i : Nat) (v : Value), (xw_sl vs)[i]? = some (some v) → (lg_sl vs)[i]? = some (.val v)
  | [], i, v, h => by simp [xw_sl] at h
  | .long x :: t, i, v, h => by
    simp only [xw_sl] at h
    have e : lg_sl (.long x :: t) = .val (.long x) :: .second :: lg_sl t := by simp [lg_sl, Value.category]
    rw [e]
    match i, h with
    | 0, h => simpa using h
    | 1, h => simp at h
    | i + 2, h => simpa using xw_sl_at t i v (by simpa using h)
  | .double x :: t, i, v, h => by
    simp only [xw_sl] at h
    have e : lg_sl (.double x :: t) = .val (.double x) :: .second :: lg_sl t := by simp [lg_sl, Value.category]
    rw [e]
    match i, h with
    | 0, h => simpa using h
    | 1, h => simp at h
    | i + 2, h => simpa using xw_sl_at t i v (by simpa using h)
  | .int x :: t, i, v, h => by
    simp only [xw_sl] at h
    have e : lg_sl (.int x :: t) = .val (.int x) :: lg_sl t := by simp [lg_sl, Value.category]
    rw [e]
    match i, h with
    | 0, h => simpa using h
    | i + 1, h => simpa using xw_sl_at t i v (by simpa using h)
  | .float x :: t, i, v, h => by
    simp only [xw_sl] at h
    have e : lg_sl (.float x :: t) = .val (.float x) :: lg_sl t := by simp [lg_sl, Value.category]
    rw [e]
    match i, h with
    | 0, h => simpa using h
    | i + 1, h => simpa using xw_sl_at t i v (by simpa using h)
  | .null :: t, i, v, h => by
    simp only [xw_sl] at h
    have e : lg_sl (.null :: t) = .val .null :: lg_sl t := by simp [lg_sl, Value.category]
    rw [e]
    match i, h with
    | 0, h => simpa using h
    | i + 1, h => simpa using xw_sl_at t i v (by simpa using h)
  | .ref a :: t, i, v, h => by
    simp only [xw_sl] at h
    have e : lg_sl (.ref a :: t) = .val (.ref a) :: lg_sl t := by simp [lg_sl, Value.category]
    rw [e]
    match i, h with
    | 0, h => simpa using h
    | i + 1, h => simpa using xw_sl_at t i v (by simpa using h)
  | .retAddr a :: t, i, v, h => by
    simp only [xw_sl] at h
    have e : lg_sl (.retAddr a :: t) = .val (.retAddr a) :: lg_sl t := by simp [lg_sl, Value.category]
    rw [e]
    match i, h with
    | 0, h => simpa using h
    | i + 1, h => simpa using xw_sl_at t i v (by simpa using h)
theorem xw_L.entry {vs : List Value} {n : Nat} (hn : (lg_sl vs).length ≤ n) {lv : List (Option Value)} (hs : ∀ (i : Nat) (v : Value), lv[i]? = some (some v) → (xw_sl vs)[i]? = some (some v)) : xw_L ((lg_sl vs ++ List.replicate (n - (lg_sl vs).length) Slot.unset).toArray) n lv := by
  obtain ⟨h1, h2, -⟩ := lv_entry vs hn
  refine ⟨h1, h2, fun i v hi => ?_⟩
  have h3 := xw_sl_at vs i v (hs i v hi)
  simp only [List.getElem?_toArray]
  rw [List.getElem?_append_left (List.getElem?_eq_some_iff.mp h3).1]
  exact h3
/-- the locals at the entry, filled up with unknown ones -/
def xw_en (n : Nat) (vs : List Value) : List (Option Value) := xw_sl vs ++ List.replicate (n - (xw_sl vs).length) none
theorem xw_en_at {n : Nat} {vs : List Value} (i : Nat) (v : Value) (h : (xw_en n vs)[i]? = some (some v)) : (xw_sl vs)[i]? = some (some v) := by
  unfold xw_en at h
  by_cases hl : i < (xw_sl vs).length
  · rw [List.getElem?_append_left hl] at h
    exact h
  · rw [List.getElem?_append_right (by omega), List.getElem?_replicate] at h
    split at h
    · cases h
    · cases h
def xw_Met (G : xw_G) (M : xw_M) (F L mc ms : Nat) (av : List Value) (h : xw_A) (pr : Option Value → xw_A → Prop) (px : String → xw_A → Prop) : Prop :=
  MetFree G.1 M.1 (headSpec (Cond.code M.1 M.2.1 M.2.2.1 M.2.2.2.1 :: xw_tbl) { frames := F, cells := mc, slots := ms, locals := L }) (va_Pc av (fun U => xw_H G h U U.heap ∧ xw_F G U U.heap)) (fun _ _ _ _ _ => True) (xw_E G pr px mc ms)
/-- it never throws: the kit's contract -/
theorem xw_Met.met {G : xw_G} {M : xw_M} {F L mc ms : Nat} {av : List Value} {h : xw_A} {pr : Option Value → xw_A → Prop} (k : xw_Met G M F L mc ms av h pr (fun _ _ => False)) :
    Met G.1 M.1 (Cond.code M.1 M.2.1 M.2.2.1 M.2.2.2.1 :: xw_tbl) { frames := F, cells := mc, slots := ms, locals := L } (va_Pc av (fun U => xw_H G h U U.heap ∧ xw_F G U U.heap)) (xw_Q G pr) mc ms (xw_g G) := by
  intro p e h1 h2 h3 s m args below h4 h5 h6 h7
  obtain ⟨n, o, a1, a2, a3, a4⟩ := k p e h1 h2 h3 s m args below h4 h5 h6 h7
  refine ⟨n, o, a1, a2, a3, ?_⟩
  rcases a4 with a4 | ⟨q, -, E, ce, LL, g, hf, -⟩
  · exact a4
  · exact hf.elim
theorem xw_Met.of {G : xw_G} {M : xw_M} {F L mc ms : Nat} {av : List Value} {h : xw_A} {pr : Option Value → xw_A → Prop} {px : String → xw_A → Prop} (hM : M.2.2.2.2 = []) (hpl : plainName M.1.cls = true) (hsl : (lg_sl av).length ≤ M.2.2.1)
    (k : xw G M F L mc ms pr px 0 (xw_en M.2.2.1 av) [] h) : xw_Met G M F L mc ms av h pr px := by
  refine MetFree.of_bodyS (code := M.2.1) (maxLocals := M.2.2.1) (ret := M.2.2.2.1) hpl ?_ ?_
  · intro args s m h hn
    obtain ⟨meth, c, h1, h2, h3, h4, h5, h6, -, -⟩ := Cond.code_spec hn (atoms_spec (ws := Cond.code M.1 M.2.1 M.2.2.1 M.2.2.2.1 :: xw_tbl) h _ List.mem_cons_self)
    exact ⟨meth, c, h1, h2, h3, h4, h5, h6⟩
  intro p e s m args below meth c s₁ B hml hv _
  obtain ⟨rfl, hH, hF⟩ := hv
  have hts := atoms_spec (ws := Cond.code M.1 M.2.1 M.2.2.1 M.2.2.2.1 :: xw_tbl) B.pre
  have htab : c.exceptionTable.toList = tableOf M.2.2.2.2 := by
    obtain ⟨meth9, c9, h1, h2, -, -, -, -, h7, -⟩ := Cond.code_spec B.named (hts _ List.mem_cons_self)
    cases Option.some.inj (h1.symm.trans B.method)
    cases Option.some.inj (h2.symm.trans (Stand.of_body B).code)
    rw [hM, Array.isEmpty_iff.mp h7]
    rfl
  have hh0 : s₁.heap = s.heap := by rw [B.state]; rfl
  have K : W p G.1 e (headSpec (Cond.code M.1 M.2.1 M.2.2.1 M.2.2.2.1 :: xw_tbl) { frames := F, cells := mc, slots := ms, locals := L }).room s m av.toArray below meth c s.heap [] 0 0 (xw_Z G pr px below av.toArray s mc ms) (entryFrame m av.toArray M.2.2.1) := by
    rw [lg_entry_eq]
    exact k p e _ s m av.toArray below meth c s.heap [] 0 0 _ ⟨B.exec, B.bytes, B.returns, hml, findClass_of_methodNamed B.named, fun w hw => hts w (List.mem_cons_of_mem _ hw), B.notSynchronized, htab, (name_of_methodNamed B.named B.method).1, hF⟩
      ⟨Nat.le_refl _, Nat.le_refl _⟩ ⟨Nat.le_of_eq (Nat.zero_add _), Nat.le_of_eq (Nat.zero_add _)⟩ hH va_S.rf (xw_L.entry hsl xw_en_at)
  obtain ⟨t, a1, o, b1, b2, b3⟩ := K s₁ hh0 (Stand.of_body B)
  exact ⟨t, o, a1, b1, b2, b3⟩
/-- weaker ends -/
theorem xw.mono {G : xw_G} {M : xw_M} {F L bc bs : Nat} {pr pr' : Option Value → xw_A → Prop} {px px' : String → xw_A → Prop} {pc : Nat} {lv : List (Option Value)} {st : List Value} {h : xw_A} (h1 : ∀ v h1, pr v h1 → pr' v h1) (h2 : ∀ E h1, px E h1 → px' E h1) (k : xw G M F L bc bs pr px pc lv st h) : xw G M F L bc bs pr' px' pc lv st h := by
  intro p e R s m args below meth c H locs cells slots ls C hR hB hH hS hl T hT X
  obtain ⟨t, a, o, b1, b2, b3⟩ := k p e R s m args below meth c H locs cells slots ls C hR hB hH hS hl T hT X
  refine ⟨t, a, o, b1, b2, ?_⟩
  rcases b3 with ⟨⟨⟨v, g, e1, e2, e3⟩, e4⟩, b4⟩ | ⟨q, e1, E, ce, LL, g, e2, b4⟩
  · exact Or.inl ⟨⟨⟨v, g, e1, h1 v g e2, e3⟩, e4⟩, b4⟩
  · exact Or.inr ⟨q, e1, E, ce, LL, g, h2 E g e2, b4⟩
theorem xw_blind {G : xw_G} {h : xw_A} {av : List Value} : FrameBlind (va_Pc av (fun U => xw_H G h U U.heap ∧ xw_F G U U.heap)) :=
  fun a U g mk q => ⟨q.1, xw_H.moved (u := U) (U := U.calling g mk a) (Vm.Alike.refl U.vm) q.2.1, xw_F.moved (u := U) (U := U.calling g mk a) (State.WarmedH.refl U) (fun _ _ _ => rfl) q.2.2⟩
section Calls
variable {G : xw_G} {M : xw_M} {F L bc bs : Nat} {pr : Option Value → xw_A → Prop} {px : String → xw_A → Prop} {pc : Nat} {lv : List (Option Value)} {rest st : List Value} {h : xw_A}
/-- behind a run of a callee that returns -/
theorem xw_run {mc ms : Nat} {pq : Option Value → xw_A → Prop} (hc : mc ≤ bc ∧ ms ≤ bs) {st0 : List Value} {a9 : Array Value}
    (k : ∀ v h1, pq v h1 → xw G M F L (bc - mc) (bs - ms) pr px (pc + 3) lv (v.toList ++ rest) h1)
    {p : Program} {e : Env} {R : Room} {s : State} {m : MethodId} {args : Array Value} {below : List Frame} {meth : Method} {c : Code} {H : Heap} {locs : List Loc} {cells slots : Nat} {ls : Array Slot}
    (C : xw_K G M p s m args meth c) (hR : F ≤ R.frames ∧ L ≤ R.locals) (hB : cells + bc ≤ R.cells ∧ slots + bs ≤ R.slots) (hS : va_S (xw_g G) s.heap H locs) (hl : xw_L ls M.2.2.1 lv)
    (hr : va_Run p G.1 e R s m args below meth c H locs cells slots mc ms (F0 m pc ls st0) rest (xw_Q G pq a9) (xw_g G)) :
    W p G.1 e R s m args below meth c H locs cells slots (xw_Z G pr px below args s R.cells R.slots) (F0 m pc ls st0) := by
  intro T hT X
  obtain ⟨v, st₀, t, T', LL, h0, X', hL, e1, e2, ⟨⟨v', h1, hv, hp, hH1⟩, hF⟩, stp⟩ := hr T hT X
  cases hv
  obtain ⟨hz, hk⟩ := hF
  rw [h0] at hz hk
  have k3 : va_S (xw_g G) s.heap T'.heap (locs ++ LL) := ⟨Nat.le_trans hS.1 (by rw [e1]; exact hz), fun q h1 h2 => by rw [e1, hk q (Nat.lt_of_lt_of_le h1 hS.1) h2]; exact hS.2.1 q h1 h2, fun q hq => by
    rcases List.mem_append.mp hq with h | h
    · exact hS.2.2 q h
    · exact hL q h⟩
  obtain ⟨t2, a1, b1⟩ := k v h1 hp p e R s m args below meth c T'.heap (locs ++ LL) (cells + mc) (slots + ms) ls C hR ⟨by omega, by omega⟩ (xw_H.moved (u := t) (by rw [← e2]; exact X'.warmed.alike.symm) (by rw [e1]; exact hH1)) k3 hl T' rfl X'
  exact ⟨t2, stp t2 a1, b1⟩
/-- the words of a callee are among ours -/
theorem xw_goodIn {M1 : xw_M} {pre : List Cond} (hpre : ∀ w ∈ pre, w ∈ xw_tbl) (hcode : Cond.code M1.1 M1.2.1 M1.2.2.1 M1.2.2.2.1 ∈ xw_tbl) : GoodIn xw_tbl (pre ++ Cond.code M1.1 M1.2.1 M1.2.2.1 M1.2.2.2.1 :: xw_tbl) := by
  have key : ∀ w ∈ pre ++ Cond.code M1.1 M1.2.1 M1.2.2.1 M1.2.2.2.1 :: xw_tbl, w ∈ xw_tbl := by
    intro w hw
    rcases List.mem_append.mp hw with h1 | h1
    · exact hpre w h1
    · rcases List.mem_cons.mp h1 with h2 | h2
      · rw [h2]; exact hcode
      · exact h2
  exact fun w hw => ⟨key w hw, xw_good w (key w hw)⟩
/-- a call's site: virtual, of a method of the class itself -/
def xw_sV (own : String) (index : Nat) (M1 : xw_M) (n : Nat) : Prop :=
  (∀ w ∈ ([.methodLink own index M1.1, .instanceMethod M1.1, .selects M1.1.cls M1.1 M1.1, .initialized M1.1.cls] : List Cond), w ∈ xw_tbl) ∧ Cond.code M1.1 M1.2.1 M1.2.2.1 M1.2.2.2.1 ∈ xw_tbl ∧ M1.1.cls ≠ "java/lang/invoke/MethodHandle" ∧ M1.1.cls ≠ "java/lang/invoke/VarHandle" ∧ (parseMethodDescriptor M1.1.desc).map (fun d => d.parameters.length) = some n
theorem x_callV {index b ci F1 L1 mc ms : Nat} {M1 : xw_M} {As fs : List Value} {pq : Option Value → xw_A → Prop} (d : decode M.2.1 pc = .ok (.invokevirtual index, 3)) (hs : xw_sV M.1.cls index M1 As.length)
    (hM : xw_Met G M1 F1 L1 mc ms (.ref b :: As) h pq (fun _ _ => False)) (hb : h b = some (.inr (ci, fs))) (hci : ci < vwCl.length ∧ (xw_cl ci).1 = M1.1.cls) (hr : F1 + 1 ≤ F ∧ 8 + (M1.2.2.1 + 11) + L1 ≤ L) (hc : mc ≤ bc ∧ ms ≤ bs) (hw : (rest.map fun v => v.category).sum ≤ 8)
    (k : ∀ v h1, pq v h1 → xw G M F L (bc - mc) (bs - ms) pr px (pc + 3) lv (v.toList ++ rest) h1) : xw G M F L bc bs pr px pc lv (As.reverse ++ .ref b :: rest) h := by
  intro p e R s m args below meth c H locs cells slots ls C hR hB hH hS hl
  obtain ⟨ws, tys, hP, hK, hD, hA, hO⟩ := id hH
  obtain ⟨q, hq⟩ := hO b ci fs hb
  obtain ⟨s1, s2, s3, s4, s5⟩ := hs
  have hrecv := va_recv hK hP (xw_cl_get hci.1) hq
  rw [hci.2] at hrecv
  exact xw_run hc k C hR hB hS hl (va_runV (C := M1.1.cls) (As := As) (rest := rest) (n := As.length) (Ts := xw_tbl) ⟨C.1, C.2.1, C.2.2.2.1, C.2.2.2.2.1, C.2.2.2.2.2.1⟩ hM.met
    (cwV As.length C.2.2.2.2.2.1 (xw_goodIn s1 s2) rfl rfl rfl ⟨rfl, s3, s4, s5⟩ ⟨Nat.le_trans hr.1 hR.1, Nat.le_trans hr.2 hR.2⟩)
    ⟨xw_blind, hrecv, fun U hU hW => ⟨rfl, xw_H.moved hW.alike (by rw [hU]; exact hH), xw_F.moved hW (fun q h1 h2 => by rw [hU]; exact hS.2.1 q h1 (fun h3 => Nat.lt_irrefl _ (Nat.lt_of_lt_of_le h2 h3))) C.2.2.2.2.2.2.2.2.2⟩⟩ rfl rfl hl.1 rfl (lv_room hw) d ⟨by omega, by omega⟩)
/-- a call's site: static -/
def xw_sS (own : String) (index : Nat) (M1 : xw_M) (n : Nat) : Prop :=
  (∀ w ∈ ([.methodLink own index M1.1, .static M1.1, .initialized M1.1.cls] : List Cond), w ∈ xw_tbl) ∧ Cond.code M1.1 M1.2.1 M1.2.2.1 M1.2.2.2.1 ∈ xw_tbl ∧ M1.1.cls ≠ "java/lang/invoke/MethodHandle" ∧ M1.1.cls ≠ "java/lang/invoke/VarHandle" ∧ (parseMethodDescriptor M1.1.desc).map (fun d => d.parameters.length) = some n
theorem x_callS {index F1 L1 mc ms : Nat} {M1 : xw_M} {As : List Value} {pq : Option Value → xw_A → Prop} (d : decode M.2.1 pc = .ok (.invokestatic index, 3)) (hs : xw_sS M.1.cls index M1 As.length)
    (hM : xw_Met G M1 F1 L1 mc ms As h pq (fun _ _ => False)) (hr : F1 + 1 ≤ F ∧ 8 + (M1.2.2.1 + 11) + L1 ≤ L) (hc : mc ≤ bc ∧ ms ≤ bs) (hw : (rest.map fun v => v.category).sum ≤ 8)
    (k : ∀ v h1, pq v h1 → xw G M F L (bc - mc) (bs - ms) pr px (pc + 3) lv (v.toList ++ rest) h1) : xw G M F L bc bs pr px pc lv (As.reverse ++ rest) h := by
  intro p e R s m args below meth c H locs cells slots ls C hR hB hH hS hl
  obtain ⟨s1, s2, s3, s4, s5⟩ := hs
  exact xw_run hc k C hR hB hS hl (va_runS (As := As) (rest := rest) (n := As.length) (Ts := xw_tbl) ⟨C.1, C.2.1, C.2.2.2.1, C.2.2.2.2.1, C.2.2.2.2.2.1⟩ hM.met
    (va_cwS As.length C.2.2.2.2.2.1 (xw_goodIn s1 s2) rfl rfl rfl ⟨s3, s4, s5⟩ ⟨Nat.le_trans hr.1 hR.1, Nat.le_trans hr.2 hR.2⟩)
    ⟨xw_blind, fun U hU hW => ⟨rfl, xw_H.moved hW.alike (by rw [hU]; exact hH), xw_F.moved hW (fun q h1 h2 => by rw [hU]; exact hS.2.1 q h1 (fun h3 => Nat.lt_irrefl _ (Nat.lt_of_lt_of_le h2 h3))) C.2.2.2.2.2.2.2.2.2⟩⟩ rfl rfl hl.1 rfl (lv_room hw) d ⟨by omega, by omega⟩)
/-- a call's site: a constructor -/
def xw_sI (own : String) (index : Nat) (M1 : xw_M) (n : Nat) : Prop :=
  (∀ w ∈ ([.methodLink own index M1.1, .instanceMethod M1.1, .initialized M1.1.cls] : List Cond), w ∈ xw_tbl) ∧ Cond.code M1.1 M1.2.1 M1.2.2.1 M1.2.2.2.1 ∈ xw_tbl ∧ M1.1.cls ≠ "java/lang/invoke/MethodHandle" ∧ M1.1.cls ≠ "java/lang/invoke/VarHandle" ∧ (parseMethodDescriptor M1.1.desc).map (fun d => d.parameters.length) = some n ∧ M1.1.name = "<init>" ∧ M1.2.2.2.1 = none
theorem x_callI {index b F1 L1 mc ms : Nat} {M1 : xw_M} {As : List Value} {pq : Option Value → xw_A → Prop} (d : decode M.2.1 pc = .ok (.invokespecial index, 3)) (hs : xw_sI M.1.cls index M1 As.length)
    (hM : xw_Met G M1 F1 L1 mc ms (.ref b :: As) h pq (fun _ _ => False)) (hr : F1 + 1 ≤ F ∧ 8 + (M1.2.2.1 + 11) + L1 ≤ L) (hc : mc ≤ bc ∧ ms ≤ bs) (hw : (rest.map fun v => v.category).sum ≤ 8)
    (k : ∀ v h1, pq v h1 → xw G M F L (bc - mc) (bs - ms) pr px (pc + 3) lv (v.toList ++ rest) h1) : xw G M F L bc bs pr px pc lv (As.reverse ++ .ref b :: rest) h := by
  intro p e R s m args below meth c H locs cells slots ls C hR hB hH hS hl
  obtain ⟨s1, s2, s3, s4, s5, s6, s7⟩ := hs
  have cb := callB_of (R := R) (s := s) (args := args) (own := M.1.cls) (index := index) (y := M1.1) (rm := { frames := F1, cells := mc, slots := ms, locals := L1 }) (mc := mc) (ms := ms) As.length C.2.2.2.2.2.1 (xw_goodIn (pre := []) (M1 := M1) (fun w hw => by cases hw) s2) rfl rfl rfl (C.2.2.2.2.2.1 _ (s1 _ (by simp))) (C.2.2.2.2.2.1 _ (s1 _ (by simp))) ⟨s3, s4, s5⟩ ⟨Nat.le_trans hr.1 hR.1, Nat.le_trans hr.2 hR.2⟩
  rw [s7] at cb
  have hM' := hM.met
  rw [s7] at hM'
  exact xw_run hc k C hR hB hS hl (va_runI (As := As) (rest := rest) (n := As.length) (Ts := xw_tbl) ⟨C.1, C.2.1, C.2.2.2.1, C.2.2.2.2.1, C.2.2.2.2.2.1⟩ hM'
    ⟨cb, s6, C.2.2.2.2.2.1 _ (s1 _ (by simp))⟩
    ⟨xw_blind, fun U hU hW => ⟨rfl, xw_H.moved hW.alike (by rw [hU]; exact hH), xw_F.moved hW (fun q h1 h2 => by rw [hU]; exact hS.2.1 q h1 (fun h3 => Nat.lt_irrefl _ (Nat.lt_of_lt_of_le h2 h3))) C.2.2.2.2.2.2.2.2.2⟩⟩ rfl rfl hl.1 rfl (lv_room hw) d ⟨by omega, by omega⟩)
/-- Object's constructor -/
theorem x_objInit {index a : Nat} (d : decode M.2.1 pc = .ok (.invokespecial index, 3)) (hs : ∀ w ∈ ([.methodLink M.1.cls index objectInit, .instanceMethod objectInit, .code objectInit ⟨#[0xb1]⟩ 1 none] : List Cond), w ∈ xw_tbl) (hF : 1 ≤ F) (hL : (rest.map fun v => v.category).sum + 12 ≤ L)
    (k : xw G M F L bc bs pr px (pc + 3) lv rest h) : xw G M F L bc bs pr px pc lv (.ref a :: rest) h := by
  intro p e R s m args below meth c H locs cells slots ls C hR hB hH hS hl
  exact W.objInit C.1 C.2.1 C.2.2.2.2.1 (C.2.2.2.2.2.1 _ (hs _ (by simp))) (C.2.2.2.2.2.1 _ (hs _ (by simp))) (C.2.2.2.2.2.1 _ (hs _ (by simp))) rfl (hl.1.trans C.2.2.2.1.symm) rfl d (Nat.le_trans hF hR.1)
    (by have := hR.2; show 2 * 0 + _ + 12 ≤ _; omega) (k p e R s m args below meth c H locs cells slots ls C hR hB hH hS hl)
/-- a call's site: a constructor of a nest mate -/
def xw_sIN (own : String) (index : Nat) (M1 : xw_M) (host : String) (n : Nat) : Prop :=
  (own, index, M1.1, host) ∈ xw_nest ∧ (∀ w ∈ ([.instanceMethod M1.1, .initialized M1.1.cls] : List Cond), w ∈ xw_tbl) ∧ Cond.code M1.1 M1.2.1 M1.2.2.1 M1.2.2.2.1 ∈ xw_tbl ∧ M1.1.cls ≠ "java/lang/invoke/MethodHandle" ∧ M1.1.cls ≠ "java/lang/invoke/VarHandle" ∧ (parseMethodDescriptor M1.1.desc).map (fun d => d.parameters.length) = some n ∧ M1.1.name = "<init>" ∧ M1.2.2.2.1 = none
theorem x_callIN {index b F1 L1 mc ms : Nat} {host : String} {M1 : xw_M} {As : List Value} {pq : Option Value → xw_A → Prop} (d : decode M.2.1 pc = .ok (.invokespecial index, 3)) (hs : xw_sIN M.1.cls index M1 host As.length)
    (hM : xw_Met G M1 F1 L1 mc ms (.ref b :: As) h pq (fun _ _ => False)) (hr : F1 + 1 ≤ F ∧ 8 + (M1.2.2.1 + 11) + L1 ≤ L) (hc : mc ≤ bc ∧ ms ≤ bs) (hw : (rest.map fun v => v.category).sum ≤ 8)
    (k : ∀ v h1, pq v h1 → xw G M F L (bc - mc) (bs - ms) pr px (pc + 3) lv (v.toList ++ rest) h1) : xw G M F L bc bs pr px pc lv (As.reverse ++ .ref b :: rest) h := by
  intro p e R s m args below meth c H locs cells slots ls C hR hB hH hS hl
  obtain ⟨s0, s1, s2, s3, s4, s5, s6, s7⟩ := hs
  have cb := va_cnB (R := R) (s := s) (args := args) (own := M.1.cls) (host := host) (index := index) (y := M1.1) (rm := { frames := F1, cells := mc, slots := ms, locals := L1 }) (mc := mc) (ms := ms) As.length C.2.2.2.2.2.1 (xw_goodIn (pre := []) (M1 := M1) (fun w hw => by cases hw) s2) rfl rfl rfl (C.2.2.2.2.2.2.2.2.2.2.2.2.1 _ s0) (C.2.2.2.2.2.1 _ (s1 _ (by simp))) ⟨s3, s4, s5⟩ ⟨Nat.le_trans hr.1 hR.1, Nat.le_trans hr.2 hR.2⟩
  rw [s7] at cb
  have hM' := hM.met
  rw [s7] at hM'
  exact xw_run hc k C hR hB hS hl (va_runIN (As := As) (rest := rest) (n := As.length) (Ts := xw_tbl) ⟨C.1, C.2.1, C.2.2.2.1, C.2.2.2.2.1, C.2.2.2.2.2.1⟩ hM'
    ⟨cb, s6, C.2.2.2.2.2.1 _ (s1 _ (by simp))⟩
    ⟨xw_blind, fun U hU hW => ⟨rfl, xw_H.moved hW.alike (by rw [hU]; exact hH), xw_F.moved hW (fun q h1 h2 => by rw [hU]; exact hS.2.1 q h1 (fun h3 => Nat.lt_irrefl _ (Nat.lt_of_lt_of_le h2 h3))) C.2.2.2.2.2.2.2.2.2⟩⟩ rfl rfl hl.1 rfl (lv_room hw) d ⟨by omega, by omega⟩)
/-- a call's site: a static of a nest mate -/
def xw_sSN (own : String) (index : Nat) (M1 : xw_M) (host : String) (n : Nat) : Prop :=
  (own, index, M1.1, host) ∈ xw_nest ∧ (∀ w ∈ ([.static M1.1, .initialized M1.1.cls] : List Cond), w ∈ xw_tbl) ∧ Cond.code M1.1 M1.2.1 M1.2.2.1 M1.2.2.2.1 ∈ xw_tbl ∧ M1.1.cls ≠ "java/lang/invoke/MethodHandle" ∧ M1.1.cls ≠ "java/lang/invoke/VarHandle" ∧ (parseMethodDescriptor M1.1.desc).map (fun d => d.parameters.length) = some n
theorem x_callSN {index F1 L1 mc ms : Nat} {host : String} {M1 : xw_M} {As : List Value} {pq : Option Value → xw_A → Prop} (d : decode M.2.1 pc = .ok (.invokestatic index, 3)) (hs : xw_sSN M.1.cls index M1 host As.length)
    (hM : xw_Met G M1 F1 L1 mc ms As h pq (fun _ _ => False)) (hr : F1 + 1 ≤ F ∧ 8 + (M1.2.2.1 + 11) + L1 ≤ L) (hc : mc ≤ bc ∧ ms ≤ bs) (hw : (rest.map fun v => v.category).sum ≤ 8)
    (k : ∀ v h1, pq v h1 → xw G M F L (bc - mc) (bs - ms) pr px (pc + 3) lv (v.toList ++ rest) h1) : xw G M F L bc bs pr px pc lv (As.reverse ++ rest) h := by
  intro p e R s m args below meth c H locs cells slots ls C hR hB hH hS hl
  obtain ⟨s0, s1, s2, s3, s4, s5⟩ := hs
  exact xw_run hc k C hR hB hS hl (va_runSN (As := As) (rest := rest) (n := As.length) (Ts := xw_tbl) ⟨C.1, C.2.1, C.2.2.2.1, C.2.2.2.2.1, C.2.2.2.2.2.1⟩ hM.met
    ⟨va_cnB (host := host) As.length C.2.2.2.2.2.1 (xw_goodIn (pre := []) (M1 := M1) (fun w hw => by cases hw) s2) rfl rfl rfl (C.2.2.2.2.2.2.2.2.2.2.2.2.1 _ s0) (C.2.2.2.2.2.1 _ (s1 _ (by simp))) ⟨s3, s4, s5⟩ ⟨Nat.le_trans hr.1 hR.1, Nat.le_trans hr.2 hR.2⟩, C.2.2.2.2.2.1 _ (s1 _ (by simp)), trivial⟩
    ⟨xw_blind, fun U hU hW => ⟨rfl, xw_H.moved hW.alike (by rw [hU]; exact hH), xw_F.moved hW (fun q h1 h2 => by rw [hU]; exact hS.2.1 q h1 (fun h3 => Nat.lt_irrefl _ (Nat.lt_of_lt_of_le h2 h3))) C.2.2.2.2.2.2.2.2.2⟩⟩ rfl rfl hl.1 rfl (lv_room hw) d ⟨by omega, by omega⟩)
end Calls
end
section
/-! what the tables say of each field, class and call that is reached: by program -/
theorem f_Store_11 : xw_f "PhraseShelf$Store" 11 8 0 := ⟨by decide, by decide, xw_in 130 (by decide +kernel) rfl, rfl⟩
theorem f_Store_17 : xw_f "PhraseShelf$Store" 17 8 1 := ⟨by decide, by decide, xw_in 131 (by decide +kernel) rfl, rfl⟩
theorem f_Store_22 : xw_f "PhraseShelf$Store" 22 8 2 := ⟨by decide, by decide, xw_in 132 (by decide +kernel) rfl, rfl⟩
theorem f_Shelf_225 : xw_f "PhraseShelf" 225 8 2 := ⟨by decide, by decide, xw_in 133 (by decide +kernel) rfl, rfl⟩
theorem f_Store_26 : xw_f "PhraseShelf$Store" 26 8 3 := ⟨by decide, by decide, xw_in 134 (by decide +kernel) rfl, rfl⟩
theorem f_Store_45 : xw_f "PhraseShelf$Store" 45 8 4 := ⟨by decide, by decide, xw_in 135 (by decide +kernel) rfl, rfl⟩
theorem f_Store_48 : xw_f "PhraseShelf$Store" 48 8 5 := ⟨by decide, by decide, xw_in 136 (by decide +kernel) rfl, rfl⟩
theorem f_Shelf_241 : xw_f "PhraseShelf" 241 8 5 := ⟨by decide, by decide, xw_in 137 (by decide +kernel) rfl, rfl⟩
theorem f_Store_70 : xw_f "PhraseShelf$Store" 70 8 6 := ⟨by decide, by decide, xw_in 138 (by decide +kernel) rfl, rfl⟩
theorem f_Shelf_150 : xw_f "PhraseShelf" 150 8 6 := ⟨by decide, by decide, xw_in 139 (by decide +kernel) rfl, rfl⟩
theorem f_Store_33 : xw_f "PhraseShelf$Store" 33 8 7 := ⟨by decide, by decide, xw_in 140 (by decide +kernel) rfl, rfl⟩
theorem f_Shelf_244 : xw_f "PhraseShelf" 244 8 7 := ⟨by decide, by decide, xw_in 141 (by decide +kernel) rfl, rfl⟩
theorem f_Store_98 : xw_f "PhraseShelf$Store" 98 8 8 := ⟨by decide, by decide, xw_in 142 (by decide +kernel) rfl, rfl⟩
theorem f_Shelf_247 : xw_f "PhraseShelf" 247 8 8 := ⟨by decide, by decide, xw_in 143 (by decide +kernel) rfl, rfl⟩
theorem f_Store_51 : xw_f "PhraseShelf$Store" 51 8 9 := ⟨by decide, by decide, xw_in 144 (by decide +kernel) rfl, rfl⟩
theorem f_Tokens_7 : xw_f "PhraseShelf$Tokens" 7 9 0 := ⟨by decide, by decide, xw_in 180 (by decide +kernel) rfl, rfl⟩
theorem f_Tokens_13 : xw_f "PhraseShelf$Tokens" 13 9 1 := ⟨by decide, by decide, xw_in 181 (by decide +kernel) rfl, rfl⟩
theorem f_Question_53 : xw_f "PhraseShelf$Question" 53 9 2 := ⟨by decide, by decide, xw_in 182 (by decide +kernel) rfl, rfl⟩
theorem f_Tokens_23 : xw_f "PhraseShelf$Tokens" 23 9 2 := ⟨by decide, by decide, xw_in 183 (by decide +kernel) rfl, rfl⟩
theorem f_Version_26 : xw_f "PhraseShelf$Version" 26 9 2 := ⟨by decide, by decide, xw_in 184 (by decide +kernel) rfl, rfl⟩
theorem f_Shelf_102 : xw_f "PhraseShelf" 102 9 2 := ⟨by decide, by decide, xw_in 185 (by decide +kernel) rfl, rfl⟩
theorem f_Standing_54 : xw_f "PhraseShelf$Standing" 54 9 2 := ⟨by decide, by decide, xw_in 186 (by decide +kernel) rfl, rfl⟩
theorem f_Parts_9 : xw_f "PhraseShelf$Parts" 9 3 0 := ⟨by decide, by decide, xw_in 204 (by decide +kernel) rfl, rfl⟩
theorem f_Question_77 : xw_f "PhraseShelf$Question" 77 3 0 := ⟨by decide, by decide, xw_in 205 (by decide +kernel) rfl, rfl⟩
theorem f_Parts_15 : xw_f "PhraseShelf$Parts" 15 3 1 := ⟨by decide, by decide, xw_in 206 (by decide +kernel) rfl, rfl⟩
theorem f_Question_81 : xw_f "PhraseShelf$Question" 81 3 1 := ⟨by decide, by decide, xw_in 207 (by decide +kernel) rfl, rfl⟩
theorem f_Parts_18 : xw_f "PhraseShelf$Parts" 18 3 2 := ⟨by decide, by decide, xw_in 208 (by decide +kernel) rfl, rfl⟩
theorem f_Question_149 : xw_f "PhraseShelf$Question" 149 3 2 := ⟨by decide, by decide, xw_in 209 (by decide +kernel) rfl, rfl⟩
theorem f_Parts_21 : xw_f "PhraseShelf$Parts" 21 3 3 := ⟨by decide, by decide, xw_in 210 (by decide +kernel) rfl, rfl⟩
theorem f_Parts_25 : xw_f "PhraseShelf$Parts" 25 3 4 := ⟨by decide, by decide, xw_in 211 (by decide +kernel) rfl, rfl⟩
theorem f_Standing_71 : xw_f "PhraseShelf$Standing" 71 4 0 := ⟨by decide, by decide, xw_in 228 (by decide +kernel) rfl, rfl⟩
theorem f_Question_139 : xw_f "PhraseShelf$Question" 139 4 0 := ⟨by decide, by decide, xw_in 229 (by decide +kernel) rfl, rfl⟩
theorem f_Standing_49 : xw_f "PhraseShelf$Standing" 49 4 1 := ⟨by decide, by decide, xw_in 230 (by decide +kernel) rfl, rfl⟩
theorem f_Question_142 : xw_f "PhraseShelf$Question" 142 4 1 := ⟨by decide, by decide, xw_in 231 (by decide +kernel) rfl, rfl⟩
theorem f_Standing_63 : xw_f "PhraseShelf$Standing" 63 4 2 := ⟨by decide, by decide, xw_in 232 (by decide +kernel) rfl, rfl⟩
theorem f_Question_145 : xw_f "PhraseShelf$Question" 145 4 2 := ⟨by decide, by decide, xw_in 233 (by decide +kernel) rfl, rfl⟩
theorem f_Standing_92 : xw_f "PhraseShelf$Standing" 92 2 0 := ⟨by decide, by decide, xw_in 246 (by decide +kernel) rfl, rfl⟩
theorem f_Question_181 : xw_f "PhraseShelf$Question" 181 2 0 := ⟨by decide, by decide, xw_in 247 (by decide +kernel) rfl, rfl⟩
theorem f_Standing_109 : xw_f "PhraseShelf$Standing" 109 2 1 := ⟨by decide, by decide, xw_in 248 (by decide +kernel) rfl, rfl⟩
theorem f_Question_174 : xw_f "PhraseShelf$Question" 174 2 1 := ⟨by decide, by decide, xw_in 249 (by decide +kernel) rfl, rfl⟩
theorem f_Standing_113 : xw_f "PhraseShelf$Standing" 113 2 2 := ⟨by decide, by decide, xw_in 250 (by decide +kernel) rfl, rfl⟩
theorem f_Question_178 : xw_f "PhraseShelf$Question" 178 2 2 := ⟨by decide, by decide, xw_in 251 (by decide +kernel) rfl, rfl⟩
theorem f_Standing_123 : xw_f "PhraseShelf$Standing" 123 2 3 := ⟨by decide, by decide, xw_in 252 (by decide +kernel) rfl, rfl⟩
theorem f_Question_159 : xw_f "PhraseShelf$Question" 159 2 3 := ⟨by decide, by decide, xw_in 253 (by decide +kernel) rfl, rfl⟩
theorem f_Standing_126 : xw_f "PhraseShelf$Standing" 126 2 4 := ⟨by decide, by decide, xw_in 254 (by decide +kernel) rfl, rfl⟩
theorem f_Question_162 : xw_f "PhraseShelf$Question" 162 2 4 := ⟨by decide, by decide, xw_in 255 (by decide +kernel) rfl, rfl⟩
theorem f_Standing_144 : xw_f "PhraseShelf$Standing" 144 2 5 := ⟨by decide, by decide, xw_in 256 (by decide +kernel) rfl, rfl⟩
theorem f_Question_165 : xw_f "PhraseShelf$Question" 165 2 5 := ⟨by decide, by decide, xw_in 257 (by decide +kernel) rfl, rfl⟩
theorem f_Standing_116 : xw_f "PhraseShelf$Standing" 116 2 6 := ⟨by decide, by decide, xw_in 258 (by decide +kernel) rfl, rfl⟩
theorem f_Question_168 : xw_f "PhraseShelf$Question" 168 2 6 := ⟨by decide, by decide, xw_in 259 (by decide +kernel) rfl, rfl⟩
theorem f_Standing_129 : xw_f "PhraseShelf$Standing" 129 2 7 := ⟨by decide, by decide, xw_in 260 (by decide +kernel) rfl, rfl⟩
theorem f_Question_171 : xw_f "PhraseShelf$Question" 171 2 7 := ⟨by decide, by decide, xw_in 261 (by decide +kernel) rfl, rfl⟩
theorem f_Standing_104 : xw_f "PhraseShelf$Standing" 104 2 8 := ⟨by decide, by decide, xw_in 262 (by decide +kernel) rfl, rfl⟩
theorem f_Question_16 : xw_f "PhraseShelf$Question" 16 5 0 := ⟨by decide, by decide, xw_in 282 (by decide +kernel) rfl, rfl⟩
theorem f_Standing_67 : xw_f "PhraseShelf$Standing" 67 5 0 := ⟨by decide, by decide, xw_in 283 (by decide +kernel) rfl, rfl⟩
theorem f_Question_24 : xw_f "PhraseShelf$Question" 24 5 1 := ⟨by decide, by decide, xw_in 284 (by decide +kernel) rfl, rfl⟩
theorem f_Standing_31 : xw_f "PhraseShelf$Standing" 31 5 1 := ⟨by decide, by decide, xw_in 285 (by decide +kernel) rfl, rfl⟩
theorem f_Question_30 : xw_f "PhraseShelf$Question" 30 5 2 := ⟨by decide, by decide, xw_in 286 (by decide +kernel) rfl, rfl⟩
theorem f_Standing_88 : xw_f "PhraseShelf$Standing" 88 5 2 := ⟨by decide, by decide, xw_in 287 (by decide +kernel) rfl, rfl⟩
theorem f_Standing_19 : xw_f "PhraseShelf$Standing" 19 5 3 := ⟨by decide, by decide, xw_in 288 (by decide +kernel) rfl, rfl⟩
theorem f_Question_56 : xw_f "PhraseShelf$Question" 56 5 3 := ⟨by decide, by decide, xw_in 289 (by decide +kernel) rfl, rfl⟩
theorem f_Shelf_170 : xw_f "PhraseShelf" 170 5 3 := ⟨by decide, by decide, xw_in 290 (by decide +kernel) rfl, rfl⟩
theorem f_Question_59 : xw_f "PhraseShelf$Question" 59 5 4 := ⟨by decide, by decide, xw_in 291 (by decide +kernel) rfl, rfl⟩
theorem f_Standing_85 : xw_f "PhraseShelf$Standing" 85 5 4 := ⟨by decide, by decide, xw_in 292 (by decide +kernel) rfl, rfl⟩
theorem f_Question_62 : xw_f "PhraseShelf$Question" 62 5 5 := ⟨by decide, by decide, xw_in 293 (by decide +kernel) rfl, rfl⟩
theorem f_Shelf_167 : xw_f "PhraseShelf" 167 5 5 := ⟨by decide, by decide, xw_in 294 (by decide +kernel) rfl, rfl⟩
theorem f_Question_35 : xw_f "PhraseShelf$Question" 35 5 6 := ⟨by decide, by decide, xw_in 295 (by decide +kernel) rfl, rfl⟩
theorem f_Question_45 : xw_f "PhraseShelf$Question" 45 5 7 := ⟨by decide, by decide, xw_in 296 (by decide +kernel) rfl, rfl⟩
theorem f_Question_49 : xw_f "PhraseShelf$Question" 49 5 8 := ⟨by decide, by decide, xw_in 297 (by decide +kernel) rfl, rfl⟩
theorem f_Standing_9 : xw_f "PhraseShelf$Standing" 9 7 0 := ⟨by decide, by decide, xw_in 323 (by decide +kernel) rfl, rfl⟩
theorem f_Standing_15 : xw_f "PhraseShelf$Standing" 15 7 1 := ⟨by decide, by decide, xw_in 324 (by decide +kernel) rfl, rfl⟩
theorem f_Answers_9 : xw_f "PhraseShelf$Answers" 9 1 0 := ⟨by decide, by decide, xw_in 336 (by decide +kernel) rfl, rfl⟩
theorem f_Shelf_200 : xw_f "PhraseShelf" 200 1 0 := ⟨by decide, by decide, xw_in 337 (by decide +kernel) rfl, rfl⟩
theorem f_Answers_15 : xw_f "PhraseShelf$Answers" 15 1 1 := ⟨by decide, by decide, xw_in 338 (by decide +kernel) rfl, rfl⟩
theorem f_Shelf_207 : xw_f "PhraseShelf" 207 1 1 := ⟨by decide, by decide, xw_in 339 (by decide +kernel) rfl, rfl⟩
theorem f_Answers_25 : xw_f "PhraseShelf$Answers" 25 1 2 := ⟨by decide, by decide, xw_in 340 (by decide +kernel) rfl, rfl⟩
theorem f_Shelf_192 : xw_f "PhraseShelf" 192 1 2 := ⟨by decide, by decide, xw_in 341 (by decide +kernel) rfl, rfl⟩
theorem f_Answers_19 : xw_f "PhraseShelf$Answers" 19 1 3 := ⟨by decide, by decide, xw_in 342 (by decide +kernel) rfl, rfl⟩
theorem f_Answers_22 : xw_f "PhraseShelf$Answers" 22 1 4 := ⟨by decide, by decide, xw_in 343 (by decide +kernel) rfl, rfl⟩
theorem f_Shelf_9 : xw_f "PhraseShelf" 9 0 0 := ⟨by decide, by decide, xw_in 357 (by decide +kernel) rfl, rfl⟩
theorem f_Shelf_15 : xw_f "PhraseShelf" 15 0 1 := ⟨by decide, by decide, xw_in 358 (by decide +kernel) rfl, rfl⟩
theorem f_Shelf_19 : xw_f "PhraseShelf" 19 0 2 := ⟨by decide, by decide, xw_in 359 (by decide +kernel) rfl, rfl⟩
theorem f_Shelf_26 : xw_f "PhraseShelf" 26 0 3 := ⟨by decide, by decide, xw_in 360 (by decide +kernel) rfl, rfl⟩
theorem f_Shelf_30 : xw_f "PhraseShelf" 30 0 4 := ⟨by decide, by decide, xw_in 361 (by decide +kernel) rfl, rfl⟩
theorem f_Shelf_36 : xw_f "PhraseShelf" 36 0 5 := ⟨by decide, by decide, xw_in 362 (by decide +kernel) rfl, rfl⟩
theorem f_Shelf_43 : xw_f "PhraseShelf" 43 0 6 := ⟨by decide, by decide, xw_in 363 (by decide +kernel) rfl, rfl⟩
theorem f_Shelf_50 : xw_f "PhraseShelf" 50 0 7 := ⟨by decide, by decide, xw_in 364 (by decide +kernel) rfl, rfl⟩
theorem f_Shelf_78 : xw_f "PhraseShelf" 78 0 8 := ⟨by decide, by decide, xw_in 365 (by decide +kernel) rfl, rfl⟩
theorem f_Shelf_57 : xw_f "PhraseShelf" 57 0 9 := ⟨by decide, by decide, xw_in 366 (by decide +kernel) rfl, rfl⟩
theorem f_Shelf_61 : xw_f "PhraseShelf" 61 0 10 := ⟨by decide, by decide, xw_in 367 (by decide +kernel) rfl, rfl⟩
theorem f_Shelf_132 : xw_f "PhraseShelf" 132 0 11 := ⟨by decide, by decide, xw_in 368 (by decide +kernel) rfl, rfl⟩
theorem f_Shelf_64 : xw_f "PhraseShelf" 64 0 12 := ⟨by decide, by decide, xw_in 369 (by decide +kernel) rfl, rfl⟩
theorem f_Shelf_173 : xw_f "PhraseShelf" 173 0 13 := ⟨by decide, by decide, xw_in 370 (by decide +kernel) rfl, rfl⟩
theorem f_Segment_7 : xw_f "PhraseShelf$Segment" 7 6 0 := ⟨by decide, by decide, xw_in 426 (by decide +kernel) rfl, rfl⟩
theorem f_Store_73 : xw_f "PhraseShelf$Store" 73 6 0 := ⟨by decide, by decide, xw_in 427 (by decide +kernel) rfl, rfl⟩
theorem f_Shelf_229 : xw_f "PhraseShelf" 229 6 0 := ⟨by decide, by decide, xw_in 428 (by decide +kernel) rfl, rfl⟩
theorem f_Segment_15 : xw_f "PhraseShelf$Segment" 15 6 1 := ⟨by decide, by decide, xw_in 429 (by decide +kernel) rfl, rfl⟩
theorem f_Store_86 : xw_f "PhraseShelf$Store" 86 6 1 := ⟨by decide, by decide, xw_in 430 (by decide +kernel) rfl, rfl⟩
theorem f_Shelf_234 : xw_f "PhraseShelf" 234 6 1 := ⟨by decide, by decide, xw_in 431 (by decide +kernel) rfl, rfl⟩
theorem f_Segment_22 : xw_f "PhraseShelf$Segment" 22 6 2 := ⟨by decide, by decide, xw_in 432 (by decide +kernel) rfl, rfl⟩
theorem f_Shelf_238 : xw_f "PhraseShelf" 238 6 2 := ⟨by decide, by decide, xw_in 433 (by decide +kernel) rfl, rfl⟩
theorem f_Version_7 : xw_f "PhraseShelf$Version" 7 10 0 := ⟨by decide, by decide, xw_in 632 (by decide +kernel) rfl, rfl⟩
theorem f_Store_92 : xw_f "PhraseShelf$Store" 92 10 0 := ⟨by decide, by decide, xw_in 633 (by decide +kernel) rfl, rfl⟩
theorem f_Version_13 : xw_f "PhraseShelf$Version" 13 10 1 := ⟨by decide, by decide, xw_in 634 (by decide +kernel) rfl, rfl⟩
theorem f_Store_89 : xw_f "PhraseShelf$Store" 89 10 1 := ⟨by decide, by decide, xw_in 635 (by decide +kernel) rfl, rfl⟩
theorem f_Version_16 : xw_f "PhraseShelf$Version" 16 10 2 := ⟨by decide, by decide, xw_in 636 (by decide +kernel) rfl, rfl⟩
theorem f_Shelf_211 : xw_f "PhraseShelf" 211 10 2 := ⟨by decide, by decide, xw_in 637 (by decide +kernel) rfl, rfl⟩
theorem f_Version_20 : xw_f "PhraseShelf$Version" 20 10 3 := ⟨by decide, by decide, xw_in 638 (by decide +kernel) rfl, rfl⟩
theorem f_Shelf_215 : xw_f "PhraseShelf" 215 10 3 := ⟨by decide, by decide, xw_in 639 (by decide +kernel) rfl, rfl⟩
theorem f_Version_23 : xw_f "PhraseShelf$Version" 23 10 4 := ⟨by decide, by decide, xw_in 640 (by decide +kernel) rfl, rfl⟩
theorem f_Segment_19 : xw_f "PhraseShelf$Segment" 19 10 4 := ⟨by decide, by decide, xw_in 641 (by decide +kernel) rfl, rfl⟩
theorem f_Shelf_218 : xw_f "PhraseShelf" 218 10 4 := ⟨by decide, by decide, xw_in 642 (by decide +kernel) rfl, rfl⟩
theorem f_Model_130 : xw_f "PhraseShelfModel" 130 11 0 := ⟨by decide, by decide, xw_in 1151 (by decide +kernel) rfl, rfl⟩
theorem f_Model_7 : xw_f "PhraseShelfModel" 7 11 1 := ⟨by decide, by decide, xw_in 1152 (by decide +kernel) rfl, rfl⟩
theorem f_Model_13 : xw_f "PhraseShelfModel" 13 11 2 := ⟨by decide, by decide, xw_in 1153 (by decide +kernel) rfl, rfl⟩
theorem f_Model_16 : xw_f "PhraseShelfModel" 16 11 3 := ⟨by decide, by decide, xw_in 1154 (by decide +kernel) rfl, rfl⟩
theorem f_Model_20 : xw_f "PhraseShelfModel" 20 11 4 := ⟨by decide, by decide, xw_in 1155 (by decide +kernel) rfl, rfl⟩
theorem f_Model_23 : xw_f "PhraseShelfModel" 23 11 5 := ⟨by decide, by decide, xw_in 1156 (by decide +kernel) rfl, rfl⟩
theorem f_Model_26 : xw_f "PhraseShelfModel" 26 11 6 := ⟨by decide, by decide, xw_in 1157 (by decide +kernel) rfl, rfl⟩
theorem f_Model_29 : xw_f "PhraseShelfModel" 29 11 7 := ⟨by decide, by decide, xw_in 1158 (by decide +kernel) rfl, rfl⟩
theorem f_Model_32 : xw_f "PhraseShelfModel" 32 11 8 := ⟨by decide, by decide, xw_in 1159 (by decide +kernel) rfl, rfl⟩
theorem f_Model_35 : xw_f "PhraseShelfModel" 35 11 9 := ⟨by decide, by decide, xw_in 1160 (by decide +kernel) rfl, rfl⟩
theorem f_Model_143 : xw_f "PhraseShelfModel" 143 11 10 := ⟨by decide, by decide, xw_in 1161 (by decide +kernel) rfl, rfl⟩
theorem f_Model_212 : xw_f "PhraseShelfModel" 212 11 11 := ⟨by decide, by decide, xw_in 1162 (by decide +kernel) rfl, rfl⟩
theorem f_Model_38 : xw_f "PhraseShelfModel" 38 11 12 := ⟨by decide, by decide, xw_in 1163 (by decide +kernel) rfl, rfl⟩
theorem f_Model_41 : xw_f "PhraseShelfModel" 41 11 13 := ⟨by decide, by decide, xw_in 1164 (by decide +kernel) rfl, rfl⟩
theorem f_Model_44 : xw_f "PhraseShelfModel" 44 11 14 := ⟨by decide, by decide, xw_in 1165 (by decide +kernel) rfl, rfl⟩
theorem f_Model_165 : xw_f "PhraseShelfModel" 165 11 15 := ⟨by decide, by decide, xw_in 1166 (by decide +kernel) rfl, rfl⟩
theorem f_Model_187 : xw_f "PhraseShelfModel" 187 11 16 := ⟨by decide, by decide, xw_in 1167 (by decide +kernel) rfl, rfl⟩
theorem f_Model_47 : xw_f "PhraseShelfModel" 47 11 17 := ⟨by decide, by decide, xw_in 1168 (by decide +kernel) rfl, rfl⟩
theorem f_Model_50 : xw_f "PhraseShelfModel" 50 11 18 := ⟨by decide, by decide, xw_in 1169 (by decide +kernel) rfl, rfl⟩
theorem f_Model_193 : xw_f "PhraseShelfModel" 193 11 19 := ⟨by decide, by decide, xw_in 1170 (by decide +kernel) rfl, rfl⟩
theorem f_Model_199 : xw_f "PhraseShelfModel" 199 11 20 := ⟨by decide, by decide, xw_in 1171 (by decide +kernel) rfl, rfl⟩
theorem f_Model_53 : xw_f "PhraseShelfModel" 53 11 21 := ⟨by decide, by decide, xw_in 1172 (by decide +kernel) rfl, rfl⟩
theorem f_Model_56 : xw_f "PhraseShelfModel" 56 11 22 := ⟨by decide, by decide, xw_in 1173 (by decide +kernel) rfl, rfl⟩
theorem f_Model_59 : xw_f "PhraseShelfModel" 59 11 23 := ⟨by decide, by decide, xw_in 1174 (by decide +kernel) rfl, rfl⟩
theorem f_Model_62 : xw_f "PhraseShelfModel" 62 11 24 := ⟨by decide, by decide, xw_in 1175 (by decide +kernel) rfl, rfl⟩
theorem f_Model_65 : xw_f "PhraseShelfModel" 65 11 25 := ⟨by decide, by decide, xw_in 1176 (by decide +kernel) rfl, rfl⟩
theorem f_Model_203 : xw_f "PhraseShelfModel" 203 11 26 := ⟨by decide, by decide, xw_in 1177 (by decide +kernel) rfl, rfl⟩
theorem f_Model_206 : xw_f "PhraseShelfModel" 206 11 27 := ⟨by decide, by decide, xw_in 1178 (by decide +kernel) rfl, rfl⟩
theorem f_Model_224 : xw_f "PhraseShelfModel" 224 11 28 := ⟨by decide, by decide, xw_in 1179 (by decide +kernel) rfl, rfl⟩
theorem f_Model_227 : xw_f "PhraseShelfModel" 227 11 29 := ⟨by decide, by decide, xw_in 1180 (by decide +kernel) rfl, rfl⟩
theorem f_Model_218 : xw_f "PhraseShelfModel" 218 11 30 := ⟨by decide, by decide, xw_in 1181 (by decide +kernel) rfl, rfl⟩
theorem f_Model_215 : xw_f "PhraseShelfModel" 215 11 31 := ⟨by decide, by decide, xw_in 1182 (by decide +kernel) rfl, rfl⟩
theorem f_Model_68 : xw_f "PhraseShelfModel" 68 11 32 := ⟨by decide, by decide, xw_in 1183 (by decide +kernel) rfl, rfl⟩
theorem f_Model_71 : xw_f "PhraseShelfModel" 71 11 33 := ⟨by decide, by decide, xw_in 1184 (by decide +kernel) rfl, rfl⟩
theorem f_Model_247 : xw_f "PhraseShelfModel" 247 11 34 := ⟨by decide, by decide, xw_in 1185 (by decide +kernel) rfl, rfl⟩
theorem f_Model_241 : xw_f "PhraseShelfModel" 241 11 35 := ⟨by decide, by decide, xw_in 1186 (by decide +kernel) rfl, rfl⟩
theorem f_Model_263 : xw_f "PhraseShelfModel" 263 11 36 := ⟨by decide, by decide, xw_in 1187 (by decide +kernel) rfl, rfl⟩
theorem f_Model_272 : xw_f "PhraseShelfModel" 272 11 37 := ⟨by decide, by decide, xw_in 1188 (by decide +kernel) rfl, rfl⟩
theorem f_Model_278 : xw_f "PhraseShelfModel" 278 11 38 := ⟨by decide, by decide, xw_in 1189 (by decide +kernel) rfl, rfl⟩
theorem f_Model_266 : xw_f "PhraseShelfModel" 266 11 39 := ⟨by decide, by decide, xw_in 1190 (by decide +kernel) rfl, rfl⟩
theorem f_Model_357 : xw_f "PhraseShelfModel" 357 11 40 := ⟨by decide, by decide, xw_in 1191 (by decide +kernel) rfl, rfl⟩
theorem f_Model_74 : xw_f "PhraseShelfModel" 74 11 41 := ⟨by decide, by decide, xw_in 1192 (by decide +kernel) rfl, rfl⟩
theorem f_Model_77 : xw_f "PhraseShelfModel" 77 11 42 := ⟨by decide, by decide, xw_in 1193 (by decide +kernel) rfl, rfl⟩
theorem f_Model_80 : xw_f "PhraseShelfModel" 80 11 43 := ⟨by decide, by decide, xw_in 1194 (by decide +kernel) rfl, rfl⟩
theorem f_Model_83 : xw_f "PhraseShelfModel" 83 11 44 := ⟨by decide, by decide, xw_in 1195 (by decide +kernel) rfl, rfl⟩
theorem f_Model_86 : xw_f "PhraseShelfModel" 86 11 45 := ⟨by decide, by decide, xw_in 1196 (by decide +kernel) rfl, rfl⟩
theorem f_Model_89 : xw_f "PhraseShelfModel" 89 11 46 := ⟨by decide, by decide, xw_in 1197 (by decide +kernel) rfl, rfl⟩
theorem f_Model_92 : xw_f "PhraseShelfModel" 92 11 47 := ⟨by decide, by decide, xw_in 1198 (by decide +kernel) rfl, rfl⟩
theorem f_Model_95 : xw_f "PhraseShelfModel" 95 11 48 := ⟨by decide, by decide, xw_in 1199 (by decide +kernel) rfl, rfl⟩
theorem f_Model_98 : xw_f "PhraseShelfModel" 98 11 49 := ⟨by decide, by decide, xw_in 1200 (by decide +kernel) rfl, rfl⟩
theorem f_Model_101 : xw_f "PhraseShelfModel" 101 11 50 := ⟨by decide, by decide, xw_in 1201 (by decide +kernel) rfl, rfl⟩
theorem f_Model_104 : xw_f "PhraseShelfModel" 104 11 51 := ⟨by decide, by decide, xw_in 1202 (by decide +kernel) rfl, rfl⟩
theorem f_Model_107 : xw_f "PhraseShelfModel" 107 11 52 := ⟨by decide, by decide, xw_in 1203 (by decide +kernel) rfl, rfl⟩
theorem f_Model_110 : xw_f "PhraseShelfModel" 110 11 53 := ⟨by decide, by decide, xw_in 1204 (by decide +kernel) rfl, rfl⟩
theorem f_Model_113 : xw_f "PhraseShelfModel" 113 11 54 := ⟨by decide, by decide, xw_in 1205 (by decide +kernel) rfl, rfl⟩
theorem f_Model_150 : xw_f "PhraseShelfModel" 150 11 55 := ⟨by decide, by decide, xw_in 1206 (by decide +kernel) rfl, rfl⟩
theorem f_Model_360 : xw_f "PhraseShelfModel" 360 11 56 := ⟨by decide, by decide, xw_in 1207 (by decide +kernel) rfl, rfl⟩
theorem f_Model_116 : xw_f "PhraseShelfModel" 116 11 57 := ⟨by decide, by decide, xw_in 1208 (by decide +kernel) rfl, rfl⟩
theorem f_Model_120 : xw_f "PhraseShelfModel" 120 11 58 := ⟨by decide, by decide, xw_in 1209 (by decide +kernel) rfl, rfl⟩
theorem f_Model_123 : xw_f "PhraseShelfModel" 123 11 59 := ⟨by decide, by decide, xw_in 1210 (by decide +kernel) rfl, rfl⟩
theorem f_Model_126 : xw_f "PhraseShelfModel" 126 11 60 := ⟨by decide, by decide, xw_in 1211 (by decide +kernel) rfl, rfl⟩
theorem f_Model_297 : xw_f "PhraseShelfModel" 297 11 61 := ⟨by decide, by decide, xw_in 1212 (by decide +kernel) rfl, rfl⟩
theorem fw_Shelf_0 : ((xw_cl 0).2.1 0).2.2.2 = true ∧ parseFieldDescriptor ((xw_cl 0).2.1 0).2.2.1 = some (.array .char) := by decide +kernel
theorem fw_Shelf_1 : ((xw_cl 0).2.1 1).2.2.2 = true ∧ parseFieldDescriptor ((xw_cl 0).2.1 1).2.2.1 = some (.array (.object "PhraseShelf$Tokens")) := by decide +kernel
theorem fw_Shelf_2 : ((xw_cl 0).2.1 2).2.2.2 = true ∧ parseFieldDescriptor ((xw_cl 0).2.1 2).2.2.1 = some (.array .int) := by decide +kernel
theorem fw_Shelf_3 : ((xw_cl 0).2.1 3).2.2.2 = true ∧ parseFieldDescriptor ((xw_cl 0).2.1 3).2.2.1 = some (.object "PhraseShelf$Store") := by decide +kernel
theorem fw_Shelf_4 : ((xw_cl 0).2.1 4).2.2.2 = true ∧ parseFieldDescriptor ((xw_cl 0).2.1 4).2.2.1 = some (.object "PhraseShelf$Store") := by decide +kernel
theorem fw_Shelf_5 : ((xw_cl 0).2.1 5).2.2.2 = true ∧ parseFieldDescriptor ((xw_cl 0).2.1 5).2.2.1 = some (.object "PhraseShelf$Question") := by decide +kernel
theorem fw_Shelf_6 : ((xw_cl 0).2.1 6).2.2.2 = true ∧ parseFieldDescriptor ((xw_cl 0).2.1 6).2.2.1 = some (.object "PhraseShelf$Standing") := by decide +kernel
theorem fw_Shelf_7 : ((xw_cl 0).2.1 7).2.2.2 = true ∧ parseFieldDescriptor ((xw_cl 0).2.1 7).2.2.1 = some (.object "PhraseShelf$Answers") := by decide +kernel
theorem fw_Shelf_8 : ((xw_cl 0).2.1 8).2.2.2 = false ∧ parseFieldDescriptor ((xw_cl 0).2.1 8).2.2.1 = some .int := by decide +kernel
theorem fw_Shelf_9 : ((xw_cl 0).2.1 9).2.2.2 = false ∧ parseFieldDescriptor ((xw_cl 0).2.1 9).2.2.1 = some .int := by decide +kernel
theorem fw_Shelf_10 : ((xw_cl 0).2.1 10).2.2.2 = false ∧ parseFieldDescriptor ((xw_cl 0).2.1 10).2.2.1 = some .int := by decide +kernel
theorem fw_Shelf_11 : ((xw_cl 0).2.1 11).2.2.2 = false ∧ parseFieldDescriptor ((xw_cl 0).2.1 11).2.2.1 = some .boolean := by decide +kernel
theorem fw_Shelf_12 : ((xw_cl 0).2.1 12).2.2.2 = false ∧ parseFieldDescriptor ((xw_cl 0).2.1 12).2.2.1 = some .int := by decide +kernel
theorem fw_Shelf_13 : ((xw_cl 0).2.1 13).2.2.2 = false ∧ parseFieldDescriptor ((xw_cl 0).2.1 13).2.2.1 = some .int := by decide +kernel
theorem df_Shelf : ∀ j, j < (xw_cl 0).2.2 → defaultValue (xw_fty 0 j) = vp_V [.null, .null, .null, .null, .null, .null, .null, .null, .int 0, .int 0, .int 0, .int 0, .int 0, .int 0] j := by decide +kernel
theorem fw_Answers_0 : ((xw_cl 1).2.1 0).2.2.2 = true ∧ parseFieldDescriptor ((xw_cl 1).2.1 0).2.2.1 = some (.array .int) := by decide +kernel
theorem fw_Answers_1 : ((xw_cl 1).2.1 1).2.2.2 = true ∧ parseFieldDescriptor ((xw_cl 1).2.1 1).2.2.1 = some (.array .double) := by decide +kernel
theorem fw_Answers_2 : ((xw_cl 1).2.1 2).2.2.2 = false ∧ parseFieldDescriptor ((xw_cl 1).2.1 2).2.2.1 = some .int := by decide +kernel
theorem fw_Answers_3 : ((xw_cl 1).2.1 3).2.2.2 = true ∧ parseFieldDescriptor ((xw_cl 1).2.1 3).2.2.1 = some (.array .int) := by decide +kernel
theorem fw_Answers_4 : ((xw_cl 1).2.1 4).2.2.2 = true ∧ parseFieldDescriptor ((xw_cl 1).2.1 4).2.2.1 = some (.array .int) := by decide +kernel
theorem df_Answers : ∀ j, j < (xw_cl 1).2.2 → defaultValue (xw_fty 1 j) = vp_V [.null, .null, .int 0, .null, .null] j := by decide +kernel
theorem fw_Node_0 : ((xw_cl 2).2.1 0).2.2.2 = false ∧ parseFieldDescriptor ((xw_cl 2).2.1 0).2.2.1 = some .int := by decide +kernel
theorem fw_Node_1 : ((xw_cl 2).2.1 1).2.2.2 = false ∧ parseFieldDescriptor ((xw_cl 2).2.1 1).2.2.1 = some (.object "PhraseShelf$Node") := by decide +kernel
theorem fw_Node_2 : ((xw_cl 2).2.1 2).2.2.2 = false ∧ parseFieldDescriptor ((xw_cl 2).2.1 2).2.2.1 = some (.object "PhraseShelf$Node") := by decide +kernel
theorem fw_Node_3 : ((xw_cl 2).2.1 3).2.2.2 = false ∧ parseFieldDescriptor ((xw_cl 2).2.1 3).2.2.1 = some .int := by decide +kernel
theorem fw_Node_4 : ((xw_cl 2).2.1 4).2.2.2 = false ∧ parseFieldDescriptor ((xw_cl 2).2.1 4).2.2.1 = some .int := by decide +kernel
theorem fw_Node_5 : ((xw_cl 2).2.1 5).2.2.2 = false ∧ parseFieldDescriptor ((xw_cl 2).2.1 5).2.2.1 = some .int := by decide +kernel
theorem fw_Node_6 : ((xw_cl 2).2.1 6).2.2.2 = false ∧ parseFieldDescriptor ((xw_cl 2).2.1 6).2.2.1 = some .int := by decide +kernel
theorem fw_Node_7 : ((xw_cl 2).2.1 7).2.2.2 = false ∧ parseFieldDescriptor ((xw_cl 2).2.1 7).2.2.1 = some .int := by decide +kernel
theorem fw_Node_8 : ((xw_cl 2).2.1 8).2.2.2 = false ∧ parseFieldDescriptor ((xw_cl 2).2.1 8).2.2.1 = some .int := by decide +kernel
theorem df_Node : ∀ j, j < (xw_cl 2).2.2 → defaultValue (xw_fty 2 j) = vp_V [.int 0, .null, .null, .int 0, .int 0, .int 0, .int 0, .int 0, .int 0] j := by decide +kernel
theorem fw_Parts_0 : ((xw_cl 3).2.1 0).2.2.2 = true ∧ parseFieldDescriptor ((xw_cl 3).2.1 0).2.2.1 = some (.array .int) := by decide +kernel
theorem fw_Parts_1 : ((xw_cl 3).2.1 1).2.2.2 = true ∧ parseFieldDescriptor ((xw_cl 3).2.1 1).2.2.1 = some (.array .int) := by decide +kernel
theorem fw_Parts_2 : ((xw_cl 3).2.1 2).2.2.2 = true ∧ parseFieldDescriptor ((xw_cl 3).2.1 2).2.2.1 = some (.array .int) := by decide +kernel
theorem fw_Parts_3 : ((xw_cl 3).2.1 3).2.2.2 = false ∧ parseFieldDescriptor ((xw_cl 3).2.1 3).2.2.1 = some (.array .char) := by decide +kernel
theorem fw_Parts_4 : ((xw_cl 3).2.1 4).2.2.2 = false ∧ parseFieldDescriptor ((xw_cl 3).2.1 4).2.2.1 = some .int := by decide +kernel
theorem df_Parts : ∀ j, j < (xw_cl 3).2.2 → defaultValue (xw_fty 3 j) = vp_V [.null, .null, .null, .null, .int 0] j := by decide +kernel
theorem fw_Phrase_0 : ((xw_cl 4).2.1 0).2.2.2 = false ∧ parseFieldDescriptor ((xw_cl 4).2.1 0).2.2.1 = some .int := by decide +kernel
theorem fw_Phrase_1 : ((xw_cl 4).2.1 1).2.2.2 = false ∧ parseFieldDescriptor ((xw_cl 4).2.1 1).2.2.1 = some .int := by decide +kernel
theorem fw_Phrase_2 : ((xw_cl 4).2.1 2).2.2.2 = false ∧ parseFieldDescriptor ((xw_cl 4).2.1 2).2.2.1 = some .boolean := by decide +kernel
theorem df_Phrase : ∀ j, j < (xw_cl 4).2.2 → defaultValue (xw_fty 4 j) = vp_V [.int 0, .int 0, .int 0] j := by decide +kernel
theorem fw_Question_0 : ((xw_cl 5).2.1 0).2.2.2 = true ∧ parseFieldDescriptor ((xw_cl 5).2.1 0).2.2.1 = some (.object "PhraseShelf$Tokens") := by decide +kernel
theorem fw_Question_1 : ((xw_cl 5).2.1 1).2.2.2 = true ∧ parseFieldDescriptor ((xw_cl 5).2.1 1).2.2.1 = some (.array (.object "PhraseShelf$Phrase")) := by decide +kernel
theorem fw_Question_2 : ((xw_cl 5).2.1 2).2.2.2 = true ∧ parseFieldDescriptor ((xw_cl 5).2.1 2).2.2.1 = some (.array (.object "PhraseShelf$Node")) := by decide +kernel
theorem fw_Question_3 : ((xw_cl 5).2.1 3).2.2.2 = false ∧ parseFieldDescriptor ((xw_cl 5).2.1 3).2.2.1 = some .int := by decide +kernel
theorem fw_Question_4 : ((xw_cl 5).2.1 4).2.2.2 = false ∧ parseFieldDescriptor ((xw_cl 5).2.1 4).2.2.1 = some .int := by decide +kernel
theorem fw_Question_5 : ((xw_cl 5).2.1 5).2.2.2 = false ∧ parseFieldDescriptor ((xw_cl 5).2.1 5).2.2.1 = some .int := by decide +kernel
theorem fw_Question_6 : ((xw_cl 5).2.1 6).2.2.2 = true ∧ parseFieldDescriptor ((xw_cl 5).2.1 6).2.2.1 = some (.object "PhraseShelf$Parts") := by decide +kernel
theorem fw_Question_7 : ((xw_cl 5).2.1 7).2.2.2 = false ∧ parseFieldDescriptor ((xw_cl 5).2.1 7).2.2.1 = some (.array .char) := by decide +kernel
theorem fw_Question_8 : ((xw_cl 5).2.1 8).2.2.2 = false ∧ parseFieldDescriptor ((xw_cl 5).2.1 8).2.2.1 = some .int := by decide +kernel
theorem df_Question : ∀ j, j < (xw_cl 5).2.2 → defaultValue (xw_fty 5 j) = vp_V [.null, .null, .null, .int 0, .int 0, .int 0, .null, .null, .int 0] j := by decide +kernel
theorem fw_Segment_0 : ((xw_cl 6).2.1 0).2.2.2 = true ∧ parseFieldDescriptor ((xw_cl 6).2.1 0).2.2.1 = some .int := by decide +kernel
theorem fw_Segment_1 : ((xw_cl 6).2.1 1).2.2.2 = true ∧ parseFieldDescriptor ((xw_cl 6).2.1 1).2.2.1 = some (.array (.object "PhraseShelf$Version")) := by decide +kernel
theorem fw_Segment_2 : ((xw_cl 6).2.1 2).2.2.2 = true ∧ parseFieldDescriptor ((xw_cl 6).2.1 2).2.2.1 = some .int := by decide +kernel
theorem df_Segment : ∀ j, j < (xw_cl 6).2.2 → defaultValue (xw_fty 6 j) = vp_V [.int 0, .null, .int 0] j := by decide +kernel
theorem fw_Standing_0 : ((xw_cl 7).2.1 0).2.2.2 = true ∧ parseFieldDescriptor ((xw_cl 7).2.1 0).2.2.1 = some (.array .int) := by decide +kernel
theorem fw_Standing_1 : ((xw_cl 7).2.1 1).2.2.2 = false ∧ parseFieldDescriptor ((xw_cl 7).2.1 1).2.2.1 = some (.object "PhraseShelf$Question") := by decide +kernel
theorem df_Standing : ∀ j, j < (xw_cl 7).2.2 → defaultValue (xw_fty 7 j) = vp_V [.null, .null] j := by decide +kernel
theorem fw_Store_0 : ((xw_cl 8).2.1 0).2.2.2 = true ∧ parseFieldDescriptor ((xw_cl 8).2.1 0).2.2.1 = some (.array (.object "PhraseShelf$Version")) := by decide +kernel
theorem fw_Store_1 : ((xw_cl 8).2.1 1).2.2.2 = true ∧ parseFieldDescriptor ((xw_cl 8).2.1 1).2.2.1 = some (.array (.object "PhraseShelf$Version")) := by decide +kernel
theorem fw_Store_2 : ((xw_cl 8).2.1 2).2.2.2 = true ∧ parseFieldDescriptor ((xw_cl 8).2.1 2).2.2.1 = some (.array (.object "PhraseShelf$Segment")) := by decide +kernel
theorem fw_Store_3 : ((xw_cl 8).2.1 3).2.2.2 = true ∧ parseFieldDescriptor ((xw_cl 8).2.1 3).2.2.1 = some (.array (.object "PhraseShelf$Version")) := by decide +kernel
theorem fw_Store_4 : ((xw_cl 8).2.1 4).2.2.2 = false ∧ parseFieldDescriptor ((xw_cl 8).2.1 4).2.2.1 = some .int := by decide +kernel
theorem fw_Store_5 : ((xw_cl 8).2.1 5).2.2.2 = false ∧ parseFieldDescriptor ((xw_cl 8).2.1 5).2.2.1 = some .int := by decide +kernel
theorem fw_Store_6 : ((xw_cl 8).2.1 6).2.2.2 = false ∧ parseFieldDescriptor ((xw_cl 8).2.1 6).2.2.1 = some .int := by decide +kernel
theorem fw_Store_7 : ((xw_cl 8).2.1 7).2.2.2 = false ∧ parseFieldDescriptor ((xw_cl 8).2.1 7).2.2.1 = some .int := by decide +kernel
theorem fw_Store_8 : ((xw_cl 8).2.1 8).2.2.2 = false ∧ parseFieldDescriptor ((xw_cl 8).2.1 8).2.2.1 = some .int := by decide +kernel
theorem fw_Store_9 : ((xw_cl 8).2.1 9).2.2.2 = false ∧ parseFieldDescriptor ((xw_cl 8).2.1 9).2.2.1 = some .int := by decide +kernel
theorem df_Store : ∀ j, j < (xw_cl 8).2.2 → defaultValue (xw_fty 8 j) = vp_V [.null, .null, .null, .null, .int 0, .int 0, .int 0, .int 0, .int 0, .int 0] j := by decide +kernel
theorem fw_Tokens_0 : ((xw_cl 9).2.1 0).2.2.2 = true ∧ parseFieldDescriptor ((xw_cl 9).2.1 0).2.2.1 = some (.array .char) := by decide +kernel
theorem fw_Tokens_1 : ((xw_cl 9).2.1 1).2.2.2 = true ∧ parseFieldDescriptor ((xw_cl 9).2.1 1).2.2.1 = some (.array .int) := by decide +kernel
theorem fw_Tokens_2 : ((xw_cl 9).2.1 2).2.2.2 = false ∧ parseFieldDescriptor ((xw_cl 9).2.1 2).2.2.1 = some .int := by decide +kernel
theorem df_Tokens : ∀ j, j < (xw_cl 9).2.2 → defaultValue (xw_fty 9 j) = vp_V [.null, .null, .int 0] j := by decide +kernel
theorem fw_Version_0 : ((xw_cl 10).2.1 0).2.2.2 = true ∧ parseFieldDescriptor ((xw_cl 10).2.1 0).2.2.1 = some .int := by decide +kernel
theorem fw_Version_1 : ((xw_cl 10).2.1 1).2.2.2 = true ∧ parseFieldDescriptor ((xw_cl 10).2.1 1).2.2.1 = some .int := by decide +kernel
theorem fw_Version_2 : ((xw_cl 10).2.1 2).2.2.2 = true ∧ parseFieldDescriptor ((xw_cl 10).2.1 2).2.2.1 = some (.object "PhraseShelf$Tokens") := by decide +kernel
theorem fw_Version_3 : ((xw_cl 10).2.1 3).2.2.2 = true ∧ parseFieldDescriptor ((xw_cl 10).2.1 3).2.2.1 = some (.object "PhraseShelf$Tokens") := by decide +kernel
theorem fw_Version_4 : ((xw_cl 10).2.1 4).2.2.2 = true ∧ parseFieldDescriptor ((xw_cl 10).2.1 4).2.2.1 = some .int := by decide +kernel
theorem df_Version : ∀ j, j < (xw_cl 10).2.2 → defaultValue (xw_fty 10 j) = vp_V [.int 0, .int 0, .null, .null, .int 0] j := by decide +kernel
theorem fw_Model_0 : ((xw_cl 11).2.1 0).2.2.2 = false ∧ parseFieldDescriptor ((xw_cl 11).2.1 0).2.2.1 = some .int := by decide +kernel
theorem fw_Model_1 : ((xw_cl 11).2.1 1).2.2.2 = false ∧ parseFieldDescriptor ((xw_cl 11).2.1 1).2.2.1 = some .int := by decide +kernel
theorem fw_Model_2 : ((xw_cl 11).2.1 2).2.2.2 = false ∧ parseFieldDescriptor ((xw_cl 11).2.1 2).2.2.1 = some .int := by decide +kernel
theorem fw_Model_3 : ((xw_cl 11).2.1 3).2.2.2 = true ∧ parseFieldDescriptor ((xw_cl 11).2.1 3).2.2.1 = some (.array .int) := by decide +kernel
theorem fw_Model_4 : ((xw_cl 11).2.1 4).2.2.2 = true ∧ parseFieldDescriptor ((xw_cl 11).2.1 4).2.2.1 = some (.array .int) := by decide +kernel
theorem fw_Model_5 : ((xw_cl 11).2.1 5).2.2.2 = true ∧ parseFieldDescriptor ((xw_cl 11).2.1 5).2.2.1 = some (.array .int) := by decide +kernel
theorem fw_Model_6 : ((xw_cl 11).2.1 6).2.2.2 = true ∧ parseFieldDescriptor ((xw_cl 11).2.1 6).2.2.1 = some (.array .int) := by decide +kernel
theorem fw_Model_7 : ((xw_cl 11).2.1 7).2.2.2 = true ∧ parseFieldDescriptor ((xw_cl 11).2.1 7).2.2.1 = some (.array .int) := by decide +kernel
theorem fw_Model_8 : ((xw_cl 11).2.1 8).2.2.2 = true ∧ parseFieldDescriptor ((xw_cl 11).2.1 8).2.2.1 = some (.array .int) := by decide +kernel
theorem fw_Model_9 : ((xw_cl 11).2.1 9).2.2.2 = true ∧ parseFieldDescriptor ((xw_cl 11).2.1 9).2.2.1 = some (.array .int) := by decide +kernel
theorem fw_Model_10 : ((xw_cl 11).2.1 10).2.2.2 = false ∧ parseFieldDescriptor ((xw_cl 11).2.1 10).2.2.1 = some .int := by decide +kernel
theorem fw_Model_11 : ((xw_cl 11).2.1 11).2.2.2 = false ∧ parseFieldDescriptor ((xw_cl 11).2.1 11).2.2.1 = some .int := by decide +kernel
theorem fw_Model_12 : ((xw_cl 11).2.1 12).2.2.2 = true ∧ parseFieldDescriptor ((xw_cl 11).2.1 12).2.2.1 = some (.array .int) := by decide +kernel
theorem fw_Model_13 : ((xw_cl 11).2.1 13).2.2.2 = true ∧ parseFieldDescriptor ((xw_cl 11).2.1 13).2.2.1 = some (.array .int) := by decide +kernel
theorem fw_Model_14 : ((xw_cl 11).2.1 14).2.2.2 = true ∧ parseFieldDescriptor ((xw_cl 11).2.1 14).2.2.1 = some (.array .int) := by decide +kernel
theorem fw_Model_15 : ((xw_cl 11).2.1 15).2.2.2 = false ∧ parseFieldDescriptor ((xw_cl 11).2.1 15).2.2.1 = some .int := by decide +kernel
theorem fw_Model_16 : ((xw_cl 11).2.1 16).2.2.2 = false ∧ parseFieldDescriptor ((xw_cl 11).2.1 16).2.2.1 = some .int := by decide +kernel
theorem fw_Model_17 : ((xw_cl 11).2.1 17).2.2.2 = true ∧ parseFieldDescriptor ((xw_cl 11).2.1 17).2.2.1 = some (.array .int) := by decide +kernel
theorem fw_Model_18 : ((xw_cl 11).2.1 18).2.2.2 = true ∧ parseFieldDescriptor ((xw_cl 11).2.1 18).2.2.1 = some (.array .int) := by decide +kernel
theorem fw_Model_19 : ((xw_cl 11).2.1 19).2.2.2 = false ∧ parseFieldDescriptor ((xw_cl 11).2.1 19).2.2.1 = some .int := by decide +kernel
theorem fw_Model_20 : ((xw_cl 11).2.1 20).2.2.2 = false ∧ parseFieldDescriptor ((xw_cl 11).2.1 20).2.2.1 = some .boolean := by decide +kernel
theorem fw_Model_21 : ((xw_cl 11).2.1 21).2.2.2 = true ∧ parseFieldDescriptor ((xw_cl 11).2.1 21).2.2.1 = some (.array .int) := by decide +kernel
theorem fw_Model_22 : ((xw_cl 11).2.1 22).2.2.2 = true ∧ parseFieldDescriptor ((xw_cl 11).2.1 22).2.2.1 = some (.array .int) := by decide +kernel
theorem fw_Model_23 : ((xw_cl 11).2.1 23).2.2.2 = true ∧ parseFieldDescriptor ((xw_cl 11).2.1 23).2.2.1 = some (.array .int) := by decide +kernel
theorem fw_Model_24 : ((xw_cl 11).2.1 24).2.2.2 = true ∧ parseFieldDescriptor ((xw_cl 11).2.1 24).2.2.1 = some (.array .int) := by decide +kernel
theorem fw_Model_25 : ((xw_cl 11).2.1 25).2.2.2 = true ∧ parseFieldDescriptor ((xw_cl 11).2.1 25).2.2.1 = some (.array .int) := by decide +kernel
theorem fw_Model_26 : ((xw_cl 11).2.1 26).2.2.2 = false ∧ parseFieldDescriptor ((xw_cl 11).2.1 26).2.2.1 = some .int := by decide +kernel
theorem fw_Model_27 : ((xw_cl 11).2.1 27).2.2.2 = false ∧ parseFieldDescriptor ((xw_cl 11).2.1 27).2.2.1 = some .int := by decide +kernel
theorem fw_Model_28 : ((xw_cl 11).2.1 28).2.2.2 = false ∧ parseFieldDescriptor ((xw_cl 11).2.1 28).2.2.1 = some .int := by decide +kernel
theorem fw_Model_29 : ((xw_cl 11).2.1 29).2.2.2 = false ∧ parseFieldDescriptor ((xw_cl 11).2.1 29).2.2.1 = some .int := by decide +kernel
theorem fw_Model_30 : ((xw_cl 11).2.1 30).2.2.2 = false ∧ parseFieldDescriptor ((xw_cl 11).2.1 30).2.2.1 = some .int := by decide +kernel
theorem fw_Model_31 : ((xw_cl 11).2.1 31).2.2.2 = false ∧ parseFieldDescriptor ((xw_cl 11).2.1 31).2.2.1 = some .int := by decide +kernel
theorem fw_Model_32 : ((xw_cl 11).2.1 32).2.2.2 = false ∧ parseFieldDescriptor ((xw_cl 11).2.1 32).2.2.1 = some .int := by decide +kernel
theorem fw_Model_33 : ((xw_cl 11).2.1 33).2.2.2 = false ∧ parseFieldDescriptor ((xw_cl 11).2.1 33).2.2.1 = some .int := by decide +kernel
theorem fw_Model_34 : ((xw_cl 11).2.1 34).2.2.2 = false ∧ parseFieldDescriptor ((xw_cl 11).2.1 34).2.2.1 = some .int := by decide +kernel
theorem fw_Model_35 : ((xw_cl 11).2.1 35).2.2.2 = false ∧ parseFieldDescriptor ((xw_cl 11).2.1 35).2.2.1 = some .int := by decide +kernel
theorem fw_Model_36 : ((xw_cl 11).2.1 36).2.2.2 = false ∧ parseFieldDescriptor ((xw_cl 11).2.1 36).2.2.1 = some .int := by decide +kernel
theorem fw_Model_37 : ((xw_cl 11).2.1 37).2.2.2 = false ∧ parseFieldDescriptor ((xw_cl 11).2.1 37).2.2.1 = some .int := by decide +kernel
theorem fw_Model_38 : ((xw_cl 11).2.1 38).2.2.2 = false ∧ parseFieldDescriptor ((xw_cl 11).2.1 38).2.2.1 = some .int := by decide +kernel
theorem fw_Model_39 : ((xw_cl 11).2.1 39).2.2.2 = false ∧ parseFieldDescriptor ((xw_cl 11).2.1 39).2.2.1 = some .int := by decide +kernel
theorem fw_Model_40 : ((xw_cl 11).2.1 40).2.2.2 = false ∧ parseFieldDescriptor ((xw_cl 11).2.1 40).2.2.1 = some .int := by decide +kernel
theorem fw_Model_41 : ((xw_cl 11).2.1 41).2.2.2 = true ∧ parseFieldDescriptor ((xw_cl 11).2.1 41).2.2.1 = some (.array .int) := by decide +kernel
theorem fw_Model_42 : ((xw_cl 11).2.1 42).2.2.2 = true ∧ parseFieldDescriptor ((xw_cl 11).2.1 42).2.2.1 = some (.array .int) := by decide +kernel
theorem fw_Model_43 : ((xw_cl 11).2.1 43).2.2.2 = true ∧ parseFieldDescriptor ((xw_cl 11).2.1 43).2.2.1 = some (.array .int) := by decide +kernel
theorem fw_Model_44 : ((xw_cl 11).2.1 44).2.2.2 = true ∧ parseFieldDescriptor ((xw_cl 11).2.1 44).2.2.1 = some (.array .int) := by decide +kernel
theorem fw_Model_45 : ((xw_cl 11).2.1 45).2.2.2 = true ∧ parseFieldDescriptor ((xw_cl 11).2.1 45).2.2.1 = some (.array .int) := by decide +kernel
theorem fw_Model_46 : ((xw_cl 11).2.1 46).2.2.2 = true ∧ parseFieldDescriptor ((xw_cl 11).2.1 46).2.2.1 = some (.array .int) := by decide +kernel
theorem fw_Model_47 : ((xw_cl 11).2.1 47).2.2.2 = true ∧ parseFieldDescriptor ((xw_cl 11).2.1 47).2.2.1 = some (.array .int) := by decide +kernel
theorem fw_Model_48 : ((xw_cl 11).2.1 48).2.2.2 = true ∧ parseFieldDescriptor ((xw_cl 11).2.1 48).2.2.1 = some (.array .int) := by decide +kernel
theorem fw_Model_49 : ((xw_cl 11).2.1 49).2.2.2 = true ∧ parseFieldDescriptor ((xw_cl 11).2.1 49).2.2.1 = some (.array .int) := by decide +kernel
theorem fw_Model_50 : ((xw_cl 11).2.1 50).2.2.2 = true ∧ parseFieldDescriptor ((xw_cl 11).2.1 50).2.2.1 = some (.array .int) := by decide +kernel
theorem fw_Model_51 : ((xw_cl 11).2.1 51).2.2.2 = true ∧ parseFieldDescriptor ((xw_cl 11).2.1 51).2.2.1 = some (.array .int) := by decide +kernel
theorem fw_Model_52 : ((xw_cl 11).2.1 52).2.2.2 = true ∧ parseFieldDescriptor ((xw_cl 11).2.1 52).2.2.1 = some (.array .int) := by decide +kernel
theorem fw_Model_53 : ((xw_cl 11).2.1 53).2.2.2 = true ∧ parseFieldDescriptor ((xw_cl 11).2.1 53).2.2.1 = some (.array .int) := by decide +kernel
theorem fw_Model_54 : ((xw_cl 11).2.1 54).2.2.2 = true ∧ parseFieldDescriptor ((xw_cl 11).2.1 54).2.2.1 = some (.array .int) := by decide +kernel
theorem fw_Model_55 : ((xw_cl 11).2.1 55).2.2.2 = false ∧ parseFieldDescriptor ((xw_cl 11).2.1 55).2.2.1 = some .int := by decide +kernel
theorem fw_Model_56 : ((xw_cl 11).2.1 56).2.2.2 = false ∧ parseFieldDescriptor ((xw_cl 11).2.1 56).2.2.1 = some .int := by decide +kernel
theorem fw_Model_57 : ((xw_cl 11).2.1 57).2.2.2 = true ∧ parseFieldDescriptor ((xw_cl 11).2.1 57).2.2.1 = some (.array .boolean) := by decide +kernel
theorem fw_Model_58 : ((xw_cl 11).2.1 58).2.2.2 = true ∧ parseFieldDescriptor ((xw_cl 11).2.1 58).2.2.1 = some (.array .int) := by decide +kernel
theorem fw_Model_59 : ((xw_cl 11).2.1 59).2.2.2 = true ∧ parseFieldDescriptor ((xw_cl 11).2.1 59).2.2.1 = some (.array .int) := by decide +kernel
theorem fw_Model_60 : ((xw_cl 11).2.1 60).2.2.2 = true ∧ parseFieldDescriptor ((xw_cl 11).2.1 60).2.2.1 = some (.array .double) := by decide +kernel
theorem fw_Model_61 : ((xw_cl 11).2.1 61).2.2.2 = false ∧ parseFieldDescriptor ((xw_cl 11).2.1 61).2.2.1 = some .boolean := by decide +kernel
theorem df_Model : ∀ j, j < (xw_cl 11).2.2 → defaultValue (xw_fty 11 j) = vp_V [.int 0, .int 0, .int 0, .null, .null, .null, .null, .null, .null, .null, .int 0, .int 0, .null, .null, .null, .int 0, .int 0, .null, .null, .int 0, .int 0, .null, .null, .null, .null, .null, .int 0, .int 0, .int 0, .int 0, .int 0, .int 0, .int 0, .int 0, .int 0, .int 0, .int 0, .int 0, .int 0, .int 0, .int 0, .null, .null, .null, .null, .null, .null, .null, .null, .null, .null, .null, .null, .null, .null, .int 0, .int 0, .null, .null, .null, .null, .int 0] j := by decide +kernel
theorem an_Law_8 : Cond.classLink "PhraseShelfLaw" 8 (xw_cl 0).1 ∈ xw_tbl := xw_in 110 (by decide +kernel) rfl
theorem nw_Law_8 : Cond.classLink "PhraseShelfLaw" 8 (xw_cl 0).1 ∈ xw_tbl ∧ Cond.instantiable (xw_cl 0).1 (xw_cl 0).2.2 ∈ xw_tbl ∧ Cond.initialized (xw_cl 0).1 ∈ xw_tbl := ⟨xw_in 110 (by decide +kernel) rfl, xw_in 111 (by decide +kernel) rfl, xw_in 84 (by decide +kernel) rfl⟩
theorem an_Shelf_13 : Cond.classLink "PhraseShelf" 13 (xw_cl 9).1 ∈ xw_tbl := xw_in 118 (by decide +kernel) rfl
theorem nw_Shelf_13 : Cond.classLink "PhraseShelf" 13 (xw_cl 9).1 ∈ xw_tbl ∧ Cond.instantiable (xw_cl 9).1 (xw_cl 9).2.2 ∈ xw_tbl ∧ Cond.initialized (xw_cl 9).1 ∈ xw_tbl := ⟨xw_in 118 (by decide +kernel) rfl, xw_in 175 (by decide +kernel) rfl, xw_in 87 (by decide +kernel) rfl⟩
theorem an_Shelf_23 : Cond.classLink "PhraseShelf" 23 (xw_cl 8).1 ∈ xw_tbl := xw_in 120 (by decide +kernel) rfl
theorem nw_Shelf_23 : Cond.classLink "PhraseShelf" 23 (xw_cl 8).1 ∈ xw_tbl ∧ Cond.instantiable (xw_cl 8).1 (xw_cl 8).2.2 ∈ xw_tbl ∧ Cond.initialized (xw_cl 8).1 ∈ xw_tbl := ⟨xw_in 120 (by decide +kernel) rfl, xw_in 121 (by decide +kernel) rfl, xw_in 85 (by decide +kernel) rfl⟩
theorem an_Store_9 : Cond.classLink "PhraseShelf$Store" 9 (xw_cl 10).1 ∈ xw_tbl := xw_in 126 (by decide +kernel) rfl
theorem nw_Store_9 : Cond.classLink "PhraseShelf$Store" 9 (xw_cl 10).1 ∈ xw_tbl ∧ Cond.instantiable (xw_cl 10).1 (xw_cl 10).2.2 ∈ xw_tbl ∧ Cond.initialized (xw_cl 10).1 ∈ xw_tbl := ⟨xw_in 126 (by decide +kernel) rfl, xw_in 627 (by decide +kernel) rfl, xw_in 99 (by decide +kernel) rfl⟩
theorem an_Store_20 : Cond.classLink "PhraseShelf$Store" 20 (xw_cl 6).1 ∈ xw_tbl := xw_in 128 (by decide +kernel) rfl
theorem nw_Store_20 : Cond.classLink "PhraseShelf$Store" 20 (xw_cl 6).1 ∈ xw_tbl ∧ Cond.instantiable (xw_cl 6).1 (xw_cl 6).2.2 ∈ xw_tbl ∧ Cond.initialized (xw_cl 6).1 ∈ xw_tbl := ⟨xw_in 128 (by decide +kernel) rfl, xw_in 420 (by decide +kernel) rfl, xw_in 100 (by decide +kernel) rfl⟩
theorem an_Shelf_33 : Cond.classLink "PhraseShelf" 33 (xw_cl 5).1 ∈ xw_tbl := xw_in 168 (by decide +kernel) rfl
theorem nw_Shelf_33 : Cond.classLink "PhraseShelf" 33 (xw_cl 5).1 ∈ xw_tbl ∧ Cond.instantiable (xw_cl 5).1 (xw_cl 5).2.2 ∈ xw_tbl ∧ Cond.initialized (xw_cl 5).1 ∈ xw_tbl := ⟨xw_in 168 (by decide +kernel) rfl, xw_in 169 (by decide +kernel) rfl, xw_in 86 (by decide +kernel) rfl⟩
theorem an_Question_11 : Cond.classLink "PhraseShelf$Question" 11 (xw_cl 9).1 ∈ xw_tbl := xw_in 174 (by decide +kernel) rfl
theorem nw_Question_11 : Cond.classLink "PhraseShelf$Question" 11 (xw_cl 9).1 ∈ xw_tbl ∧ Cond.instantiable (xw_cl 9).1 (xw_cl 9).2.2 ∈ xw_tbl ∧ Cond.initialized (xw_cl 9).1 ∈ xw_tbl := ⟨xw_in 174 (by decide +kernel) rfl, xw_in 175 (by decide +kernel) rfl, xw_in 87 (by decide +kernel) rfl⟩
theorem an_Question_22 : Cond.classLink "PhraseShelf$Question" 22 (xw_cl 4).1 ∈ xw_tbl := xw_in 194 (by decide +kernel) rfl
theorem nw_Question_22 : Cond.classLink "PhraseShelf$Question" 22 (xw_cl 4).1 ∈ xw_tbl ∧ Cond.instantiable (xw_cl 4).1 (xw_cl 4).2.2 ∈ xw_tbl ∧ Cond.initialized (xw_cl 4).1 ∈ xw_tbl := ⟨xw_in 194 (by decide +kernel) rfl, xw_in 223 (by decide +kernel) rfl, xw_in 89 (by decide +kernel) rfl⟩
theorem an_Question_28 : Cond.classLink "PhraseShelf$Question" 28 (xw_cl 2).1 ∈ xw_tbl := xw_in 196 (by decide +kernel) rfl
theorem nw_Question_28 : Cond.classLink "PhraseShelf$Question" 28 (xw_cl 2).1 ∈ xw_tbl ∧ Cond.instantiable (xw_cl 2).1 (xw_cl 2).2.2 ∈ xw_tbl ∧ Cond.initialized (xw_cl 2).1 ∈ xw_tbl := ⟨xw_in 196 (by decide +kernel) rfl, xw_in 241 (by decide +kernel) rfl, xw_in 90 (by decide +kernel) rfl⟩
theorem an_Question_1 : Cond.classLink "PhraseShelf$Question" 1 (xw_cl 3).1 ∈ xw_tbl := xw_in 198 (by decide +kernel) rfl
theorem nw_Question_1 : Cond.classLink "PhraseShelf$Question" 1 (xw_cl 3).1 ∈ xw_tbl ∧ Cond.instantiable (xw_cl 3).1 (xw_cl 3).2.2 ∈ xw_tbl ∧ Cond.initialized (xw_cl 3).1 ∈ xw_tbl := ⟨xw_in 198 (by decide +kernel) rfl, xw_in 199 (by decide +kernel) rfl, xw_in 88 (by decide +kernel) rfl⟩
theorem an_Shelf_40 : Cond.classLink "PhraseShelf" 40 (xw_cl 7).1 ∈ xw_tbl := xw_in 317 (by decide +kernel) rfl
theorem nw_Shelf_40 : Cond.classLink "PhraseShelf" 40 (xw_cl 7).1 ∈ xw_tbl ∧ Cond.instantiable (xw_cl 7).1 (xw_cl 7).2.2 ∈ xw_tbl ∧ Cond.initialized (xw_cl 7).1 ∈ xw_tbl := ⟨xw_in 317 (by decide +kernel) rfl, xw_in 318 (by decide +kernel) rfl, xw_in 91 (by decide +kernel) rfl⟩
theorem an_Shelf_47 : Cond.classLink "PhraseShelf" 47 (xw_cl 1).1 ∈ xw_tbl := xw_in 330 (by decide +kernel) rfl
theorem nw_Shelf_47 : Cond.classLink "PhraseShelf" 47 (xw_cl 1).1 ∈ xw_tbl ∧ Cond.instantiable (xw_cl 1).1 (xw_cl 1).2.2 ∈ xw_tbl ∧ Cond.initialized (xw_cl 1).1 ∈ xw_tbl := ⟨xw_in 330 (by decide +kernel) rfl, xw_in 331 (by decide +kernel) rfl, xw_in 92 (by decide +kernel) rfl⟩
theorem an_Segment_13 : Cond.classLink "PhraseShelf$Segment" 13 (xw_cl 10).1 ∈ xw_tbl := xw_in 425 (by decide +kernel) rfl
theorem nw_Segment_13 : Cond.classLink "PhraseShelf$Segment" 13 (xw_cl 10).1 ∈ xw_tbl ∧ Cond.instantiable (xw_cl 10).1 (xw_cl 10).2.2 ∈ xw_tbl ∧ Cond.initialized (xw_cl 10).1 ∈ xw_tbl := ⟨xw_in 425 (by decide +kernel) rfl, xw_in 627 (by decide +kernel) rfl, xw_in 99 (by decide +kernel) rfl⟩
theorem an_Law_73 : Cond.classLink "PhraseShelfLaw" 73 (xw_cl 11).1 ∈ xw_tbl := xw_in 1145 (by decide +kernel) rfl
theorem nw_Law_73 : Cond.classLink "PhraseShelfLaw" 73 (xw_cl 11).1 ∈ xw_tbl ∧ Cond.instantiable (xw_cl 11).1 (xw_cl 11).2.2 ∈ xw_tbl ∧ Cond.initialized (xw_cl 11).1 ∈ xw_tbl := ⟨xw_in 1145 (by decide +kernel) rfl, xw_in 1146 (by decide +kernel) rfl, xw_in 93 (by decide +kernel) rfl⟩
theorem ao_Tokens {G : xw_G} : ∀ U H, xw_F G U H → va_AO (xw_cl 9).1 U := fun U H h => h.2.2.1 _ (by decide +kernel)
theorem ao_Version {G : xw_G} : ∀ U H, xw_F G U H → va_AO (xw_cl 10).1 U := fun U H h => h.2.2.1 _ (by decide +kernel)
theorem ao_Segment {G : xw_G} : ∀ U H, xw_F G U H → va_AO (xw_cl 6).1 U := fun U H h => h.2.2.1 _ (by decide +kernel)
theorem ao_Phrase {G : xw_G} : ∀ U H, xw_F G U H → va_AO (xw_cl 4).1 U := fun U H h => h.2.2.1 _ (by decide +kernel)
theorem ao_Node {G : xw_G} : ∀ U H, xw_F G U H → va_AO (xw_cl 2).1 U := fun U H h => h.2.2.1 _ (by decide +kernel)
theorem cI_Law_72 : xw_sI "PhraseShelfLaw" 72 m_Shelf_init 0 := ⟨List.forall_mem_cons.mpr ⟨xw_in 112 (by decide +kernel) rfl, List.forall_mem_cons.mpr ⟨xw_in 113 (by decide +kernel) rfl, List.forall_mem_cons.mpr ⟨xw_in 84 (by decide +kernel) rfl, (fun _ h => nomatch h)⟩⟩⟩, xw_in 114 (by decide +kernel) rfl, by decide +kernel, by decide +kernel, by decide +kernel, rfl, rfl⟩
theorem oi_Shelf : ∀ w ∈ ([.methodLink "PhraseShelf" 1 objectInit, .instanceMethod objectInit, .code objectInit ⟨#[0xb1]⟩ 1 none] : List Cond), w ∈ xw_tbl := List.forall_mem_cons.mpr ⟨xw_in 115 (by decide +kernel) rfl, List.forall_mem_cons.mpr ⟨xw_in 116 (by decide +kernel) rfl, List.forall_mem_cons.mpr ⟨xw_in 117 (by decide +kernel) rfl, (fun _ h => nomatch h)⟩⟩⟩
theorem cN_Shelf_25 : xw_sIN "PhraseShelf" 25 m_Store_init "PhraseShelf" 0 := ⟨by decide +kernel, List.forall_mem_cons.mpr ⟨xw_in 123 (by decide +kernel) rfl, List.forall_mem_cons.mpr ⟨xw_in 85 (by decide +kernel) rfl, (fun _ h => nomatch h)⟩⟩, xw_in 124 (by decide +kernel) rfl, by decide +kernel, by decide +kernel, by decide +kernel, rfl, rfl⟩
theorem oi_Store : ∀ w ∈ ([.methodLink "PhraseShelf$Store" 3 objectInit, .instanceMethod objectInit, .code objectInit ⟨#[0xb1]⟩ 1 none] : List Cond), w ∈ xw_tbl := List.forall_mem_cons.mpr ⟨xw_in 125 (by decide +kernel) rfl, List.forall_mem_cons.mpr ⟨xw_in 116 (by decide +kernel) rfl, List.forall_mem_cons.mpr ⟨xw_in 117 (by decide +kernel) rfl, (fun _ h => nomatch h)⟩⟩⟩
theorem cI_Shelf_35 : xw_sI "PhraseShelf" 35 m_Question_init 0 := ⟨List.forall_mem_cons.mpr ⟨xw_in 170 (by decide +kernel) rfl, List.forall_mem_cons.mpr ⟨xw_in 171 (by decide +kernel) rfl, List.forall_mem_cons.mpr ⟨xw_in 86 (by decide +kernel) rfl, (fun _ h => nomatch h)⟩⟩⟩, xw_in 172 (by decide +kernel) rfl, by decide +kernel, by decide +kernel, by decide +kernel, rfl, rfl⟩
theorem oi_Question : ∀ w ∈ ([.methodLink "PhraseShelf$Question" 5 objectInit, .instanceMethod objectInit, .code objectInit ⟨#[0xb1]⟩ 1 none] : List Cond), w ∈ xw_tbl := List.forall_mem_cons.mpr ⟨xw_in 173 (by decide +kernel) rfl, List.forall_mem_cons.mpr ⟨xw_in 116 (by decide +kernel) rfl, List.forall_mem_cons.mpr ⟨xw_in 117 (by decide +kernel) rfl, (fun _ h => nomatch h)⟩⟩⟩
theorem cI_Question_13 : xw_sI "PhraseShelf$Question" 13 m_Tokens_init 1 := ⟨List.forall_mem_cons.mpr ⟨xw_in 176 (by decide +kernel) rfl, List.forall_mem_cons.mpr ⟨xw_in 177 (by decide +kernel) rfl, List.forall_mem_cons.mpr ⟨xw_in 87 (by decide +kernel) rfl, (fun _ h => nomatch h)⟩⟩⟩, xw_in 178 (by decide +kernel) rfl, by decide +kernel, by decide +kernel, by decide +kernel, rfl, rfl⟩
theorem oi_Tokens : ∀ w ∈ ([.methodLink "PhraseShelf$Tokens" 1 objectInit, .instanceMethod objectInit, .code objectInit ⟨#[0xb1]⟩ 1 none] : List Cond), w ∈ xw_tbl := List.forall_mem_cons.mpr ⟨xw_in 179 (by decide +kernel) rfl, List.forall_mem_cons.mpr ⟨xw_in 116 (by decide +kernel) rfl, List.forall_mem_cons.mpr ⟨xw_in 117 (by decide +kernel) rfl, (fun _ h => nomatch h)⟩⟩⟩
theorem cN_Question_34 : xw_sIN "PhraseShelf$Question" 34 m_Parts_init "PhraseShelf" 0 := ⟨by decide +kernel, List.forall_mem_cons.mpr ⟨xw_in 201 (by decide +kernel) rfl, List.forall_mem_cons.mpr ⟨xw_in 88 (by decide +kernel) rfl, (fun _ h => nomatch h)⟩⟩, xw_in 202 (by decide +kernel) rfl, by decide +kernel, by decide +kernel, by decide +kernel, rfl, rfl⟩
theorem oi_Parts : ∀ w ∈ ([.methodLink "PhraseShelf$Parts" 3 objectInit, .instanceMethod objectInit, .code objectInit ⟨#[0xb1]⟩ 1 none] : List Cond), w ∈ xw_tbl := List.forall_mem_cons.mpr ⟨xw_in 203 (by decide +kernel) rfl, List.forall_mem_cons.mpr ⟨xw_in 116 (by decide +kernel) rfl, List.forall_mem_cons.mpr ⟨xw_in 117 (by decide +kernel) rfl, (fun _ h => nomatch h)⟩⟩⟩
theorem cN_Question_39 : xw_sIN "PhraseShelf$Question" 39 m_Phrase_init "PhraseShelf" 0 := ⟨by decide +kernel, List.forall_mem_cons.mpr ⟨xw_in 225 (by decide +kernel) rfl, List.forall_mem_cons.mpr ⟨xw_in 89 (by decide +kernel) rfl, (fun _ h => nomatch h)⟩⟩, xw_in 226 (by decide +kernel) rfl, by decide +kernel, by decide +kernel, by decide +kernel, rfl, rfl⟩
theorem oi_Phrase : ∀ w ∈ ([.methodLink "PhraseShelf$Phrase" 1 objectInit, .instanceMethod objectInit, .code objectInit ⟨#[0xb1]⟩ 1 none] : List Cond), w ∈ xw_tbl := List.forall_mem_cons.mpr ⟨xw_in 227 (by decide +kernel) rfl, List.forall_mem_cons.mpr ⟨xw_in 116 (by decide +kernel) rfl, List.forall_mem_cons.mpr ⟨xw_in 117 (by decide +kernel) rfl, (fun _ h => nomatch h)⟩⟩⟩
theorem cN_Question_40 : xw_sIN "PhraseShelf$Question" 40 m_Node_init "PhraseShelf" 0 := ⟨by decide +kernel, List.forall_mem_cons.mpr ⟨xw_in 243 (by decide +kernel) rfl, List.forall_mem_cons.mpr ⟨xw_in 90 (by decide +kernel) rfl, (fun _ h => nomatch h)⟩⟩, xw_in 244 (by decide +kernel) rfl, by decide +kernel, by decide +kernel, by decide +kernel, rfl, rfl⟩
theorem oi_Node : ∀ w ∈ ([.methodLink "PhraseShelf$Node" 1 objectInit, .instanceMethod objectInit, .code objectInit ⟨#[0xb1]⟩ 1 none] : List Cond), w ∈ xw_tbl := List.forall_mem_cons.mpr ⟨xw_in 245 (by decide +kernel) rfl, List.forall_mem_cons.mpr ⟨xw_in 116 (by decide +kernel) rfl, List.forall_mem_cons.mpr ⟨xw_in 117 (by decide +kernel) rfl, (fun _ h => nomatch h)⟩⟩⟩
theorem cN_Shelf_42 : xw_sIN "PhraseShelf" 42 m_Standing_init "PhraseShelf" 0 := ⟨by decide +kernel, List.forall_mem_cons.mpr ⟨xw_in 320 (by decide +kernel) rfl, List.forall_mem_cons.mpr ⟨xw_in 91 (by decide +kernel) rfl, (fun _ h => nomatch h)⟩⟩, xw_in 321 (by decide +kernel) rfl, by decide +kernel, by decide +kernel, by decide +kernel, rfl, rfl⟩
theorem oi_Standing : ∀ w ∈ ([.methodLink "PhraseShelf$Standing" 3 objectInit, .instanceMethod objectInit, .code objectInit ⟨#[0xb1]⟩ 1 none] : List Cond), w ∈ xw_tbl := List.forall_mem_cons.mpr ⟨xw_in 322 (by decide +kernel) rfl, List.forall_mem_cons.mpr ⟨xw_in 116 (by decide +kernel) rfl, List.forall_mem_cons.mpr ⟨xw_in 117 (by decide +kernel) rfl, (fun _ h => nomatch h)⟩⟩⟩
theorem cN_Shelf_49 : xw_sIN "PhraseShelf" 49 m_Answers_init "PhraseShelf" 0 := ⟨by decide +kernel, List.forall_mem_cons.mpr ⟨xw_in 333 (by decide +kernel) rfl, List.forall_mem_cons.mpr ⟨xw_in 92 (by decide +kernel) rfl, (fun _ h => nomatch h)⟩⟩, xw_in 334 (by decide +kernel) rfl, by decide +kernel, by decide +kernel, by decide +kernel, rfl, rfl⟩
theorem oi_Answers : ∀ w ∈ ([.methodLink "PhraseShelf$Answers" 3 objectInit, .instanceMethod objectInit, .code objectInit ⟨#[0xb1]⟩ 1 none] : List Cond), w ∈ xw_tbl := List.forall_mem_cons.mpr ⟨xw_in 335 (by decide +kernel) rfl, List.forall_mem_cons.mpr ⟨xw_in 116 (by decide +kernel) rfl, List.forall_mem_cons.mpr ⟨xw_in 117 (by decide +kernel) rfl, (fun _ h => nomatch h)⟩⟩⟩
theorem cI_Shelf_54 : xw_sI "PhraseShelf" 54 m_Tokens_init 1 := ⟨List.forall_mem_cons.mpr ⟨xw_in 356 (by decide +kernel) rfl, List.forall_mem_cons.mpr ⟨xw_in 177 (by decide +kernel) rfl, List.forall_mem_cons.mpr ⟨xw_in 87 (by decide +kernel) rfl, (fun _ h => nomatch h)⟩⟩⟩, xw_in 178 (by decide +kernel) rfl, by decide +kernel, by decide +kernel, by decide +kernel, rfl, rfl⟩
theorem cV_Law_87 : xw_sV "PhraseShelfLaw" 87 m_Shelf_drop 0 := ⟨List.forall_mem_cons.mpr ⟨xw_in 400 (by decide +kernel) rfl, List.forall_mem_cons.mpr ⟨xw_in 401 (by decide +kernel) rfl, List.forall_mem_cons.mpr ⟨xw_in 402 (by decide +kernel) rfl, List.forall_mem_cons.mpr ⟨xw_in 84 (by decide +kernel) rfl, (fun _ h => nomatch h)⟩⟩⟩⟩, xw_in 403 (by decide +kernel) rfl, by decide +kernel, by decide +kernel, by decide +kernel⟩
theorem cV_Law_115 : xw_sV "PhraseShelfLaw" 115 m_Shelf_flush 0 := ⟨List.forall_mem_cons.mpr ⟨xw_in 404 (by decide +kernel) rfl, List.forall_mem_cons.mpr ⟨xw_in 405 (by decide +kernel) rfl, List.forall_mem_cons.mpr ⟨xw_in 406 (by decide +kernel) rfl, List.forall_mem_cons.mpr ⟨xw_in 84 (by decide +kernel) rfl, (fun _ h => nomatch h)⟩⟩⟩⟩, xw_in 407 (by decide +kernel) rfl, by decide +kernel, by decide +kernel, by decide +kernel⟩
theorem cV_Shelf_147 : xw_sV "PhraseShelf" 147 m_Store_flushPending 1 := ⟨List.forall_mem_cons.mpr ⟨xw_in 408 (by decide +kernel) rfl, List.forall_mem_cons.mpr ⟨xw_in 409 (by decide +kernel) rfl, List.forall_mem_cons.mpr ⟨xw_in 410 (by decide +kernel) rfl, List.forall_mem_cons.mpr ⟨xw_in 85 (by decide +kernel) rfl, (fun _ h => nomatch h)⟩⟩⟩⟩, xw_in 411 (by decide +kernel) rfl, by decide +kernel, by decide +kernel, by decide +kernel⟩
theorem cV_Store_54 : xw_sV "PhraseShelf$Store" 54 m_Store_gatherLive 1 := ⟨List.forall_mem_cons.mpr ⟨xw_in 412 (by decide +kernel) rfl, List.forall_mem_cons.mpr ⟨xw_in 414 (by decide +kernel) rfl, List.forall_mem_cons.mpr ⟨xw_in 0 (by decide +kernel) rfl, List.forall_mem_cons.mpr ⟨xw_in 85 (by decide +kernel) rfl, (fun _ h => nomatch h)⟩⟩⟩⟩, xw_in 415 (by decide +kernel) rfl, by decide +kernel, by decide +kernel, by decide +kernel⟩
theorem cV_Store_58 : xw_sV "PhraseShelf$Store" 58 m_Store_addSegment 1 := ⟨List.forall_mem_cons.mpr ⟨xw_in 416 (by decide +kernel) rfl, List.forall_mem_cons.mpr ⟨xw_in 418 (by decide +kernel) rfl, List.forall_mem_cons.mpr ⟨xw_in 1 (by decide +kernel) rfl, List.forall_mem_cons.mpr ⟨xw_in 85 (by decide +kernel) rfl, (fun _ h => nomatch h)⟩⟩⟩⟩, xw_in 419 (by decide +kernel) rfl, by decide +kernel, by decide +kernel, by decide +kernel⟩
theorem cI_Store_95 : xw_sI "PhraseShelf$Store" 95 m_Segment_init 3 := ⟨List.forall_mem_cons.mpr ⟨xw_in 421 (by decide +kernel) rfl, List.forall_mem_cons.mpr ⟨xw_in 422 (by decide +kernel) rfl, List.forall_mem_cons.mpr ⟨xw_in 100 (by decide +kernel) rfl, (fun _ h => nomatch h)⟩⟩⟩, xw_in 423 (by decide +kernel) rfl, by decide +kernel, by decide +kernel, by decide +kernel, rfl, rfl⟩
theorem oi_Segment : ∀ w ∈ ([.methodLink "PhraseShelf$Segment" 1 objectInit, .instanceMethod objectInit, .code objectInit ⟨#[0xb1]⟩ 1 none] : List Cond), w ∈ xw_tbl := List.forall_mem_cons.mpr ⟨xw_in 424 (by decide +kernel) rfl, List.forall_mem_cons.mpr ⟨xw_in 116 (by decide +kernel) rfl, List.forall_mem_cons.mpr ⟨xw_in 117 (by decide +kernel) rfl, (fun _ h => nomatch h)⟩⟩⟩
theorem cV_Store_62 : xw_sV "PhraseShelf$Store" 62 m_Store_segmentsOf 1 := ⟨List.forall_mem_cons.mpr ⟨xw_in 441 (by decide +kernel) rfl, List.forall_mem_cons.mpr ⟨xw_in 443 (by decide +kernel) rfl, List.forall_mem_cons.mpr ⟨xw_in 2 (by decide +kernel) rfl, List.forall_mem_cons.mpr ⟨xw_in 85 (by decide +kernel) rfl, (fun _ h => nomatch h)⟩⟩⟩⟩, xw_in 444 (by decide +kernel) rfl, by decide +kernel, by decide +kernel, by decide +kernel⟩
theorem cV_Store_66 : xw_sV "PhraseShelf$Store" 66 m_Store_mergeLevels 3 := ⟨List.forall_mem_cons.mpr ⟨xw_in 445 (by decide +kernel) rfl, List.forall_mem_cons.mpr ⟨xw_in 447 (by decide +kernel) rfl, List.forall_mem_cons.mpr ⟨xw_in 3 (by decide +kernel) rfl, List.forall_mem_cons.mpr ⟨xw_in 85 (by decide +kernel) rfl, (fun _ h => nomatch h)⟩⟩⟩⟩, xw_in 448 (by decide +kernel) rfl, by decide +kernel, by decide +kernel, by decide +kernel⟩
theorem cV_Store_82 : xw_sV "PhraseShelf$Store" 82 m_Store_gatherAllLive 1 := ⟨List.forall_mem_cons.mpr ⟨xw_in 449 (by decide +kernel) rfl, List.forall_mem_cons.mpr ⟨xw_in 451 (by decide +kernel) rfl, List.forall_mem_cons.mpr ⟨xw_in 4 (by decide +kernel) rfl, List.forall_mem_cons.mpr ⟨xw_in 85 (by decide +kernel) rfl, (fun _ h => nomatch h)⟩⟩⟩⟩, xw_in 452 (by decide +kernel) rfl, by decide +kernel, by decide +kernel, by decide +kernel⟩
theorem cV_Law_119 : xw_sV "PhraseShelfLaw" 119 m_Shelf_optimize 0 := ⟨List.forall_mem_cons.mpr ⟨xw_in 453 (by decide +kernel) rfl, List.forall_mem_cons.mpr ⟨xw_in 454 (by decide +kernel) rfl, List.forall_mem_cons.mpr ⟨xw_in 455 (by decide +kernel) rfl, List.forall_mem_cons.mpr ⟨xw_in 84 (by decide +kernel) rfl, (fun _ h => nomatch h)⟩⟩⟩⟩, xw_in 456 (by decide +kernel) rfl, by decide +kernel, by decide +kernel, by decide +kernel⟩
theorem cV_Shelf_156 : xw_sV "PhraseShelf" 156 m_Store_mergeAll 0 := ⟨List.forall_mem_cons.mpr ⟨xw_in 457 (by decide +kernel) rfl, List.forall_mem_cons.mpr ⟨xw_in 458 (by decide +kernel) rfl, List.forall_mem_cons.mpr ⟨xw_in 459 (by decide +kernel) rfl, List.forall_mem_cons.mpr ⟨xw_in 85 (by decide +kernel) rfl, (fun _ h => nomatch h)⟩⟩⟩⟩, xw_in 460 (by decide +kernel) rfl, by decide +kernel, by decide +kernel, by decide +kernel⟩
theorem cV_Law_134 : xw_sV "PhraseShelfLaw" 134 m_Shelf_wrong 0 := ⟨List.forall_mem_cons.mpr ⟨xw_in 464 (by decide +kernel) rfl, List.forall_mem_cons.mpr ⟨xw_in 465 (by decide +kernel) rfl, List.forall_mem_cons.mpr ⟨xw_in 466 (by decide +kernel) rfl, List.forall_mem_cons.mpr ⟨xw_in 84 (by decide +kernel) rfl, (fun _ h => nomatch h)⟩⟩⟩⟩, xw_in 467 (by decide +kernel) rfl, by decide +kernel, by decide +kernel, by decide +kernel⟩
theorem cV_Law_7 : xw_sV "PhraseShelfLaw" 7 m_Shelf_letters 1 := ⟨List.forall_mem_cons.mpr ⟨xw_in 473 (by decide +kernel) rfl, List.forall_mem_cons.mpr ⟨xw_in 474 (by decide +kernel) rfl, List.forall_mem_cons.mpr ⟨xw_in 475 (by decide +kernel) rfl, List.forall_mem_cons.mpr ⟨xw_in 84 (by decide +kernel) rfl, (fun _ h => nomatch h)⟩⟩⟩⟩, xw_in 476 (by decide +kernel) rfl, by decide +kernel, by decide +kernel, by decide +kernel⟩
theorem cS_Shelf_67 : xw_sS "PhraseShelf" 67 m_Shelf_lettersIn 1 := ⟨List.forall_mem_cons.mpr ⟨xw_in 477 (by decide +kernel) rfl, List.forall_mem_cons.mpr ⟨xw_in 478 (by decide +kernel) rfl, List.forall_mem_cons.mpr ⟨xw_in 84 (by decide +kernel) rfl, (fun _ h => nomatch h)⟩⟩⟩, xw_in 479 (by decide +kernel) rfl, by decide +kernel, by decide +kernel, by decide +kernel⟩
theorem cS_Shelf_86 : xw_sS "PhraseShelf" 86 m_Shelf_octet 2 := ⟨List.forall_mem_cons.mpr ⟨xw_in 480 (by decide +kernel) rfl, List.forall_mem_cons.mpr ⟨xw_in 481 (by decide +kernel) rfl, List.forall_mem_cons.mpr ⟨xw_in 84 (by decide +kernel) rfl, (fun _ h => nomatch h)⟩⟩⟩, xw_in 482 (by decide +kernel) rfl, by decide +kernel, by decide +kernel, by decide +kernel⟩
theorem cV_Law_17 : xw_sV "PhraseShelfLaw" 17 m_Shelf_set 1 := ⟨List.forall_mem_cons.mpr ⟨xw_in 571 (by decide +kernel) rfl, List.forall_mem_cons.mpr ⟨xw_in 572 (by decide +kernel) rfl, List.forall_mem_cons.mpr ⟨xw_in 573 (by decide +kernel) rfl, List.forall_mem_cons.mpr ⟨xw_in 84 (by decide +kernel) rfl, (fun _ h => nomatch h)⟩⟩⟩⟩, xw_in 574 (by decide +kernel) rfl, by decide +kernel, by decide +kernel, by decide +kernel⟩
theorem cS_Shelf_90 : xw_sS "PhraseShelf" 90 m_Shelf_isColumn 1 := ⟨List.forall_mem_cons.mpr ⟨xw_in 575 (by decide +kernel) rfl, List.forall_mem_cons.mpr ⟨xw_in 576 (by decide +kernel) rfl, List.forall_mem_cons.mpr ⟨xw_in 84 (by decide +kernel) rfl, (fun _ h => nomatch h)⟩⟩⟩, xw_in 577 (by decide +kernel) rfl, by decide +kernel, by decide +kernel, by decide +kernel⟩
theorem cV_Shelf_98 : xw_sV "PhraseShelf" 98 m_Tokens_gather 3 := ⟨List.forall_mem_cons.mpr ⟨xw_in 580 (by decide +kernel) rfl, List.forall_mem_cons.mpr ⟨xw_in 581 (by decide +kernel) rfl, List.forall_mem_cons.mpr ⟨xw_in 582 (by decide +kernel) rfl, List.forall_mem_cons.mpr ⟨xw_in 87 (by decide +kernel) rfl, (fun _ h => nomatch h)⟩⟩⟩⟩, xw_in 583 (by decide +kernel) rfl, by decide +kernel, by decide +kernel, by decide +kernel⟩
theorem cN_Tokens_17 : xw_sSN "PhraseShelf$Tokens" 17 m_Shelf_isWord "PhraseShelf" 1 := ⟨by decide +kernel, List.forall_mem_cons.mpr ⟨xw_in 585 (by decide +kernel) rfl, List.forall_mem_cons.mpr ⟨xw_in 84 (by decide +kernel) rfl, (fun _ h => nomatch h)⟩⟩, xw_in 586 (by decide +kernel) rfl, by decide +kernel, by decide +kernel, by decide +kernel⟩
theorem cV_Tokens_27 : xw_sV "PhraseShelf$Tokens" 27 m_Tokens_addLetter 1 := ⟨List.forall_mem_cons.mpr ⟨xw_in 587 (by decide +kernel) rfl, List.forall_mem_cons.mpr ⟨xw_in 589 (by decide +kernel) rfl, List.forall_mem_cons.mpr ⟨xw_in 6 (by decide +kernel) rfl, List.forall_mem_cons.mpr ⟨xw_in 87 (by decide +kernel) rfl, (fun _ h => nomatch h)⟩⟩⟩⟩, xw_in 590 (by decide +kernel) rfl, by decide +kernel, by decide +kernel, by decide +kernel⟩
theorem cV_Law_21 : xw_sV "PhraseShelfLaw" 21 m_Shelf_insert 0 := ⟨List.forall_mem_cons.mpr ⟨xw_in 594 (by decide +kernel) rfl, List.forall_mem_cons.mpr ⟨xw_in 595 (by decide +kernel) rfl, List.forall_mem_cons.mpr ⟨xw_in 596 (by decide +kernel) rfl, List.forall_mem_cons.mpr ⟨xw_in 84 (by decide +kernel) rfl, (fun _ h => nomatch h)⟩⟩⟩⟩, xw_in 597 (by decide +kernel) rfl, by decide +kernel, by decide +kernel, by decide +kernel⟩
theorem cV_Shelf_105 : xw_sV "PhraseShelf" 105 m_Store_freeRow 0 := ⟨List.forall_mem_cons.mpr ⟨xw_in 598 (by decide +kernel) rfl, List.forall_mem_cons.mpr ⟨xw_in 599 (by decide +kernel) rfl, List.forall_mem_cons.mpr ⟨xw_in 600 (by decide +kernel) rfl, List.forall_mem_cons.mpr ⟨xw_in 85 (by decide +kernel) rfl, (fun _ h => nomatch h)⟩⟩⟩⟩, xw_in 601 (by decide +kernel) rfl, by decide +kernel, by decide +kernel, by decide +kernel⟩
theorem cV_Shelf_111 : xw_sV "PhraseShelf" 111 m_Shelf_giveTexts 1 := ⟨List.forall_mem_cons.mpr ⟨xw_in 603 (by decide +kernel) rfl, List.forall_mem_cons.mpr ⟨xw_in 605 (by decide +kernel) rfl, List.forall_mem_cons.mpr ⟨xw_in 7 (by decide +kernel) rfl, List.forall_mem_cons.mpr ⟨xw_in 84 (by decide +kernel) rfl, (fun _ h => nomatch h)⟩⟩⟩⟩, xw_in 606 (by decide +kernel) rfl, by decide +kernel, by decide +kernel, by decide +kernel⟩
theorem cV_Shelf_252 : xw_sV "PhraseShelf" 252 m_Store_putVersion 3 := ⟨List.forall_mem_cons.mpr ⟨xw_in 607 (by decide +kernel) rfl, List.forall_mem_cons.mpr ⟨xw_in 608 (by decide +kernel) rfl, List.forall_mem_cons.mpr ⟨xw_in 609 (by decide +kernel) rfl, List.forall_mem_cons.mpr ⟨xw_in 85 (by decide +kernel) rfl, (fun _ h => nomatch h)⟩⟩⟩⟩, xw_in 610 (by decide +kernel) rfl, by decide +kernel, by decide +kernel, by decide +kernel⟩
theorem cV_Store_37 : xw_sV "PhraseShelf$Store" 37 m_Tokens_different 0 := ⟨List.forall_mem_cons.mpr ⟨xw_in 611 (by decide +kernel) rfl, List.forall_mem_cons.mpr ⟨xw_in 612 (by decide +kernel) rfl, List.forall_mem_cons.mpr ⟨xw_in 613 (by decide +kernel) rfl, List.forall_mem_cons.mpr ⟨xw_in 87 (by decide +kernel) rfl, (fun _ h => nomatch h)⟩⟩⟩⟩, xw_in 614 (by decide +kernel) rfl, by decide +kernel, by decide +kernel, by decide +kernel⟩
theorem cV_Tokens_35 : xw_sV "PhraseShelf$Tokens" 35 m_Tokens_isEarlier 1 := ⟨List.forall_mem_cons.mpr ⟨xw_in 615 (by decide +kernel) rfl, List.forall_mem_cons.mpr ⟨xw_in 617 (by decide +kernel) rfl, List.forall_mem_cons.mpr ⟨xw_in 8 (by decide +kernel) rfl, List.forall_mem_cons.mpr ⟨xw_in 87 (by decide +kernel) rfl, (fun _ h => nomatch h)⟩⟩⟩⟩, xw_in 618 (by decide +kernel) rfl, by decide +kernel, by decide +kernel, by decide +kernel⟩
theorem cV_Tokens_39 : xw_sV "PhraseShelf$Tokens" 39 m_Tokens_fits 4 := ⟨List.forall_mem_cons.mpr ⟨xw_in 619 (by decide +kernel) rfl, List.forall_mem_cons.mpr ⟨xw_in 620 (by decide +kernel) rfl, List.forall_mem_cons.mpr ⟨xw_in 621 (by decide +kernel) rfl, List.forall_mem_cons.mpr ⟨xw_in 87 (by decide +kernel) rfl, (fun _ h => nomatch h)⟩⟩⟩⟩, xw_in 622 (by decide +kernel) rfl, by decide +kernel, by decide +kernel, by decide +kernel⟩
theorem cV_Tokens_31 : xw_sV "PhraseShelf$Tokens" 31 m_Tokens_lengthOf 1 := ⟨List.forall_mem_cons.mpr ⟨xw_in 623 (by decide +kernel) rfl, List.forall_mem_cons.mpr ⟨xw_in 624 (by decide +kernel) rfl, List.forall_mem_cons.mpr ⟨xw_in 625 (by decide +kernel) rfl, List.forall_mem_cons.mpr ⟨xw_in 87 (by decide +kernel) rfl, (fun _ h => nomatch h)⟩⟩⟩⟩, xw_in 626 (by decide +kernel) rfl, by decide +kernel, by decide +kernel, by decide +kernel⟩
theorem cI_Store_42 : xw_sI "PhraseShelf$Store" 42 m_Version_init 5 := ⟨List.forall_mem_cons.mpr ⟨xw_in 628 (by decide +kernel) rfl, List.forall_mem_cons.mpr ⟨xw_in 629 (by decide +kernel) rfl, List.forall_mem_cons.mpr ⟨xw_in 99 (by decide +kernel) rfl, (fun _ h => nomatch h)⟩⟩⟩, xw_in 630 (by decide +kernel) rfl, by decide +kernel, by decide +kernel, by decide +kernel, rfl, rfl⟩
theorem oi_Version : ∀ w ∈ ([.methodLink "PhraseShelf$Version" 1 objectInit, .instanceMethod objectInit, .code objectInit ⟨#[0xb1]⟩ 1 none] : List Cond), w ∈ xw_tbl := List.forall_mem_cons.mpr ⟨xw_in 631 (by decide +kernel) rfl, List.forall_mem_cons.mpr ⟨xw_in 116 (by decide +kernel) rfl, List.forall_mem_cons.mpr ⟨xw_in 117 (by decide +kernel) rfl, (fun _ h => nomatch h)⟩⟩⟩
theorem cV_Law_25 : xw_sV "PhraseShelfLaw" 25 m_Shelf_replace 1 := ⟨List.forall_mem_cons.mpr ⟨xw_in 658 (by decide +kernel) rfl, List.forall_mem_cons.mpr ⟨xw_in 659 (by decide +kernel) rfl, List.forall_mem_cons.mpr ⟨xw_in 660 (by decide +kernel) rfl, List.forall_mem_cons.mpr ⟨xw_in 84 (by decide +kernel) rfl, (fun _ h => nomatch h)⟩⟩⟩⟩, xw_in 661 (by decide +kernel) rfl, by decide +kernel, by decide +kernel, by decide +kernel⟩
theorem cV_Shelf_115 : xw_sV "PhraseShelf" 115 m_Store_versionOf 1 := ⟨List.forall_mem_cons.mpr ⟨xw_in 662 (by decide +kernel) rfl, List.forall_mem_cons.mpr ⟨xw_in 663 (by decide +kernel) rfl, List.forall_mem_cons.mpr ⟨xw_in 664 (by decide +kernel) rfl, List.forall_mem_cons.mpr ⟨xw_in 85 (by decide +kernel) rfl, (fun _ h => nomatch h)⟩⟩⟩⟩, xw_in 665 (by decide +kernel) rfl, by decide +kernel, by decide +kernel, by decide +kernel⟩
theorem cV_Law_30 : xw_sV "PhraseShelfLaw" 30 m_Shelf_delete 1 := ⟨List.forall_mem_cons.mpr ⟨xw_in 685 (by decide +kernel) rfl, List.forall_mem_cons.mpr ⟨xw_in 686 (by decide +kernel) rfl, List.forall_mem_cons.mpr ⟨xw_in 687 (by decide +kernel) rfl, List.forall_mem_cons.mpr ⟨xw_in 84 (by decide +kernel) rfl, (fun _ h => nomatch h)⟩⟩⟩⟩, xw_in 688 (by decide +kernel) rfl, by decide +kernel, by decide +kernel, by decide +kernel⟩
theorem cV_Shelf_124 : xw_sV "PhraseShelf" 124 m_Store_clearRow 1 := ⟨List.forall_mem_cons.mpr ⟨xw_in 689 (by decide +kernel) rfl, List.forall_mem_cons.mpr ⟨xw_in 690 (by decide +kernel) rfl, List.forall_mem_cons.mpr ⟨xw_in 691 (by decide +kernel) rfl, List.forall_mem_cons.mpr ⟨xw_in 85 (by decide +kernel) rfl, (fun _ h => nomatch h)⟩⟩⟩⟩, xw_in 692 (by decide +kernel) rfl, by decide +kernel, by decide +kernel, by decide +kernel⟩
theorem cV_Shelf_127 : xw_sV "PhraseShelf" 127 m_Version_tokens 0 := ⟨List.forall_mem_cons.mpr ⟨xw_in 693 (by decide +kernel) rfl, List.forall_mem_cons.mpr ⟨xw_in 694 (by decide +kernel) rfl, List.forall_mem_cons.mpr ⟨xw_in 695 (by decide +kernel) rfl, List.forall_mem_cons.mpr ⟨xw_in 99 (by decide +kernel) rfl, (fun _ h => nomatch h)⟩⟩⟩⟩, xw_in 696 (by decide +kernel) rfl, by decide +kernel, by decide +kernel, by decide +kernel⟩
theorem cV_Law_33 : xw_sV "PhraseShelfLaw" 33 m_Shelf_begin 0 := ⟨List.forall_mem_cons.mpr ⟨xw_in 701 (by decide +kernel) rfl, List.forall_mem_cons.mpr ⟨xw_in 702 (by decide +kernel) rfl, List.forall_mem_cons.mpr ⟨xw_in 703 (by decide +kernel) rfl, List.forall_mem_cons.mpr ⟨xw_in 84 (by decide +kernel) rfl, (fun _ h => nomatch h)⟩⟩⟩⟩, xw_in 704 (by decide +kernel) rfl, by decide +kernel, by decide +kernel, by decide +kernel⟩
theorem cV_Shelf_141 : xw_sV "PhraseShelf" 141 m_Store_copyFrom 1 := ⟨List.forall_mem_cons.mpr ⟨xw_in 721 (by decide +kernel) rfl, List.forall_mem_cons.mpr ⟨xw_in 722 (by decide +kernel) rfl, List.forall_mem_cons.mpr ⟨xw_in 723 (by decide +kernel) rfl, List.forall_mem_cons.mpr ⟨xw_in 85 (by decide +kernel) rfl, (fun _ h => nomatch h)⟩⟩⟩⟩, xw_in 724 (by decide +kernel) rfl, by decide +kernel, by decide +kernel, by decide +kernel⟩
theorem cV_Law_38 : xw_sV "PhraseShelfLaw" 38 m_Shelf_commit 0 := ⟨List.forall_mem_cons.mpr ⟨xw_in 728 (by decide +kernel) rfl, List.forall_mem_cons.mpr ⟨xw_in 729 (by decide +kernel) rfl, List.forall_mem_cons.mpr ⟨xw_in 730 (by decide +kernel) rfl, List.forall_mem_cons.mpr ⟨xw_in 84 (by decide +kernel) rfl, (fun _ h => nomatch h)⟩⟩⟩⟩, xw_in 731 (by decide +kernel) rfl, by decide +kernel, by decide +kernel, by decide +kernel⟩
theorem cV_Law_41 : xw_sV "PhraseShelfLaw" 41 m_Shelf_rollback 0 := ⟨List.forall_mem_cons.mpr ⟨xw_in 736 (by decide +kernel) rfl, List.forall_mem_cons.mpr ⟨xw_in 737 (by decide +kernel) rfl, List.forall_mem_cons.mpr ⟨xw_in 738 (by decide +kernel) rfl, List.forall_mem_cons.mpr ⟨xw_in 84 (by decide +kernel) rfl, (fun _ h => nomatch h)⟩⟩⟩⟩, xw_in 739 (by decide +kernel) rfl, by decide +kernel, by decide +kernel, by decide +kernel⟩
theorem cV_Shelf_153 : xw_sV "PhraseShelf" 153 m_Store_rowCount 0 := ⟨List.forall_mem_cons.mpr ⟨xw_in 740 (by decide +kernel) rfl, List.forall_mem_cons.mpr ⟨xw_in 741 (by decide +kernel) rfl, List.forall_mem_cons.mpr ⟨xw_in 742 (by decide +kernel) rfl, List.forall_mem_cons.mpr ⟨xw_in 85 (by decide +kernel) rfl, (fun _ h => nomatch h)⟩⟩⟩⟩, xw_in 743 (by decide +kernel) rfl, by decide +kernel, by decide +kernel, by decide +kernel⟩
theorem cV_Law_44 : xw_sV "PhraseShelfLaw" 44 m_Shelf_ways 2 := ⟨List.forall_mem_cons.mpr ⟨xw_in 747 (by decide +kernel) rfl, List.forall_mem_cons.mpr ⟨xw_in 748 (by decide +kernel) rfl, List.forall_mem_cons.mpr ⟨xw_in 749 (by decide +kernel) rfl, List.forall_mem_cons.mpr ⟨xw_in 84 (by decide +kernel) rfl, (fun _ h => nomatch h)⟩⟩⟩⟩, xw_in 750 (by decide +kernel) rfl, by decide +kernel, by decide +kernel, by decide +kernel⟩
theorem cV_Law_48 : xw_sV "PhraseShelfLaw" 48 m_Shelf_weight 2 := ⟨List.forall_mem_cons.mpr ⟨xw_in 755 (by decide +kernel) rfl, List.forall_mem_cons.mpr ⟨xw_in 756 (by decide +kernel) rfl, List.forall_mem_cons.mpr ⟨xw_in 757 (by decide +kernel) rfl, List.forall_mem_cons.mpr ⟨xw_in 84 (by decide +kernel) rfl, (fun _ h => nomatch h)⟩⟩⟩⟩, xw_in 758 (by decide +kernel) rfl, by decide +kernel, by decide +kernel, by decide +kernel⟩
theorem cV_Law_52 : xw_sV "PhraseShelfLaw" 52 m_Shelf_ask 0 := ⟨List.forall_mem_cons.mpr ⟨xw_in 763 (by decide +kernel) rfl, List.forall_mem_cons.mpr ⟨xw_in 764 (by decide +kernel) rfl, List.forall_mem_cons.mpr ⟨xw_in 765 (by decide +kernel) rfl, List.forall_mem_cons.mpr ⟨xw_in 84 (by decide +kernel) rfl, (fun _ h => nomatch h)⟩⟩⟩⟩, xw_in 766 (by decide +kernel) rfl, by decide +kernel, by decide +kernel, by decide +kernel⟩
theorem cV_Shelf_163 : xw_sV "PhraseShelf" 163 m_Question_read 2 := ⟨List.forall_mem_cons.mpr ⟨xw_in 767 (by decide +kernel) rfl, List.forall_mem_cons.mpr ⟨xw_in 768 (by decide +kernel) rfl, List.forall_mem_cons.mpr ⟨xw_in 769 (by decide +kernel) rfl, List.forall_mem_cons.mpr ⟨xw_in 86 (by decide +kernel) rfl, (fun _ h => nomatch h)⟩⟩⟩⟩, xw_in 770 (by decide +kernel) rfl, by decide +kernel, by decide +kernel, by decide +kernel⟩
theorem cV_Question_41 : xw_sV "PhraseShelf$Question" 41 m_Parts_split 2 := ⟨List.forall_mem_cons.mpr ⟨xw_in 771 (by decide +kernel) rfl, List.forall_mem_cons.mpr ⟨xw_in 772 (by decide +kernel) rfl, List.forall_mem_cons.mpr ⟨xw_in 773 (by decide +kernel) rfl, List.forall_mem_cons.mpr ⟨xw_in 88 (by decide +kernel) rfl, (fun _ h => nomatch h)⟩⟩⟩⟩, xw_in 774 (by decide +kernel) rfl, by decide +kernel, by decide +kernel, by decide +kernel⟩
theorem cV_Parts_29 : xw_sV "PhraseShelf$Parts" 29 m_Parts_blanksEnd 1 := ⟨List.forall_mem_cons.mpr ⟨xw_in 775 (by decide +kernel) rfl, List.forall_mem_cons.mpr ⟨xw_in 777 (by decide +kernel) rfl, List.forall_mem_cons.mpr ⟨xw_in 9 (by decide +kernel) rfl, List.forall_mem_cons.mpr ⟨xw_in 88 (by decide +kernel) rfl, (fun _ h => nomatch h)⟩⟩⟩⟩, xw_in 778 (by decide +kernel) rfl, by decide +kernel, by decide +kernel, by decide +kernel⟩
theorem cV_Parts_33 : xw_sV "PhraseShelf$Parts" 33 m_Parts_readPart 1 := ⟨List.forall_mem_cons.mpr ⟨xw_in 779 (by decide +kernel) rfl, List.forall_mem_cons.mpr ⟨xw_in 781 (by decide +kernel) rfl, List.forall_mem_cons.mpr ⟨xw_in 10 (by decide +kernel) rfl, List.forall_mem_cons.mpr ⟨xw_in 88 (by decide +kernel) rfl, (fun _ h => nomatch h)⟩⟩⟩⟩, xw_in 782 (by decide +kernel) rfl, by decide +kernel, by decide +kernel, by decide +kernel⟩
theorem cN_Parts_37 : xw_sSN "PhraseShelf$Parts" 37 m_Shelf_isWord "PhraseShelf" 1 := ⟨by decide +kernel, List.forall_mem_cons.mpr ⟨xw_in 585 (by decide +kernel) rfl, List.forall_mem_cons.mpr ⟨xw_in 84 (by decide +kernel) rfl, (fun _ h => nomatch h)⟩⟩, xw_in 586 (by decide +kernel) rfl, by decide +kernel, by decide +kernel, by decide +kernel⟩
theorem cV_Parts_41 : xw_sV "PhraseShelf$Parts" 41 m_Parts_wordEnd 1 := ⟨List.forall_mem_cons.mpr ⟨xw_in 784 (by decide +kernel) rfl, List.forall_mem_cons.mpr ⟨xw_in 786 (by decide +kernel) rfl, List.forall_mem_cons.mpr ⟨xw_in 11 (by decide +kernel) rfl, List.forall_mem_cons.mpr ⟨xw_in 88 (by decide +kernel) rfl, (fun _ h => nomatch h)⟩⟩⟩⟩, xw_in 787 (by decide +kernel) rfl, by decide +kernel, by decide +kernel, by decide +kernel⟩
theorem cV_Parts_44 : xw_sV "PhraseShelf$Parts" 44 m_Parts_wordKind 2 := ⟨List.forall_mem_cons.mpr ⟨xw_in 788 (by decide +kernel) rfl, List.forall_mem_cons.mpr ⟨xw_in 790 (by decide +kernel) rfl, List.forall_mem_cons.mpr ⟨xw_in 12 (by decide +kernel) rfl, List.forall_mem_cons.mpr ⟨xw_in 88 (by decide +kernel) rfl, (fun _ h => nomatch h)⟩⟩⟩⟩, xw_in 791 (by decide +kernel) rfl, by decide +kernel, by decide +kernel, by decide +kernel⟩
theorem cV_Parts_60 : xw_sV "PhraseShelf$Parts" 60 m_Parts_isName 3 := ⟨List.forall_mem_cons.mpr ⟨xw_in 793 (by decide +kernel) rfl, List.forall_mem_cons.mpr ⟨xw_in 795 (by decide +kernel) rfl, List.forall_mem_cons.mpr ⟨xw_in 13 (by decide +kernel) rfl, List.forall_mem_cons.mpr ⟨xw_in 88 (by decide +kernel) rfl, (fun _ h => nomatch h)⟩⟩⟩⟩, xw_in 796 (by decide +kernel) rfl, by decide +kernel, by decide +kernel, by decide +kernel⟩
theorem cV_Parts_48 : xw_sV "PhraseShelf$Parts" 48 m_Parts_quoteEnd 1 := ⟨List.forall_mem_cons.mpr ⟨xw_in 848 (by decide +kernel) rfl, List.forall_mem_cons.mpr ⟨xw_in 850 (by decide +kernel) rfl, List.forall_mem_cons.mpr ⟨xw_in 14 (by decide +kernel) rfl, List.forall_mem_cons.mpr ⟨xw_in 88 (by decide +kernel) rfl, (fun _ h => nomatch h)⟩⟩⟩⟩, xw_in 851 (by decide +kernel) rfl, by decide +kernel, by decide +kernel, by decide +kernel⟩
theorem cV_Question_65 : xw_sV "PhraseShelf$Question" 65 m_Question_joined 3 := ⟨List.forall_mem_cons.mpr ⟨xw_in 910 (by decide +kernel) rfl, List.forall_mem_cons.mpr ⟨xw_in 912 (by decide +kernel) rfl, List.forall_mem_cons.mpr ⟨xw_in 15 (by decide +kernel) rfl, List.forall_mem_cons.mpr ⟨xw_in 86 (by decide +kernel) rfl, (fun _ h => nomatch h)⟩⟩⟩⟩, xw_in 913 (by decide +kernel) rfl, by decide +kernel, by decide +kernel, by decide +kernel⟩
theorem cV_Question_84 : xw_sV "PhraseShelf$Question" 84 m_Question_operand 3 := ⟨List.forall_mem_cons.mpr ⟨xw_in 914 (by decide +kernel) rfl, List.forall_mem_cons.mpr ⟨xw_in 916 (by decide +kernel) rfl, List.forall_mem_cons.mpr ⟨xw_in 16 (by decide +kernel) rfl, List.forall_mem_cons.mpr ⟨xw_in 86 (by decide +kernel) rfl, (fun _ h => nomatch h)⟩⟩⟩⟩, xw_in 917 (by decide +kernel) rfl, by decide +kernel, by decide +kernel, by decide +kernel⟩
theorem cV_Question_95 : xw_sV "PhraseShelf$Question" 95 m_Question_atom 2 := ⟨List.forall_mem_cons.mpr ⟨xw_in 918 (by decide +kernel) rfl, List.forall_mem_cons.mpr ⟨xw_in 920 (by decide +kernel) rfl, List.forall_mem_cons.mpr ⟨xw_in 17 (by decide +kernel) rfl, List.forall_mem_cons.mpr ⟨xw_in 86 (by decide +kernel) rfl, (fun _ h => nomatch h)⟩⟩⟩⟩, xw_in 921 (by decide +kernel) rfl, by decide +kernel, by decide +kernel, by decide +kernel⟩
theorem cV_Question_106 : xw_sV "PhraseShelf$Question" 106 m_Question_beginsDeeper 0 := ⟨List.forall_mem_cons.mpr ⟨xw_in 922 (by decide +kernel) rfl, List.forall_mem_cons.mpr ⟨xw_in 924 (by decide +kernel) rfl, List.forall_mem_cons.mpr ⟨xw_in 18 (by decide +kernel) rfl, List.forall_mem_cons.mpr ⟨xw_in 86 (by decide +kernel) rfl, (fun _ h => nomatch h)⟩⟩⟩⟩, xw_in 925 (by decide +kernel) rfl, by decide +kernel, by decide +kernel, by decide +kernel⟩
theorem cV_Question_69 : xw_sV "PhraseShelf$Question" 69 m_Question_kind 0 := ⟨List.forall_mem_cons.mpr ⟨xw_in 926 (by decide +kernel) rfl, List.forall_mem_cons.mpr ⟨xw_in 928 (by decide +kernel) rfl, List.forall_mem_cons.mpr ⟨xw_in 19 (by decide +kernel) rfl, List.forall_mem_cons.mpr ⟨xw_in 86 (by decide +kernel) rfl, (fun _ h => nomatch h)⟩⟩⟩⟩, xw_in 929 (by decide +kernel) rfl, by decide +kernel, by decide +kernel, by decide +kernel⟩
theorem cV_Question_73 : xw_sV "PhraseShelf$Question" 73 m_Question_refuse 0 := ⟨List.forall_mem_cons.mpr ⟨xw_in 930 (by decide +kernel) rfl, List.forall_mem_cons.mpr ⟨xw_in 932 (by decide +kernel) rfl, List.forall_mem_cons.mpr ⟨xw_in 20 (by decide +kernel) rfl, List.forall_mem_cons.mpr ⟨xw_in 86 (by decide +kernel) rfl, (fun _ h => nomatch h)⟩⟩⟩⟩, xw_in 933 (by decide +kernel) rfl, by decide +kernel, by decide +kernel, by decide +kernel⟩
theorem cV_Question_112 : xw_sV "PhraseShelf$Question" 112 m_Question_deeper 2 := ⟨List.forall_mem_cons.mpr ⟨xw_in 934 (by decide +kernel) rfl, List.forall_mem_cons.mpr ⟨xw_in 936 (by decide +kernel) rfl, List.forall_mem_cons.mpr ⟨xw_in 21 (by decide +kernel) rfl, List.forall_mem_cons.mpr ⟨xw_in 86 (by decide +kernel) rfl, (fun _ h => nomatch h)⟩⟩⟩⟩, xw_in 937 (by decide +kernel) rfl, by decide +kernel, by decide +kernel, by decide +kernel⟩
theorem cV_Question_103 : xw_sV "PhraseShelf$Question" 103 m_Question_takes 1 := ⟨List.forall_mem_cons.mpr ⟨xw_in 938 (by decide +kernel) rfl, List.forall_mem_cons.mpr ⟨xw_in 940 (by decide +kernel) rfl, List.forall_mem_cons.mpr ⟨xw_in 22 (by decide +kernel) rfl, List.forall_mem_cons.mpr ⟨xw_in 86 (by decide +kernel) rfl, (fun _ h => nomatch h)⟩⟩⟩⟩, xw_in 941 (by decide +kernel) rfl, by decide +kernel, by decide +kernel, by decide +kernel⟩
theorem cV_Question_122 : xw_sV "PhraseShelf$Question" 122 m_Parts_columnNamed 1 := ⟨List.forall_mem_cons.mpr ⟨xw_in 942 (by decide +kernel) rfl, List.forall_mem_cons.mpr ⟨xw_in 943 (by decide +kernel) rfl, List.forall_mem_cons.mpr ⟨xw_in 944 (by decide +kernel) rfl, List.forall_mem_cons.mpr ⟨xw_in 88 (by decide +kernel) rfl, (fun _ h => nomatch h)⟩⟩⟩⟩, xw_in 945 (by decide +kernel) rfl, by decide +kernel, by decide +kernel, by decide +kernel⟩
theorem cN_Parts_77 : xw_sSN "PhraseShelf$Parts" 77 m_Shelf_isColumn "PhraseShelf" 1 := ⟨by decide +kernel, List.forall_mem_cons.mpr ⟨xw_in 576 (by decide +kernel) rfl, List.forall_mem_cons.mpr ⟨xw_in 84 (by decide +kernel) rfl, (fun _ h => nomatch h)⟩⟩, xw_in 577 (by decide +kernel) rfl, by decide +kernel, by decide +kernel, by decide +kernel⟩
theorem cV_Question_115 : xw_sV "PhraseShelf$Question" 115 m_Question_near 1 := ⟨List.forall_mem_cons.mpr ⟨xw_in 947 (by decide +kernel) rfl, List.forall_mem_cons.mpr ⟨xw_in 949 (by decide +kernel) rfl, List.forall_mem_cons.mpr ⟨xw_in 23 (by decide +kernel) rfl, List.forall_mem_cons.mpr ⟨xw_in 86 (by decide +kernel) rfl, (fun _ h => nomatch h)⟩⟩⟩⟩, xw_in 950 (by decide +kernel) rfl, by decide +kernel, by decide +kernel, by decide +kernel⟩
theorem cV_Question_126 : xw_sV "PhraseShelf$Question" 126 m_Question_readPhrase 0 := ⟨List.forall_mem_cons.mpr ⟨xw_in 951 (by decide +kernel) rfl, List.forall_mem_cons.mpr ⟨xw_in 953 (by decide +kernel) rfl, List.forall_mem_cons.mpr ⟨xw_in 24 (by decide +kernel) rfl, List.forall_mem_cons.mpr ⟨xw_in 86 (by decide +kernel) rfl, (fun _ h => nomatch h)⟩⟩⟩⟩, xw_in 954 (by decide +kernel) rfl, by decide +kernel, by decide +kernel, by decide +kernel⟩
theorem cV_Question_136 : xw_sV "PhraseShelf$Question" 136 m_Question_readString 0 := ⟨List.forall_mem_cons.mpr ⟨xw_in 955 (by decide +kernel) rfl, List.forall_mem_cons.mpr ⟨xw_in 957 (by decide +kernel) rfl, List.forall_mem_cons.mpr ⟨xw_in 25 (by decide +kernel) rfl, List.forall_mem_cons.mpr ⟨xw_in 86 (by decide +kernel) rfl, (fun _ h => nomatch h)⟩⟩⟩⟩, xw_in 958 (by decide +kernel) rfl, by decide +kernel, by decide +kernel, by decide +kernel⟩
theorem cV_Question_109 : xw_sV "PhraseShelf$Question" 109 m_Question_beginsString 0 := ⟨List.forall_mem_cons.mpr ⟨xw_in 959 (by decide +kernel) rfl, List.forall_mem_cons.mpr ⟨xw_in 961 (by decide +kernel) rfl, List.forall_mem_cons.mpr ⟨xw_in 26 (by decide +kernel) rfl, List.forall_mem_cons.mpr ⟨xw_in 86 (by decide +kernel) rfl, (fun _ h => nomatch h)⟩⟩⟩⟩, xw_in 962 (by decide +kernel) rfl, by decide +kernel, by decide +kernel, by decide +kernel⟩
theorem cV_Question_152 : xw_sV "PhraseShelf$Question" 152 m_Tokens_gather 3 := ⟨List.forall_mem_cons.mpr ⟨xw_in 963 (by decide +kernel) rfl, List.forall_mem_cons.mpr ⟨xw_in 581 (by decide +kernel) rfl, List.forall_mem_cons.mpr ⟨xw_in 582 (by decide +kernel) rfl, List.forall_mem_cons.mpr ⟨xw_in 87 (by decide +kernel) rfl, (fun _ h => nomatch h)⟩⟩⟩⟩, xw_in 583 (by decide +kernel) rfl, by decide +kernel, by decide +kernel, by decide +kernel⟩
theorem cV_Question_133 : xw_sV "PhraseShelf$Question" 133 m_Parts_number 1 := ⟨List.forall_mem_cons.mpr ⟨xw_in 964 (by decide +kernel) rfl, List.forall_mem_cons.mpr ⟨xw_in 965 (by decide +kernel) rfl, List.forall_mem_cons.mpr ⟨xw_in 966 (by decide +kernel) rfl, List.forall_mem_cons.mpr ⟨xw_in 88 (by decide +kernel) rfl, (fun _ h => nomatch h)⟩⟩⟩⟩, xw_in 967 (by decide +kernel) rfl, by decide +kernel, by decide +kernel, by decide +kernel⟩
theorem cV_Question_129 : xw_sV "PhraseShelf$Question" 129 m_Question_group 4 := ⟨List.forall_mem_cons.mpr ⟨xw_in 968 (by decide +kernel) rfl, List.forall_mem_cons.mpr ⟨xw_in 970 (by decide +kernel) rfl, List.forall_mem_cons.mpr ⟨xw_in 27 (by decide +kernel) rfl, List.forall_mem_cons.mpr ⟨xw_in 86 (by decide +kernel) rfl, (fun _ h => nomatch h)⟩⟩⟩⟩, xw_in 971 (by decide +kernel) rfl, by decide +kernel, by decide +kernel, by decide +kernel⟩
theorem cV_Question_156 : xw_sV "PhraseShelf$Question" 156 m_Question_newNode 1 := ⟨List.forall_mem_cons.mpr ⟨xw_in 972 (by decide +kernel) rfl, List.forall_mem_cons.mpr ⟨xw_in 974 (by decide +kernel) rfl, List.forall_mem_cons.mpr ⟨xw_in 28 (by decide +kernel) rfl, List.forall_mem_cons.mpr ⟨xw_in 86 (by decide +kernel) rfl, (fun _ h => nomatch h)⟩⟩⟩⟩, xw_in 975 (by decide +kernel) rfl, by decide +kernel, by decide +kernel, by decide +kernel⟩
theorem cV_Question_119 : xw_sV "PhraseShelf$Question" 119 m_Question_single 1 := ⟨List.forall_mem_cons.mpr ⟨xw_in 976 (by decide +kernel) rfl, List.forall_mem_cons.mpr ⟨xw_in 978 (by decide +kernel) rfl, List.forall_mem_cons.mpr ⟨xw_in 29 (by decide +kernel) rfl, List.forall_mem_cons.mpr ⟨xw_in 86 (by decide +kernel) rfl, (fun _ h => nomatch h)⟩⟩⟩⟩, xw_in 979 (by decide +kernel) rfl, by decide +kernel, by decide +kernel, by decide +kernel⟩
theorem cV_Question_87 : xw_sV "PhraseShelf$Question" 87 m_Question_goesOn 1 := ⟨List.forall_mem_cons.mpr ⟨xw_in 980 (by decide +kernel) rfl, List.forall_mem_cons.mpr ⟨xw_in 982 (by decide +kernel) rfl, List.forall_mem_cons.mpr ⟨xw_in 30 (by decide +kernel) rfl, List.forall_mem_cons.mpr ⟨xw_in 86 (by decide +kernel) rfl, (fun _ h => nomatch h)⟩⟩⟩⟩, xw_in 983 (by decide +kernel) rfl, by decide +kernel, by decide +kernel, by decide +kernel⟩
theorem cV_Question_99 : xw_sV "PhraseShelf$Question" 99 m_Question_beginsAtom 0 := ⟨List.forall_mem_cons.mpr ⟨xw_in 984 (by decide +kernel) rfl, List.forall_mem_cons.mpr ⟨xw_in 986 (by decide +kernel) rfl, List.forall_mem_cons.mpr ⟨xw_in 31 (by decide +kernel) rfl, List.forall_mem_cons.mpr ⟨xw_in 86 (by decide +kernel) rfl, (fun _ h => nomatch h)⟩⟩⟩⟩, xw_in 987 (by decide +kernel) rfl, by decide +kernel, by decide +kernel, by decide +kernel⟩
theorem cV_Question_91 : xw_sV "PhraseShelf$Question" 91 m_Question_join 3 := ⟨List.forall_mem_cons.mpr ⟨xw_in 988 (by decide +kernel) rfl, List.forall_mem_cons.mpr ⟨xw_in 990 (by decide +kernel) rfl, List.forall_mem_cons.mpr ⟨xw_in 32 (by decide +kernel) rfl, List.forall_mem_cons.mpr ⟨xw_in 86 (by decide +kernel) rfl, (fun _ h => nomatch h)⟩⟩⟩⟩, xw_in 991 (by decide +kernel) rfl, by decide +kernel, by decide +kernel, by decide +kernel⟩
theorem cV_Shelf_176 : xw_sV "PhraseShelf" 176 m_Standing_fill 2 := ⟨List.forall_mem_cons.mpr ⟨xw_in 993 (by decide +kernel) rfl, List.forall_mem_cons.mpr ⟨xw_in 994 (by decide +kernel) rfl, List.forall_mem_cons.mpr ⟨xw_in 995 (by decide +kernel) rfl, List.forall_mem_cons.mpr ⟨xw_in 91 (by decide +kernel) rfl, (fun _ h => nomatch h)⟩⟩⟩⟩, xw_in 996 (by decide +kernel) rfl, by decide +kernel, by decide +kernel, by decide +kernel⟩
theorem cV_Standing_25 : xw_sV "PhraseShelf$Standing" 25 m_Store_versionOf 1 := ⟨List.forall_mem_cons.mpr ⟨xw_in 997 (by decide +kernel) rfl, List.forall_mem_cons.mpr ⟨xw_in 663 (by decide +kernel) rfl, List.forall_mem_cons.mpr ⟨xw_in 664 (by decide +kernel) rfl, List.forall_mem_cons.mpr ⟨xw_in 85 (by decide +kernel) rfl, (fun _ h => nomatch h)⟩⟩⟩⟩, xw_in 665 (by decide +kernel) rfl, by decide +kernel, by decide +kernel, by decide +kernel⟩
theorem cV_Standing_35 : xw_sV "PhraseShelf$Standing" 35 m_Version_text 1 := ⟨List.forall_mem_cons.mpr ⟨xw_in 998 (by decide +kernel) rfl, List.forall_mem_cons.mpr ⟨xw_in 999 (by decide +kernel) rfl, List.forall_mem_cons.mpr ⟨xw_in 1000 (by decide +kernel) rfl, List.forall_mem_cons.mpr ⟨xw_in 99 (by decide +kernel) rfl, (fun _ h => nomatch h)⟩⟩⟩⟩, xw_in 1001 (by decide +kernel) rfl, by decide +kernel, by decide +kernel, by decide +kernel⟩
theorem cV_Standing_41 : xw_sV "PhraseShelf$Standing" 41 m_Standing_placesIn 2 := ⟨List.forall_mem_cons.mpr ⟨xw_in 1002 (by decide +kernel) rfl, List.forall_mem_cons.mpr ⟨xw_in 1004 (by decide +kernel) rfl, List.forall_mem_cons.mpr ⟨xw_in 33 (by decide +kernel) rfl, List.forall_mem_cons.mpr ⟨xw_in 91 (by decide +kernel) rfl, (fun _ h => nomatch h)⟩⟩⟩⟩, xw_in 1005 (by decide +kernel) rfl, by decide +kernel, by decide +kernel, by decide +kernel⟩
theorem cV_Standing_59 : xw_sV "PhraseShelf$Standing" 59 m_Standing_standsAt 3 := ⟨List.forall_mem_cons.mpr ⟨xw_in 1006 (by decide +kernel) rfl, List.forall_mem_cons.mpr ⟨xw_in 1008 (by decide +kernel) rfl, List.forall_mem_cons.mpr ⟨xw_in 34 (by decide +kernel) rfl, List.forall_mem_cons.mpr ⟨xw_in 91 (by decide +kernel) rfl, (fun _ h => nomatch h)⟩⟩⟩⟩, xw_in 1009 (by decide +kernel) rfl, by decide +kernel, by decide +kernel, by decide +kernel⟩
theorem cV_Standing_74 : xw_sV "PhraseShelf$Standing" 74 m_Tokens_fits 4 := ⟨List.forall_mem_cons.mpr ⟨xw_in 1010 (by decide +kernel) rfl, List.forall_mem_cons.mpr ⟨xw_in 620 (by decide +kernel) rfl, List.forall_mem_cons.mpr ⟨xw_in 621 (by decide +kernel) rfl, List.forall_mem_cons.mpr ⟨xw_in 87 (by decide +kernel) rfl, (fun _ h => nomatch h)⟩⟩⟩⟩, xw_in 622 (by decide +kernel) rfl, by decide +kernel, by decide +kernel, by decide +kernel⟩
theorem cS_Standing_45 : xw_sS "PhraseShelf$Standing" 45 m_Standing_index 3 := ⟨List.forall_mem_cons.mpr ⟨xw_in 1011 (by decide +kernel) rfl, List.forall_mem_cons.mpr ⟨xw_in 1012 (by decide +kernel) rfl, List.forall_mem_cons.mpr ⟨xw_in 91 (by decide +kernel) rfl, (fun _ h => nomatch h)⟩⟩⟩, xw_in 1013 (by decide +kernel) rfl, by decide +kernel, by decide +kernel, by decide +kernel⟩
theorem cV_Shelf_180 : xw_sV "PhraseShelf" 180 m_Standing_rowsFound 1 := ⟨List.forall_mem_cons.mpr ⟨xw_in 1014 (by decide +kernel) rfl, List.forall_mem_cons.mpr ⟨xw_in 1015 (by decide +kernel) rfl, List.forall_mem_cons.mpr ⟨xw_in 1016 (by decide +kernel) rfl, List.forall_mem_cons.mpr ⟨xw_in 91 (by decide +kernel) rfl, (fun _ h => nomatch h)⟩⟩⟩⟩, xw_in 1017 (by decide +kernel) rfl, by decide +kernel, by decide +kernel, by decide +kernel⟩
theorem cV_Standing_97 : xw_sV "PhraseShelf$Standing" 97 m_Standing_rowsOfGroup 1 := ⟨List.forall_mem_cons.mpr ⟨xw_in 1018 (by decide +kernel) rfl, List.forall_mem_cons.mpr ⟨xw_in 1020 (by decide +kernel) rfl, List.forall_mem_cons.mpr ⟨xw_in 35 (by decide +kernel) rfl, List.forall_mem_cons.mpr ⟨xw_in 91 (by decide +kernel) rfl, (fun _ h => nomatch h)⟩⟩⟩⟩, xw_in 1021 (by decide +kernel) rfl, by decide +kernel, by decide +kernel, by decide +kernel⟩
theorem cV_Standing_119 : xw_sV "PhraseShelf$Standing" 119 m_Standing_holds 3 := ⟨List.forall_mem_cons.mpr ⟨xw_in 1022 (by decide +kernel) rfl, List.forall_mem_cons.mpr ⟨xw_in 1024 (by decide +kernel) rfl, List.forall_mem_cons.mpr ⟨xw_in 36 (by decide +kernel) rfl, List.forall_mem_cons.mpr ⟨xw_in 91 (by decide +kernel) rfl, (fun _ h => nomatch h)⟩⟩⟩⟩, xw_in 1025 (by decide +kernel) rfl, by decide +kernel, by decide +kernel, by decide +kernel⟩
theorem cV_Standing_78 : xw_sV "PhraseShelf$Standing" 78 m_Standing_placesOf 3 := ⟨List.forall_mem_cons.mpr ⟨xw_in 1026 (by decide +kernel) rfl, List.forall_mem_cons.mpr ⟨xw_in 1027 (by decide +kernel) rfl, List.forall_mem_cons.mpr ⟨xw_in 1028 (by decide +kernel) rfl, List.forall_mem_cons.mpr ⟨xw_in 91 (by decide +kernel) rfl, (fun _ h => nomatch h)⟩⟩⟩⟩, xw_in 1029 (by decide +kernel) rfl, by decide +kernel, by decide +kernel, by decide +kernel⟩
theorem cV_Standing_131 : xw_sV "PhraseShelf$Standing" 131 m_Standing_areNear 3 := ⟨List.forall_mem_cons.mpr ⟨xw_in 1030 (by decide +kernel) rfl, List.forall_mem_cons.mpr ⟨xw_in 1032 (by decide +kernel) rfl, List.forall_mem_cons.mpr ⟨xw_in 37 (by decide +kernel) rfl, List.forall_mem_cons.mpr ⟨xw_in 91 (by decide +kernel) rfl, (fun _ h => nomatch h)⟩⟩⟩⟩, xw_in 1033 (by decide +kernel) rfl, by decide +kernel, by decide +kernel, by decide +kernel⟩
theorem cV_Standing_134 : xw_sV "PhraseShelf$Standing" 134 m_Standing_allReach 4 := ⟨List.forall_mem_cons.mpr ⟨xw_in 1034 (by decide +kernel) rfl, List.forall_mem_cons.mpr ⟨xw_in 1036 (by decide +kernel) rfl, List.forall_mem_cons.mpr ⟨xw_in 38 (by decide +kernel) rfl, List.forall_mem_cons.mpr ⟨xw_in 91 (by decide +kernel) rfl, (fun _ h => nomatch h)⟩⟩⟩⟩, xw_in 1037 (by decide +kernel) rfl, by decide +kernel, by decide +kernel, by decide +kernel⟩
theorem cS_Standing_101 : xw_sS "PhraseShelf$Standing" 101 m_Standing_rowsOfJoin 1 := ⟨List.forall_mem_cons.mpr ⟨xw_in 1040 (by decide +kernel) rfl, List.forall_mem_cons.mpr ⟨xw_in 1041 (by decide +kernel) rfl, List.forall_mem_cons.mpr ⟨xw_in 91 (by decide +kernel) rfl, (fun _ h => nomatch h)⟩⟩⟩, xw_in 1042 (by decide +kernel) rfl, by decide +kernel, by decide +kernel, by decide +kernel⟩
theorem cV_Shelf_184 : xw_sV "PhraseShelf" 184 m_Answers_take 2 := ⟨List.forall_mem_cons.mpr ⟨xw_in 1043 (by decide +kernel) rfl, List.forall_mem_cons.mpr ⟨xw_in 1044 (by decide +kernel) rfl, List.forall_mem_cons.mpr ⟨xw_in 1045 (by decide +kernel) rfl, List.forall_mem_cons.mpr ⟨xw_in 92 (by decide +kernel) rfl, (fun _ h => nomatch h)⟩⟩⟩⟩, xw_in 1046 (by decide +kernel) rfl, by decide +kernel, by decide +kernel, by decide +kernel⟩
theorem cV_Answers_29 : xw_sV "PhraseShelf$Answers" 29 m_Store_versionOf 1 := ⟨List.forall_mem_cons.mpr ⟨xw_in 1047 (by decide +kernel) rfl, List.forall_mem_cons.mpr ⟨xw_in 663 (by decide +kernel) rfl, List.forall_mem_cons.mpr ⟨xw_in 664 (by decide +kernel) rfl, List.forall_mem_cons.mpr ⟨xw_in 85 (by decide +kernel) rfl, (fun _ h => nomatch h)⟩⟩⟩⟩, xw_in 665 (by decide +kernel) rfl, by decide +kernel, by decide +kernel, by decide +kernel⟩
theorem cV_Answers_35 : xw_sV "PhraseShelf$Answers" 35 m_Version_tokens 0 := ⟨List.forall_mem_cons.mpr ⟨xw_in 1048 (by decide +kernel) rfl, List.forall_mem_cons.mpr ⟨xw_in 694 (by decide +kernel) rfl, List.forall_mem_cons.mpr ⟨xw_in 695 (by decide +kernel) rfl, List.forall_mem_cons.mpr ⟨xw_in 99 (by decide +kernel) rfl, (fun _ h => nomatch h)⟩⟩⟩⟩, xw_in 696 (by decide +kernel) rfl, by decide +kernel, by decide +kernel, by decide +kernel⟩
theorem cV_Shelf_188 : xw_sV "PhraseShelf" 188 m_Answers_rank 4 := ⟨List.forall_mem_cons.mpr ⟨xw_in 1049 (by decide +kernel) rfl, List.forall_mem_cons.mpr ⟨xw_in 1050 (by decide +kernel) rfl, List.forall_mem_cons.mpr ⟨xw_in 1051 (by decide +kernel) rfl, List.forall_mem_cons.mpr ⟨xw_in 92 (by decide +kernel) rfl, (fun _ h => nomatch h)⟩⟩⟩⟩, xw_in 1052 (by decide +kernel) rfl, by decide +kernel, by decide +kernel, by decide +kernel⟩
theorem cV_Answers_41 : xw_sV "PhraseShelf$Answers" 41 m_Store_rowCount 0 := ⟨List.forall_mem_cons.mpr ⟨xw_in 1053 (by decide +kernel) rfl, List.forall_mem_cons.mpr ⟨xw_in 741 (by decide +kernel) rfl, List.forall_mem_cons.mpr ⟨xw_in 742 (by decide +kernel) rfl, List.forall_mem_cons.mpr ⟨xw_in 85 (by decide +kernel) rfl, (fun _ h => nomatch h)⟩⟩⟩⟩, xw_in 743 (by decide +kernel) rfl, by decide +kernel, by decide +kernel, by decide +kernel⟩
theorem cV_Answers_44 : xw_sV "PhraseShelf$Answers" 44 m_Store_tokenCount 0 := ⟨List.forall_mem_cons.mpr ⟨xw_in 1054 (by decide +kernel) rfl, List.forall_mem_cons.mpr ⟨xw_in 1055 (by decide +kernel) rfl, List.forall_mem_cons.mpr ⟨xw_in 1056 (by decide +kernel) rfl, List.forall_mem_cons.mpr ⟨xw_in 85 (by decide +kernel) rfl, (fun _ h => nomatch h)⟩⟩⟩⟩, xw_in 1057 (by decide +kernel) rfl, by decide +kernel, by decide +kernel, by decide +kernel⟩
theorem cV_Store_29 : xw_sV "PhraseShelf$Store" 29 m_Version_tokens 0 := ⟨List.forall_mem_cons.mpr ⟨xw_in 1058 (by decide +kernel) rfl, List.forall_mem_cons.mpr ⟨xw_in 694 (by decide +kernel) rfl, List.forall_mem_cons.mpr ⟨xw_in 695 (by decide +kernel) rfl, List.forall_mem_cons.mpr ⟨xw_in 99 (by decide +kernel) rfl, (fun _ h => nomatch h)⟩⟩⟩⟩, xw_in 696 (by decide +kernel) rfl, by decide +kernel, by decide +kernel, by decide +kernel⟩
theorem cV_Answers_47 : xw_sV "PhraseShelf$Answers" 47 m_Standing_rowsWith 1 := ⟨List.forall_mem_cons.mpr ⟨xw_in 1059 (by decide +kernel) rfl, List.forall_mem_cons.mpr ⟨xw_in 1060 (by decide +kernel) rfl, List.forall_mem_cons.mpr ⟨xw_in 1061 (by decide +kernel) rfl, List.forall_mem_cons.mpr ⟨xw_in 91 (by decide +kernel) rfl, (fun _ h => nomatch h)⟩⟩⟩⟩, xw_in 1062 (by decide +kernel) rfl, by decide +kernel, by decide +kernel, by decide +kernel⟩
theorem cV_Standing_81 : xw_sV "PhraseShelf$Standing" 81 m_Standing_standsIn 2 := ⟨List.forall_mem_cons.mpr ⟨xw_in 1063 (by decide +kernel) rfl, List.forall_mem_cons.mpr ⟨xw_in 1064 (by decide +kernel) rfl, List.forall_mem_cons.mpr ⟨xw_in 1065 (by decide +kernel) rfl, List.forall_mem_cons.mpr ⟨xw_in 91 (by decide +kernel) rfl, (fun _ h => nomatch h)⟩⟩⟩⟩, xw_in 1066 (by decide +kernel) rfl, by decide +kernel, by decide +kernel, by decide +kernel⟩
theorem cS_Answers_53 : xw_sS "PhraseShelf$Answers" 53 m_Answers_rarity 2 := ⟨List.forall_mem_cons.mpr ⟨xw_in 1067 (by decide +kernel) rfl, List.forall_mem_cons.mpr ⟨xw_in 1068 (by decide +kernel) rfl, List.forall_mem_cons.mpr ⟨xw_in 92 (by decide +kernel) rfl, (fun _ h => nomatch h)⟩⟩⟩, xw_in 1069 (by decide +kernel) rfl, by decide +kernel, by decide +kernel, by decide +kernel⟩
theorem cS_Answers_83 : xw_sS "PhraseShelf$Answers" 83 m_Answers_ln 1 := ⟨List.forall_mem_cons.mpr ⟨xw_in 1071 (by decide +kernel) rfl, List.forall_mem_cons.mpr ⟨xw_in 1072 (by decide +kernel) rfl, List.forall_mem_cons.mpr ⟨xw_in 92 (by decide +kernel) rfl, (fun _ h => nomatch h)⟩⟩⟩, xw_in 1073 (by decide +kernel) rfl, by decide +kernel, by decide +kernel, by decide +kernel⟩
theorem cV_Answers_57 : xw_sV "PhraseShelf$Answers" 57 m_Answers_addPhrase 5 := ⟨List.forall_mem_cons.mpr ⟨xw_in 1079 (by decide +kernel) rfl, List.forall_mem_cons.mpr ⟨xw_in 1081 (by decide +kernel) rfl, List.forall_mem_cons.mpr ⟨xw_in 39 (by decide +kernel) rfl, List.forall_mem_cons.mpr ⟨xw_in 92 (by decide +kernel) rfl, (fun _ h => nomatch h)⟩⟩⟩⟩, xw_in 1082 (by decide +kernel) rfl, by decide +kernel, by decide +kernel, by decide +kernel⟩
theorem cV_Answers_64 : xw_sV "PhraseShelf$Answers" 64 m_Standing_placesOf 3 := ⟨List.forall_mem_cons.mpr ⟨xw_in 1083 (by decide +kernel) rfl, List.forall_mem_cons.mpr ⟨xw_in 1027 (by decide +kernel) rfl, List.forall_mem_cons.mpr ⟨xw_in 1028 (by decide +kernel) rfl, List.forall_mem_cons.mpr ⟨xw_in 91 (by decide +kernel) rfl, (fun _ h => nomatch h)⟩⟩⟩⟩, xw_in 1029 (by decide +kernel) rfl, by decide +kernel, by decide +kernel, by decide +kernel⟩
theorem cV_Answers_61 : xw_sV "PhraseShelf$Answers" 61 m_Answers_sort 0 := ⟨List.forall_mem_cons.mpr ⟨xw_in 1093 (by decide +kernel) rfl, List.forall_mem_cons.mpr ⟨xw_in 1095 (by decide +kernel) rfl, List.forall_mem_cons.mpr ⟨xw_in 40 (by decide +kernel) rfl, List.forall_mem_cons.mpr ⟨xw_in 92 (by decide +kernel) rfl, (fun _ h => nomatch h)⟩⟩⟩⟩, xw_in 1096 (by decide +kernel) rfl, by decide +kernel, by decide +kernel, by decide +kernel⟩
theorem cV_Law_55 : xw_sV "PhraseShelfLaw" 55 m_Shelf_answer 2 := ⟨List.forall_mem_cons.mpr ⟨xw_in 1100 (by decide +kernel) rfl, List.forall_mem_cons.mpr ⟨xw_in 1101 (by decide +kernel) rfl, List.forall_mem_cons.mpr ⟨xw_in 1102 (by decide +kernel) rfl, List.forall_mem_cons.mpr ⟨xw_in 84 (by decide +kernel) rfl, (fun _ h => nomatch h)⟩⟩⟩⟩, xw_in 1103 (by decide +kernel) rfl, by decide +kernel, by decide +kernel, by decide +kernel⟩
theorem cV_Shelf_195 : xw_sV "PhraseShelf" 195 m_Answers_has 1 := ⟨List.forall_mem_cons.mpr ⟨xw_in 1104 (by decide +kernel) rfl, List.forall_mem_cons.mpr ⟨xw_in 1105 (by decide +kernel) rfl, List.forall_mem_cons.mpr ⟨xw_in 1106 (by decide +kernel) rfl, List.forall_mem_cons.mpr ⟨xw_in 92 (by decide +kernel) rfl, (fun _ h => nomatch h)⟩⟩⟩⟩, xw_in 1107 (by decide +kernel) rfl, by decide +kernel, by decide +kernel, by decide +kernel⟩
theorem cV_Shelf_203 : xw_sV "PhraseShelf" 203 m_Answers_place 2 := ⟨List.forall_mem_cons.mpr ⟨xw_in 1109 (by decide +kernel) rfl, List.forall_mem_cons.mpr ⟨xw_in 1110 (by decide +kernel) rfl, List.forall_mem_cons.mpr ⟨xw_in 1111 (by decide +kernel) rfl, List.forall_mem_cons.mpr ⟨xw_in 92 (by decide +kernel) rfl, (fun _ h => nomatch h)⟩⟩⟩⟩, xw_in 1112 (by decide +kernel) rfl, by decide +kernel, by decide +kernel, by decide +kernel⟩
theorem cV_Law_59 : xw_sV "PhraseShelfLaw" 59 m_Shelf_score 2 := ⟨List.forall_mem_cons.mpr ⟨xw_in 1116 (by decide +kernel) rfl, List.forall_mem_cons.mpr ⟨xw_in 1117 (by decide +kernel) rfl, List.forall_mem_cons.mpr ⟨xw_in 1118 (by decide +kernel) rfl, List.forall_mem_cons.mpr ⟨xw_in 84 (by decide +kernel) rfl, (fun _ h => nomatch h)⟩⟩⟩⟩, xw_in 1119 (by decide +kernel) rfl, by decide +kernel, by decide +kernel, by decide +kernel⟩
theorem cV_Law_63 : xw_sV "PhraseShelfLaw" 63 m_Shelf_look 2 := ⟨List.forall_mem_cons.mpr ⟨xw_in 1123 (by decide +kernel) rfl, List.forall_mem_cons.mpr ⟨xw_in 1124 (by decide +kernel) rfl, List.forall_mem_cons.mpr ⟨xw_in 1125 (by decide +kernel) rfl, List.forall_mem_cons.mpr ⟨xw_in 84 (by decide +kernel) rfl, (fun _ h => nomatch h)⟩⟩⟩⟩, xw_in 1126 (by decide +kernel) rfl, by decide +kernel, by decide +kernel, by decide +kernel⟩
theorem cV_Law_66 : xw_sV "PhraseShelfLaw" 66 m_Shelf_segment 2 := ⟨List.forall_mem_cons.mpr ⟨xw_in 1131 (by decide +kernel) rfl, List.forall_mem_cons.mpr ⟨xw_in 1132 (by decide +kernel) rfl, List.forall_mem_cons.mpr ⟨xw_in 1133 (by decide +kernel) rfl, List.forall_mem_cons.mpr ⟨xw_in 84 (by decide +kernel) rfl, (fun _ h => nomatch h)⟩⟩⟩⟩, xw_in 1134 (by decide +kernel) rfl, by decide +kernel, by decide +kernel, by decide +kernel⟩
theorem cV_Law_69 : xw_sV "PhraseShelfLaw" 69 m_Shelf_count 1 := ⟨List.forall_mem_cons.mpr ⟨xw_in 1140 (by decide +kernel) rfl, List.forall_mem_cons.mpr ⟨xw_in 1141 (by decide +kernel) rfl, List.forall_mem_cons.mpr ⟨xw_in 1142 (by decide +kernel) rfl, List.forall_mem_cons.mpr ⟨xw_in 84 (by decide +kernel) rfl, (fun _ h => nomatch h)⟩⟩⟩⟩, xw_in 1143 (by decide +kernel) rfl, by decide +kernel, by decide +kernel, by decide +kernel⟩
theorem cI_Law_75 : xw_sI "PhraseShelfLaw" 75 m_Model_init 0 := ⟨List.forall_mem_cons.mpr ⟨xw_in 1147 (by decide +kernel) rfl, List.forall_mem_cons.mpr ⟨xw_in 1148 (by decide +kernel) rfl, List.forall_mem_cons.mpr ⟨xw_in 93 (by decide +kernel) rfl, (fun _ h => nomatch h)⟩⟩⟩, xw_in 1149 (by decide +kernel) rfl, by decide +kernel, by decide +kernel, by decide +kernel, rfl, rfl⟩
theorem oi_Model : ∀ w ∈ ([.methodLink "PhraseShelfModel" 1 objectInit, .instanceMethod objectInit, .code objectInit ⟨#[0xb1]⟩ 1 none] : List Cond), w ∈ xw_tbl := List.forall_mem_cons.mpr ⟨xw_in 1150 (by decide +kernel) rfl, List.forall_mem_cons.mpr ⟨xw_in 116 (by decide +kernel) rfl, List.forall_mem_cons.mpr ⟨xw_in 117 (by decide +kernel) rfl, (fun _ h => nomatch h)⟩⟩⟩
theorem cV_Law_84 : xw_sV "PhraseShelfLaw" 84 m_Model_thrown 0 := ⟨List.forall_mem_cons.mpr ⟨xw_in 1339 (by decide +kernel) rfl, List.forall_mem_cons.mpr ⟨xw_in 1340 (by decide +kernel) rfl, List.forall_mem_cons.mpr ⟨xw_in 1341 (by decide +kernel) rfl, List.forall_mem_cons.mpr ⟨xw_in 93 (by decide +kernel) rfl, (fun _ h => nomatch h)⟩⟩⟩⟩, xw_in 1342 (by decide +kernel) rfl, by decide +kernel, by decide +kernel, by decide +kernel⟩
theorem cV_Law_83 : xw_sV "PhraseShelfLaw" 83 m_Model_letters 1 := ⟨List.forall_mem_cons.mpr ⟨xw_in 1343 (by decide +kernel) rfl, List.forall_mem_cons.mpr ⟨xw_in 1344 (by decide +kernel) rfl, List.forall_mem_cons.mpr ⟨xw_in 1345 (by decide +kernel) rfl, List.forall_mem_cons.mpr ⟨xw_in 93 (by decide +kernel) rfl, (fun _ h => nomatch h)⟩⟩⟩⟩, xw_in 1346 (by decide +kernel) rfl, by decide +kernel, by decide +kernel, by decide +kernel⟩
theorem cS_Model_133 : xw_sS "PhraseShelfModel" 133 m_Model_in 3 := ⟨List.forall_mem_cons.mpr ⟨xw_in 1348 (by decide +kernel) rfl, List.forall_mem_cons.mpr ⟨xw_in 1349 (by decide +kernel) rfl, List.forall_mem_cons.mpr ⟨xw_in 93 (by decide +kernel) rfl, (fun _ h => nomatch h)⟩⟩⟩, xw_in 1350 (by decide +kernel) rfl, by decide +kernel, by decide +kernel, by decide +kernel⟩
theorem cV_Model_139 : xw_sV "PhraseShelfModel" 139 m_Model_fails 2 := ⟨List.forall_mem_cons.mpr ⟨xw_in 1351 (by decide +kernel) rfl, List.forall_mem_cons.mpr ⟨xw_in 1353 (by decide +kernel) rfl, List.forall_mem_cons.mpr ⟨xw_in 41 (by decide +kernel) rfl, List.forall_mem_cons.mpr ⟨xw_in 93 (by decide +kernel) rfl, (fun _ h => nomatch h)⟩⟩⟩⟩, xw_in 1354 (by decide +kernel) rfl, by decide +kernel, by decide +kernel, by decide +kernel⟩
theorem cV_Law_90 : xw_sV "PhraseShelfLaw" 90 m_Model_drop 0 := ⟨List.forall_mem_cons.mpr ⟨xw_in 1355 (by decide +kernel) rfl, List.forall_mem_cons.mpr ⟨xw_in 1356 (by decide +kernel) rfl, List.forall_mem_cons.mpr ⟨xw_in 1357 (by decide +kernel) rfl, List.forall_mem_cons.mpr ⟨xw_in 93 (by decide +kernel) rfl, (fun _ h => nomatch h)⟩⟩⟩⟩, xw_in 1358 (by decide +kernel) rfl, by decide +kernel, by decide +kernel, by decide +kernel⟩
theorem cV_Law_94 : xw_sV "PhraseShelfLaw" 94 m_Model_set 1 := ⟨List.forall_mem_cons.mpr ⟨xw_in 1359 (by decide +kernel) rfl, List.forall_mem_cons.mpr ⟨xw_in 1360 (by decide +kernel) rfl, List.forall_mem_cons.mpr ⟨xw_in 1361 (by decide +kernel) rfl, List.forall_mem_cons.mpr ⟨xw_in 93 (by decide +kernel) rfl, (fun _ h => nomatch h)⟩⟩⟩⟩, xw_in 1362 (by decide +kernel) rfl, by decide +kernel, by decide +kernel, by decide +kernel⟩
theorem cS_Model_146 : xw_sS "PhraseShelfModel" 146 m_Model_isSign 1 := ⟨List.forall_mem_cons.mpr ⟨xw_in 1363 (by decide +kernel) rfl, List.forall_mem_cons.mpr ⟨xw_in 1364 (by decide +kernel) rfl, List.forall_mem_cons.mpr ⟨xw_in 93 (by decide +kernel) rfl, (fun _ h => nomatch h)⟩⟩⟩, xw_in 1365 (by decide +kernel) rfl, by decide +kernel, by decide +kernel, by decide +kernel⟩
theorem cV_Law_98 : xw_sV "PhraseShelfLaw" 98 m_Model_insert 0 := ⟨List.forall_mem_cons.mpr ⟨xw_in 1366 (by decide +kernel) rfl, List.forall_mem_cons.mpr ⟨xw_in 1367 (by decide +kernel) rfl, List.forall_mem_cons.mpr ⟨xw_in 1368 (by decide +kernel) rfl, List.forall_mem_cons.mpr ⟨xw_in 93 (by decide +kernel) rfl, (fun _ h => nomatch h)⟩⟩⟩⟩, xw_in 1369 (by decide +kernel) rfl, by decide +kernel, by decide +kernel, by decide +kernel⟩
theorem cV_Model_178 : xw_sV "PhraseShelfModel" 178 m_Model_gets 1 := ⟨List.forall_mem_cons.mpr ⟨xw_in 1370 (by decide +kernel) rfl, List.forall_mem_cons.mpr ⟨xw_in 1372 (by decide +kernel) rfl, List.forall_mem_cons.mpr ⟨xw_in 42 (by decide +kernel) rfl, List.forall_mem_cons.mpr ⟨xw_in 93 (by decide +kernel) rfl, (fun _ h => nomatch h)⟩⟩⟩⟩, xw_in 1373 (by decide +kernel) rfl, by decide +kernel, by decide +kernel, by decide +kernel⟩
theorem cV_Model_168 : xw_sV "PhraseShelfModel" 168 m_Model_entriesOf 1 := ⟨List.forall_mem_cons.mpr ⟨xw_in 1374 (by decide +kernel) rfl, List.forall_mem_cons.mpr ⟨xw_in 1376 (by decide +kernel) rfl, List.forall_mem_cons.mpr ⟨xw_in 43 (by decide +kernel) rfl, List.forall_mem_cons.mpr ⟨xw_in 93 (by decide +kernel) rfl, (fun _ h => nomatch h)⟩⟩⟩⟩, xw_in 1377 (by decide +kernel) rfl, by decide +kernel, by decide +kernel, by decide +kernel⟩
theorem cV_Model_153 : xw_sV "PhraseShelfModel" 153 m_Model_opens 2 := ⟨List.forall_mem_cons.mpr ⟨xw_in 1378 (by decide +kernel) rfl, List.forall_mem_cons.mpr ⟨xw_in 1380 (by decide +kernel) rfl, List.forall_mem_cons.mpr ⟨xw_in 44 (by decide +kernel) rfl, List.forall_mem_cons.mpr ⟨xw_in 93 (by decide +kernel) rfl, (fun _ h => nomatch h)⟩⟩⟩⟩, xw_in 1381 (by decide +kernel) rfl, by decide +kernel, by decide +kernel, by decide +kernel⟩
theorem cV_Model_161 : xw_sV "PhraseShelfModel" 161 m_Model_alike 2 := ⟨List.forall_mem_cons.mpr ⟨xw_in 1382 (by decide +kernel) rfl, List.forall_mem_cons.mpr ⟨xw_in 1384 (by decide +kernel) rfl, List.forall_mem_cons.mpr ⟨xw_in 45 (by decide +kernel) rfl, List.forall_mem_cons.mpr ⟨xw_in 93 (by decide +kernel) rfl, (fun _ h => nomatch h)⟩⟩⟩⟩, xw_in 1385 (by decide +kernel) rfl, by decide +kernel, by decide +kernel, by decide +kernel⟩
theorem cS_Model_157 : xw_sS "PhraseShelfModel" 157 m_Model_small 1 := ⟨List.forall_mem_cons.mpr ⟨xw_in 1386 (by decide +kernel) rfl, List.forall_mem_cons.mpr ⟨xw_in 1387 (by decide +kernel) rfl, List.forall_mem_cons.mpr ⟨xw_in 93 (by decide +kernel) rfl, (fun _ h => nomatch h)⟩⟩⟩, xw_in 1388 (by decide +kernel) rfl, by decide +kernel, by decide +kernel, by decide +kernel⟩
theorem cV_Model_171 : xw_sV "PhraseShelfModel" 171 m_Model_pending 0 := ⟨List.forall_mem_cons.mpr ⟨xw_in 1389 (by decide +kernel) rfl, List.forall_mem_cons.mpr ⟨xw_in 1391 (by decide +kernel) rfl, List.forall_mem_cons.mpr ⟨xw_in 46 (by decide +kernel) rfl, List.forall_mem_cons.mpr ⟨xw_in 93 (by decide +kernel) rfl, (fun _ h => nomatch h)⟩⟩⟩⟩, xw_in 1392 (by decide +kernel) rfl, by decide +kernel, by decide +kernel, by decide +kernel⟩
theorem cV_Model_175 : xw_sV "PhraseShelfModel" 175 m_Model_flushes 0 := ⟨List.forall_mem_cons.mpr ⟨xw_in 1393 (by decide +kernel) rfl, List.forall_mem_cons.mpr ⟨xw_in 1395 (by decide +kernel) rfl, List.forall_mem_cons.mpr ⟨xw_in 47 (by decide +kernel) rfl, List.forall_mem_cons.mpr ⟨xw_in 93 (by decide +kernel) rfl, (fun _ h => nomatch h)⟩⟩⟩⟩, xw_in 1396 (by decide +kernel) rfl, by decide +kernel, by decide +kernel, by decide +kernel⟩
theorem cV_Model_196 : xw_sV "PhraseShelfModel" 196 m_Model_gathers 2 := ⟨List.forall_mem_cons.mpr ⟨xw_in 1397 (by decide +kernel) rfl, List.forall_mem_cons.mpr ⟨xw_in 1399 (by decide +kernel) rfl, List.forall_mem_cons.mpr ⟨xw_in 48 (by decide +kernel) rfl, List.forall_mem_cons.mpr ⟨xw_in 93 (by decide +kernel) rfl, (fun _ h => nomatch h)⟩⟩⟩⟩, xw_in 1400 (by decide +kernel) rfl, by decide +kernel, by decide +kernel, by decide +kernel⟩
theorem cV_Model_190 : xw_sV "PhraseShelfModel" 190 m_Model_isLive 1 := ⟨List.forall_mem_cons.mpr ⟨xw_in 1401 (by decide +kernel) rfl, List.forall_mem_cons.mpr ⟨xw_in 1403 (by decide +kernel) rfl, List.forall_mem_cons.mpr ⟨xw_in 49 (by decide +kernel) rfl, List.forall_mem_cons.mpr ⟨xw_in 93 (by decide +kernel) rfl, (fun _ h => nomatch h)⟩⟩⟩⟩, xw_in 1404 (by decide +kernel) rfl, by decide +kernel, by decide +kernel, by decide +kernel⟩
theorem cV_Law_101 : xw_sV "PhraseShelfLaw" 101 m_Model_replace 1 := ⟨List.forall_mem_cons.mpr ⟨xw_in 1405 (by decide +kernel) rfl, List.forall_mem_cons.mpr ⟨xw_in 1406 (by decide +kernel) rfl, List.forall_mem_cons.mpr ⟨xw_in 1407 (by decide +kernel) rfl, List.forall_mem_cons.mpr ⟨xw_in 93 (by decide +kernel) rfl, (fun _ h => nomatch h)⟩⟩⟩⟩, xw_in 1408 (by decide +kernel) rfl, by decide +kernel, by decide +kernel, by decide +kernel⟩
theorem cV_Model_181 : xw_sV "PhraseShelfModel" 181 m_Model_has 1 := ⟨List.forall_mem_cons.mpr ⟨xw_in 1409 (by decide +kernel) rfl, List.forall_mem_cons.mpr ⟨xw_in 1411 (by decide +kernel) rfl, List.forall_mem_cons.mpr ⟨xw_in 50 (by decide +kernel) rfl, List.forall_mem_cons.mpr ⟨xw_in 93 (by decide +kernel) rfl, (fun _ h => nomatch h)⟩⟩⟩⟩, xw_in 1412 (by decide +kernel) rfl, by decide +kernel, by decide +kernel, by decide +kernel⟩
theorem cV_Law_104 : xw_sV "PhraseShelfLaw" 104 m_Model_delete 1 := ⟨List.forall_mem_cons.mpr ⟨xw_in 1413 (by decide +kernel) rfl, List.forall_mem_cons.mpr ⟨xw_in 1414 (by decide +kernel) rfl, List.forall_mem_cons.mpr ⟨xw_in 1415 (by decide +kernel) rfl, List.forall_mem_cons.mpr ⟨xw_in 93 (by decide +kernel) rfl, (fun _ h => nomatch h)⟩⟩⟩⟩, xw_in 1416 (by decide +kernel) rfl, by decide +kernel, by decide +kernel, by decide +kernel⟩
theorem cV_Model_184 : xw_sV "PhraseShelfModel" 184 m_Model_tokensOf 1 := ⟨List.forall_mem_cons.mpr ⟨xw_in 1417 (by decide +kernel) rfl, List.forall_mem_cons.mpr ⟨xw_in 1419 (by decide +kernel) rfl, List.forall_mem_cons.mpr ⟨xw_in 51 (by decide +kernel) rfl, List.forall_mem_cons.mpr ⟨xw_in 93 (by decide +kernel) rfl, (fun _ h => nomatch h)⟩⟩⟩⟩, xw_in 1420 (by decide +kernel) rfl, by decide +kernel, by decide +kernel, by decide +kernel⟩
theorem cV_Law_118 : xw_sV "PhraseShelfLaw" 118 m_Model_flush 0 := ⟨List.forall_mem_cons.mpr ⟨xw_in 1421 (by decide +kernel) rfl, List.forall_mem_cons.mpr ⟨xw_in 1422 (by decide +kernel) rfl, List.forall_mem_cons.mpr ⟨xw_in 1423 (by decide +kernel) rfl, List.forall_mem_cons.mpr ⟨xw_in 93 (by decide +kernel) rfl, (fun _ h => nomatch h)⟩⟩⟩⟩, xw_in 1424 (by decide +kernel) rfl, by decide +kernel, by decide +kernel, by decide +kernel⟩
theorem cV_Law_122 : xw_sV "PhraseShelfLaw" 122 m_Model_optimize 0 := ⟨List.forall_mem_cons.mpr ⟨xw_in 1425 (by decide +kernel) rfl, List.forall_mem_cons.mpr ⟨xw_in 1426 (by decide +kernel) rfl, List.forall_mem_cons.mpr ⟨xw_in 1427 (by decide +kernel) rfl, List.forall_mem_cons.mpr ⟨xw_in 93 (by decide +kernel) rfl, (fun _ h => nomatch h)⟩⟩⟩⟩, xw_in 1428 (by decide +kernel) rfl, by decide +kernel, by decide +kernel, by decide +kernel⟩
theorem cV_Law_108 : xw_sV "PhraseShelfLaw" 108 m_Model_begin 0 := ⟨List.forall_mem_cons.mpr ⟨xw_in 1429 (by decide +kernel) rfl, List.forall_mem_cons.mpr ⟨xw_in 1430 (by decide +kernel) rfl, List.forall_mem_cons.mpr ⟨xw_in 1431 (by decide +kernel) rfl, List.forall_mem_cons.mpr ⟨xw_in 93 (by decide +kernel) rfl, (fun _ h => nomatch h)⟩⟩⟩⟩, xw_in 1432 (by decide +kernel) rfl, by decide +kernel, by decide +kernel, by decide +kernel⟩
theorem cV_Law_111 : xw_sV "PhraseShelfLaw" 111 m_Model_commit 0 := ⟨List.forall_mem_cons.mpr ⟨xw_in 1433 (by decide +kernel) rfl, List.forall_mem_cons.mpr ⟨xw_in 1434 (by decide +kernel) rfl, List.forall_mem_cons.mpr ⟨xw_in 1435 (by decide +kernel) rfl, List.forall_mem_cons.mpr ⟨xw_in 93 (by decide +kernel) rfl, (fun _ h => nomatch h)⟩⟩⟩⟩, xw_in 1436 (by decide +kernel) rfl, by decide +kernel, by decide +kernel, by decide +kernel⟩
theorem cV_Law_114 : xw_sV "PhraseShelfLaw" 114 m_Model_rollback 0 := ⟨List.forall_mem_cons.mpr ⟨xw_in 1437 (by decide +kernel) rfl, List.forall_mem_cons.mpr ⟨xw_in 1438 (by decide +kernel) rfl, List.forall_mem_cons.mpr ⟨xw_in 1439 (by decide +kernel) rfl, List.forall_mem_cons.mpr ⟨xw_in 93 (by decide +kernel) rfl, (fun _ h => nomatch h)⟩⟩⟩⟩, xw_in 1440 (by decide +kernel) rfl, by decide +kernel, by decide +kernel, by decide +kernel⟩
theorem cV_Model_209 : xw_sV "PhraseShelfModel" 209 m_Model_rows 0 := ⟨List.forall_mem_cons.mpr ⟨xw_in 1441 (by decide +kernel) rfl, List.forall_mem_cons.mpr ⟨xw_in 1443 (by decide +kernel) rfl, List.forall_mem_cons.mpr ⟨xw_in 52 (by decide +kernel) rfl, List.forall_mem_cons.mpr ⟨xw_in 93 (by decide +kernel) rfl, (fun _ h => nomatch h)⟩⟩⟩⟩, xw_in 1444 (by decide +kernel) rfl, by decide +kernel, by decide +kernel, by decide +kernel⟩
theorem cV_Law_126 : xw_sV "PhraseShelfLaw" 126 m_Model_ways 2 := ⟨List.forall_mem_cons.mpr ⟨xw_in 1445 (by decide +kernel) rfl, List.forall_mem_cons.mpr ⟨xw_in 1446 (by decide +kernel) rfl, List.forall_mem_cons.mpr ⟨xw_in 1447 (by decide +kernel) rfl, List.forall_mem_cons.mpr ⟨xw_in 93 (by decide +kernel) rfl, (fun _ h => nomatch h)⟩⟩⟩⟩, xw_in 1448 (by decide +kernel) rfl, by decide +kernel, by decide +kernel, by decide +kernel⟩
theorem cV_Law_130 : xw_sV "PhraseShelfLaw" 130 m_Model_weight 2 := ⟨List.forall_mem_cons.mpr ⟨xw_in 1449 (by decide +kernel) rfl, List.forall_mem_cons.mpr ⟨xw_in 1450 (by decide +kernel) rfl, List.forall_mem_cons.mpr ⟨xw_in 1451 (by decide +kernel) rfl, List.forall_mem_cons.mpr ⟨xw_in 93 (by decide +kernel) rfl, (fun _ h => nomatch h)⟩⟩⟩⟩, xw_in 1452 (by decide +kernel) rfl, by decide +kernel, by decide +kernel, by decide +kernel⟩
theorem cV_Law_133 : xw_sV "PhraseShelfLaw" 133 m_Model_ask 0 := ⟨List.forall_mem_cons.mpr ⟨xw_in 1453 (by decide +kernel) rfl, List.forall_mem_cons.mpr ⟨xw_in 1454 (by decide +kernel) rfl, List.forall_mem_cons.mpr ⟨xw_in 1455 (by decide +kernel) rfl, List.forall_mem_cons.mpr ⟨xw_in 93 (by decide +kernel) rfl, (fun _ h => nomatch h)⟩⟩⟩⟩, xw_in 1456 (by decide +kernel) rfl, by decide +kernel, by decide +kernel, by decide +kernel⟩
theorem cV_Model_354 : xw_sV "PhraseShelfModel" 354 m_Model_reads 0 := ⟨List.forall_mem_cons.mpr ⟨xw_in 1457 (by decide +kernel) rfl, List.forall_mem_cons.mpr ⟨xw_in 1459 (by decide +kernel) rfl, List.forall_mem_cons.mpr ⟨xw_in 53 (by decide +kernel) rfl, List.forall_mem_cons.mpr ⟨xw_in 93 (by decide +kernel) rfl, (fun _ h => nomatch h)⟩⟩⟩⟩, xw_in 1460 (by decide +kernel) rfl, by decide +kernel, by decide +kernel, by decide +kernel⟩
theorem cV_Model_234 : xw_sV "PhraseShelfModel" 234 m_Model_part 0 := ⟨List.forall_mem_cons.mpr ⟨xw_in 1461 (by decide +kernel) rfl, List.forall_mem_cons.mpr ⟨xw_in 1463 (by decide +kernel) rfl, List.forall_mem_cons.mpr ⟨xw_in 54 (by decide +kernel) rfl, List.forall_mem_cons.mpr ⟨xw_in 93 (by decide +kernel) rfl, (fun _ h => nomatch h)⟩⟩⟩⟩, xw_in 1464 (by decide +kernel) rfl, by decide +kernel, by decide +kernel, by decide +kernel⟩
theorem cV_Model_221 : xw_sV "PhraseShelfModel" 221 m_Model_q 1 := ⟨List.forall_mem_cons.mpr ⟨xw_in 1465 (by decide +kernel) rfl, List.forall_mem_cons.mpr ⟨xw_in 1467 (by decide +kernel) rfl, List.forall_mem_cons.mpr ⟨xw_in 55 (by decide +kernel) rfl, List.forall_mem_cons.mpr ⟨xw_in 93 (by decide +kernel) rfl, (fun _ h => nomatch h)⟩⟩⟩⟩, xw_in 1468 (by decide +kernel) rfl, by decide +kernel, by decide +kernel, by decide +kernel⟩
theorem cV_Model_230 : xw_sV "PhraseShelfModel" 230 m_Model_spells 4 := ⟨List.forall_mem_cons.mpr ⟨xw_in 1469 (by decide +kernel) rfl, List.forall_mem_cons.mpr ⟨xw_in 1471 (by decide +kernel) rfl, List.forall_mem_cons.mpr ⟨xw_in 56 (by decide +kernel) rfl, List.forall_mem_cons.mpr ⟨xw_in 93 (by decide +kernel) rfl, (fun _ h => nomatch h)⟩⟩⟩⟩, xw_in 1472 (by decide +kernel) rfl, by decide +kernel, by decide +kernel, by decide +kernel⟩
theorem cV_Model_303 : xw_sV "PhraseShelfModel" 303 m_Model_follows 0 := ⟨List.forall_mem_cons.mpr ⟨xw_in 1473 (by decide +kernel) rfl, List.forall_mem_cons.mpr ⟨xw_in 1475 (by decide +kernel) rfl, List.forall_mem_cons.mpr ⟨xw_in 57 (by decide +kernel) rfl, List.forall_mem_cons.mpr ⟨xw_in 93 (by decide +kernel) rfl, (fun _ h => nomatch h)⟩⟩⟩⟩, xw_in 1476 (by decide +kernel) rfl, by decide +kernel, by decide +kernel, by decide +kernel⟩
theorem cV_Model_281 : xw_sV "PhraseShelfModel" 281 m_Model_reduces 1 := ⟨List.forall_mem_cons.mpr ⟨xw_in 1477 (by decide +kernel) rfl, List.forall_mem_cons.mpr ⟨xw_in 1479 (by decide +kernel) rfl, List.forall_mem_cons.mpr ⟨xw_in 58 (by decide +kernel) rfl, List.forall_mem_cons.mpr ⟨xw_in 93 (by decide +kernel) rfl, (fun _ h => nomatch h)⟩⟩⟩⟩, xw_in 1480 (by decide +kernel) rfl, by decide +kernel, by decide +kernel, by decide +kernel⟩
theorem cV_Model_250 : xw_sV "PhraseShelfModel" 250 m_Model_wrongs 2 := ⟨List.forall_mem_cons.mpr ⟨xw_in 1481 (by decide +kernel) rfl, List.forall_mem_cons.mpr ⟨xw_in 1483 (by decide +kernel) rfl, List.forall_mem_cons.mpr ⟨xw_in 59 (by decide +kernel) rfl, List.forall_mem_cons.mpr ⟨xw_in 93 (by decide +kernel) rfl, (fun _ h => nomatch h)⟩⟩⟩⟩, xw_in 1484 (by decide +kernel) rfl, by decide +kernel, by decide +kernel, by decide +kernel⟩
theorem cV_Model_275 : xw_sV "PhraseShelfModel" 275 m_Model_closesFilters 0 := ⟨List.forall_mem_cons.mpr ⟨xw_in 1485 (by decide +kernel) rfl, List.forall_mem_cons.mpr ⟨xw_in 1487 (by decide +kernel) rfl, List.forall_mem_cons.mpr ⟨xw_in 60 (by decide +kernel) rfl, List.forall_mem_cons.mpr ⟨xw_in 93 (by decide +kernel) rfl, (fun _ h => nomatch h)⟩⟩⟩⟩, xw_in 1488 (by decide +kernel) rfl, by decide +kernel, by decide +kernel, by decide +kernel⟩
theorem cV_Model_257 : xw_sV "PhraseShelfModel" 257 m_Model_next 0 := ⟨List.forall_mem_cons.mpr ⟨xw_in 1489 (by decide +kernel) rfl, List.forall_mem_cons.mpr ⟨xw_in 1491 (by decide +kernel) rfl, List.forall_mem_cons.mpr ⟨xw_in 61 (by decide +kernel) rfl, List.forall_mem_cons.mpr ⟨xw_in 93 (by decide +kernel) rfl, (fun _ h => nomatch h)⟩⟩⟩⟩, xw_in 1492 (by decide +kernel) rfl, by decide +kernel, by decide +kernel, by decide +kernel⟩
theorem cV_Model_300 : xw_sV "PhraseShelfModel" 300 m_Model_joins 1 := ⟨List.forall_mem_cons.mpr ⟨xw_in 1493 (by decide +kernel) rfl, List.forall_mem_cons.mpr ⟨xw_in 1495 (by decide +kernel) rfl, List.forall_mem_cons.mpr ⟨xw_in 62 (by decide +kernel) rfl, List.forall_mem_cons.mpr ⟨xw_in 93 (by decide +kernel) rfl, (fun _ h => nomatch h)⟩⟩⟩⟩, xw_in 1496 (by decide +kernel) rfl, by decide +kernel, by decide +kernel, by decide +kernel⟩
theorem cV_Model_285 : xw_sV "PhraseShelfModel" 285 m_Model_pushes 1 := ⟨List.forall_mem_cons.mpr ⟨xw_in 1497 (by decide +kernel) rfl, List.forall_mem_cons.mpr ⟨xw_in 1499 (by decide +kernel) rfl, List.forall_mem_cons.mpr ⟨xw_in 63 (by decide +kernel) rfl, List.forall_mem_cons.mpr ⟨xw_in 93 (by decide +kernel) rfl, (fun _ h => nomatch h)⟩⟩⟩⟩, xw_in 1500 (by decide +kernel) rfl, by decide +kernel, by decide +kernel, by decide +kernel⟩
theorem cV_Model_306 : xw_sV "PhraseShelfModel" 306 m_Model_atom 0 := ⟨List.forall_mem_cons.mpr ⟨xw_in 1501 (by decide +kernel) rfl, List.forall_mem_cons.mpr ⟨xw_in 1503 (by decide +kernel) rfl, List.forall_mem_cons.mpr ⟨xw_in 64 (by decide +kernel) rfl, List.forall_mem_cons.mpr ⟨xw_in 93 (by decide +kernel) rfl, (fun _ h => nomatch h)⟩⟩⟩⟩, xw_in 1504 (by decide +kernel) rfl, by decide +kernel, by decide +kernel, by decide +kernel⟩
theorem cV_Model_288 : xw_sV "PhraseShelfModel" 288 m_Model_depth 0 := ⟨List.forall_mem_cons.mpr ⟨xw_in 1505 (by decide +kernel) rfl, List.forall_mem_cons.mpr ⟨xw_in 1507 (by decide +kernel) rfl, List.forall_mem_cons.mpr ⟨xw_in 65 (by decide +kernel) rfl, List.forall_mem_cons.mpr ⟨xw_in 93 (by decide +kernel) rfl, (fun _ h => nomatch h)⟩⟩⟩⟩, xw_in 1508 (by decide +kernel) rfl, by decide +kernel, by decide +kernel, by decide +kernel⟩
theorem cV_Model_237 : xw_sV "PhraseShelfModel" 237 m_Model_isFilter 0 := ⟨List.forall_mem_cons.mpr ⟨xw_in 1509 (by decide +kernel) rfl, List.forall_mem_cons.mpr ⟨xw_in 1511 (by decide +kernel) rfl, List.forall_mem_cons.mpr ⟨xw_in 66 (by decide +kernel) rfl, List.forall_mem_cons.mpr ⟨xw_in 93 (by decide +kernel) rfl, (fun _ h => nomatch h)⟩⟩⟩⟩, xw_in 1512 (by decide +kernel) rfl, by decide +kernel, by decide +kernel, by decide +kernel⟩
theorem cV_Model_291 : xw_sV "PhraseShelfModel" 291 m_Model_filter 0 := ⟨List.forall_mem_cons.mpr ⟨xw_in 1513 (by decide +kernel) rfl, List.forall_mem_cons.mpr ⟨xw_in 1515 (by decide +kernel) rfl, List.forall_mem_cons.mpr ⟨xw_in 67 (by decide +kernel) rfl, List.forall_mem_cons.mpr ⟨xw_in 93 (by decide +kernel) rfl, (fun _ h => nomatch h)⟩⟩⟩⟩, xw_in 1516 (by decide +kernel) rfl, by decide +kernel, by decide +kernel, by decide +kernel⟩
theorem cV_Model_244 : xw_sV "PhraseShelfModel" 244 m_Model_isString 0 := ⟨List.forall_mem_cons.mpr ⟨xw_in 1517 (by decide +kernel) rfl, List.forall_mem_cons.mpr ⟨xw_in 1519 (by decide +kernel) rfl, List.forall_mem_cons.mpr ⟨xw_in 68 (by decide +kernel) rfl, List.forall_mem_cons.mpr ⟨xw_in 93 (by decide +kernel) rfl, (fun _ h => nomatch h)⟩⟩⟩⟩, xw_in 1520 (by decide +kernel) rfl, by decide +kernel, by decide +kernel, by decide +kernel⟩
theorem cV_Model_294 : xw_sV "PhraseShelfModel" 294 m_Model_group 0 := ⟨List.forall_mem_cons.mpr ⟨xw_in 1521 (by decide +kernel) rfl, List.forall_mem_cons.mpr ⟨xw_in 1523 (by decide +kernel) rfl, List.forall_mem_cons.mpr ⟨xw_in 69 (by decide +kernel) rfl, List.forall_mem_cons.mpr ⟨xw_in 93 (by decide +kernel) rfl, (fun _ h => nomatch h)⟩⟩⟩⟩, xw_in 1524 (by decide +kernel) rfl, by decide +kernel, by decide +kernel, by decide +kernel⟩
theorem cV_Model_269 : xw_sV "PhraseShelfModel" 269 m_Model_near 0 := ⟨List.forall_mem_cons.mpr ⟨xw_in 1525 (by decide +kernel) rfl, List.forall_mem_cons.mpr ⟨xw_in 1527 (by decide +kernel) rfl, List.forall_mem_cons.mpr ⟨xw_in 70 (by decide +kernel) rfl, List.forall_mem_cons.mpr ⟨xw_in 93 (by decide +kernel) rfl, (fun _ h => nomatch h)⟩⟩⟩⟩, xw_in 1528 (by decide +kernel) rfl, by decide +kernel, by decide +kernel, by decide +kernel⟩
theorem cV_Model_260 : xw_sV "PhraseShelfModel" 260 m_Model_phrase 0 := ⟨List.forall_mem_cons.mpr ⟨xw_in 1529 (by decide +kernel) rfl, List.forall_mem_cons.mpr ⟨xw_in 1531 (by decide +kernel) rfl, List.forall_mem_cons.mpr ⟨xw_in 71 (by decide +kernel) rfl, List.forall_mem_cons.mpr ⟨xw_in 93 (by decide +kernel) rfl, (fun _ h => nomatch h)⟩⟩⟩⟩, xw_in 1532 (by decide +kernel) rfl, by decide +kernel, by decide +kernel, by decide +kernel⟩
theorem cV_Model_254 : xw_sV "PhraseShelfModel" 254 m_Model_takeTokens 0 := ⟨List.forall_mem_cons.mpr ⟨xw_in 1533 (by decide +kernel) rfl, List.forall_mem_cons.mpr ⟨xw_in 1535 (by decide +kernel) rfl, List.forall_mem_cons.mpr ⟨xw_in 72 (by decide +kernel) rfl, List.forall_mem_cons.mpr ⟨xw_in 93 (by decide +kernel) rfl, (fun _ h => nomatch h)⟩⟩⟩⟩, xw_in 1536 (by decide +kernel) rfl, by decide +kernel, by decide +kernel, by decide +kernel⟩
theorem cV_Model_363 : xw_sV "PhraseShelfModel" 363 m_Model_finds 1 := ⟨List.forall_mem_cons.mpr ⟨xw_in 1537 (by decide +kernel) rfl, List.forall_mem_cons.mpr ⟨xw_in 1539 (by decide +kernel) rfl, List.forall_mem_cons.mpr ⟨xw_in 73 (by decide +kernel) rfl, List.forall_mem_cons.mpr ⟨xw_in 93 (by decide +kernel) rfl, (fun _ h => nomatch h)⟩⟩⟩⟩, xw_in 1540 (by decide +kernel) rfl, by decide +kernel, by decide +kernel, by decide +kernel⟩
theorem cV_Model_325 : xw_sV "PhraseShelfModel" 325 m_Model_holds 2 := ⟨List.forall_mem_cons.mpr ⟨xw_in 1541 (by decide +kernel) rfl, List.forall_mem_cons.mpr ⟨xw_in 1543 (by decide +kernel) rfl, List.forall_mem_cons.mpr ⟨xw_in 74 (by decide +kernel) rfl, List.forall_mem_cons.mpr ⟨xw_in 93 (by decide +kernel) rfl, (fun _ h => nomatch h)⟩⟩⟩⟩, xw_in 1544 (by decide +kernel) rfl, by decide +kernel, by decide +kernel, by decide +kernel⟩
theorem cV_Model_322 : xw_sV "PhraseShelfModel" 322 m_Model_holdsHere 1 := ⟨List.forall_mem_cons.mpr ⟨xw_in 1545 (by decide +kernel) rfl, List.forall_mem_cons.mpr ⟨xw_in 1547 (by decide +kernel) rfl, List.forall_mem_cons.mpr ⟨xw_in 75 (by decide +kernel) rfl, List.forall_mem_cons.mpr ⟨xw_in 93 (by decide +kernel) rfl, (fun _ h => nomatch h)⟩⟩⟩⟩, xw_in 1548 (by decide +kernel) rfl, by decide +kernel, by decide +kernel, by decide +kernel⟩
theorem cV_Model_316 : xw_sV "PhraseShelfModel" 316 m_Model_stands 2 := ⟨List.forall_mem_cons.mpr ⟨xw_in 1549 (by decide +kernel) rfl, List.forall_mem_cons.mpr ⟨xw_in 1551 (by decide +kernel) rfl, List.forall_mem_cons.mpr ⟨xw_in 76 (by decide +kernel) rfl, List.forall_mem_cons.mpr ⟨xw_in 93 (by decide +kernel) rfl, (fun _ h => nomatch h)⟩⟩⟩⟩, xw_in 1552 (by decide +kernel) rfl, by decide +kernel, by decide +kernel, by decide +kernel⟩
theorem cV_Model_309 : xw_sV "PhraseShelfModel" 309 m_Model_length 1 := ⟨List.forall_mem_cons.mpr ⟨xw_in 1553 (by decide +kernel) rfl, List.forall_mem_cons.mpr ⟨xw_in 1555 (by decide +kernel) rfl, List.forall_mem_cons.mpr ⟨xw_in 77 (by decide +kernel) rfl, List.forall_mem_cons.mpr ⟨xw_in 93 (by decide +kernel) rfl, (fun _ h => nomatch h)⟩⟩⟩⟩, xw_in 1556 (by decide +kernel) rfl, by decide +kernel, by decide +kernel, by decide +kernel⟩
theorem cV_Model_312 : xw_sV "PhraseShelfModel" 312 m_Model_matches 3 := ⟨List.forall_mem_cons.mpr ⟨xw_in 1557 (by decide +kernel) rfl, List.forall_mem_cons.mpr ⟨xw_in 1559 (by decide +kernel) rfl, List.forall_mem_cons.mpr ⟨xw_in 78 (by decide +kernel) rfl, List.forall_mem_cons.mpr ⟨xw_in 93 (by decide +kernel) rfl, (fun _ h => nomatch h)⟩⟩⟩⟩, xw_in 1560 (by decide +kernel) rfl, by decide +kernel, by decide +kernel, by decide +kernel⟩
theorem cV_Model_319 : xw_sV "PhraseShelfModel" 319 m_Model_standsBetween 3 := ⟨List.forall_mem_cons.mpr ⟨xw_in 1561 (by decide +kernel) rfl, List.forall_mem_cons.mpr ⟨xw_in 1563 (by decide +kernel) rfl, List.forall_mem_cons.mpr ⟨xw_in 79 (by decide +kernel) rfl, List.forall_mem_cons.mpr ⟨xw_in 93 (by decide +kernel) rfl, (fun _ h => nomatch h)⟩⟩⟩⟩, xw_in 1564 (by decide +kernel) rfl, by decide +kernel, by decide +kernel, by decide +kernel⟩
theorem cV_Model_366 : xw_sV "PhraseShelfModel" 366 m_Model_scoreOf 1 := ⟨List.forall_mem_cons.mpr ⟨xw_in 1565 (by decide +kernel) rfl, List.forall_mem_cons.mpr ⟨xw_in 1567 (by decide +kernel) rfl, List.forall_mem_cons.mpr ⟨xw_in 80 (by decide +kernel) rfl, List.forall_mem_cons.mpr ⟨xw_in 93 (by decide +kernel) rfl, (fun _ h => nomatch h)⟩⟩⟩⟩, xw_in 1568 (by decide +kernel) rfl, by decide +kernel, by decide +kernel, by decide +kernel⟩
theorem cV_Model_336 : xw_sV "PhraseShelfModel" 336 m_Model_countIn 3 := ⟨List.forall_mem_cons.mpr ⟨xw_in 1569 (by decide +kernel) rfl, List.forall_mem_cons.mpr ⟨xw_in 1571 (by decide +kernel) rfl, List.forall_mem_cons.mpr ⟨xw_in 81 (by decide +kernel) rfl, List.forall_mem_cons.mpr ⟨xw_in 93 (by decide +kernel) rfl, (fun _ h => nomatch h)⟩⟩⟩⟩, xw_in 1572 (by decide +kernel) rfl, by decide +kernel, by decide +kernel, by decide +kernel⟩
theorem cS_Model_342 : xw_sS "PhraseShelfModel" 342 m_Model_logarithm 1 := ⟨List.forall_mem_cons.mpr ⟨xw_in 1574 (by decide +kernel) rfl, List.forall_mem_cons.mpr ⟨xw_in 1575 (by decide +kernel) rfl, List.forall_mem_cons.mpr ⟨xw_in 93 (by decide +kernel) rfl, (fun _ h => nomatch h)⟩⟩⟩, xw_in 1576 (by decide +kernel) rfl, by decide +kernel, by decide +kernel, by decide +kernel⟩
theorem cV_Law_137 : xw_sV "PhraseShelfLaw" 137 m_Model_wrong 0 := ⟨List.forall_mem_cons.mpr ⟨xw_in 1585 (by decide +kernel) rfl, List.forall_mem_cons.mpr ⟨xw_in 1586 (by decide +kernel) rfl, List.forall_mem_cons.mpr ⟨xw_in 1587 (by decide +kernel) rfl, List.forall_mem_cons.mpr ⟨xw_in 93 (by decide +kernel) rfl, (fun _ h => nomatch h)⟩⟩⟩⟩, xw_in 1588 (by decide +kernel) rfl, by decide +kernel, by decide +kernel, by decide +kernel⟩
theorem cV_Model_370 : xw_sV "PhraseShelfModel" 370 m_Model_clean 1 := ⟨List.forall_mem_cons.mpr ⟨xw_in 1589 (by decide +kernel) rfl, List.forall_mem_cons.mpr ⟨xw_in 1591 (by decide +kernel) rfl, List.forall_mem_cons.mpr ⟨xw_in 82 (by decide +kernel) rfl, List.forall_mem_cons.mpr ⟨xw_in 93 (by decide +kernel) rfl, (fun _ h => nomatch h)⟩⟩⟩⟩, xw_in 1592 (by decide +kernel) rfl, by decide +kernel, by decide +kernel, by decide +kernel⟩
theorem cV_Law_141 : xw_sV "PhraseShelfLaw" 141 m_Model_answer 2 := ⟨List.forall_mem_cons.mpr ⟨xw_in 1593 (by decide +kernel) rfl, List.forall_mem_cons.mpr ⟨xw_in 1594 (by decide +kernel) rfl, List.forall_mem_cons.mpr ⟨xw_in 1595 (by decide +kernel) rfl, List.forall_mem_cons.mpr ⟨xw_in 93 (by decide +kernel) rfl, (fun _ h => nomatch h)⟩⟩⟩⟩, xw_in 1596 (by decide +kernel) rfl, by decide +kernel, by decide +kernel, by decide +kernel⟩
theorem cV_Law_145 : xw_sV "PhraseShelfLaw" 145 m_Model_score 2 := ⟨List.forall_mem_cons.mpr ⟨xw_in 1597 (by decide +kernel) rfl, List.forall_mem_cons.mpr ⟨xw_in 1598 (by decide +kernel) rfl, List.forall_mem_cons.mpr ⟨xw_in 1599 (by decide +kernel) rfl, List.forall_mem_cons.mpr ⟨xw_in 93 (by decide +kernel) rfl, (fun _ h => nomatch h)⟩⟩⟩⟩, xw_in 1600 (by decide +kernel) rfl, by decide +kernel, by decide +kernel, by decide +kernel⟩
theorem cV_Law_148 : xw_sV "PhraseShelfLaw" 148 m_Model_look 2 := ⟨List.forall_mem_cons.mpr ⟨xw_in 1601 (by decide +kernel) rfl, List.forall_mem_cons.mpr ⟨xw_in 1602 (by decide +kernel) rfl, List.forall_mem_cons.mpr ⟨xw_in 1603 (by decide +kernel) rfl, List.forall_mem_cons.mpr ⟨xw_in 93 (by decide +kernel) rfl, (fun _ h => nomatch h)⟩⟩⟩⟩, xw_in 1604 (by decide +kernel) rfl, by decide +kernel, by decide +kernel, by decide +kernel⟩
theorem cV_Law_151 : xw_sV "PhraseShelfLaw" 151 m_Model_segment 2 := ⟨List.forall_mem_cons.mpr ⟨xw_in 1605 (by decide +kernel) rfl, List.forall_mem_cons.mpr ⟨xw_in 1606 (by decide +kernel) rfl, List.forall_mem_cons.mpr ⟨xw_in 1607 (by decide +kernel) rfl, List.forall_mem_cons.mpr ⟨xw_in 93 (by decide +kernel) rfl, (fun _ h => nomatch h)⟩⟩⟩⟩, xw_in 1608 (by decide +kernel) rfl, by decide +kernel, by decide +kernel, by decide +kernel⟩
theorem cV_Law_154 : xw_sV "PhraseShelfLaw" 154 m_Model_count 1 := ⟨List.forall_mem_cons.mpr ⟨xw_in 1609 (by decide +kernel) rfl, List.forall_mem_cons.mpr ⟨xw_in 1610 (by decide +kernel) rfl, List.forall_mem_cons.mpr ⟨xw_in 1611 (by decide +kernel) rfl, List.forall_mem_cons.mpr ⟨xw_in 93 (by decide +kernel) rfl, (fun _ h => nomatch h)⟩⟩⟩⟩, xw_in 1612 (by decide +kernel) rfl, by decide +kernel, by decide +kernel, by decide +kernel⟩
end
section
/-! rows that decode: by program -/
theorem d_Shelf_init_0 : decode prog_1_method_1_code 0 = .ok (.aload_n 0, 1) := by decide +kernel
theorem d_Shelf_init_1 : decode prog_1_method_1_code 1 = .ok (.invokespecial 1, 3) := by decide +kernel
theorem d_Shelf_init_4 : decode prog_1_method_1_code 4 = .ok (.aload_n 0, 1) := by decide +kernel
theorem d_Shelf_init_5 : decode prog_1_method_1_code 5 = .ok (.bipush 96, 2) := by decide +kernel
theorem d_Shelf_init_7 : decode prog_1_method_1_code 7 = .ok (.newarray .char, 2) := by decide +kernel
theorem d_Shelf_init_9 : decode prog_1_method_1_code 9 = .ok (.putfield 9, 3) := by decide +kernel
theorem d_Shelf_init_12 : decode prog_1_method_1_code 12 = .ok (.aload_n 0, 1) := by decide +kernel
theorem d_Shelf_init_13 : decode prog_1_method_1_code 13 = .ok (.iconst 2, 1) := by decide +kernel
theorem d_Shelf_init_14 : decode prog_1_method_1_code 14 = .ok (.anewarray 13, 3) := by decide +kernel
theorem d_Shelf_init_17 : decode prog_1_method_1_code 17 = .ok (.putfield 15, 3) := by decide +kernel
theorem d_Shelf_init_20 : decode prog_1_method_1_code 20 = .ok (.aload_n 0, 1) := by decide +kernel
theorem d_Shelf_init_21 : decode prog_1_method_1_code 21 = .ok (.iconst 2, 1) := by decide +kernel
theorem d_Shelf_init_22 : decode prog_1_method_1_code 22 = .ok (.newarray .int, 2) := by decide +kernel
theorem d_Shelf_init_24 : decode prog_1_method_1_code 24 = .ok (.putfield 19, 3) := by decide +kernel
theorem d_Shelf_init_27 : decode prog_1_method_1_code 27 = .ok (.aload_n 0, 1) := by decide +kernel
theorem d_Shelf_init_28 : decode prog_1_method_1_code 28 = .ok (.new 23, 3) := by decide +kernel
theorem d_Shelf_init_31 : decode prog_1_method_1_code 31 = .ok (.dup, 1) := by decide +kernel
theorem d_Shelf_init_32 : decode prog_1_method_1_code 32 = .ok (.invokespecial 25, 3) := by decide +kernel
theorem d_Shelf_init_35 : decode prog_1_method_1_code 35 = .ok (.putfield 26, 3) := by decide +kernel
theorem d_Shelf_init_38 : decode prog_1_method_1_code 38 = .ok (.aload_n 0, 1) := by decide +kernel
theorem d_Shelf_init_39 : decode prog_1_method_1_code 39 = .ok (.new 23, 3) := by decide +kernel
theorem d_Shelf_init_42 : decode prog_1_method_1_code 42 = .ok (.dup, 1) := by decide +kernel
theorem d_Shelf_init_43 : decode prog_1_method_1_code 43 = .ok (.invokespecial 25, 3) := by decide +kernel
theorem d_Shelf_init_46 : decode prog_1_method_1_code 46 = .ok (.putfield 30, 3) := by decide +kernel
theorem d_Shelf_init_49 : decode prog_1_method_1_code 49 = .ok (.aload_n 0, 1) := by decide +kernel
theorem d_Shelf_init_50 : decode prog_1_method_1_code 50 = .ok (.new 33, 3) := by decide +kernel
theorem d_Shelf_init_53 : decode prog_1_method_1_code 53 = .ok (.dup, 1) := by decide +kernel
theorem d_Shelf_init_54 : decode prog_1_method_1_code 54 = .ok (.invokespecial 35, 3) := by decide +kernel
theorem d_Shelf_init_57 : decode prog_1_method_1_code 57 = .ok (.putfield 36, 3) := by decide +kernel
theorem d_Shelf_init_60 : decode prog_1_method_1_code 60 = .ok (.aload_n 0, 1) := by decide +kernel
theorem d_Shelf_init_61 : decode prog_1_method_1_code 61 = .ok (.new 40, 3) := by decide +kernel
theorem d_Shelf_init_64 : decode prog_1_method_1_code 64 = .ok (.dup, 1) := by decide +kernel
theorem d_Shelf_init_65 : decode prog_1_method_1_code 65 = .ok (.invokespecial 42, 3) := by decide +kernel
theorem d_Shelf_init_68 : decode prog_1_method_1_code 68 = .ok (.putfield 43, 3) := by decide +kernel
theorem d_Shelf_init_71 : decode prog_1_method_1_code 71 = .ok (.aload_n 0, 1) := by decide +kernel
theorem d_Shelf_init_72 : decode prog_1_method_1_code 72 = .ok (.new 47, 3) := by decide +kernel
theorem d_Shelf_init_75 : decode prog_1_method_1_code 75 = .ok (.dup, 1) := by decide +kernel
theorem d_Shelf_init_76 : decode prog_1_method_1_code 76 = .ok (.invokespecial 49, 3) := by decide +kernel
theorem d_Shelf_init_79 : decode prog_1_method_1_code 79 = .ok (.putfield 50, 3) := by decide +kernel
theorem d_Shelf_init_82 : decode prog_1_method_1_code 82 = .ok (.iconst 0, 1) := by decide +kernel
theorem d_Shelf_init_83 : decode prog_1_method_1_code 83 = .ok (.istore_n 1, 1) := by decide +kernel
theorem d_Shelf_init_84 : decode prog_1_method_1_code 84 = .ok (.iload_n 1, 1) := by decide +kernel
theorem d_Shelf_init_85 : decode prog_1_method_1_code 85 = .ok (.iconst 2, 1) := by decide +kernel
theorem d_Shelf_init_86 : decode prog_1_method_1_code 86 = .ok (.if_icmp .ge 30, 3) := by decide +kernel
theorem d_Shelf_init_89 : decode prog_1_method_1_code 89 = .ok (.aload_n 0, 1) := by decide +kernel
theorem d_Shelf_init_90 : decode prog_1_method_1_code 90 = .ok (.getfield 15, 3) := by decide +kernel
theorem d_Shelf_init_93 : decode prog_1_method_1_code 93 = .ok (.iload_n 1, 1) := by decide +kernel
theorem d_Shelf_init_94 : decode prog_1_method_1_code 94 = .ok (.new 13, 3) := by decide +kernel
theorem d_Shelf_init_97 : decode prog_1_method_1_code 97 = .ok (.dup, 1) := by decide +kernel
theorem d_Shelf_init_98 : decode prog_1_method_1_code 98 = .ok (.iconst 0, 1) := by decide +kernel
theorem d_Shelf_init_99 : decode prog_1_method_1_code 99 = .ok (.invokespecial 54, 3) := by decide +kernel
theorem d_Shelf_init_102 : decode prog_1_method_1_code 102 = .ok (.aastore, 1) := by decide +kernel
theorem d_Shelf_init_103 : decode prog_1_method_1_code 103 = .ok (.aload_n 0, 1) := by decide +kernel
theorem d_Shelf_init_104 : decode prog_1_method_1_code 104 = .ok (.getfield 19, 3) := by decide +kernel
theorem d_Shelf_init_107 : decode prog_1_method_1_code 107 = .ok (.iload_n 1, 1) := by decide +kernel
theorem d_Shelf_init_108 : decode prog_1_method_1_code 108 = .ok (.iconst 1, 1) := by decide +kernel
theorem d_Shelf_init_109 : decode prog_1_method_1_code 109 = .ok (.iastore, 1) := by decide +kernel
theorem d_Shelf_init_110 : decode prog_1_method_1_code 110 = .ok (.iinc 1 1, 3) := by decide +kernel
theorem d_Shelf_init_113 : decode prog_1_method_1_code 113 = .ok (.goto (-29), 3) := by decide +kernel
theorem d_Shelf_init_116 : decode prog_1_method_1_code 116 = .ok (.aload_n 0, 1) := by decide +kernel
theorem d_Shelf_init_117 : decode prog_1_method_1_code 117 = .ok (.iconst 3, 1) := by decide +kernel
theorem d_Shelf_init_118 : decode prog_1_method_1_code 118 = .ok (.putfield 57, 3) := by decide +kernel
theorem d_Shelf_init_121 : decode prog_1_method_1_code 121 = .ok (.aload_n 0, 1) := by decide +kernel
theorem d_Shelf_init_122 : decode prog_1_method_1_code 122 = .ok (.bipush 20, 2) := by decide +kernel
theorem d_Shelf_init_124 : decode prog_1_method_1_code 124 = .ok (.putfield 61, 3) := by decide +kernel
theorem d_Shelf_init_127 : decode prog_1_method_1_code 127 = .ok (.aload_n 0, 1) := by decide +kernel
theorem d_Shelf_init_128 : decode prog_1_method_1_code 128 = .ok (.iconst (-1), 1) := by decide +kernel
theorem d_Shelf_init_129 : decode prog_1_method_1_code 129 = .ok (.putfield 64, 3) := by decide +kernel
theorem d_Shelf_init_132 : decode prog_1_method_1_code 132 = .ok (.return_, 1) := by decide +kernel
theorem d_Store_init_0 : decode prog_9_method_1_code 0 = .ok (.aload_n 0, 1) := by decide +kernel
theorem d_Store_init_1 : decode prog_9_method_1_code 1 = .ok (.invokespecial 3, 3) := by decide +kernel
theorem d_Store_init_4 : decode prog_9_method_1_code 4 = .ok (.aload_n 0, 1) := by decide +kernel
theorem d_Store_init_5 : decode prog_9_method_1_code 5 = .ok (.bipush 25, 2) := by decide +kernel
theorem d_Store_init_7 : decode prog_9_method_1_code 7 = .ok (.anewarray 9, 3) := by decide +kernel
theorem d_Store_init_10 : decode prog_9_method_1_code 10 = .ok (.putfield 11, 3) := by decide +kernel
theorem d_Store_init_13 : decode prog_9_method_1_code 13 = .ok (.aload_n 0, 1) := by decide +kernel
theorem d_Store_init_14 : decode prog_9_method_1_code 14 = .ok (.sipush 201, 3) := by decide +kernel
theorem d_Store_init_17 : decode prog_9_method_1_code 17 = .ok (.anewarray 9, 3) := by decide +kernel
theorem d_Store_init_20 : decode prog_9_method_1_code 20 = .ok (.putfield 17, 3) := by decide +kernel
theorem d_Store_init_23 : decode prog_9_method_1_code 23 = .ok (.aload_n 0, 1) := by decide +kernel
theorem d_Store_init_24 : decode prog_9_method_1_code 24 = .ok (.sipush 512, 3) := by decide +kernel
theorem d_Store_init_27 : decode prog_9_method_1_code 27 = .ok (.anewarray 20, 3) := by decide +kernel
theorem d_Store_init_30 : decode prog_9_method_1_code 30 = .ok (.putfield 22, 3) := by decide +kernel
theorem d_Store_init_33 : decode prog_9_method_1_code 33 = .ok (.aload_n 0, 1) := by decide +kernel
theorem d_Store_init_34 : decode prog_9_method_1_code 34 = .ok (.bipush 24, 2) := by decide +kernel
theorem d_Store_init_36 : decode prog_9_method_1_code 36 = .ok (.anewarray 9, 3) := by decide +kernel
theorem d_Store_init_39 : decode prog_9_method_1_code 39 = .ok (.putfield 26, 3) := by decide +kernel
theorem d_Store_init_42 : decode prog_9_method_1_code 42 = .ok (.return_, 1) := by decide +kernel
theorem d_Question_init_0 : decode prog_6_method_1_code 0 = .ok (.aload_n 0, 1) := by decide +kernel
theorem d_Question_init_1 : decode prog_6_method_1_code 1 = .ok (.invokespecial 5, 3) := by decide +kernel
theorem d_Question_init_4 : decode prog_6_method_1_code 4 = .ok (.aload_n 0, 1) := by decide +kernel
theorem d_Question_init_5 : decode prog_6_method_1_code 5 = .ok (.new 11, 3) := by decide +kernel
theorem d_Question_init_8 : decode prog_6_method_1_code 8 = .ok (.dup, 1) := by decide +kernel
theorem d_Question_init_9 : decode prog_6_method_1_code 9 = .ok (.bipush 96, 2) := by decide +kernel
theorem d_Question_init_11 : decode prog_6_method_1_code 11 = .ok (.invokespecial 13, 3) := by decide +kernel
theorem d_Question_init_14 : decode prog_6_method_1_code 14 = .ok (.putfield 16, 3) := by decide +kernel
theorem d_Question_init_17 : decode prog_6_method_1_code 17 = .ok (.aload_n 0, 1) := by decide +kernel
theorem d_Question_init_18 : decode prog_6_method_1_code 18 = .ok (.bipush 12, 2) := by decide +kernel
theorem d_Question_init_20 : decode prog_6_method_1_code 20 = .ok (.anewarray 22, 3) := by decide +kernel
theorem d_Question_init_23 : decode prog_6_method_1_code 23 = .ok (.putfield 24, 3) := by decide +kernel
theorem d_Question_init_26 : decode prog_6_method_1_code 26 = .ok (.aload_n 0, 1) := by decide +kernel
theorem d_Question_init_27 : decode prog_6_method_1_code 27 = .ok (.bipush 24, 2) := by decide +kernel
theorem d_Question_init_29 : decode prog_6_method_1_code 29 = .ok (.anewarray 28, 3) := by decide +kernel
theorem d_Question_init_32 : decode prog_6_method_1_code 32 = .ok (.putfield 30, 3) := by decide +kernel
theorem d_Question_init_35 : decode prog_6_method_1_code 35 = .ok (.aload_n 0, 1) := by decide +kernel
theorem d_Question_init_36 : decode prog_6_method_1_code 36 = .ok (.new 1, 3) := by decide +kernel
theorem d_Question_init_39 : decode prog_6_method_1_code 39 = .ok (.dup, 1) := by decide +kernel
theorem d_Question_init_40 : decode prog_6_method_1_code 40 = .ok (.invokespecial 34, 3) := by decide +kernel
theorem d_Question_init_43 : decode prog_6_method_1_code 43 = .ok (.putfield 35, 3) := by decide +kernel
theorem d_Question_init_46 : decode prog_6_method_1_code 46 = .ok (.iconst 0, 1) := by decide +kernel
theorem d_Question_init_47 : decode prog_6_method_1_code 47 = .ok (.istore_n 1, 1) := by decide +kernel
theorem d_Question_init_48 : decode prog_6_method_1_code 48 = .ok (.iload_n 1, 1) := by decide +kernel
theorem d_Question_init_49 : decode prog_6_method_1_code 49 = .ok (.bipush 12, 2) := by decide +kernel
theorem d_Question_init_51 : decode prog_6_method_1_code 51 = .ok (.if_icmp .ge 22, 3) := by decide +kernel
theorem d_Question_init_54 : decode prog_6_method_1_code 54 = .ok (.aload_n 0, 1) := by decide +kernel
theorem d_Question_init_55 : decode prog_6_method_1_code 55 = .ok (.getfield 24, 3) := by decide +kernel
theorem d_Question_init_58 : decode prog_6_method_1_code 58 = .ok (.iload_n 1, 1) := by decide +kernel
theorem d_Question_init_59 : decode prog_6_method_1_code 59 = .ok (.new 22, 3) := by decide +kernel
theorem d_Question_init_62 : decode prog_6_method_1_code 62 = .ok (.dup, 1) := by decide +kernel
theorem d_Question_init_63 : decode prog_6_method_1_code 63 = .ok (.invokespecial 39, 3) := by decide +kernel
theorem d_Question_init_66 : decode prog_6_method_1_code 66 = .ok (.aastore, 1) := by decide +kernel
theorem d_Question_init_67 : decode prog_6_method_1_code 67 = .ok (.iinc 1 1, 3) := by decide +kernel
theorem d_Question_init_70 : decode prog_6_method_1_code 70 = .ok (.goto (-22), 3) := by decide +kernel
theorem d_Question_init_73 : decode prog_6_method_1_code 73 = .ok (.iconst 0, 1) := by decide +kernel
theorem d_Question_init_74 : decode prog_6_method_1_code 74 = .ok (.istore_n 1, 1) := by decide +kernel
theorem d_Question_init_75 : decode prog_6_method_1_code 75 = .ok (.iload_n 1, 1) := by decide +kernel
theorem d_Question_init_76 : decode prog_6_method_1_code 76 = .ok (.bipush 24, 2) := by decide +kernel
theorem d_Question_init_78 : decode prog_6_method_1_code 78 = .ok (.if_icmp .ge 22, 3) := by decide +kernel
theorem d_Question_init_81 : decode prog_6_method_1_code 81 = .ok (.aload_n 0, 1) := by decide +kernel
theorem d_Question_init_82 : decode prog_6_method_1_code 82 = .ok (.getfield 30, 3) := by decide +kernel
theorem d_Question_init_85 : decode prog_6_method_1_code 85 = .ok (.iload_n 1, 1) := by decide +kernel
theorem d_Question_init_86 : decode prog_6_method_1_code 86 = .ok (.new 28, 3) := by decide +kernel
theorem d_Question_init_89 : decode prog_6_method_1_code 89 = .ok (.dup, 1) := by decide +kernel
theorem d_Question_init_90 : decode prog_6_method_1_code 90 = .ok (.invokespecial 40, 3) := by decide +kernel
theorem d_Question_init_93 : decode prog_6_method_1_code 93 = .ok (.aastore, 1) := by decide +kernel
theorem d_Question_init_94 : decode prog_6_method_1_code 94 = .ok (.iinc 1 1, 3) := by decide +kernel
theorem d_Question_init_97 : decode prog_6_method_1_code 97 = .ok (.goto (-22), 3) := by decide +kernel
theorem d_Question_init_100 : decode prog_6_method_1_code 100 = .ok (.return_, 1) := by decide +kernel
theorem d_Tokens_init_0 : decode prog_10_method_1_code 0 = .ok (.aload_n 0, 1) := by decide +kernel
theorem d_Tokens_init_1 : decode prog_10_method_1_code 1 = .ok (.invokespecial 1, 3) := by decide +kernel
theorem d_Tokens_init_4 : decode prog_10_method_1_code 4 = .ok (.aload_n 0, 1) := by decide +kernel
theorem d_Tokens_init_5 : decode prog_10_method_1_code 5 = .ok (.iload_n 1, 1) := by decide +kernel
theorem d_Tokens_init_6 : decode prog_10_method_1_code 6 = .ok (.newarray .char, 2) := by decide +kernel
theorem d_Tokens_init_8 : decode prog_10_method_1_code 8 = .ok (.putfield 7, 3) := by decide +kernel
theorem d_Tokens_init_11 : decode prog_10_method_1_code 11 = .ok (.aload_n 0, 1) := by decide +kernel
theorem d_Tokens_init_12 : decode prog_10_method_1_code 12 = .ok (.iload_n 1, 1) := by decide +kernel
theorem d_Tokens_init_13 : decode prog_10_method_1_code 13 = .ok (.iconst 1, 1) := by decide +kernel
theorem d_Tokens_init_14 : decode prog_10_method_1_code 14 = .ok (.iadd, 1) := by decide +kernel
theorem d_Tokens_init_15 : decode prog_10_method_1_code 15 = .ok (.iconst 2, 1) := by decide +kernel
theorem d_Tokens_init_16 : decode prog_10_method_1_code 16 = .ok (.idiv, 1) := by decide +kernel
theorem d_Tokens_init_17 : decode prog_10_method_1_code 17 = .ok (.iconst 1, 1) := by decide +kernel
theorem d_Tokens_init_18 : decode prog_10_method_1_code 18 = .ok (.iadd, 1) := by decide +kernel
theorem d_Tokens_init_19 : decode prog_10_method_1_code 19 = .ok (.newarray .int, 2) := by decide +kernel
theorem d_Tokens_init_21 : decode prog_10_method_1_code 21 = .ok (.putfield 13, 3) := by decide +kernel
theorem d_Tokens_init_24 : decode prog_10_method_1_code 24 = .ok (.return_, 1) := by decide +kernel
theorem d_Parts_init_0 : decode prog_4_method_1_code 0 = .ok (.aload_n 0, 1) := by decide +kernel
theorem d_Parts_init_1 : decode prog_4_method_1_code 1 = .ok (.invokespecial 3, 3) := by decide +kernel
theorem d_Parts_init_4 : decode prog_4_method_1_code 4 = .ok (.aload_n 0, 1) := by decide +kernel
theorem d_Parts_init_5 : decode prog_4_method_1_code 5 = .ok (.bipush 97, 2) := by decide +kernel
theorem d_Parts_init_7 : decode prog_4_method_1_code 7 = .ok (.newarray .int, 2) := by decide +kernel
theorem d_Parts_init_9 : decode prog_4_method_1_code 9 = .ok (.putfield 9, 3) := by decide +kernel
theorem d_Parts_init_12 : decode prog_4_method_1_code 12 = .ok (.aload_n 0, 1) := by decide +kernel
theorem d_Parts_init_13 : decode prog_4_method_1_code 13 = .ok (.bipush 97, 2) := by decide +kernel
theorem d_Parts_init_15 : decode prog_4_method_1_code 15 = .ok (.newarray .int, 2) := by decide +kernel
theorem d_Parts_init_17 : decode prog_4_method_1_code 17 = .ok (.putfield 15, 3) := by decide +kernel
theorem d_Parts_init_20 : decode prog_4_method_1_code 20 = .ok (.aload_n 0, 1) := by decide +kernel
theorem d_Parts_init_21 : decode prog_4_method_1_code 21 = .ok (.bipush 97, 2) := by decide +kernel
theorem d_Parts_init_23 : decode prog_4_method_1_code 23 = .ok (.newarray .int, 2) := by decide +kernel
theorem d_Parts_init_25 : decode prog_4_method_1_code 25 = .ok (.putfield 18, 3) := by decide +kernel
theorem d_Parts_init_28 : decode prog_4_method_1_code 28 = .ok (.return_, 1) := by decide +kernel
theorem d_Phrase_init_0 : decode prog_5_method_1_code 0 = .ok (.aload_n 0, 1) := by decide +kernel
theorem d_Phrase_init_1 : decode prog_5_method_1_code 1 = .ok (.invokespecial 1, 3) := by decide +kernel
theorem d_Phrase_init_4 : decode prog_5_method_1_code 4 = .ok (.return_, 1) := by decide +kernel
theorem d_Node_init_0 : decode prog_3_method_1_code 0 = .ok (.aload_n 0, 1) := by decide +kernel
theorem d_Node_init_1 : decode prog_3_method_1_code 1 = .ok (.invokespecial 1, 3) := by decide +kernel
theorem d_Node_init_4 : decode prog_3_method_1_code 4 = .ok (.return_, 1) := by decide +kernel
theorem d_Standing_init_0 : decode prog_8_method_1_code 0 = .ok (.aload_n 0, 1) := by decide +kernel
theorem d_Standing_init_1 : decode prog_8_method_1_code 1 = .ok (.invokespecial 3, 3) := by decide +kernel
theorem d_Standing_init_4 : decode prog_8_method_1_code 4 = .ok (.aload_n 0, 1) := by decide +kernel
theorem d_Standing_init_5 : decode prog_8_method_1_code 5 = .ok (.sipush 576, 3) := by decide +kernel
theorem d_Standing_init_8 : decode prog_8_method_1_code 8 = .ok (.newarray .int, 2) := by decide +kernel
theorem d_Standing_init_10 : decode prog_8_method_1_code 10 = .ok (.putfield 9, 3) := by decide +kernel
theorem d_Standing_init_13 : decode prog_8_method_1_code 13 = .ok (.return_, 1) := by decide +kernel
theorem d_Answers_init_0 : decode prog_2_method_1_code 0 = .ok (.aload_n 0, 1) := by decide +kernel
theorem d_Answers_init_1 : decode prog_2_method_1_code 1 = .ok (.invokespecial 3, 3) := by decide +kernel
theorem d_Answers_init_4 : decode prog_2_method_1_code 4 = .ok (.aload_n 0, 1) := by decide +kernel
theorem d_Answers_init_5 : decode prog_2_method_1_code 5 = .ok (.bipush 24, 2) := by decide +kernel
theorem d_Answers_init_7 : decode prog_2_method_1_code 7 = .ok (.newarray .int, 2) := by decide +kernel
theorem d_Answers_init_9 : decode prog_2_method_1_code 9 = .ok (.putfield 9, 3) := by decide +kernel
theorem d_Answers_init_12 : decode prog_2_method_1_code 12 = .ok (.aload_n 0, 1) := by decide +kernel
theorem d_Answers_init_13 : decode prog_2_method_1_code 13 = .ok (.bipush 24, 2) := by decide +kernel
theorem d_Answers_init_15 : decode prog_2_method_1_code 15 = .ok (.newarray .double, 2) := by decide +kernel
theorem d_Answers_init_17 : decode prog_2_method_1_code 17 = .ok (.putfield 15, 3) := by decide +kernel
theorem d_Answers_init_20 : decode prog_2_method_1_code 20 = .ok (.aload_n 0, 1) := by decide +kernel
theorem d_Answers_init_21 : decode prog_2_method_1_code 21 = .ok (.bipush 24, 2) := by decide +kernel
theorem d_Answers_init_23 : decode prog_2_method_1_code 23 = .ok (.newarray .int, 2) := by decide +kernel
theorem d_Answers_init_25 : decode prog_2_method_1_code 25 = .ok (.putfield 19, 3) := by decide +kernel
theorem d_Answers_init_28 : decode prog_2_method_1_code 28 = .ok (.aload_n 0, 1) := by decide +kernel
theorem d_Answers_init_29 : decode prog_2_method_1_code 29 = .ok (.bipush 24, 2) := by decide +kernel
theorem d_Answers_init_31 : decode prog_2_method_1_code 31 = .ok (.newarray .int, 2) := by decide +kernel
theorem d_Answers_init_33 : decode prog_2_method_1_code 33 = .ok (.putfield 22, 3) := by decide +kernel
theorem d_Answers_init_36 : decode prog_2_method_1_code 36 = .ok (.return_, 1) := by decide +kernel
theorem d_Shelf_drop_0 : decode prog_1_method_3_code 0 = .ok (.aload_n 0, 1) := by decide +kernel
theorem d_Shelf_drop_1 : decode prog_1_method_3_code 1 = .ok (.getfield 78, 3) := by decide +kernel
theorem d_Shelf_drop_4 : decode prog_1_method_3_code 4 = .ok (.istore_n 1, 1) := by decide +kernel
theorem d_Shelf_drop_5 : decode prog_1_method_3_code 5 = .ok (.aload_n 0, 1) := by decide +kernel
theorem d_Shelf_drop_6 : decode prog_1_method_3_code 6 = .ok (.iconst 0, 1) := by decide +kernel
theorem d_Shelf_drop_7 : decode prog_1_method_3_code 7 = .ok (.putfield 78, 3) := by decide +kernel
theorem d_Shelf_drop_10 : decode prog_1_method_3_code 10 = .ok (.iload_n 1, 1) := by decide +kernel
theorem d_Shelf_drop_11 : decode prog_1_method_3_code 11 = .ok (.ireturn, 1) := by decide +kernel
theorem d_Shelf_flush_0 : decode prog_1_method_11_code 0 = .ok (.aload_n 0, 1) := by decide +kernel
theorem d_Shelf_flush_1 : decode prog_1_method_11_code 1 = .ok (.getfield 26, 3) := by decide +kernel
theorem d_Shelf_flush_4 : decode prog_1_method_11_code 4 = .ok (.aload_n 0, 1) := by decide +kernel
theorem d_Shelf_flush_5 : decode prog_1_method_11_code 5 = .ok (.getfield 57, 3) := by decide +kernel
theorem d_Shelf_flush_8 : decode prog_1_method_11_code 8 = .ok (.invokevirtual 147, 3) := by decide +kernel
theorem d_Shelf_flush_11 : decode prog_1_method_11_code 11 = .ok (.aload_n 0, 1) := by decide +kernel
theorem d_Shelf_flush_12 : decode prog_1_method_11_code 12 = .ok (.getfield 26, 3) := by decide +kernel
theorem d_Shelf_flush_15 : decode prog_1_method_11_code 15 = .ok (.getfield 150, 3) := by decide +kernel
theorem d_Shelf_flush_18 : decode prog_1_method_11_code 18 = .ok (.ireturn, 1) := by decide +kernel
theorem d_Store_flushPending_0 : decode prog_9_method_8_code 0 = .ok (.aload_n 0, 1) := by decide +kernel
theorem d_Store_flushPending_1 : decode prog_9_method_8_code 1 = .ok (.iconst 0, 1) := by decide +kernel
theorem d_Store_flushPending_2 : decode prog_9_method_8_code 2 = .ok (.putfield 51, 3) := by decide +kernel
theorem d_Store_flushPending_5 : decode prog_9_method_8_code 5 = .ok (.iconst 0, 1) := by decide +kernel
theorem d_Store_flushPending_6 : decode prog_9_method_8_code 6 = .ok (.istore_n 2, 1) := by decide +kernel
theorem d_Store_flushPending_7 : decode prog_9_method_8_code 7 = .ok (.iload_n 2, 1) := by decide +kernel
theorem d_Store_flushPending_8 : decode prog_9_method_8_code 8 = .ok (.aload_n 0, 1) := by decide +kernel
theorem d_Store_flushPending_9 : decode prog_9_method_8_code 9 = .ok (.getfield 45, 3) := by decide +kernel
theorem d_Store_flushPending_12 : decode prog_9_method_8_code 12 = .ok (.if_icmp .ge 19, 3) := by decide +kernel
theorem d_Store_flushPending_15 : decode prog_9_method_8_code 15 = .ok (.aload_n 0, 1) := by decide +kernel
theorem d_Store_flushPending_16 : decode prog_9_method_8_code 16 = .ok (.aload_n 0, 1) := by decide +kernel
theorem d_Store_flushPending_17 : decode prog_9_method_8_code 17 = .ok (.getfield 17, 3) := by decide +kernel
theorem d_Store_flushPending_20 : decode prog_9_method_8_code 20 = .ok (.iload_n 2, 1) := by decide +kernel
theorem d_Store_flushPending_21 : decode prog_9_method_8_code 21 = .ok (.aaload, 1) := by decide +kernel
theorem d_Store_flushPending_22 : decode prog_9_method_8_code 22 = .ok (.invokevirtual 54, 3) := by decide +kernel
theorem d_Store_flushPending_25 : decode prog_9_method_8_code 25 = .ok (.iinc 2 1, 3) := by decide +kernel
theorem d_Store_flushPending_28 : decode prog_9_method_8_code 28 = .ok (.goto (-21), 3) := by decide +kernel
theorem d_Store_flushPending_31 : decode prog_9_method_8_code 31 = .ok (.aload_n 0, 1) := by decide +kernel
theorem d_Store_flushPending_32 : decode prog_9_method_8_code 32 = .ok (.iconst 0, 1) := by decide +kernel
theorem d_Store_flushPending_33 : decode prog_9_method_8_code 33 = .ok (.putfield 45, 3) := by decide +kernel
theorem d_Store_flushPending_36 : decode prog_9_method_8_code 36 = .ok (.aload_n 0, 1) := by decide +kernel
theorem d_Store_flushPending_37 : decode prog_9_method_8_code 37 = .ok (.iconst 0, 1) := by decide +kernel
theorem d_Store_flushPending_38 : decode prog_9_method_8_code 38 = .ok (.putfield 48, 3) := by decide +kernel
theorem d_Store_flushPending_41 : decode prog_9_method_8_code 41 = .ok (.aload_n 0, 1) := by decide +kernel
theorem d_Store_flushPending_42 : decode prog_9_method_8_code 42 = .ok (.iconst 0, 1) := by decide +kernel
theorem d_Store_flushPending_43 : decode prog_9_method_8_code 43 = .ok (.invokevirtual 58, 3) := by decide +kernel
theorem d_Store_flushPending_46 : decode prog_9_method_8_code 46 = .ok (.iconst 0, 1) := by decide +kernel
theorem d_Store_flushPending_47 : decode prog_9_method_8_code 47 = .ok (.istore_n 2, 1) := by decide +kernel
theorem d_Store_flushPending_48 : decode prog_9_method_8_code 48 = .ok (.iload_n 2, 1) := by decide +kernel
theorem d_Store_flushPending_49 : decode prog_9_method_8_code 49 = .ok (.iconst 5, 1) := by decide +kernel
theorem d_Store_flushPending_50 : decode prog_9_method_8_code 50 = .ok (.if_icmp .ge 27, 3) := by decide +kernel
theorem d_Store_flushPending_53 : decode prog_9_method_8_code 53 = .ok (.aload_n 0, 1) := by decide +kernel
theorem d_Store_flushPending_54 : decode prog_9_method_8_code 54 = .ok (.iload_n 2, 1) := by decide +kernel
theorem d_Store_flushPending_55 : decode prog_9_method_8_code 55 = .ok (.invokevirtual 62, 3) := by decide +kernel
theorem d_Store_flushPending_58 : decode prog_9_method_8_code 58 = .ok (.iload_n 1, 1) := by decide +kernel
theorem d_Store_flushPending_59 : decode prog_9_method_8_code 59 = .ok (.if_icmp .le 12, 3) := by decide +kernel
theorem d_Store_flushPending_62 : decode prog_9_method_8_code 62 = .ok (.aload_n 0, 1) := by decide +kernel
theorem d_Store_flushPending_63 : decode prog_9_method_8_code 63 = .ok (.iload_n 2, 1) := by decide +kernel
theorem d_Store_flushPending_64 : decode prog_9_method_8_code 64 = .ok (.iload_n 2, 1) := by decide +kernel
theorem d_Store_flushPending_65 : decode prog_9_method_8_code 65 = .ok (.iload_n 2, 1) := by decide +kernel
theorem d_Store_flushPending_66 : decode prog_9_method_8_code 66 = .ok (.iconst 1, 1) := by decide +kernel
theorem d_Store_flushPending_67 : decode prog_9_method_8_code 67 = .ok (.iadd, 1) := by decide +kernel
theorem d_Store_flushPending_68 : decode prog_9_method_8_code 68 = .ok (.invokevirtual 66, 3) := by decide +kernel
theorem d_Store_flushPending_71 : decode prog_9_method_8_code 71 = .ok (.iinc 2 1, 3) := by decide +kernel
theorem d_Store_flushPending_74 : decode prog_9_method_8_code 74 = .ok (.goto (-26), 3) := by decide +kernel
theorem d_Store_flushPending_77 : decode prog_9_method_8_code 77 = .ok (.return_, 1) := by decide +kernel
theorem d_Store_gatherLive_0 : decode prog_9_method_13_code 0 = .ok (.aload_n 0, 1) := by decide +kernel
theorem d_Store_gatherLive_1 : decode prog_9_method_13_code 1 = .ok (.getfield 11, 3) := by decide +kernel
theorem d_Store_gatherLive_4 : decode prog_9_method_13_code 4 = .ok (.aload_n 1, 1) := by decide +kernel
theorem d_Store_gatherLive_5 : decode prog_9_method_13_code 5 = .ok (.getfield 89, 3) := by decide +kernel
theorem d_Store_gatherLive_8 : decode prog_9_method_13_code 8 = .ok (.aaload, 1) := by decide +kernel
theorem d_Store_gatherLive_9 : decode prog_9_method_13_code 9 = .ok (.astore_n 2, 1) := by decide +kernel
theorem d_Store_gatherLive_10 : decode prog_9_method_13_code 10 = .ok (.aload_n 2, 1) := by decide +kernel
theorem d_Store_gatherLive_11 : decode prog_9_method_13_code 11 = .ok (.ifnull 18, 3) := by decide +kernel
theorem d_Store_gatherLive_14 : decode prog_9_method_13_code 14 = .ok (.aload_n 2, 1) := by decide +kernel
theorem d_Store_gatherLive_15 : decode prog_9_method_13_code 15 = .ok (.getfield 92, 3) := by decide +kernel
theorem d_Store_gatherLive_18 : decode prog_9_method_13_code 18 = .ok (.aload_n 1, 1) := by decide +kernel
theorem d_Store_gatherLive_19 : decode prog_9_method_13_code 19 = .ok (.getfield 92, 3) := by decide +kernel
theorem d_Store_gatherLive_22 : decode prog_9_method_13_code 22 = .ok (.if_icmp .ne 7, 3) := by decide +kernel
theorem d_Store_gatherLive_25 : decode prog_9_method_13_code 25 = .ok (.iconst 1, 1) := by decide +kernel
theorem d_Store_gatherLive_26 : decode prog_9_method_13_code 26 = .ok (.goto 4, 3) := by decide +kernel
theorem d_Store_gatherLive_29 : decode prog_9_method_13_code 29 = .ok (.iconst 0, 1) := by decide +kernel
theorem d_Store_gatherLive_30 : decode prog_9_method_13_code 30 = .ok (.istore_n 3, 1) := by decide +kernel
theorem d_Store_gatherLive_31 : decode prog_9_method_13_code 31 = .ok (.iload_n 3, 1) := by decide +kernel
theorem d_Store_gatherLive_32 : decode prog_9_method_13_code 32 = .ok (.ifCond .eq 35, 3) := by decide +kernel
theorem d_Store_gatherLive_35 : decode prog_9_method_13_code 35 = .ok (.aload_n 0, 1) := by decide +kernel
theorem d_Store_gatherLive_36 : decode prog_9_method_13_code 36 = .ok (.getfield 51, 3) := by decide +kernel
theorem d_Store_gatherLive_39 : decode prog_9_method_13_code 39 = .ok (.aload_n 0, 1) := by decide +kernel
theorem d_Store_gatherLive_40 : decode prog_9_method_13_code 40 = .ok (.getfield 26, 3) := by decide +kernel
theorem d_Store_gatherLive_43 : decode prog_9_method_13_code 43 = .ok (.arraylength, 1) := by decide +kernel
theorem d_Store_gatherLive_44 : decode prog_9_method_13_code 44 = .ok (.if_icmp .ge 23, 3) := by decide +kernel
theorem d_Store_gatherLive_47 : decode prog_9_method_13_code 47 = .ok (.aload_n 0, 1) := by decide +kernel
theorem d_Store_gatherLive_48 : decode prog_9_method_13_code 48 = .ok (.getfield 26, 3) := by decide +kernel
theorem d_Store_gatherLive_51 : decode prog_9_method_13_code 51 = .ok (.aload_n 0, 1) := by decide +kernel
theorem d_Store_gatherLive_52 : decode prog_9_method_13_code 52 = .ok (.getfield 51, 3) := by decide +kernel
theorem d_Store_gatherLive_55 : decode prog_9_method_13_code 55 = .ok (.aload_n 1, 1) := by decide +kernel
theorem d_Store_gatherLive_56 : decode prog_9_method_13_code 56 = .ok (.aastore, 1) := by decide +kernel
theorem d_Store_gatherLive_57 : decode prog_9_method_13_code 57 = .ok (.aload_n 0, 1) := by decide +kernel
theorem d_Store_gatherLive_58 : decode prog_9_method_13_code 58 = .ok (.dup, 1) := by decide +kernel
theorem d_Store_gatherLive_59 : decode prog_9_method_13_code 59 = .ok (.getfield 51, 3) := by decide +kernel
theorem d_Store_gatherLive_62 : decode prog_9_method_13_code 62 = .ok (.iconst 1, 1) := by decide +kernel
theorem d_Store_gatherLive_63 : decode prog_9_method_13_code 63 = .ok (.iadd, 1) := by decide +kernel
theorem d_Store_gatherLive_64 : decode prog_9_method_13_code 64 = .ok (.putfield 51, 3) := by decide +kernel
theorem d_Store_gatherLive_67 : decode prog_9_method_13_code 67 = .ok (.return_, 1) := by decide +kernel
theorem d_Store_addSegment_0 : decode prog_9_method_14_code 0 = .ok (.aload_n 0, 1) := by decide +kernel
theorem d_Store_addSegment_1 : decode prog_9_method_14_code 1 = .ok (.getfield 51, 3) := by decide +kernel
theorem d_Store_addSegment_4 : decode prog_9_method_14_code 4 = .ok (.ifCond .le 58, 3) := by decide +kernel
theorem d_Store_addSegment_7 : decode prog_9_method_14_code 7 = .ok (.aload_n 0, 1) := by decide +kernel
theorem d_Store_addSegment_8 : decode prog_9_method_14_code 8 = .ok (.getfield 70, 3) := by decide +kernel
theorem d_Store_addSegment_11 : decode prog_9_method_14_code 11 = .ok (.sipush 512, 3) := by decide +kernel
theorem d_Store_addSegment_14 : decode prog_9_method_14_code 14 = .ok (.if_icmp .ge 48, 3) := by decide +kernel
theorem d_Store_addSegment_17 : decode prog_9_method_14_code 17 = .ok (.aload_n 0, 1) := by decide +kernel
theorem d_Store_addSegment_18 : decode prog_9_method_14_code 18 = .ok (.getfield 22, 3) := by decide +kernel
theorem d_Store_addSegment_21 : decode prog_9_method_14_code 21 = .ok (.aload_n 0, 1) := by decide +kernel
theorem d_Store_addSegment_22 : decode prog_9_method_14_code 22 = .ok (.getfield 70, 3) := by decide +kernel
theorem d_Store_addSegment_25 : decode prog_9_method_14_code 25 = .ok (.new 20, 3) := by decide +kernel
theorem d_Store_addSegment_28 : decode prog_9_method_14_code 28 = .ok (.dup, 1) := by decide +kernel
theorem d_Store_addSegment_29 : decode prog_9_method_14_code 29 = .ok (.iload_n 1, 1) := by decide +kernel
theorem d_Store_addSegment_30 : decode prog_9_method_14_code 30 = .ok (.aload_n 0, 1) := by decide +kernel
theorem d_Store_addSegment_31 : decode prog_9_method_14_code 31 = .ok (.getfield 26, 3) := by decide +kernel
theorem d_Store_addSegment_34 : decode prog_9_method_14_code 34 = .ok (.aload_n 0, 1) := by decide +kernel
theorem d_Store_addSegment_35 : decode prog_9_method_14_code 35 = .ok (.getfield 51, 3) := by decide +kernel
theorem d_Store_addSegment_38 : decode prog_9_method_14_code 38 = .ok (.invokespecial 95, 3) := by decide +kernel
theorem d_Store_addSegment_41 : decode prog_9_method_14_code 41 = .ok (.aastore, 1) := by decide +kernel
theorem d_Store_addSegment_42 : decode prog_9_method_14_code 42 = .ok (.aload_n 0, 1) := by decide +kernel
theorem d_Store_addSegment_43 : decode prog_9_method_14_code 43 = .ok (.dup, 1) := by decide +kernel
theorem d_Store_addSegment_44 : decode prog_9_method_14_code 44 = .ok (.getfield 70, 3) := by decide +kernel
theorem d_Store_addSegment_47 : decode prog_9_method_14_code 47 = .ok (.iconst 1, 1) := by decide +kernel
theorem d_Store_addSegment_48 : decode prog_9_method_14_code 48 = .ok (.iadd, 1) := by decide +kernel
theorem d_Store_addSegment_49 : decode prog_9_method_14_code 49 = .ok (.putfield 70, 3) := by decide +kernel
theorem d_Store_addSegment_52 : decode prog_9_method_14_code 52 = .ok (.aload_n 0, 1) := by decide +kernel
theorem d_Store_addSegment_53 : decode prog_9_method_14_code 53 = .ok (.dup, 1) := by decide +kernel
theorem d_Store_addSegment_54 : decode prog_9_method_14_code 54 = .ok (.getfield 98, 3) := by decide +kernel
theorem d_Store_addSegment_57 : decode prog_9_method_14_code 57 = .ok (.iconst 1, 1) := by decide +kernel
theorem d_Store_addSegment_58 : decode prog_9_method_14_code 58 = .ok (.iadd, 1) := by decide +kernel
theorem d_Store_addSegment_59 : decode prog_9_method_14_code 59 = .ok (.putfield 98, 3) := by decide +kernel
theorem d_Store_addSegment_62 : decode prog_9_method_14_code 62 = .ok (.return_, 1) := by decide +kernel
theorem d_Segment_init_0 : decode prog_7_method_1_code 0 = .ok (.aload_n 0, 1) := by decide +kernel
theorem d_Segment_init_1 : decode prog_7_method_1_code 1 = .ok (.invokespecial 1, 3) := by decide +kernel
theorem d_Segment_init_4 : decode prog_7_method_1_code 4 = .ok (.aload_n 0, 1) := by decide +kernel
theorem d_Segment_init_5 : decode prog_7_method_1_code 5 = .ok (.iload_n 1, 1) := by decide +kernel
theorem d_Segment_init_6 : decode prog_7_method_1_code 6 = .ok (.putfield 7, 3) := by decide +kernel
theorem d_Segment_init_9 : decode prog_7_method_1_code 9 = .ok (.aload_n 0, 1) := by decide +kernel
theorem d_Segment_init_10 : decode prog_7_method_1_code 10 = .ok (.iload_n 3, 1) := by decide +kernel
theorem d_Segment_init_11 : decode prog_7_method_1_code 11 = .ok (.anewarray 13, 3) := by decide +kernel
theorem d_Segment_init_14 : decode prog_7_method_1_code 14 = .ok (.putfield 15, 3) := by decide +kernel
theorem d_Segment_init_17 : decode prog_7_method_1_code 17 = .ok (.iconst 0, 1) := by decide +kernel
theorem d_Segment_init_18 : decode prog_7_method_1_code 18 = .ok (.istore 4, 2) := by decide +kernel
theorem d_Segment_init_20 : decode prog_7_method_1_code 20 = .ok (.iconst 0, 1) := by decide +kernel
theorem d_Segment_init_21 : decode prog_7_method_1_code 21 = .ok (.istore 5, 2) := by decide +kernel
theorem d_Segment_init_23 : decode prog_7_method_1_code 23 = .ok (.iload 5, 2) := by decide +kernel
theorem d_Segment_init_25 : decode prog_7_method_1_code 25 = .ok (.iload_n 3, 1) := by decide +kernel
theorem d_Segment_init_26 : decode prog_7_method_1_code 26 = .ok (.if_icmp .ge 32, 3) := by decide +kernel
theorem d_Segment_init_29 : decode prog_7_method_1_code 29 = .ok (.aload_n 0, 1) := by decide +kernel
theorem d_Segment_init_30 : decode prog_7_method_1_code 30 = .ok (.getfield 15, 3) := by decide +kernel
theorem d_Segment_init_33 : decode prog_7_method_1_code 33 = .ok (.iload 5, 2) := by decide +kernel
theorem d_Segment_init_35 : decode prog_7_method_1_code 35 = .ok (.aload_n 2, 1) := by decide +kernel
theorem d_Segment_init_36 : decode prog_7_method_1_code 36 = .ok (.iload 5, 2) := by decide +kernel
theorem d_Segment_init_38 : decode prog_7_method_1_code 38 = .ok (.aaload, 1) := by decide +kernel
theorem d_Segment_init_39 : decode prog_7_method_1_code 39 = .ok (.aastore, 1) := by decide +kernel
theorem d_Segment_init_40 : decode prog_7_method_1_code 40 = .ok (.iload 4, 2) := by decide +kernel
theorem d_Segment_init_42 : decode prog_7_method_1_code 42 = .ok (.aload_n 2, 1) := by decide +kernel
theorem d_Segment_init_43 : decode prog_7_method_1_code 43 = .ok (.iload 5, 2) := by decide +kernel
theorem d_Segment_init_45 : decode prog_7_method_1_code 45 = .ok (.aaload, 1) := by decide +kernel
theorem d_Segment_init_46 : decode prog_7_method_1_code 46 = .ok (.getfield 19, 3) := by decide +kernel
theorem d_Segment_init_49 : decode prog_7_method_1_code 49 = .ok (.iadd, 1) := by decide +kernel
theorem d_Segment_init_50 : decode prog_7_method_1_code 50 = .ok (.istore 4, 2) := by decide +kernel
theorem d_Segment_init_52 : decode prog_7_method_1_code 52 = .ok (.iinc 5 1, 3) := by decide +kernel
theorem d_Segment_init_55 : decode prog_7_method_1_code 55 = .ok (.goto (-32), 3) := by decide +kernel
theorem d_Segment_init_58 : decode prog_7_method_1_code 58 = .ok (.aload_n 0, 1) := by decide +kernel
theorem d_Segment_init_59 : decode prog_7_method_1_code 59 = .ok (.iload 4, 2) := by decide +kernel
theorem d_Segment_init_61 : decode prog_7_method_1_code 61 = .ok (.putfield 22, 3) := by decide +kernel
theorem d_Segment_init_64 : decode prog_7_method_1_code 64 = .ok (.return_, 1) := by decide +kernel
theorem d_Store_segmentsOf_0 : decode prog_9_method_10_code 0 = .ok (.iconst 0, 1) := by decide +kernel
theorem d_Store_segmentsOf_1 : decode prog_9_method_10_code 1 = .ok (.istore_n 2, 1) := by decide +kernel
theorem d_Store_segmentsOf_2 : decode prog_9_method_10_code 2 = .ok (.iconst 0, 1) := by decide +kernel
theorem d_Store_segmentsOf_3 : decode prog_9_method_10_code 3 = .ok (.istore_n 3, 1) := by decide +kernel
theorem d_Store_segmentsOf_4 : decode prog_9_method_10_code 4 = .ok (.iload_n 3, 1) := by decide +kernel
theorem d_Store_segmentsOf_5 : decode prog_9_method_10_code 5 = .ok (.aload_n 0, 1) := by decide +kernel
theorem d_Store_segmentsOf_6 : decode prog_9_method_10_code 6 = .ok (.getfield 70, 3) := by decide +kernel
theorem d_Store_segmentsOf_9 : decode prog_9_method_10_code 9 = .ok (.if_icmp .ge 25, 3) := by decide +kernel
theorem d_Store_segmentsOf_12 : decode prog_9_method_10_code 12 = .ok (.aload_n 0, 1) := by decide +kernel
theorem d_Store_segmentsOf_13 : decode prog_9_method_10_code 13 = .ok (.getfield 22, 3) := by decide +kernel
theorem d_Store_segmentsOf_16 : decode prog_9_method_10_code 16 = .ok (.iload_n 3, 1) := by decide +kernel
theorem d_Store_segmentsOf_17 : decode prog_9_method_10_code 17 = .ok (.aaload, 1) := by decide +kernel
theorem d_Store_segmentsOf_18 : decode prog_9_method_10_code 18 = .ok (.getfield 73, 3) := by decide +kernel
theorem d_Store_segmentsOf_21 : decode prog_9_method_10_code 21 = .ok (.iload_n 1, 1) := by decide +kernel
theorem d_Store_segmentsOf_22 : decode prog_9_method_10_code 22 = .ok (.if_icmp .ne 6, 3) := by decide +kernel
theorem d_Store_segmentsOf_25 : decode prog_9_method_10_code 25 = .ok (.iinc 2 1, 3) := by decide +kernel
theorem d_Store_segmentsOf_28 : decode prog_9_method_10_code 28 = .ok (.iinc 3 1, 3) := by decide +kernel
theorem d_Store_segmentsOf_31 : decode prog_9_method_10_code 31 = .ok (.goto (-27), 3) := by decide +kernel
theorem d_Store_segmentsOf_34 : decode prog_9_method_10_code 34 = .ok (.iload_n 2, 1) := by decide +kernel
theorem d_Store_segmentsOf_35 : decode prog_9_method_10_code 35 = .ok (.ireturn, 1) := by decide +kernel
theorem d_Store_mergeLevels_0 : decode prog_9_method_11_code 0 = .ok (.aload_n 0, 1) := by decide +kernel
theorem d_Store_mergeLevels_1 : decode prog_9_method_11_code 1 = .ok (.iconst 0, 1) := by decide +kernel
theorem d_Store_mergeLevels_2 : decode prog_9_method_11_code 2 = .ok (.putfield 51, 3) := by decide +kernel
theorem d_Store_mergeLevels_5 : decode prog_9_method_11_code 5 = .ok (.iconst 0, 1) := by decide +kernel
theorem d_Store_mergeLevels_6 : decode prog_9_method_11_code 6 = .ok (.istore 4, 2) := by decide +kernel
theorem d_Store_mergeLevels_8 : decode prog_9_method_11_code 8 = .ok (.iconst 0, 1) := by decide +kernel
theorem d_Store_mergeLevels_9 : decode prog_9_method_11_code 9 = .ok (.istore 5, 2) := by decide +kernel
theorem d_Store_mergeLevels_11 : decode prog_9_method_11_code 11 = .ok (.iload 5, 2) := by decide +kernel
theorem d_Store_mergeLevels_13 : decode prog_9_method_11_code 13 = .ok (.aload_n 0, 1) := by decide +kernel
theorem d_Store_mergeLevels_14 : decode prog_9_method_11_code 14 = .ok (.getfield 70, 3) := by decide +kernel
theorem d_Store_mergeLevels_17 : decode prog_9_method_11_code 17 = .ok (.if_icmp .ge 57, 3) := by decide +kernel
theorem d_Store_mergeLevels_20 : decode prog_9_method_11_code 20 = .ok (.aload_n 0, 1) := by decide +kernel
theorem d_Store_mergeLevels_21 : decode prog_9_method_11_code 21 = .ok (.getfield 22, 3) := by decide +kernel
theorem d_Store_mergeLevels_24 : decode prog_9_method_11_code 24 = .ok (.iload 5, 2) := by decide +kernel
theorem d_Store_mergeLevels_26 : decode prog_9_method_11_code 26 = .ok (.aaload, 1) := by decide +kernel
theorem d_Store_mergeLevels_27 : decode prog_9_method_11_code 27 = .ok (.astore 6, 2) := by decide +kernel
theorem d_Store_mergeLevels_29 : decode prog_9_method_11_code 29 = .ok (.aload 6, 2) := by decide +kernel
theorem d_Store_mergeLevels_31 : decode prog_9_method_11_code 31 = .ok (.getfield 73, 3) := by decide +kernel
theorem d_Store_mergeLevels_34 : decode prog_9_method_11_code 34 = .ok (.iload_n 1, 1) := by decide +kernel
theorem d_Store_mergeLevels_35 : decode prog_9_method_11_code 35 = .ok (.if_icmp .lt 12, 3) := by decide +kernel
theorem d_Store_mergeLevels_38 : decode prog_9_method_11_code 38 = .ok (.aload 6, 2) := by decide +kernel
theorem d_Store_mergeLevels_40 : decode prog_9_method_11_code 40 = .ok (.getfield 73, 3) := by decide +kernel
theorem d_Store_mergeLevels_43 : decode prog_9_method_11_code 43 = .ok (.iload_n 2, 1) := by decide +kernel
theorem d_Store_mergeLevels_44 : decode prog_9_method_11_code 44 = .ok (.if_icmp .le 18, 3) := by decide +kernel
theorem d_Store_mergeLevels_47 : decode prog_9_method_11_code 47 = .ok (.aload_n 0, 1) := by decide +kernel
theorem d_Store_mergeLevels_48 : decode prog_9_method_11_code 48 = .ok (.getfield 22, 3) := by decide +kernel
theorem d_Store_mergeLevels_51 : decode prog_9_method_11_code 51 = .ok (.iload 4, 2) := by decide +kernel
theorem d_Store_mergeLevels_53 : decode prog_9_method_11_code 53 = .ok (.aload 6, 2) := by decide +kernel
theorem d_Store_mergeLevels_55 : decode prog_9_method_11_code 55 = .ok (.aastore, 1) := by decide +kernel
theorem d_Store_mergeLevels_56 : decode prog_9_method_11_code 56 = .ok (.iinc 4 1, 3) := by decide +kernel
theorem d_Store_mergeLevels_59 : decode prog_9_method_11_code 59 = .ok (.goto 9, 3) := by decide +kernel
theorem d_Store_mergeLevels_62 : decode prog_9_method_11_code 62 = .ok (.aload_n 0, 1) := by decide +kernel
theorem d_Store_mergeLevels_63 : decode prog_9_method_11_code 63 = .ok (.aload 6, 2) := by decide +kernel
theorem d_Store_mergeLevels_65 : decode prog_9_method_11_code 65 = .ok (.invokevirtual 82, 3) := by decide +kernel
theorem d_Store_mergeLevels_68 : decode prog_9_method_11_code 68 = .ok (.iinc 5 1, 3) := by decide +kernel
theorem d_Store_mergeLevels_71 : decode prog_9_method_11_code 71 = .ok (.goto (-60), 3) := by decide +kernel
theorem d_Store_mergeLevels_74 : decode prog_9_method_11_code 74 = .ok (.aload_n 0, 1) := by decide +kernel
theorem d_Store_mergeLevels_75 : decode prog_9_method_11_code 75 = .ok (.iload 4, 2) := by decide +kernel
theorem d_Store_mergeLevels_77 : decode prog_9_method_11_code 77 = .ok (.putfield 70, 3) := by decide +kernel
theorem d_Store_mergeLevels_80 : decode prog_9_method_11_code 80 = .ok (.aload_n 0, 1) := by decide +kernel
theorem d_Store_mergeLevels_81 : decode prog_9_method_11_code 81 = .ok (.iload_n 3, 1) := by decide +kernel
theorem d_Store_mergeLevels_82 : decode prog_9_method_11_code 82 = .ok (.invokevirtual 58, 3) := by decide +kernel
theorem d_Store_mergeLevels_85 : decode prog_9_method_11_code 85 = .ok (.return_, 1) := by decide +kernel
theorem d_Store_gatherAllLive_0 : decode prog_9_method_12_code 0 = .ok (.iconst 0, 1) := by decide +kernel
theorem d_Store_gatherAllLive_1 : decode prog_9_method_12_code 1 = .ok (.istore_n 2, 1) := by decide +kernel
theorem d_Store_gatherAllLive_2 : decode prog_9_method_12_code 2 = .ok (.iload_n 2, 1) := by decide +kernel
theorem d_Store_gatherAllLive_3 : decode prog_9_method_12_code 3 = .ok (.aload_n 1, 1) := by decide +kernel
theorem d_Store_gatherAllLive_4 : decode prog_9_method_12_code 4 = .ok (.getfield 86, 3) := by decide +kernel
theorem d_Store_gatherAllLive_7 : decode prog_9_method_12_code 7 = .ok (.arraylength, 1) := by decide +kernel
theorem d_Store_gatherAllLive_8 : decode prog_9_method_12_code 8 = .ok (.if_icmp .ge 19, 3) := by decide +kernel
theorem d_Store_gatherAllLive_11 : decode prog_9_method_12_code 11 = .ok (.aload_n 0, 1) := by decide +kernel
theorem d_Store_gatherAllLive_12 : decode prog_9_method_12_code 12 = .ok (.aload_n 1, 1) := by decide +kernel
theorem d_Store_gatherAllLive_13 : decode prog_9_method_12_code 13 = .ok (.getfield 86, 3) := by decide +kernel
theorem d_Store_gatherAllLive_16 : decode prog_9_method_12_code 16 = .ok (.iload_n 2, 1) := by decide +kernel
theorem d_Store_gatherAllLive_17 : decode prog_9_method_12_code 17 = .ok (.aaload, 1) := by decide +kernel
theorem d_Store_gatherAllLive_18 : decode prog_9_method_12_code 18 = .ok (.invokevirtual 54, 3) := by decide +kernel
theorem d_Store_gatherAllLive_21 : decode prog_9_method_12_code 21 = .ok (.iinc 2 1, 3) := by decide +kernel
theorem d_Store_gatherAllLive_24 : decode prog_9_method_12_code 24 = .ok (.goto (-22), 3) := by decide +kernel
theorem d_Store_gatherAllLive_27 : decode prog_9_method_12_code 27 = .ok (.return_, 1) := by decide +kernel
theorem d_Shelf_optimize_0 : decode prog_1_method_12_code 0 = .ok (.aload_n 0, 1) := by decide +kernel
theorem d_Shelf_optimize_1 : decode prog_1_method_12_code 1 = .ok (.getfield 26, 3) := by decide +kernel
theorem d_Shelf_optimize_4 : decode prog_1_method_12_code 4 = .ok (.invokevirtual 156, 3) := by decide +kernel
theorem d_Shelf_optimize_7 : decode prog_1_method_12_code 7 = .ok (.ireturn, 1) := by decide +kernel
theorem d_Store_mergeAll_0 : decode prog_9_method_9_code 0 = .ok (.aload_n 0, 1) := by decide +kernel
theorem d_Store_mergeAll_1 : decode prog_9_method_9_code 1 = .ok (.getfield 70, 3) := by decide +kernel
theorem d_Store_mergeAll_4 : decode prog_9_method_9_code 4 = .ok (.istore_n 1, 1) := by decide +kernel
theorem d_Store_mergeAll_5 : decode prog_9_method_9_code 5 = .ok (.iconst 0, 1) := by decide +kernel
theorem d_Store_mergeAll_6 : decode prog_9_method_9_code 6 = .ok (.istore_n 2, 1) := by decide +kernel
theorem d_Store_mergeAll_7 : decode prog_9_method_9_code 7 = .ok (.iconst 0, 1) := by decide +kernel
theorem d_Store_mergeAll_8 : decode prog_9_method_9_code 8 = .ok (.istore_n 3, 1) := by decide +kernel
theorem d_Store_mergeAll_9 : decode prog_9_method_9_code 9 = .ok (.iload_n 3, 1) := by decide +kernel
theorem d_Store_mergeAll_10 : decode prog_9_method_9_code 10 = .ok (.aload_n 0, 1) := by decide +kernel
theorem d_Store_mergeAll_11 : decode prog_9_method_9_code 11 = .ok (.getfield 70, 3) := by decide +kernel
theorem d_Store_mergeAll_14 : decode prog_9_method_9_code 14 = .ok (.if_icmp .ge 23, 3) := by decide +kernel
theorem d_Store_mergeAll_17 : decode prog_9_method_9_code 17 = .ok (.iload_n 2, 1) := by decide +kernel
theorem d_Store_mergeAll_18 : decode prog_9_method_9_code 18 = .ok (.aload_n 0, 1) := by decide +kernel
theorem d_Store_mergeAll_19 : decode prog_9_method_9_code 19 = .ok (.getfield 22, 3) := by decide +kernel
theorem d_Store_mergeAll_22 : decode prog_9_method_9_code 22 = .ok (.iload_n 3, 1) := by decide +kernel
theorem d_Store_mergeAll_23 : decode prog_9_method_9_code 23 = .ok (.aaload, 1) := by decide +kernel
theorem d_Store_mergeAll_24 : decode prog_9_method_9_code 24 = .ok (.getfield 73, 3) := by decide +kernel
theorem d_Store_mergeAll_27 : decode prog_9_method_9_code 27 = .ok (.invokestatic 76, 3) := by decide +kernel
theorem d_Store_mergeAll_30 : decode prog_9_method_9_code 30 = .ok (.istore_n 2, 1) := by decide +kernel
theorem d_Store_mergeAll_31 : decode prog_9_method_9_code 31 = .ok (.iinc 3 1, 3) := by decide +kernel
theorem d_Store_mergeAll_34 : decode prog_9_method_9_code 34 = .ok (.goto (-25), 3) := by decide +kernel
theorem d_Store_mergeAll_37 : decode prog_9_method_9_code 37 = .ok (.aload_n 0, 1) := by decide +kernel
theorem d_Store_mergeAll_38 : decode prog_9_method_9_code 38 = .ok (.iconst 0, 1) := by decide +kernel
theorem d_Store_mergeAll_39 : decode prog_9_method_9_code 39 = .ok (.iconst 5, 1) := by decide +kernel
theorem d_Store_mergeAll_40 : decode prog_9_method_9_code 40 = .ok (.iload_n 2, 1) := by decide +kernel
theorem d_Store_mergeAll_41 : decode prog_9_method_9_code 41 = .ok (.invokevirtual 66, 3) := by decide +kernel
theorem d_Store_mergeAll_44 : decode prog_9_method_9_code 44 = .ok (.iload_n 1, 1) := by decide +kernel
theorem d_Store_mergeAll_45 : decode prog_9_method_9_code 45 = .ok (.ireturn, 1) := by decide +kernel
theorem d_Shelf_wrong_0 : decode prog_1_method_16_code 0 = .ok (.aload_n 0, 1) := by decide +kernel
theorem d_Shelf_wrong_1 : decode prog_1_method_16_code 1 = .ok (.getfield 64, 3) := by decide +kernel
theorem d_Shelf_wrong_4 : decode prog_1_method_16_code 4 = .ok (.ireturn, 1) := by decide +kernel
theorem d_Shelf_letters_0 : decode prog_1_method_2_code 0 = .ok (.lload_n 1, 1) := by decide +kernel
theorem d_Shelf_letters_1 : decode prog_1_method_2_code 1 = .ok (.invokestatic 67, 3) := by decide +kernel
theorem d_Shelf_letters_4 : decode prog_1_method_2_code 4 = .ok (.istore_n 3, 1) := by decide +kernel
theorem d_Shelf_letters_5 : decode prog_1_method_2_code 5 = .ok (.iload_n 3, 1) := by decide +kernel
theorem d_Shelf_letters_6 : decode prog_1_method_2_code 6 = .ok (.ifCond .ne 13, 3) := by decide +kernel
theorem d_Shelf_letters_9 : decode prog_1_method_2_code 9 = .ok (.new 71, 3) := by decide +kernel
theorem d_Shelf_letters_12 : decode prog_1_method_2_code 12 = .ok (.dup, 1) := by decide +kernel
theorem d_Shelf_letters_13 : decode prog_1_method_2_code 13 = .ok (.ldc 73, 2) := by decide +kernel
theorem d_Shelf_letters_15 : decode prog_1_method_2_code 15 = .ok (.invokespecial 75, 3) := by decide +kernel
theorem d_Shelf_letters_18 : decode prog_1_method_2_code 18 = .ok (.athrow, 1) := by decide +kernel
theorem d_Shelf_letters_19 : decode prog_1_method_2_code 19 = .ok (.aload_n 0, 1) := by decide +kernel
theorem d_Shelf_letters_20 : decode prog_1_method_2_code 20 = .ok (.getfield 78, 3) := by decide +kernel
theorem d_Shelf_letters_23 : decode prog_1_method_2_code 23 = .ok (.iload_n 3, 1) := by decide +kernel
theorem d_Shelf_letters_24 : decode prog_1_method_2_code 24 = .ok (.iadd, 1) := by decide +kernel
theorem d_Shelf_letters_25 : decode prog_1_method_2_code 25 = .ok (.bipush 96, 2) := by decide +kernel
theorem d_Shelf_letters_27 : decode prog_1_method_2_code 27 = .ok (.if_icmp .le 13, 3) := by decide +kernel
theorem d_Shelf_letters_30 : decode prog_1_method_2_code 30 = .ok (.new 81, 3) := by decide +kernel
theorem d_Shelf_letters_33 : decode prog_1_method_2_code 33 = .ok (.dup, 1) := by decide +kernel
theorem d_Shelf_letters_34 : decode prog_1_method_2_code 34 = .ok (.ldc 83, 2) := by decide +kernel
theorem d_Shelf_letters_36 : decode prog_1_method_2_code 36 = .ok (.invokespecial 85, 3) := by decide +kernel
theorem d_Shelf_letters_39 : decode prog_1_method_2_code 39 = .ok (.athrow, 1) := by decide +kernel
theorem d_Shelf_letters_40 : decode prog_1_method_2_code 40 = .ok (.iconst 0, 1) := by decide +kernel
theorem d_Shelf_letters_41 : decode prog_1_method_2_code 41 = .ok (.istore 4, 2) := by decide +kernel
theorem d_Shelf_letters_43 : decode prog_1_method_2_code 43 = .ok (.iload 4, 2) := by decide +kernel
theorem d_Shelf_letters_45 : decode prog_1_method_2_code 45 = .ok (.iload_n 3, 1) := by decide +kernel
theorem d_Shelf_letters_46 : decode prog_1_method_2_code 46 = .ok (.if_icmp .ge 28, 3) := by decide +kernel
theorem d_Shelf_letters_49 : decode prog_1_method_2_code 49 = .ok (.aload_n 0, 1) := by decide +kernel
theorem d_Shelf_letters_50 : decode prog_1_method_2_code 50 = .ok (.getfield 9, 3) := by decide +kernel
theorem d_Shelf_letters_53 : decode prog_1_method_2_code 53 = .ok (.aload_n 0, 1) := by decide +kernel
theorem d_Shelf_letters_54 : decode prog_1_method_2_code 54 = .ok (.getfield 78, 3) := by decide +kernel
theorem d_Shelf_letters_57 : decode prog_1_method_2_code 57 = .ok (.iload 4, 2) := by decide +kernel
theorem d_Shelf_letters_59 : decode prog_1_method_2_code 59 = .ok (.iadd, 1) := by decide +kernel
theorem d_Shelf_letters_60 : decode prog_1_method_2_code 60 = .ok (.lload_n 1, 1) := by decide +kernel
theorem d_Shelf_letters_61 : decode prog_1_method_2_code 61 = .ok (.iload 4, 2) := by decide +kernel
theorem d_Shelf_letters_63 : decode prog_1_method_2_code 63 = .ok (.invokestatic 86, 3) := by decide +kernel
theorem d_Shelf_letters_66 : decode prog_1_method_2_code 66 = .ok (.i2c, 1) := by decide +kernel
theorem d_Shelf_letters_67 : decode prog_1_method_2_code 67 = .ok (.castore, 1) := by decide +kernel
theorem d_Shelf_letters_68 : decode prog_1_method_2_code 68 = .ok (.iinc 4 1, 3) := by decide +kernel
theorem d_Shelf_letters_71 : decode prog_1_method_2_code 71 = .ok (.goto (-28), 3) := by decide +kernel
theorem d_Shelf_letters_74 : decode prog_1_method_2_code 74 = .ok (.aload_n 0, 1) := by decide +kernel
theorem d_Shelf_letters_75 : decode prog_1_method_2_code 75 = .ok (.dup, 1) := by decide +kernel
theorem d_Shelf_letters_76 : decode prog_1_method_2_code 76 = .ok (.getfield 78, 3) := by decide +kernel
theorem d_Shelf_letters_79 : decode prog_1_method_2_code 79 = .ok (.iload_n 3, 1) := by decide +kernel
theorem d_Shelf_letters_80 : decode prog_1_method_2_code 80 = .ok (.iadd, 1) := by decide +kernel
theorem d_Shelf_letters_81 : decode prog_1_method_2_code 81 = .ok (.putfield 78, 3) := by decide +kernel
theorem d_Shelf_letters_84 : decode prog_1_method_2_code 84 = .ok (.aload_n 0, 1) := by decide +kernel
theorem d_Shelf_letters_85 : decode prog_1_method_2_code 85 = .ok (.getfield 78, 3) := by decide +kernel
theorem d_Shelf_letters_88 : decode prog_1_method_2_code 88 = .ok (.ireturn, 1) := by decide +kernel
theorem d_Shelf_lettersIn_0 : decode prog_1_method_23_code 0 = .ok (.iconst 0, 1) := by decide +kernel
theorem d_Shelf_lettersIn_1 : decode prog_1_method_23_code 1 = .ok (.istore_n 2, 1) := by decide +kernel
theorem d_Shelf_lettersIn_2 : decode prog_1_method_23_code 2 = .ok (.iload_n 2, 1) := by decide +kernel
theorem d_Shelf_lettersIn_3 : decode prog_1_method_23_code 3 = .ok (.bipush 8, 2) := by decide +kernel
theorem d_Shelf_lettersIn_5 : decode prog_1_method_23_code 5 = .ok (.if_icmp .ge 35, 3) := by decide +kernel
theorem d_Shelf_lettersIn_8 : decode prog_1_method_23_code 8 = .ok (.lload_n 0, 1) := by decide +kernel
theorem d_Shelf_lettersIn_9 : decode prog_1_method_23_code 9 = .ok (.iload_n 2, 1) := by decide +kernel
theorem d_Shelf_lettersIn_10 : decode prog_1_method_23_code 10 = .ok (.invokestatic 86, 3) := by decide +kernel
theorem d_Shelf_lettersIn_13 : decode prog_1_method_23_code 13 = .ok (.istore_n 3, 1) := by decide +kernel
theorem d_Shelf_lettersIn_14 : decode prog_1_method_23_code 14 = .ok (.iload_n 3, 1) := by decide +kernel
theorem d_Shelf_lettersIn_15 : decode prog_1_method_23_code 15 = .ok (.ifCond .ne 5, 3) := by decide +kernel
theorem d_Shelf_lettersIn_18 : decode prog_1_method_23_code 18 = .ok (.iload_n 2, 1) := by decide +kernel
theorem d_Shelf_lettersIn_19 : decode prog_1_method_23_code 19 = .ok (.ireturn, 1) := by decide +kernel
theorem d_Shelf_lettersIn_20 : decode prog_1_method_23_code 20 = .ok (.iload_n 3, 1) := by decide +kernel
theorem d_Shelf_lettersIn_21 : decode prog_1_method_23_code 21 = .ok (.bipush 32, 2) := by decide +kernel
theorem d_Shelf_lettersIn_23 : decode prog_1_method_23_code 23 = .ok (.if_icmp .lt 9, 3) := by decide +kernel
theorem d_Shelf_lettersIn_26 : decode prog_1_method_23_code 26 = .ok (.iload_n 3, 1) := by decide +kernel
theorem d_Shelf_lettersIn_27 : decode prog_1_method_23_code 27 = .ok (.bipush 126, 2) := by decide +kernel
theorem d_Shelf_lettersIn_29 : decode prog_1_method_23_code 29 = .ok (.if_icmp .le 5, 3) := by decide +kernel
theorem d_Shelf_lettersIn_32 : decode prog_1_method_23_code 32 = .ok (.iconst 0, 1) := by decide +kernel
theorem d_Shelf_lettersIn_33 : decode prog_1_method_23_code 33 = .ok (.ireturn, 1) := by decide +kernel
theorem d_Shelf_lettersIn_34 : decode prog_1_method_23_code 34 = .ok (.iinc 2 1, 3) := by decide +kernel
theorem d_Shelf_lettersIn_37 : decode prog_1_method_23_code 37 = .ok (.goto (-35), 3) := by decide +kernel
theorem d_Shelf_lettersIn_40 : decode prog_1_method_23_code 40 = .ok (.bipush 8, 2) := by decide +kernel
theorem d_Shelf_lettersIn_42 : decode prog_1_method_23_code 42 = .ok (.ireturn, 1) := by decide +kernel
theorem d_Shelf_octet_0 : decode prog_1_method_24_code 0 = .ok (.lload_n 0, 1) := by decide +kernel
theorem d_Shelf_octet_1 : decode prog_1_method_24_code 1 = .ok (.bipush 8, 2) := by decide +kernel
theorem d_Shelf_octet_3 : decode prog_1_method_24_code 3 = .ok (.iload_n 2, 1) := by decide +kernel
theorem d_Shelf_octet_4 : decode prog_1_method_24_code 4 = .ok (.imul, 1) := by decide +kernel
theorem d_Shelf_octet_5 : decode prog_1_method_24_code 5 = .ok (.lushr, 1) := by decide +kernel
theorem d_Shelf_octet_6 : decode prog_1_method_24_code 6 = .ok (.l2i, 1) := by decide +kernel
theorem d_Shelf_octet_7 : decode prog_1_method_24_code 7 = .ok (.sipush 255, 3) := by decide +kernel
theorem d_Shelf_octet_10 : decode prog_1_method_24_code 10 = .ok (.iand, 1) := by decide +kernel
theorem d_Shelf_octet_11 : decode prog_1_method_24_code 11 = .ok (.ireturn, 1) := by decide +kernel
theorem d_Shelf_set_0 : decode prog_1_method_4_code 0 = .ok (.iload_n 1, 1) := by decide +kernel
theorem d_Shelf_set_1 : decode prog_1_method_4_code 1 = .ok (.invokestatic 90, 3) := by decide +kernel
theorem d_Shelf_set_4 : decode prog_1_method_4_code 4 = .ok (.ifCond .ne 13, 3) := by decide +kernel
theorem d_Shelf_set_7 : decode prog_1_method_4_code 7 = .ok (.new 71, 3) := by decide +kernel
theorem d_Shelf_set_10 : decode prog_1_method_4_code 10 = .ok (.dup, 1) := by decide +kernel
theorem d_Shelf_set_11 : decode prog_1_method_4_code 11 = .ok (.ldc 94, 2) := by decide +kernel
theorem d_Shelf_set_13 : decode prog_1_method_4_code 13 = .ok (.invokespecial 75, 3) := by decide +kernel
theorem d_Shelf_set_16 : decode prog_1_method_4_code 16 = .ok (.athrow, 1) := by decide +kernel
theorem d_Shelf_set_17 : decode prog_1_method_4_code 17 = .ok (.aload_n 0, 1) := by decide +kernel
theorem d_Shelf_set_18 : decode prog_1_method_4_code 18 = .ok (.getfield 78, 3) := by decide +kernel
theorem d_Shelf_set_21 : decode prog_1_method_4_code 21 = .ok (.bipush 48, 2) := by decide +kernel
theorem d_Shelf_set_23 : decode prog_1_method_4_code 23 = .ok (.if_icmp .le 13, 3) := by decide +kernel
theorem d_Shelf_set_26 : decode prog_1_method_4_code 26 = .ok (.new 81, 3) := by decide +kernel
theorem d_Shelf_set_29 : decode prog_1_method_4_code 29 = .ok (.dup, 1) := by decide +kernel
theorem d_Shelf_set_30 : decode prog_1_method_4_code 30 = .ok (.ldc 96, 2) := by decide +kernel
theorem d_Shelf_set_32 : decode prog_1_method_4_code 32 = .ok (.invokespecial 85, 3) := by decide +kernel
theorem d_Shelf_set_35 : decode prog_1_method_4_code 35 = .ok (.athrow, 1) := by decide +kernel
theorem d_Shelf_set_36 : decode prog_1_method_4_code 36 = .ok (.new 13, 3) := by decide +kernel
theorem d_Shelf_set_39 : decode prog_1_method_4_code 39 = .ok (.dup, 1) := by decide +kernel
theorem d_Shelf_set_40 : decode prog_1_method_4_code 40 = .ok (.aload_n 0, 1) := by decide +kernel
theorem d_Shelf_set_41 : decode prog_1_method_4_code 41 = .ok (.getfield 78, 3) := by decide +kernel
theorem d_Shelf_set_44 : decode prog_1_method_4_code 44 = .ok (.invokespecial 54, 3) := by decide +kernel
theorem d_Shelf_set_47 : decode prog_1_method_4_code 47 = .ok (.astore_n 2, 1) := by decide +kernel
theorem d_Shelf_set_48 : decode prog_1_method_4_code 48 = .ok (.aload_n 2, 1) := by decide +kernel
theorem d_Shelf_set_49 : decode prog_1_method_4_code 49 = .ok (.aload_n 0, 1) := by decide +kernel
theorem d_Shelf_set_50 : decode prog_1_method_4_code 50 = .ok (.getfield 9, 3) := by decide +kernel
theorem d_Shelf_set_53 : decode prog_1_method_4_code 53 = .ok (.iconst 0, 1) := by decide +kernel
theorem d_Shelf_set_54 : decode prog_1_method_4_code 54 = .ok (.aload_n 0, 1) := by decide +kernel
theorem d_Shelf_set_55 : decode prog_1_method_4_code 55 = .ok (.getfield 78, 3) := by decide +kernel
theorem d_Shelf_set_58 : decode prog_1_method_4_code 58 = .ok (.invokevirtual 98, 3) := by decide +kernel
theorem d_Shelf_set_61 : decode prog_1_method_4_code 61 = .ok (.aload_n 0, 1) := by decide +kernel
theorem d_Shelf_set_62 : decode prog_1_method_4_code 62 = .ok (.getfield 15, 3) := by decide +kernel
theorem d_Shelf_set_65 : decode prog_1_method_4_code 65 = .ok (.iload_n 1, 1) := by decide +kernel
theorem d_Shelf_set_66 : decode prog_1_method_4_code 66 = .ok (.aload_n 2, 1) := by decide +kernel
theorem d_Shelf_set_67 : decode prog_1_method_4_code 67 = .ok (.aastore, 1) := by decide +kernel
theorem d_Shelf_set_68 : decode prog_1_method_4_code 68 = .ok (.aload_n 0, 1) := by decide +kernel
theorem d_Shelf_set_69 : decode prog_1_method_4_code 69 = .ok (.iconst 0, 1) := by decide +kernel
theorem d_Shelf_set_70 : decode prog_1_method_4_code 70 = .ok (.putfield 78, 3) := by decide +kernel
theorem d_Shelf_set_73 : decode prog_1_method_4_code 73 = .ok (.aload_n 2, 1) := by decide +kernel
theorem d_Shelf_set_74 : decode prog_1_method_4_code 74 = .ok (.getfield 102, 3) := by decide +kernel
theorem d_Shelf_set_77 : decode prog_1_method_4_code 77 = .ok (.ireturn, 1) := by decide +kernel
theorem d_Shelf_isColumn_0 : decode prog_1_method_25_code 0 = .ok (.iload_n 0, 1) := by decide +kernel
theorem d_Shelf_isColumn_1 : decode prog_1_method_25_code 1 = .ok (.ifCond .lt 12, 3) := by decide +kernel
theorem d_Shelf_isColumn_4 : decode prog_1_method_25_code 4 = .ok (.iload_n 0, 1) := by decide +kernel
theorem d_Shelf_isColumn_5 : decode prog_1_method_25_code 5 = .ok (.iconst 2, 1) := by decide +kernel
theorem d_Shelf_isColumn_6 : decode prog_1_method_25_code 6 = .ok (.if_icmp .ge 7, 3) := by decide +kernel
theorem d_Shelf_isColumn_9 : decode prog_1_method_25_code 9 = .ok (.iconst 1, 1) := by decide +kernel
theorem d_Shelf_isColumn_10 : decode prog_1_method_25_code 10 = .ok (.goto 4, 3) := by decide +kernel
theorem d_Shelf_isColumn_13 : decode prog_1_method_25_code 13 = .ok (.iconst 0, 1) := by decide +kernel
theorem d_Shelf_isColumn_14 : decode prog_1_method_25_code 14 = .ok (.ireturn, 1) := by decide +kernel
theorem d_Tokens_gather_0 : decode prog_10_method_2_code 0 = .ok (.iconst 0, 1) := by decide +kernel
theorem d_Tokens_gather_1 : decode prog_10_method_2_code 1 = .ok (.istore 4, 2) := by decide +kernel
theorem d_Tokens_gather_3 : decode prog_10_method_2_code 3 = .ok (.iload_n 2, 1) := by decide +kernel
theorem d_Tokens_gather_4 : decode prog_10_method_2_code 4 = .ok (.istore 5, 2) := by decide +kernel
theorem d_Tokens_gather_6 : decode prog_10_method_2_code 6 = .ok (.iload 5, 2) := by decide +kernel
theorem d_Tokens_gather_8 : decode prog_10_method_2_code 8 = .ok (.iload_n 3, 1) := by decide +kernel
theorem d_Tokens_gather_9 : decode prog_10_method_2_code 9 = .ok (.if_icmp .ge 89, 3) := by decide +kernel
theorem d_Tokens_gather_12 : decode prog_10_method_2_code 12 = .ok (.aload_n 1, 1) := by decide +kernel
theorem d_Tokens_gather_13 : decode prog_10_method_2_code 13 = .ok (.iload 5, 2) := by decide +kernel
theorem d_Tokens_gather_15 : decode prog_10_method_2_code 15 = .ok (.caload, 1) := by decide +kernel
theorem d_Tokens_gather_16 : decode prog_10_method_2_code 16 = .ok (.invokestatic 17, 3) := by decide +kernel
theorem d_Tokens_gather_19 : decode prog_10_method_2_code 19 = .ok (.istore 6, 2) := by decide +kernel
theorem d_Tokens_gather_21 : decode prog_10_method_2_code 21 = .ok (.iload 6, 2) := by decide +kernel
theorem d_Tokens_gather_23 : decode prog_10_method_2_code 23 = .ok (.ifCond .eq 65, 3) := by decide +kernel
theorem d_Tokens_gather_26 : decode prog_10_method_2_code 26 = .ok (.iload 4, 2) := by decide +kernel
theorem d_Tokens_gather_28 : decode prog_10_method_2_code 28 = .ok (.ifCond .ne 17, 3) := by decide +kernel
theorem d_Tokens_gather_31 : decode prog_10_method_2_code 31 = .ok (.aload_n 0, 1) := by decide +kernel
theorem d_Tokens_gather_32 : decode prog_10_method_2_code 32 = .ok (.getfield 23, 3) := by decide +kernel
theorem d_Tokens_gather_35 : decode prog_10_method_2_code 35 = .ok (.iconst 1, 1) := by decide +kernel
theorem d_Tokens_gather_36 : decode prog_10_method_2_code 36 = .ok (.iadd, 1) := by decide +kernel
theorem d_Tokens_gather_37 : decode prog_10_method_2_code 37 = .ok (.aload_n 0, 1) := by decide +kernel
theorem d_Tokens_gather_38 : decode prog_10_method_2_code 38 = .ok (.getfield 13, 3) := by decide +kernel
theorem d_Tokens_gather_41 : decode prog_10_method_2_code 41 = .ok (.arraylength, 1) := by decide +kernel
theorem d_Tokens_gather_42 : decode prog_10_method_2_code 42 = .ok (.if_icmp .ge 46, 3) := by decide +kernel
theorem d_Tokens_gather_45 : decode prog_10_method_2_code 45 = .ok (.iload 4, 2) := by decide +kernel
theorem d_Tokens_gather_47 : decode prog_10_method_2_code 47 = .ok (.ifCond .ne 33, 3) := by decide +kernel
theorem d_Tokens_gather_50 : decode prog_10_method_2_code 50 = .ok (.aload_n 0, 1) := by decide +kernel
theorem d_Tokens_gather_51 : decode prog_10_method_2_code 51 = .ok (.dup, 1) := by decide +kernel
theorem d_Tokens_gather_52 : decode prog_10_method_2_code 52 = .ok (.getfield 23, 3) := by decide +kernel
theorem d_Tokens_gather_55 : decode prog_10_method_2_code 55 = .ok (.iconst 1, 1) := by decide +kernel
theorem d_Tokens_gather_56 : decode prog_10_method_2_code 56 = .ok (.iadd, 1) := by decide +kernel
theorem d_Tokens_gather_57 : decode prog_10_method_2_code 57 = .ok (.putfield 23, 3) := by decide +kernel
theorem d_Tokens_gather_60 : decode prog_10_method_2_code 60 = .ok (.aload_n 0, 1) := by decide +kernel
theorem d_Tokens_gather_61 : decode prog_10_method_2_code 61 = .ok (.getfield 13, 3) := by decide +kernel
theorem d_Tokens_gather_64 : decode prog_10_method_2_code 64 = .ok (.aload_n 0, 1) := by decide +kernel
theorem d_Tokens_gather_65 : decode prog_10_method_2_code 65 = .ok (.getfield 23, 3) := by decide +kernel
theorem d_Tokens_gather_68 : decode prog_10_method_2_code 68 = .ok (.aload_n 0, 1) := by decide +kernel
theorem d_Tokens_gather_69 : decode prog_10_method_2_code 69 = .ok (.getfield 13, 3) := by decide +kernel
theorem d_Tokens_gather_72 : decode prog_10_method_2_code 72 = .ok (.aload_n 0, 1) := by decide +kernel
theorem d_Tokens_gather_73 : decode prog_10_method_2_code 73 = .ok (.getfield 23, 3) := by decide +kernel
theorem d_Tokens_gather_76 : decode prog_10_method_2_code 76 = .ok (.iconst 1, 1) := by decide +kernel
theorem d_Tokens_gather_77 : decode prog_10_method_2_code 77 = .ok (.isub, 1) := by decide +kernel
theorem d_Tokens_gather_78 : decode prog_10_method_2_code 78 = .ok (.iaload, 1) := by decide +kernel
theorem d_Tokens_gather_79 : decode prog_10_method_2_code 79 = .ok (.iastore, 1) := by decide +kernel
theorem d_Tokens_gather_80 : decode prog_10_method_2_code 80 = .ok (.aload_n 0, 1) := by decide +kernel
theorem d_Tokens_gather_81 : decode prog_10_method_2_code 81 = .ok (.aload_n 1, 1) := by decide +kernel
theorem d_Tokens_gather_82 : decode prog_10_method_2_code 82 = .ok (.iload 5, 2) := by decide +kernel
theorem d_Tokens_gather_84 : decode prog_10_method_2_code 84 = .ok (.caload, 1) := by decide +kernel
theorem d_Tokens_gather_85 : decode prog_10_method_2_code 85 = .ok (.invokevirtual 27, 3) := by decide +kernel
theorem d_Tokens_gather_88 : decode prog_10_method_2_code 88 = .ok (.iload 6, 2) := by decide +kernel
theorem d_Tokens_gather_90 : decode prog_10_method_2_code 90 = .ok (.istore 4, 2) := by decide +kernel
theorem d_Tokens_gather_92 : decode prog_10_method_2_code 92 = .ok (.iinc 5 1, 3) := by decide +kernel
theorem d_Tokens_gather_95 : decode prog_10_method_2_code 95 = .ok (.goto (-89), 3) := by decide +kernel
theorem d_Tokens_gather_98 : decode prog_10_method_2_code 98 = .ok (.return_, 1) := by decide +kernel
theorem d_Shelf_isWord_0 : decode prog_1_method_26_code 0 = .ok (.iload_n 0, 1) := by decide +kernel
theorem d_Shelf_isWord_1 : decode prog_1_method_26_code 1 = .ok (.bipush 97, 2) := by decide +kernel
theorem d_Shelf_isWord_3 : decode prog_1_method_26_code 3 = .ok (.if_icmp .lt 9, 3) := by decide +kernel
theorem d_Shelf_isWord_6 : decode prog_1_method_26_code 6 = .ok (.iload_n 0, 1) := by decide +kernel
theorem d_Shelf_isWord_7 : decode prog_1_method_26_code 7 = .ok (.bipush 122, 2) := by decide +kernel
theorem d_Shelf_isWord_9 : decode prog_1_method_26_code 9 = .ok (.if_icmp .le 27, 3) := by decide +kernel
theorem d_Shelf_isWord_12 : decode prog_1_method_26_code 12 = .ok (.iload_n 0, 1) := by decide +kernel
theorem d_Shelf_isWord_13 : decode prog_1_method_26_code 13 = .ok (.bipush 65, 2) := by decide +kernel
theorem d_Shelf_isWord_15 : decode prog_1_method_26_code 15 = .ok (.if_icmp .lt 9, 3) := by decide +kernel
theorem d_Shelf_isWord_18 : decode prog_1_method_26_code 18 = .ok (.iload_n 0, 1) := by decide +kernel
theorem d_Shelf_isWord_19 : decode prog_1_method_26_code 19 = .ok (.bipush 90, 2) := by decide +kernel
theorem d_Shelf_isWord_21 : decode prog_1_method_26_code 21 = .ok (.if_icmp .le 15, 3) := by decide +kernel
theorem d_Shelf_isWord_24 : decode prog_1_method_26_code 24 = .ok (.iload_n 0, 1) := by decide +kernel
theorem d_Shelf_isWord_25 : decode prog_1_method_26_code 25 = .ok (.bipush 48, 2) := by decide +kernel
theorem d_Shelf_isWord_27 : decode prog_1_method_26_code 27 = .ok (.if_icmp .lt 13, 3) := by decide +kernel
theorem d_Shelf_isWord_30 : decode prog_1_method_26_code 30 = .ok (.iload_n 0, 1) := by decide +kernel
theorem d_Shelf_isWord_31 : decode prog_1_method_26_code 31 = .ok (.bipush 57, 2) := by decide +kernel
theorem d_Shelf_isWord_33 : decode prog_1_method_26_code 33 = .ok (.if_icmp .gt 7, 3) := by decide +kernel
theorem d_Shelf_isWord_36 : decode prog_1_method_26_code 36 = .ok (.iconst 1, 1) := by decide +kernel
theorem d_Shelf_isWord_37 : decode prog_1_method_26_code 37 = .ok (.goto 4, 3) := by decide +kernel
theorem d_Shelf_isWord_40 : decode prog_1_method_26_code 40 = .ok (.iconst 0, 1) := by decide +kernel
theorem d_Shelf_isWord_41 : decode prog_1_method_26_code 41 = .ok (.ireturn, 1) := by decide +kernel
theorem d_Tokens_addLetter_0 : decode prog_10_method_3_code 0 = .ok (.aload_n 0, 1) := by decide +kernel
theorem d_Tokens_addLetter_1 : decode prog_10_method_3_code 1 = .ok (.getfield 13, 3) := by decide +kernel
theorem d_Tokens_addLetter_4 : decode prog_10_method_3_code 4 = .ok (.aload_n 0, 1) := by decide +kernel
theorem d_Tokens_addLetter_5 : decode prog_10_method_3_code 5 = .ok (.getfield 23, 3) := by decide +kernel
theorem d_Tokens_addLetter_8 : decode prog_10_method_3_code 8 = .ok (.iaload, 1) := by decide +kernel
theorem d_Tokens_addLetter_9 : decode prog_10_method_3_code 9 = .ok (.istore_n 2, 1) := by decide +kernel
theorem d_Tokens_addLetter_10 : decode prog_10_method_3_code 10 = .ok (.iload_n 2, 1) := by decide +kernel
theorem d_Tokens_addLetter_11 : decode prog_10_method_3_code 11 = .ok (.aload_n 0, 1) := by decide +kernel
theorem d_Tokens_addLetter_12 : decode prog_10_method_3_code 12 = .ok (.getfield 7, 3) := by decide +kernel
theorem d_Tokens_addLetter_15 : decode prog_10_method_3_code 15 = .ok (.arraylength, 1) := by decide +kernel
theorem d_Tokens_addLetter_16 : decode prog_10_method_3_code 16 = .ok (.if_icmp .ge 45, 3) := by decide +kernel
theorem d_Tokens_addLetter_19 : decode prog_10_method_3_code 19 = .ok (.aload_n 0, 1) := by decide +kernel
theorem d_Tokens_addLetter_20 : decode prog_10_method_3_code 20 = .ok (.getfield 7, 3) := by decide +kernel
theorem d_Tokens_addLetter_23 : decode prog_10_method_3_code 23 = .ok (.iload_n 2, 1) := by decide +kernel
theorem d_Tokens_addLetter_24 : decode prog_10_method_3_code 24 = .ok (.iload_n 1, 1) := by decide +kernel
theorem d_Tokens_addLetter_25 : decode prog_10_method_3_code 25 = .ok (.bipush 65, 2) := by decide +kernel
theorem d_Tokens_addLetter_27 : decode prog_10_method_3_code 27 = .ok (.if_icmp .lt 20, 3) := by decide +kernel
theorem d_Tokens_addLetter_30 : decode prog_10_method_3_code 30 = .ok (.iload_n 1, 1) := by decide +kernel
theorem d_Tokens_addLetter_31 : decode prog_10_method_3_code 31 = .ok (.bipush 90, 2) := by decide +kernel
theorem d_Tokens_addLetter_33 : decode prog_10_method_3_code 33 = .ok (.if_icmp .gt 14, 3) := by decide +kernel
theorem d_Tokens_addLetter_36 : decode prog_10_method_3_code 36 = .ok (.iload_n 1, 1) := by decide +kernel
theorem d_Tokens_addLetter_37 : decode prog_10_method_3_code 37 = .ok (.bipush 65, 2) := by decide +kernel
theorem d_Tokens_addLetter_39 : decode prog_10_method_3_code 39 = .ok (.isub, 1) := by decide +kernel
theorem d_Tokens_addLetter_40 : decode prog_10_method_3_code 40 = .ok (.bipush 97, 2) := by decide +kernel
theorem d_Tokens_addLetter_42 : decode prog_10_method_3_code 42 = .ok (.iadd, 1) := by decide +kernel
theorem d_Tokens_addLetter_43 : decode prog_10_method_3_code 43 = .ok (.i2c, 1) := by decide +kernel
theorem d_Tokens_addLetter_44 : decode prog_10_method_3_code 44 = .ok (.goto 4, 3) := by decide +kernel
theorem d_Tokens_addLetter_47 : decode prog_10_method_3_code 47 = .ok (.iload_n 1, 1) := by decide +kernel
theorem d_Tokens_addLetter_48 : decode prog_10_method_3_code 48 = .ok (.castore, 1) := by decide +kernel
theorem d_Tokens_addLetter_49 : decode prog_10_method_3_code 49 = .ok (.aload_n 0, 1) := by decide +kernel
theorem d_Tokens_addLetter_50 : decode prog_10_method_3_code 50 = .ok (.getfield 13, 3) := by decide +kernel
theorem d_Tokens_addLetter_53 : decode prog_10_method_3_code 53 = .ok (.aload_n 0, 1) := by decide +kernel
theorem d_Tokens_addLetter_54 : decode prog_10_method_3_code 54 = .ok (.getfield 23, 3) := by decide +kernel
theorem d_Tokens_addLetter_57 : decode prog_10_method_3_code 57 = .ok (.iload_n 2, 1) := by decide +kernel
theorem d_Tokens_addLetter_58 : decode prog_10_method_3_code 58 = .ok (.iconst 1, 1) := by decide +kernel
theorem d_Tokens_addLetter_59 : decode prog_10_method_3_code 59 = .ok (.iadd, 1) := by decide +kernel
theorem d_Tokens_addLetter_60 : decode prog_10_method_3_code 60 = .ok (.iastore, 1) := by decide +kernel
theorem d_Tokens_addLetter_61 : decode prog_10_method_3_code 61 = .ok (.return_, 1) := by decide +kernel
theorem d_Shelf_insert_0 : decode prog_1_method_5_code 0 = .ok (.aload_n 0, 1) := by decide +kernel
theorem d_Shelf_insert_1 : decode prog_1_method_5_code 1 = .ok (.getfield 26, 3) := by decide +kernel
theorem d_Shelf_insert_4 : decode prog_1_method_5_code 4 = .ok (.invokevirtual 105, 3) := by decide +kernel
theorem d_Shelf_insert_7 : decode prog_1_method_5_code 7 = .ok (.istore_n 1, 1) := by decide +kernel
theorem d_Shelf_insert_8 : decode prog_1_method_5_code 8 = .ok (.iload_n 1, 1) := by decide +kernel
theorem d_Shelf_insert_9 : decode prog_1_method_5_code 9 = .ok (.ifCond .ne 13, 3) := by decide +kernel
theorem d_Shelf_insert_12 : decode prog_1_method_5_code 12 = .ok (.new 81, 3) := by decide +kernel
theorem d_Shelf_insert_15 : decode prog_1_method_5_code 15 = .ok (.dup, 1) := by decide +kernel
theorem d_Shelf_insert_16 : decode prog_1_method_5_code 16 = .ok (.ldc 109, 2) := by decide +kernel
theorem d_Shelf_insert_18 : decode prog_1_method_5_code 18 = .ok (.invokespecial 85, 3) := by decide +kernel
theorem d_Shelf_insert_21 : decode prog_1_method_5_code 21 = .ok (.athrow, 1) := by decide +kernel
theorem d_Shelf_insert_22 : decode prog_1_method_5_code 22 = .ok (.aload_n 0, 1) := by decide +kernel
theorem d_Shelf_insert_23 : decode prog_1_method_5_code 23 = .ok (.iload_n 1, 1) := by decide +kernel
theorem d_Shelf_insert_24 : decode prog_1_method_5_code 24 = .ok (.invokevirtual 111, 3) := by decide +kernel
theorem d_Shelf_insert_27 : decode prog_1_method_5_code 27 = .ok (.pop, 1) := by decide +kernel
theorem d_Shelf_insert_28 : decode prog_1_method_5_code 28 = .ok (.iload_n 1, 1) := by decide +kernel
theorem d_Shelf_insert_29 : decode prog_1_method_5_code 29 = .ok (.ireturn, 1) := by decide +kernel
theorem d_Store_freeRow_0 : decode prog_9_method_5_code 0 = .ok (.iconst 1, 1) := by decide +kernel
theorem d_Store_freeRow_1 : decode prog_9_method_5_code 1 = .ok (.istore_n 1, 1) := by decide +kernel
theorem d_Store_freeRow_2 : decode prog_9_method_5_code 2 = .ok (.iload_n 1, 1) := by decide +kernel
theorem d_Store_freeRow_3 : decode prog_9_method_5_code 3 = .ok (.bipush 24, 2) := by decide +kernel
theorem d_Store_freeRow_5 : decode prog_9_method_5_code 5 = .ok (.if_icmp .gt 20, 3) := by decide +kernel
theorem d_Store_freeRow_8 : decode prog_9_method_5_code 8 = .ok (.aload_n 0, 1) := by decide +kernel
theorem d_Store_freeRow_9 : decode prog_9_method_5_code 9 = .ok (.getfield 11, 3) := by decide +kernel
theorem d_Store_freeRow_12 : decode prog_9_method_5_code 12 = .ok (.iload_n 1, 1) := by decide +kernel
theorem d_Store_freeRow_13 : decode prog_9_method_5_code 13 = .ok (.aaload, 1) := by decide +kernel
theorem d_Store_freeRow_14 : decode prog_9_method_5_code 14 = .ok (.ifnonnull 5, 3) := by decide +kernel
theorem d_Store_freeRow_17 : decode prog_9_method_5_code 17 = .ok (.iload_n 1, 1) := by decide +kernel
theorem d_Store_freeRow_18 : decode prog_9_method_5_code 18 = .ok (.ireturn, 1) := by decide +kernel
theorem d_Store_freeRow_19 : decode prog_9_method_5_code 19 = .ok (.iinc 1 1, 3) := by decide +kernel
theorem d_Store_freeRow_22 : decode prog_9_method_5_code 22 = .ok (.goto (-20), 3) := by decide +kernel
theorem d_Store_freeRow_25 : decode prog_9_method_5_code 25 = .ok (.iconst 0, 1) := by decide +kernel
theorem d_Store_freeRow_26 : decode prog_9_method_5_code 26 = .ok (.ireturn, 1) := by decide +kernel
theorem d_Shelf_giveTexts_0 : decode prog_1_method_22_code 0 = .ok (.aload_n 0, 1) := by decide +kernel
theorem d_Shelf_giveTexts_1 : decode prog_1_method_22_code 1 = .ok (.getfield 26, 3) := by decide +kernel
theorem d_Shelf_giveTexts_4 : decode prog_1_method_22_code 4 = .ok (.iload_n 1, 1) := by decide +kernel
theorem d_Shelf_giveTexts_5 : decode prog_1_method_22_code 5 = .ok (.aload_n 0, 1) := by decide +kernel
theorem d_Shelf_giveTexts_6 : decode prog_1_method_22_code 6 = .ok (.getfield 15, 3) := by decide +kernel
theorem d_Shelf_giveTexts_9 : decode prog_1_method_22_code 9 = .ok (.iconst 0, 1) := by decide +kernel
theorem d_Shelf_giveTexts_10 : decode prog_1_method_22_code 10 = .ok (.aaload, 1) := by decide +kernel
theorem d_Shelf_giveTexts_11 : decode prog_1_method_22_code 11 = .ok (.aload_n 0, 1) := by decide +kernel
theorem d_Shelf_giveTexts_12 : decode prog_1_method_22_code 12 = .ok (.getfield 15, 3) := by decide +kernel
theorem d_Shelf_giveTexts_15 : decode prog_1_method_22_code 15 = .ok (.iconst 1, 1) := by decide +kernel
theorem d_Shelf_giveTexts_16 : decode prog_1_method_22_code 16 = .ok (.aaload, 1) := by decide +kernel
theorem d_Shelf_giveTexts_17 : decode prog_1_method_22_code 17 = .ok (.invokevirtual 252, 3) := by decide +kernel
theorem d_Shelf_giveTexts_20 : decode prog_1_method_22_code 20 = .ok (.istore_n 2, 1) := by decide +kernel
theorem d_Shelf_giveTexts_21 : decode prog_1_method_22_code 21 = .ok (.aload_n 0, 1) := by decide +kernel
theorem d_Shelf_giveTexts_22 : decode prog_1_method_22_code 22 = .ok (.getfield 26, 3) := by decide +kernel
theorem d_Shelf_giveTexts_25 : decode prog_1_method_22_code 25 = .ok (.getfield 241, 3) := by decide +kernel
theorem d_Shelf_giveTexts_28 : decode prog_1_method_22_code 28 = .ok (.aload_n 0, 1) := by decide +kernel
theorem d_Shelf_giveTexts_29 : decode prog_1_method_22_code 29 = .ok (.getfield 61, 3) := by decide +kernel
theorem d_Shelf_giveTexts_32 : decode prog_1_method_22_code 32 = .ok (.if_icmp .le 14, 3) := by decide +kernel
theorem d_Shelf_giveTexts_35 : decode prog_1_method_22_code 35 = .ok (.aload_n 0, 1) := by decide +kernel
theorem d_Shelf_giveTexts_36 : decode prog_1_method_22_code 36 = .ok (.getfield 26, 3) := by decide +kernel
theorem d_Shelf_giveTexts_39 : decode prog_1_method_22_code 39 = .ok (.aload_n 0, 1) := by decide +kernel
theorem d_Shelf_giveTexts_40 : decode prog_1_method_22_code 40 = .ok (.getfield 57, 3) := by decide +kernel
theorem d_Shelf_giveTexts_43 : decode prog_1_method_22_code 43 = .ok (.invokevirtual 147, 3) := by decide +kernel
theorem d_Shelf_giveTexts_46 : decode prog_1_method_22_code 46 = .ok (.iload_n 2, 1) := by decide +kernel
theorem d_Shelf_giveTexts_47 : decode prog_1_method_22_code 47 = .ok (.ireturn, 1) := by decide +kernel
theorem d_Store_putVersion_0 : decode prog_9_method_7_code 0 = .ok (.aload_n 0, 1) := by decide +kernel
theorem d_Store_putVersion_1 : decode prog_9_method_7_code 1 = .ok (.dup, 1) := by decide +kernel
theorem d_Store_putVersion_2 : decode prog_9_method_7_code 2 = .ok (.getfield 33, 3) := by decide +kernel
theorem d_Store_putVersion_5 : decode prog_9_method_7_code 5 = .ok (.iconst 1, 1) := by decide +kernel
theorem d_Store_putVersion_6 : decode prog_9_method_7_code 6 = .ok (.iadd, 1) := by decide +kernel
theorem d_Store_putVersion_7 : decode prog_9_method_7_code 7 = .ok (.putfield 33, 3) := by decide +kernel
theorem d_Store_putVersion_10 : decode prog_9_method_7_code 10 = .ok (.aload_n 2, 1) := by decide +kernel
theorem d_Store_putVersion_11 : decode prog_9_method_7_code 11 = .ok (.invokevirtual 37, 3) := by decide +kernel
theorem d_Store_putVersion_14 : decode prog_9_method_7_code 14 = .ok (.aload_n 3, 1) := by decide +kernel
theorem d_Store_putVersion_15 : decode prog_9_method_7_code 15 = .ok (.invokevirtual 37, 3) := by decide +kernel
theorem d_Store_putVersion_18 : decode prog_9_method_7_code 18 = .ok (.iadd, 1) := by decide +kernel
theorem d_Store_putVersion_19 : decode prog_9_method_7_code 19 = .ok (.istore 4, 2) := by decide +kernel
theorem d_Store_putVersion_21 : decode prog_9_method_7_code 21 = .ok (.new 9, 3) := by decide +kernel
theorem d_Store_putVersion_24 : decode prog_9_method_7_code 24 = .ok (.dup, 1) := by decide +kernel
theorem d_Store_putVersion_25 : decode prog_9_method_7_code 25 = .ok (.aload_n 0, 1) := by decide +kernel
theorem d_Store_putVersion_26 : decode prog_9_method_7_code 26 = .ok (.getfield 33, 3) := by decide +kernel
theorem d_Store_putVersion_29 : decode prog_9_method_7_code 29 = .ok (.iload_n 1, 1) := by decide +kernel
theorem d_Store_putVersion_30 : decode prog_9_method_7_code 30 = .ok (.aload_n 2, 1) := by decide +kernel
theorem d_Store_putVersion_31 : decode prog_9_method_7_code 31 = .ok (.aload_n 3, 1) := by decide +kernel
theorem d_Store_putVersion_32 : decode prog_9_method_7_code 32 = .ok (.iload 4, 2) := by decide +kernel
theorem d_Store_putVersion_34 : decode prog_9_method_7_code 34 = .ok (.invokespecial 42, 3) := by decide +kernel
theorem d_Store_putVersion_37 : decode prog_9_method_7_code 37 = .ok (.astore 5, 2) := by decide +kernel
theorem d_Store_putVersion_39 : decode prog_9_method_7_code 39 = .ok (.aload_n 0, 1) := by decide +kernel
theorem d_Store_putVersion_40 : decode prog_9_method_7_code 40 = .ok (.getfield 11, 3) := by decide +kernel
theorem d_Store_putVersion_43 : decode prog_9_method_7_code 43 = .ok (.iload_n 1, 1) := by decide +kernel
theorem d_Store_putVersion_44 : decode prog_9_method_7_code 44 = .ok (.aload 5, 2) := by decide +kernel
theorem d_Store_putVersion_46 : decode prog_9_method_7_code 46 = .ok (.aastore, 1) := by decide +kernel
theorem d_Store_putVersion_47 : decode prog_9_method_7_code 47 = .ok (.iload 4, 2) := by decide +kernel
theorem d_Store_putVersion_49 : decode prog_9_method_7_code 49 = .ok (.ifCond .le 47, 3) := by decide +kernel
theorem d_Store_putVersion_52 : decode prog_9_method_7_code 52 = .ok (.aload_n 0, 1) := by decide +kernel
theorem d_Store_putVersion_53 : decode prog_9_method_7_code 53 = .ok (.getfield 45, 3) := by decide +kernel
theorem d_Store_putVersion_56 : decode prog_9_method_7_code 56 = .ok (.aload_n 0, 1) := by decide +kernel
theorem d_Store_putVersion_57 : decode prog_9_method_7_code 57 = .ok (.getfield 17, 3) := by decide +kernel
theorem d_Store_putVersion_60 : decode prog_9_method_7_code 60 = .ok (.arraylength, 1) := by decide +kernel
theorem d_Store_putVersion_61 : decode prog_9_method_7_code 61 = .ok (.if_icmp .ge 35, 3) := by decide +kernel
theorem d_Store_putVersion_64 : decode prog_9_method_7_code 64 = .ok (.aload_n 0, 1) := by decide +kernel
theorem d_Store_putVersion_65 : decode prog_9_method_7_code 65 = .ok (.getfield 17, 3) := by decide +kernel
theorem d_Store_putVersion_68 : decode prog_9_method_7_code 68 = .ok (.aload_n 0, 1) := by decide +kernel
theorem d_Store_putVersion_69 : decode prog_9_method_7_code 69 = .ok (.getfield 45, 3) := by decide +kernel
theorem d_Store_putVersion_72 : decode prog_9_method_7_code 72 = .ok (.aload 5, 2) := by decide +kernel
theorem d_Store_putVersion_74 : decode prog_9_method_7_code 74 = .ok (.aastore, 1) := by decide +kernel
theorem d_Store_putVersion_75 : decode prog_9_method_7_code 75 = .ok (.aload_n 0, 1) := by decide +kernel
theorem d_Store_putVersion_76 : decode prog_9_method_7_code 76 = .ok (.dup, 1) := by decide +kernel
theorem d_Store_putVersion_77 : decode prog_9_method_7_code 77 = .ok (.getfield 45, 3) := by decide +kernel
theorem d_Store_putVersion_80 : decode prog_9_method_7_code 80 = .ok (.iconst 1, 1) := by decide +kernel
theorem d_Store_putVersion_81 : decode prog_9_method_7_code 81 = .ok (.iadd, 1) := by decide +kernel
theorem d_Store_putVersion_82 : decode prog_9_method_7_code 82 = .ok (.putfield 45, 3) := by decide +kernel
theorem d_Store_putVersion_85 : decode prog_9_method_7_code 85 = .ok (.aload_n 0, 1) := by decide +kernel
theorem d_Store_putVersion_86 : decode prog_9_method_7_code 86 = .ok (.dup, 1) := by decide +kernel
theorem d_Store_putVersion_87 : decode prog_9_method_7_code 87 = .ok (.getfield 48, 3) := by decide +kernel
theorem d_Store_putVersion_90 : decode prog_9_method_7_code 90 = .ok (.iload 4, 2) := by decide +kernel
theorem d_Store_putVersion_92 : decode prog_9_method_7_code 92 = .ok (.iadd, 1) := by decide +kernel
theorem d_Store_putVersion_93 : decode prog_9_method_7_code 93 = .ok (.putfield 48, 3) := by decide +kernel
theorem d_Store_putVersion_96 : decode prog_9_method_7_code 96 = .ok (.iload 4, 2) := by decide +kernel
theorem d_Store_putVersion_98 : decode prog_9_method_7_code 98 = .ok (.ireturn, 1) := by decide +kernel
theorem d_Tokens_different_0 : decode prog_10_method_6_code 0 = .ok (.iconst 0, 1) := by decide +kernel
theorem d_Tokens_different_1 : decode prog_10_method_6_code 1 = .ok (.istore_n 1, 1) := by decide +kernel
theorem d_Tokens_different_2 : decode prog_10_method_6_code 2 = .ok (.iconst 0, 1) := by decide +kernel
theorem d_Tokens_different_3 : decode prog_10_method_6_code 3 = .ok (.istore_n 2, 1) := by decide +kernel
theorem d_Tokens_different_4 : decode prog_10_method_6_code 4 = .ok (.iload_n 2, 1) := by decide +kernel
theorem d_Tokens_different_5 : decode prog_10_method_6_code 5 = .ok (.aload_n 0, 1) := by decide +kernel
theorem d_Tokens_different_6 : decode prog_10_method_6_code 6 = .ok (.getfield 23, 3) := by decide +kernel
theorem d_Tokens_different_9 : decode prog_10_method_6_code 9 = .ok (.if_icmp .ge 20, 3) := by decide +kernel
theorem d_Tokens_different_12 : decode prog_10_method_6_code 12 = .ok (.aload_n 0, 1) := by decide +kernel
theorem d_Tokens_different_13 : decode prog_10_method_6_code 13 = .ok (.iload_n 2, 1) := by decide +kernel
theorem d_Tokens_different_14 : decode prog_10_method_6_code 14 = .ok (.invokevirtual 35, 3) := by decide +kernel
theorem d_Tokens_different_17 : decode prog_10_method_6_code 17 = .ok (.ifCond .ne 6, 3) := by decide +kernel
theorem d_Tokens_different_20 : decode prog_10_method_6_code 20 = .ok (.iinc 1 1, 3) := by decide +kernel
theorem d_Tokens_different_23 : decode prog_10_method_6_code 23 = .ok (.iinc 2 1, 3) := by decide +kernel
theorem d_Tokens_different_26 : decode prog_10_method_6_code 26 = .ok (.goto (-22), 3) := by decide +kernel
theorem d_Tokens_different_29 : decode prog_10_method_6_code 29 = .ok (.iload_n 1, 1) := by decide +kernel
theorem d_Tokens_different_30 : decode prog_10_method_6_code 30 = .ok (.ireturn, 1) := by decide +kernel
theorem d_Tokens_isEarlier_0 : decode prog_10_method_7_code 0 = .ok (.iconst 0, 1) := by decide +kernel
theorem d_Tokens_isEarlier_1 : decode prog_10_method_7_code 1 = .ok (.istore_n 2, 1) := by decide +kernel
theorem d_Tokens_isEarlier_2 : decode prog_10_method_7_code 2 = .ok (.iload_n 2, 1) := by decide +kernel
theorem d_Tokens_isEarlier_3 : decode prog_10_method_7_code 3 = .ok (.iload_n 1, 1) := by decide +kernel
theorem d_Tokens_isEarlier_4 : decode prog_10_method_7_code 4 = .ok (.if_icmp .ge 22, 3) := by decide +kernel
theorem d_Tokens_isEarlier_7 : decode prog_10_method_7_code 7 = .ok (.aload_n 0, 1) := by decide +kernel
theorem d_Tokens_isEarlier_8 : decode prog_10_method_7_code 8 = .ok (.iload_n 1, 1) := by decide +kernel
theorem d_Tokens_isEarlier_9 : decode prog_10_method_7_code 9 = .ok (.aload_n 0, 1) := by decide +kernel
theorem d_Tokens_isEarlier_10 : decode prog_10_method_7_code 10 = .ok (.iload_n 2, 1) := by decide +kernel
theorem d_Tokens_isEarlier_11 : decode prog_10_method_7_code 11 = .ok (.iconst 0, 1) := by decide +kernel
theorem d_Tokens_isEarlier_12 : decode prog_10_method_7_code 12 = .ok (.invokevirtual 39, 3) := by decide +kernel
theorem d_Tokens_isEarlier_15 : decode prog_10_method_7_code 15 = .ok (.ifCond .eq 5, 3) := by decide +kernel
theorem d_Tokens_isEarlier_18 : decode prog_10_method_7_code 18 = .ok (.iconst 1, 1) := by decide +kernel
theorem d_Tokens_isEarlier_19 : decode prog_10_method_7_code 19 = .ok (.ireturn, 1) := by decide +kernel
theorem d_Tokens_isEarlier_20 : decode prog_10_method_7_code 20 = .ok (.iinc 2 1, 3) := by decide +kernel
theorem d_Tokens_isEarlier_23 : decode prog_10_method_7_code 23 = .ok (.goto (-21), 3) := by decide +kernel
theorem d_Tokens_isEarlier_26 : decode prog_10_method_7_code 26 = .ok (.iconst 0, 1) := by decide +kernel
theorem d_Tokens_isEarlier_27 : decode prog_10_method_7_code 27 = .ok (.ireturn, 1) := by decide +kernel
theorem d_Tokens_fits_0 : decode prog_10_method_5_code 0 = .ok (.aload_n 0, 1) := by decide +kernel
theorem d_Tokens_fits_1 : decode prog_10_method_5_code 1 = .ok (.iload_n 1, 1) := by decide +kernel
theorem d_Tokens_fits_2 : decode prog_10_method_5_code 2 = .ok (.invokevirtual 31, 3) := by decide +kernel
theorem d_Tokens_fits_5 : decode prog_10_method_5_code 5 = .ok (.istore 5, 2) := by decide +kernel
theorem d_Tokens_fits_7 : decode prog_10_method_5_code 7 = .ok (.aload_n 2, 1) := by decide +kernel
theorem d_Tokens_fits_8 : decode prog_10_method_5_code 8 = .ok (.iload_n 3, 1) := by decide +kernel
theorem d_Tokens_fits_9 : decode prog_10_method_5_code 9 = .ok (.invokevirtual 31, 3) := by decide +kernel
theorem d_Tokens_fits_12 : decode prog_10_method_5_code 12 = .ok (.istore 6, 2) := by decide +kernel
theorem d_Tokens_fits_14 : decode prog_10_method_5_code 14 = .ok (.iload 5, 2) := by decide +kernel
theorem d_Tokens_fits_16 : decode prog_10_method_5_code 16 = .ok (.iload 6, 2) := by decide +kernel
theorem d_Tokens_fits_18 : decode prog_10_method_5_code 18 = .ok (.if_icmp .gt 15, 3) := by decide +kernel
theorem d_Tokens_fits_21 : decode prog_10_method_5_code 21 = .ok (.iload 5, 2) := by decide +kernel
theorem d_Tokens_fits_23 : decode prog_10_method_5_code 23 = .ok (.iload 6, 2) := by decide +kernel
theorem d_Tokens_fits_25 : decode prog_10_method_5_code 25 = .ok (.if_icmp .ge 10, 3) := by decide +kernel
theorem d_Tokens_fits_28 : decode prog_10_method_5_code 28 = .ok (.iload 4, 2) := by decide +kernel
theorem d_Tokens_fits_30 : decode prog_10_method_5_code 30 = .ok (.ifCond .ne 5, 3) := by decide +kernel
theorem d_Tokens_fits_33 : decode prog_10_method_5_code 33 = .ok (.iconst 0, 1) := by decide +kernel
theorem d_Tokens_fits_34 : decode prog_10_method_5_code 34 = .ok (.ireturn, 1) := by decide +kernel
theorem d_Tokens_fits_35 : decode prog_10_method_5_code 35 = .ok (.iconst 0, 1) := by decide +kernel
theorem d_Tokens_fits_36 : decode prog_10_method_5_code 36 = .ok (.istore 7, 2) := by decide +kernel
theorem d_Tokens_fits_38 : decode prog_10_method_5_code 38 = .ok (.iload 7, 2) := by decide +kernel
theorem d_Tokens_fits_40 : decode prog_10_method_5_code 40 = .ok (.iload 5, 2) := by decide +kernel
theorem d_Tokens_fits_42 : decode prog_10_method_5_code 42 = .ok (.if_icmp .ge 42, 3) := by decide +kernel
theorem d_Tokens_fits_45 : decode prog_10_method_5_code 45 = .ok (.aload_n 0, 1) := by decide +kernel
theorem d_Tokens_fits_46 : decode prog_10_method_5_code 46 = .ok (.getfield 7, 3) := by decide +kernel
theorem d_Tokens_fits_49 : decode prog_10_method_5_code 49 = .ok (.aload_n 0, 1) := by decide +kernel
theorem d_Tokens_fits_50 : decode prog_10_method_5_code 50 = .ok (.getfield 13, 3) := by decide +kernel
theorem d_Tokens_fits_53 : decode prog_10_method_5_code 53 = .ok (.iload_n 1, 1) := by decide +kernel
theorem d_Tokens_fits_54 : decode prog_10_method_5_code 54 = .ok (.iaload, 1) := by decide +kernel
theorem d_Tokens_fits_55 : decode prog_10_method_5_code 55 = .ok (.iload 7, 2) := by decide +kernel
theorem d_Tokens_fits_57 : decode prog_10_method_5_code 57 = .ok (.iadd, 1) := by decide +kernel
theorem d_Tokens_fits_58 : decode prog_10_method_5_code 58 = .ok (.caload, 1) := by decide +kernel
theorem d_Tokens_fits_59 : decode prog_10_method_5_code 59 = .ok (.aload_n 2, 1) := by decide +kernel
theorem d_Tokens_fits_60 : decode prog_10_method_5_code 60 = .ok (.getfield 7, 3) := by decide +kernel
theorem d_Tokens_fits_63 : decode prog_10_method_5_code 63 = .ok (.aload_n 2, 1) := by decide +kernel
theorem d_Tokens_fits_64 : decode prog_10_method_5_code 64 = .ok (.getfield 13, 3) := by decide +kernel
theorem d_Tokens_fits_67 : decode prog_10_method_5_code 67 = .ok (.iload_n 3, 1) := by decide +kernel
theorem d_Tokens_fits_68 : decode prog_10_method_5_code 68 = .ok (.iaload, 1) := by decide +kernel
theorem d_Tokens_fits_69 : decode prog_10_method_5_code 69 = .ok (.iload 7, 2) := by decide +kernel
theorem d_Tokens_fits_71 : decode prog_10_method_5_code 71 = .ok (.iadd, 1) := by decide +kernel
theorem d_Tokens_fits_72 : decode prog_10_method_5_code 72 = .ok (.caload, 1) := by decide +kernel
theorem d_Tokens_fits_73 : decode prog_10_method_5_code 73 = .ok (.if_icmp .eq 5, 3) := by decide +kernel
theorem d_Tokens_fits_76 : decode prog_10_method_5_code 76 = .ok (.iconst 0, 1) := by decide +kernel
theorem d_Tokens_fits_77 : decode prog_10_method_5_code 77 = .ok (.ireturn, 1) := by decide +kernel
theorem d_Tokens_fits_78 : decode prog_10_method_5_code 78 = .ok (.iinc 7 1, 3) := by decide +kernel
theorem d_Tokens_fits_81 : decode prog_10_method_5_code 81 = .ok (.goto (-43), 3) := by decide +kernel
theorem d_Tokens_fits_84 : decode prog_10_method_5_code 84 = .ok (.iconst 1, 1) := by decide +kernel
theorem d_Tokens_fits_85 : decode prog_10_method_5_code 85 = .ok (.ireturn, 1) := by decide +kernel
theorem d_Tokens_lengthOf_0 : decode prog_10_method_4_code 0 = .ok (.aload_n 0, 1) := by decide +kernel
theorem d_Tokens_lengthOf_1 : decode prog_10_method_4_code 1 = .ok (.getfield 13, 3) := by decide +kernel
theorem d_Tokens_lengthOf_4 : decode prog_10_method_4_code 4 = .ok (.iload_n 1, 1) := by decide +kernel
theorem d_Tokens_lengthOf_5 : decode prog_10_method_4_code 5 = .ok (.iconst 1, 1) := by decide +kernel
theorem d_Tokens_lengthOf_6 : decode prog_10_method_4_code 6 = .ok (.iadd, 1) := by decide +kernel
theorem d_Tokens_lengthOf_7 : decode prog_10_method_4_code 7 = .ok (.iaload, 1) := by decide +kernel
theorem d_Tokens_lengthOf_8 : decode prog_10_method_4_code 8 = .ok (.aload_n 0, 1) := by decide +kernel
theorem d_Tokens_lengthOf_9 : decode prog_10_method_4_code 9 = .ok (.getfield 13, 3) := by decide +kernel
theorem d_Tokens_lengthOf_12 : decode prog_10_method_4_code 12 = .ok (.iload_n 1, 1) := by decide +kernel
theorem d_Tokens_lengthOf_13 : decode prog_10_method_4_code 13 = .ok (.iaload, 1) := by decide +kernel
theorem d_Tokens_lengthOf_14 : decode prog_10_method_4_code 14 = .ok (.isub, 1) := by decide +kernel
theorem d_Tokens_lengthOf_15 : decode prog_10_method_4_code 15 = .ok (.ireturn, 1) := by decide +kernel
theorem d_Version_init_0 : decode prog_11_method_1_code 0 = .ok (.aload_n 0, 1) := by decide +kernel
theorem d_Version_init_1 : decode prog_11_method_1_code 1 = .ok (.invokespecial 1, 3) := by decide +kernel
theorem d_Version_init_4 : decode prog_11_method_1_code 4 = .ok (.aload_n 0, 1) := by decide +kernel
theorem d_Version_init_5 : decode prog_11_method_1_code 5 = .ok (.iload_n 1, 1) := by decide +kernel
theorem d_Version_init_6 : decode prog_11_method_1_code 6 = .ok (.putfield 7, 3) := by decide +kernel
theorem d_Version_init_9 : decode prog_11_method_1_code 9 = .ok (.aload_n 0, 1) := by decide +kernel
theorem d_Version_init_10 : decode prog_11_method_1_code 10 = .ok (.iload_n 2, 1) := by decide +kernel
theorem d_Version_init_11 : decode prog_11_method_1_code 11 = .ok (.putfield 13, 3) := by decide +kernel
theorem d_Version_init_14 : decode prog_11_method_1_code 14 = .ok (.aload_n 0, 1) := by decide +kernel
theorem d_Version_init_15 : decode prog_11_method_1_code 15 = .ok (.aload_n 3, 1) := by decide +kernel
theorem d_Version_init_16 : decode prog_11_method_1_code 16 = .ok (.putfield 16, 3) := by decide +kernel
theorem d_Version_init_19 : decode prog_11_method_1_code 19 = .ok (.aload_n 0, 1) := by decide +kernel
theorem d_Version_init_20 : decode prog_11_method_1_code 20 = .ok (.aload 4, 2) := by decide +kernel
theorem d_Version_init_22 : decode prog_11_method_1_code 22 = .ok (.putfield 20, 3) := by decide +kernel
theorem d_Version_init_25 : decode prog_11_method_1_code 25 = .ok (.aload_n 0, 1) := by decide +kernel
theorem d_Version_init_26 : decode prog_11_method_1_code 26 = .ok (.iload 5, 2) := by decide +kernel
theorem d_Version_init_28 : decode prog_11_method_1_code 28 = .ok (.putfield 23, 3) := by decide +kernel
theorem d_Version_init_31 : decode prog_11_method_1_code 31 = .ok (.return_, 1) := by decide +kernel
theorem d_Shelf_replace_0 : decode prog_1_method_6_code 0 = .ok (.aload_n 0, 1) := by decide +kernel
theorem d_Shelf_replace_1 : decode prog_1_method_6_code 1 = .ok (.getfield 26, 3) := by decide +kernel
theorem d_Shelf_replace_4 : decode prog_1_method_6_code 4 = .ok (.iload_n 1, 1) := by decide +kernel
theorem d_Shelf_replace_5 : decode prog_1_method_6_code 5 = .ok (.invokevirtual 115, 3) := by decide +kernel
theorem d_Shelf_replace_8 : decode prog_1_method_6_code 8 = .ok (.ifnonnull 13, 3) := by decide +kernel
theorem d_Shelf_replace_11 : decode prog_1_method_6_code 11 = .ok (.new 119, 3) := by decide +kernel
theorem d_Shelf_replace_14 : decode prog_1_method_6_code 14 = .ok (.dup, 1) := by decide +kernel
theorem d_Shelf_replace_15 : decode prog_1_method_6_code 15 = .ok (.ldc 121, 2) := by decide +kernel
theorem d_Shelf_replace_17 : decode prog_1_method_6_code 17 = .ok (.invokespecial 123, 3) := by decide +kernel
theorem d_Shelf_replace_20 : decode prog_1_method_6_code 20 = .ok (.athrow, 1) := by decide +kernel
theorem d_Shelf_replace_21 : decode prog_1_method_6_code 21 = .ok (.aload_n 0, 1) := by decide +kernel
theorem d_Shelf_replace_22 : decode prog_1_method_6_code 22 = .ok (.iload_n 1, 1) := by decide +kernel
theorem d_Shelf_replace_23 : decode prog_1_method_6_code 23 = .ok (.invokevirtual 111, 3) := by decide +kernel
theorem d_Shelf_replace_26 : decode prog_1_method_6_code 26 = .ok (.ireturn, 1) := by decide +kernel
theorem d_Store_versionOf_0 : decode prog_9_method_2_code 0 = .ok (.iload_n 1, 1) := by decide +kernel
theorem d_Store_versionOf_1 : decode prog_9_method_2_code 1 = .ok (.iconst 1, 1) := by decide +kernel
theorem d_Store_versionOf_2 : decode prog_9_method_2_code 2 = .ok (.if_icmp .lt 18, 3) := by decide +kernel
theorem d_Store_versionOf_5 : decode prog_9_method_2_code 5 = .ok (.iload_n 1, 1) := by decide +kernel
theorem d_Store_versionOf_6 : decode prog_9_method_2_code 6 = .ok (.bipush 24, 2) := by decide +kernel
theorem d_Store_versionOf_8 : decode prog_9_method_2_code 8 = .ok (.if_icmp .gt 12, 3) := by decide +kernel
theorem d_Store_versionOf_11 : decode prog_9_method_2_code 11 = .ok (.aload_n 0, 1) := by decide +kernel
theorem d_Store_versionOf_12 : decode prog_9_method_2_code 12 = .ok (.getfield 11, 3) := by decide +kernel
theorem d_Store_versionOf_15 : decode prog_9_method_2_code 15 = .ok (.iload_n 1, 1) := by decide +kernel
theorem d_Store_versionOf_16 : decode prog_9_method_2_code 16 = .ok (.aaload, 1) := by decide +kernel
theorem d_Store_versionOf_17 : decode prog_9_method_2_code 17 = .ok (.goto 4, 3) := by decide +kernel
theorem d_Store_versionOf_20 : decode prog_9_method_2_code 20 = .ok (.aconst_null, 1) := by decide +kernel
theorem d_Store_versionOf_21 : decode prog_9_method_2_code 21 = .ok (.areturn, 1) := by decide +kernel
theorem d_Shelf_delete_0 : decode prog_1_method_7_code 0 = .ok (.aload_n 0, 1) := by decide +kernel
theorem d_Shelf_delete_1 : decode prog_1_method_7_code 1 = .ok (.getfield 26, 3) := by decide +kernel
theorem d_Shelf_delete_4 : decode prog_1_method_7_code 4 = .ok (.iload_n 1, 1) := by decide +kernel
theorem d_Shelf_delete_5 : decode prog_1_method_7_code 5 = .ok (.invokevirtual 115, 3) := by decide +kernel
theorem d_Shelf_delete_8 : decode prog_1_method_7_code 8 = .ok (.astore_n 2, 1) := by decide +kernel
theorem d_Shelf_delete_9 : decode prog_1_method_7_code 9 = .ok (.aload_n 2, 1) := by decide +kernel
theorem d_Shelf_delete_10 : decode prog_1_method_7_code 10 = .ok (.ifnonnull 13, 3) := by decide +kernel
theorem d_Shelf_delete_13 : decode prog_1_method_7_code 13 = .ok (.new 119, 3) := by decide +kernel
theorem d_Shelf_delete_16 : decode prog_1_method_7_code 16 = .ok (.dup, 1) := by decide +kernel
theorem d_Shelf_delete_17 : decode prog_1_method_7_code 17 = .ok (.ldc 121, 2) := by decide +kernel
theorem d_Shelf_delete_19 : decode prog_1_method_7_code 19 = .ok (.invokespecial 123, 3) := by decide +kernel
theorem d_Shelf_delete_22 : decode prog_1_method_7_code 22 = .ok (.athrow, 1) := by decide +kernel
theorem d_Shelf_delete_23 : decode prog_1_method_7_code 23 = .ok (.aload_n 0, 1) := by decide +kernel
theorem d_Shelf_delete_24 : decode prog_1_method_7_code 24 = .ok (.getfield 26, 3) := by decide +kernel
theorem d_Shelf_delete_27 : decode prog_1_method_7_code 27 = .ok (.iload_n 1, 1) := by decide +kernel
theorem d_Shelf_delete_28 : decode prog_1_method_7_code 28 = .ok (.invokevirtual 124, 3) := by decide +kernel
theorem d_Shelf_delete_31 : decode prog_1_method_7_code 31 = .ok (.aload_n 2, 1) := by decide +kernel
theorem d_Shelf_delete_32 : decode prog_1_method_7_code 32 = .ok (.invokevirtual 127, 3) := by decide +kernel
theorem d_Shelf_delete_35 : decode prog_1_method_7_code 35 = .ok (.ireturn, 1) := by decide +kernel
theorem d_Store_clearRow_0 : decode prog_9_method_6_code 0 = .ok (.iload_n 1, 1) := by decide +kernel
theorem d_Store_clearRow_1 : decode prog_9_method_6_code 1 = .ok (.iconst 1, 1) := by decide +kernel
theorem d_Store_clearRow_2 : decode prog_9_method_6_code 2 = .ok (.if_icmp .lt 16, 3) := by decide +kernel
theorem d_Store_clearRow_5 : decode prog_9_method_6_code 5 = .ok (.iload_n 1, 1) := by decide +kernel
theorem d_Store_clearRow_6 : decode prog_9_method_6_code 6 = .ok (.bipush 24, 2) := by decide +kernel
theorem d_Store_clearRow_8 : decode prog_9_method_6_code 8 = .ok (.if_icmp .gt 10, 3) := by decide +kernel
theorem d_Store_clearRow_11 : decode prog_9_method_6_code 11 = .ok (.aload_n 0, 1) := by decide +kernel
theorem d_Store_clearRow_12 : decode prog_9_method_6_code 12 = .ok (.getfield 11, 3) := by decide +kernel
theorem d_Store_clearRow_15 : decode prog_9_method_6_code 15 = .ok (.iload_n 1, 1) := by decide +kernel
theorem d_Store_clearRow_16 : decode prog_9_method_6_code 16 = .ok (.aconst_null, 1) := by decide +kernel
theorem d_Store_clearRow_17 : decode prog_9_method_6_code 17 = .ok (.aastore, 1) := by decide +kernel
theorem d_Store_clearRow_18 : decode prog_9_method_6_code 18 = .ok (.return_, 1) := by decide +kernel
theorem d_Version_tokens_0 : decode prog_11_method_3_code 0 = .ok (.aload_n 0, 1) := by decide +kernel
theorem d_Version_tokens_1 : decode prog_11_method_3_code 1 = .ok (.getfield 16, 3) := by decide +kernel
theorem d_Version_tokens_4 : decode prog_11_method_3_code 4 = .ok (.getfield 26, 3) := by decide +kernel
theorem d_Version_tokens_7 : decode prog_11_method_3_code 7 = .ok (.aload_n 0, 1) := by decide +kernel
theorem d_Version_tokens_8 : decode prog_11_method_3_code 8 = .ok (.getfield 20, 3) := by decide +kernel
theorem d_Version_tokens_11 : decode prog_11_method_3_code 11 = .ok (.getfield 26, 3) := by decide +kernel
theorem d_Version_tokens_14 : decode prog_11_method_3_code 14 = .ok (.iadd, 1) := by decide +kernel
theorem d_Version_tokens_15 : decode prog_11_method_3_code 15 = .ok (.ireturn, 1) := by decide +kernel
theorem d_Shelf_begin_0 : decode prog_1_method_8_code 0 = .ok (.aload_n 0, 1) := by decide +kernel
theorem d_Shelf_begin_1 : decode prog_1_method_8_code 1 = .ok (.getfield 132, 3) := by decide +kernel
theorem d_Shelf_begin_4 : decode prog_1_method_8_code 4 = .ok (.ifCond .eq 13, 3) := by decide +kernel
theorem d_Shelf_begin_7 : decode prog_1_method_8_code 7 = .ok (.new 136, 3) := by decide +kernel
theorem d_Shelf_begin_10 : decode prog_1_method_8_code 10 = .ok (.dup, 1) := by decide +kernel
theorem d_Shelf_begin_11 : decode prog_1_method_8_code 11 = .ok (.ldc 138, 2) := by decide +kernel
theorem d_Shelf_begin_13 : decode prog_1_method_8_code 13 = .ok (.invokespecial 140, 3) := by decide +kernel
theorem d_Shelf_begin_16 : decode prog_1_method_8_code 16 = .ok (.athrow, 1) := by decide +kernel
theorem d_Shelf_begin_17 : decode prog_1_method_8_code 17 = .ok (.aload_n 0, 1) := by decide +kernel
theorem d_Shelf_begin_18 : decode prog_1_method_8_code 18 = .ok (.getfield 30, 3) := by decide +kernel
theorem d_Shelf_begin_21 : decode prog_1_method_8_code 21 = .ok (.aload_n 0, 1) := by decide +kernel
theorem d_Shelf_begin_22 : decode prog_1_method_8_code 22 = .ok (.getfield 26, 3) := by decide +kernel
theorem d_Shelf_begin_25 : decode prog_1_method_8_code 25 = .ok (.invokevirtual 141, 3) := by decide +kernel
theorem d_Shelf_begin_28 : decode prog_1_method_8_code 28 = .ok (.aload_n 0, 1) := by decide +kernel
theorem d_Shelf_begin_29 : decode prog_1_method_8_code 29 = .ok (.iconst 1, 1) := by decide +kernel
theorem d_Shelf_begin_30 : decode prog_1_method_8_code 30 = .ok (.putfield 132, 3) := by decide +kernel
theorem d_Shelf_begin_33 : decode prog_1_method_8_code 33 = .ok (.return_, 1) := by decide +kernel
theorem d_Store_copyFrom_0 : decode prog_9_method_15_code 0 = .ok (.iconst 1, 1) := by decide +kernel
theorem d_Store_copyFrom_1 : decode prog_9_method_15_code 1 = .ok (.istore_n 2, 1) := by decide +kernel
theorem d_Store_copyFrom_2 : decode prog_9_method_15_code 2 = .ok (.iload_n 2, 1) := by decide +kernel
theorem d_Store_copyFrom_3 : decode prog_9_method_15_code 3 = .ok (.bipush 24, 2) := by decide +kernel
theorem d_Store_copyFrom_5 : decode prog_9_method_15_code 5 = .ok (.if_icmp .gt 21, 3) := by decide +kernel
theorem d_Store_copyFrom_8 : decode prog_9_method_15_code 8 = .ok (.aload_n 0, 1) := by decide +kernel
theorem d_Store_copyFrom_9 : decode prog_9_method_15_code 9 = .ok (.getfield 11, 3) := by decide +kernel
theorem d_Store_copyFrom_12 : decode prog_9_method_15_code 12 = .ok (.iload_n 2, 1) := by decide +kernel
theorem d_Store_copyFrom_13 : decode prog_9_method_15_code 13 = .ok (.aload_n 1, 1) := by decide +kernel
theorem d_Store_copyFrom_14 : decode prog_9_method_15_code 14 = .ok (.getfield 11, 3) := by decide +kernel
theorem d_Store_copyFrom_17 : decode prog_9_method_15_code 17 = .ok (.iload_n 2, 1) := by decide +kernel
theorem d_Store_copyFrom_18 : decode prog_9_method_15_code 18 = .ok (.aaload, 1) := by decide +kernel
theorem d_Store_copyFrom_19 : decode prog_9_method_15_code 19 = .ok (.aastore, 1) := by decide +kernel
theorem d_Store_copyFrom_20 : decode prog_9_method_15_code 20 = .ok (.iinc 2 1, 3) := by decide +kernel
theorem d_Store_copyFrom_23 : decode prog_9_method_15_code 23 = .ok (.goto (-21), 3) := by decide +kernel
theorem d_Store_copyFrom_26 : decode prog_9_method_15_code 26 = .ok (.aload_n 0, 1) := by decide +kernel
theorem d_Store_copyFrom_27 : decode prog_9_method_15_code 27 = .ok (.aload_n 1, 1) := by decide +kernel
theorem d_Store_copyFrom_28 : decode prog_9_method_15_code 28 = .ok (.getfield 45, 3) := by decide +kernel
theorem d_Store_copyFrom_31 : decode prog_9_method_15_code 31 = .ok (.putfield 45, 3) := by decide +kernel
theorem d_Store_copyFrom_34 : decode prog_9_method_15_code 34 = .ok (.iconst 0, 1) := by decide +kernel
theorem d_Store_copyFrom_35 : decode prog_9_method_15_code 35 = .ok (.istore_n 2, 1) := by decide +kernel
theorem d_Store_copyFrom_36 : decode prog_9_method_15_code 36 = .ok (.iload_n 2, 1) := by decide +kernel
theorem d_Store_copyFrom_37 : decode prog_9_method_15_code 37 = .ok (.aload_n 0, 1) := by decide +kernel
theorem d_Store_copyFrom_38 : decode prog_9_method_15_code 38 = .ok (.getfield 45, 3) := by decide +kernel
theorem d_Store_copyFrom_41 : decode prog_9_method_15_code 41 = .ok (.if_icmp .ge 21, 3) := by decide +kernel
theorem d_Store_copyFrom_44 : decode prog_9_method_15_code 44 = .ok (.aload_n 0, 1) := by decide +kernel
theorem d_Store_copyFrom_45 : decode prog_9_method_15_code 45 = .ok (.getfield 17, 3) := by decide +kernel
theorem d_Store_copyFrom_48 : decode prog_9_method_15_code 48 = .ok (.iload_n 2, 1) := by decide +kernel
theorem d_Store_copyFrom_49 : decode prog_9_method_15_code 49 = .ok (.aload_n 1, 1) := by decide +kernel
theorem d_Store_copyFrom_50 : decode prog_9_method_15_code 50 = .ok (.getfield 17, 3) := by decide +kernel
theorem d_Store_copyFrom_53 : decode prog_9_method_15_code 53 = .ok (.iload_n 2, 1) := by decide +kernel
theorem d_Store_copyFrom_54 : decode prog_9_method_15_code 54 = .ok (.aaload, 1) := by decide +kernel
theorem d_Store_copyFrom_55 : decode prog_9_method_15_code 55 = .ok (.aastore, 1) := by decide +kernel
theorem d_Store_copyFrom_56 : decode prog_9_method_15_code 56 = .ok (.iinc 2 1, 3) := by decide +kernel
theorem d_Store_copyFrom_59 : decode prog_9_method_15_code 59 = .ok (.goto (-23), 3) := by decide +kernel
theorem d_Store_copyFrom_62 : decode prog_9_method_15_code 62 = .ok (.aload_n 0, 1) := by decide +kernel
theorem d_Store_copyFrom_63 : decode prog_9_method_15_code 63 = .ok (.aload_n 1, 1) := by decide +kernel
theorem d_Store_copyFrom_64 : decode prog_9_method_15_code 64 = .ok (.getfield 48, 3) := by decide +kernel
theorem d_Store_copyFrom_67 : decode prog_9_method_15_code 67 = .ok (.putfield 48, 3) := by decide +kernel
theorem d_Store_copyFrom_70 : decode prog_9_method_15_code 70 = .ok (.aload_n 0, 1) := by decide +kernel
theorem d_Store_copyFrom_71 : decode prog_9_method_15_code 71 = .ok (.aload_n 1, 1) := by decide +kernel
theorem d_Store_copyFrom_72 : decode prog_9_method_15_code 72 = .ok (.getfield 70, 3) := by decide +kernel
theorem d_Store_copyFrom_75 : decode prog_9_method_15_code 75 = .ok (.putfield 70, 3) := by decide +kernel
theorem d_Store_copyFrom_78 : decode prog_9_method_15_code 78 = .ok (.iconst 0, 1) := by decide +kernel
theorem d_Store_copyFrom_79 : decode prog_9_method_15_code 79 = .ok (.istore_n 2, 1) := by decide +kernel
theorem d_Store_copyFrom_80 : decode prog_9_method_15_code 80 = .ok (.iload_n 2, 1) := by decide +kernel
theorem d_Store_copyFrom_81 : decode prog_9_method_15_code 81 = .ok (.aload_n 0, 1) := by decide +kernel
theorem d_Store_copyFrom_82 : decode prog_9_method_15_code 82 = .ok (.getfield 70, 3) := by decide +kernel
theorem d_Store_copyFrom_85 : decode prog_9_method_15_code 85 = .ok (.if_icmp .ge 21, 3) := by decide +kernel
theorem d_Store_copyFrom_88 : decode prog_9_method_15_code 88 = .ok (.aload_n 0, 1) := by decide +kernel
theorem d_Store_copyFrom_89 : decode prog_9_method_15_code 89 = .ok (.getfield 22, 3) := by decide +kernel
theorem d_Store_copyFrom_92 : decode prog_9_method_15_code 92 = .ok (.iload_n 2, 1) := by decide +kernel
theorem d_Store_copyFrom_93 : decode prog_9_method_15_code 93 = .ok (.aload_n 1, 1) := by decide +kernel
theorem d_Store_copyFrom_94 : decode prog_9_method_15_code 94 = .ok (.getfield 22, 3) := by decide +kernel
theorem d_Store_copyFrom_97 : decode prog_9_method_15_code 97 = .ok (.iload_n 2, 1) := by decide +kernel
theorem d_Store_copyFrom_98 : decode prog_9_method_15_code 98 = .ok (.aaload, 1) := by decide +kernel
theorem d_Store_copyFrom_99 : decode prog_9_method_15_code 99 = .ok (.aastore, 1) := by decide +kernel
theorem d_Store_copyFrom_100 : decode prog_9_method_15_code 100 = .ok (.iinc 2 1, 3) := by decide +kernel
theorem d_Store_copyFrom_103 : decode prog_9_method_15_code 103 = .ok (.goto (-23), 3) := by decide +kernel
theorem d_Store_copyFrom_106 : decode prog_9_method_15_code 106 = .ok (.return_, 1) := by decide +kernel
theorem d_Shelf_commit_0 : decode prog_1_method_9_code 0 = .ok (.aload_n 0, 1) := by decide +kernel
theorem d_Shelf_commit_1 : decode prog_1_method_9_code 1 = .ok (.getfield 132, 3) := by decide +kernel
theorem d_Shelf_commit_4 : decode prog_1_method_9_code 4 = .ok (.ifCond .ne 13, 3) := by decide +kernel
theorem d_Shelf_commit_7 : decode prog_1_method_9_code 7 = .ok (.new 136, 3) := by decide +kernel
theorem d_Shelf_commit_10 : decode prog_1_method_9_code 10 = .ok (.dup, 1) := by decide +kernel
theorem d_Shelf_commit_11 : decode prog_1_method_9_code 11 = .ok (.ldc 145, 2) := by decide +kernel
theorem d_Shelf_commit_13 : decode prog_1_method_9_code 13 = .ok (.invokespecial 140, 3) := by decide +kernel
theorem d_Shelf_commit_16 : decode prog_1_method_9_code 16 = .ok (.athrow, 1) := by decide +kernel
theorem d_Shelf_commit_17 : decode prog_1_method_9_code 17 = .ok (.aload_n 0, 1) := by decide +kernel
theorem d_Shelf_commit_18 : decode prog_1_method_9_code 18 = .ok (.iconst 0, 1) := by decide +kernel
theorem d_Shelf_commit_19 : decode prog_1_method_9_code 19 = .ok (.putfield 132, 3) := by decide +kernel
theorem d_Shelf_commit_22 : decode prog_1_method_9_code 22 = .ok (.aload_n 0, 1) := by decide +kernel
theorem d_Shelf_commit_23 : decode prog_1_method_9_code 23 = .ok (.getfield 26, 3) := by decide +kernel
theorem d_Shelf_commit_26 : decode prog_1_method_9_code 26 = .ok (.aload_n 0, 1) := by decide +kernel
theorem d_Shelf_commit_27 : decode prog_1_method_9_code 27 = .ok (.getfield 57, 3) := by decide +kernel
theorem d_Shelf_commit_30 : decode prog_1_method_9_code 30 = .ok (.invokevirtual 147, 3) := by decide +kernel
theorem d_Shelf_commit_33 : decode prog_1_method_9_code 33 = .ok (.aload_n 0, 1) := by decide +kernel
theorem d_Shelf_commit_34 : decode prog_1_method_9_code 34 = .ok (.getfield 26, 3) := by decide +kernel
theorem d_Shelf_commit_37 : decode prog_1_method_9_code 37 = .ok (.getfield 150, 3) := by decide +kernel
theorem d_Shelf_commit_40 : decode prog_1_method_9_code 40 = .ok (.ireturn, 1) := by decide +kernel
theorem d_Shelf_rollback_0 : decode prog_1_method_10_code 0 = .ok (.aload_n 0, 1) := by decide +kernel
theorem d_Shelf_rollback_1 : decode prog_1_method_10_code 1 = .ok (.getfield 132, 3) := by decide +kernel
theorem d_Shelf_rollback_4 : decode prog_1_method_10_code 4 = .ok (.ifCond .ne 13, 3) := by decide +kernel
theorem d_Shelf_rollback_7 : decode prog_1_method_10_code 7 = .ok (.new 136, 3) := by decide +kernel
theorem d_Shelf_rollback_10 : decode prog_1_method_10_code 10 = .ok (.dup, 1) := by decide +kernel
theorem d_Shelf_rollback_11 : decode prog_1_method_10_code 11 = .ok (.ldc 145, 2) := by decide +kernel
theorem d_Shelf_rollback_13 : decode prog_1_method_10_code 13 = .ok (.invokespecial 140, 3) := by decide +kernel
theorem d_Shelf_rollback_16 : decode prog_1_method_10_code 16 = .ok (.athrow, 1) := by decide +kernel
theorem d_Shelf_rollback_17 : decode prog_1_method_10_code 17 = .ok (.aload_n 0, 1) := by decide +kernel
theorem d_Shelf_rollback_18 : decode prog_1_method_10_code 18 = .ok (.iconst 0, 1) := by decide +kernel
theorem d_Shelf_rollback_19 : decode prog_1_method_10_code 19 = .ok (.putfield 132, 3) := by decide +kernel
theorem d_Shelf_rollback_22 : decode prog_1_method_10_code 22 = .ok (.aload_n 0, 1) := by decide +kernel
theorem d_Shelf_rollback_23 : decode prog_1_method_10_code 23 = .ok (.getfield 26, 3) := by decide +kernel
theorem d_Shelf_rollback_26 : decode prog_1_method_10_code 26 = .ok (.aload_n 0, 1) := by decide +kernel
theorem d_Shelf_rollback_27 : decode prog_1_method_10_code 27 = .ok (.getfield 30, 3) := by decide +kernel
theorem d_Shelf_rollback_30 : decode prog_1_method_10_code 30 = .ok (.invokevirtual 141, 3) := by decide +kernel
theorem d_Shelf_rollback_33 : decode prog_1_method_10_code 33 = .ok (.aload_n 0, 1) := by decide +kernel
theorem d_Shelf_rollback_34 : decode prog_1_method_10_code 34 = .ok (.getfield 26, 3) := by decide +kernel
theorem d_Shelf_rollback_37 : decode prog_1_method_10_code 37 = .ok (.invokevirtual 153, 3) := by decide +kernel
theorem d_Shelf_rollback_40 : decode prog_1_method_10_code 40 = .ok (.ireturn, 1) := by decide +kernel
theorem d_Store_rowCount_0 : decode prog_9_method_3_code 0 = .ok (.iconst 0, 1) := by decide +kernel
theorem d_Store_rowCount_1 : decode prog_9_method_3_code 1 = .ok (.istore_n 1, 1) := by decide +kernel
theorem d_Store_rowCount_2 : decode prog_9_method_3_code 2 = .ok (.iconst 1, 1) := by decide +kernel
theorem d_Store_rowCount_3 : decode prog_9_method_3_code 3 = .ok (.istore_n 2, 1) := by decide +kernel
theorem d_Store_rowCount_4 : decode prog_9_method_3_code 4 = .ok (.iload_n 2, 1) := by decide +kernel
theorem d_Store_rowCount_5 : decode prog_9_method_3_code 5 = .ok (.bipush 24, 2) := by decide +kernel
theorem d_Store_rowCount_7 : decode prog_9_method_3_code 7 = .ok (.if_icmp .gt 21, 3) := by decide +kernel
theorem d_Store_rowCount_10 : decode prog_9_method_3_code 10 = .ok (.aload_n 0, 1) := by decide +kernel
theorem d_Store_rowCount_11 : decode prog_9_method_3_code 11 = .ok (.getfield 11, 3) := by decide +kernel
theorem d_Store_rowCount_14 : decode prog_9_method_3_code 14 = .ok (.iload_n 2, 1) := by decide +kernel
theorem d_Store_rowCount_15 : decode prog_9_method_3_code 15 = .ok (.aaload, 1) := by decide +kernel
theorem d_Store_rowCount_16 : decode prog_9_method_3_code 16 = .ok (.ifnull 6, 3) := by decide +kernel
theorem d_Store_rowCount_19 : decode prog_9_method_3_code 19 = .ok (.iinc 1 1, 3) := by decide +kernel
theorem d_Store_rowCount_22 : decode prog_9_method_3_code 22 = .ok (.iinc 2 1, 3) := by decide +kernel
theorem d_Store_rowCount_25 : decode prog_9_method_3_code 25 = .ok (.goto (-21), 3) := by decide +kernel
theorem d_Store_rowCount_28 : decode prog_9_method_3_code 28 = .ok (.iload_n 1, 1) := by decide +kernel
theorem d_Store_rowCount_29 : decode prog_9_method_3_code 29 = .ok (.ireturn, 1) := by decide +kernel
theorem d_Shelf_ways_0 : decode prog_1_method_13_code 0 = .ok (.iload_n 1, 1) := by decide +kernel
theorem d_Shelf_ways_1 : decode prog_1_method_13_code 1 = .ok (.iconst 1, 1) := by decide +kernel
theorem d_Shelf_ways_2 : decode prog_1_method_13_code 2 = .ok (.if_icmp .lt 20, 3) := by decide +kernel
theorem d_Shelf_ways_5 : decode prog_1_method_13_code 5 = .ok (.iload_n 1, 1) := by decide +kernel
theorem d_Shelf_ways_6 : decode prog_1_method_13_code 6 = .ok (.bipush 9, 2) := by decide +kernel
theorem d_Shelf_ways_8 : decode prog_1_method_13_code 8 = .ok (.if_icmp .gt 14, 3) := by decide +kernel
theorem d_Shelf_ways_11 : decode prog_1_method_13_code 11 = .ok (.iload_n 2, 1) := by decide +kernel
theorem d_Shelf_ways_12 : decode prog_1_method_13_code 12 = .ok (.ifCond .lt 10, 3) := by decide +kernel
theorem d_Shelf_ways_15 : decode prog_1_method_13_code 15 = .ok (.iload_n 2, 1) := by decide +kernel
theorem d_Shelf_ways_16 : decode prog_1_method_13_code 16 = .ok (.sipush 200, 3) := by decide +kernel
theorem d_Shelf_ways_19 : decode prog_1_method_13_code 19 = .ok (.if_icmp .le 13, 3) := by decide +kernel
theorem d_Shelf_ways_22 : decode prog_1_method_13_code 22 = .ok (.new 71, 3) := by decide +kernel
theorem d_Shelf_ways_25 : decode prog_1_method_13_code 25 = .ok (.dup, 1) := by decide +kernel
theorem d_Shelf_ways_26 : decode prog_1_method_13_code 26 = .ok (.ldc 159, 2) := by decide +kernel
theorem d_Shelf_ways_28 : decode prog_1_method_13_code 28 = .ok (.invokespecial 75, 3) := by decide +kernel
theorem d_Shelf_ways_31 : decode prog_1_method_13_code 31 = .ok (.athrow, 1) := by decide +kernel
theorem d_Shelf_ways_32 : decode prog_1_method_13_code 32 = .ok (.aload_n 0, 1) := by decide +kernel
theorem d_Shelf_ways_33 : decode prog_1_method_13_code 33 = .ok (.iload_n 1, 1) := by decide +kernel
theorem d_Shelf_ways_34 : decode prog_1_method_13_code 34 = .ok (.putfield 57, 3) := by decide +kernel
theorem d_Shelf_ways_37 : decode prog_1_method_13_code 37 = .ok (.aload_n 0, 1) := by decide +kernel
theorem d_Shelf_ways_38 : decode prog_1_method_13_code 38 = .ok (.iload_n 2, 1) := by decide +kernel
theorem d_Shelf_ways_39 : decode prog_1_method_13_code 39 = .ok (.putfield 61, 3) := by decide +kernel
theorem d_Shelf_ways_42 : decode prog_1_method_13_code 42 = .ok (.return_, 1) := by decide +kernel
theorem d_Shelf_weight_0 : decode prog_1_method_14_code 0 = .ok (.iload_n 1, 1) := by decide +kernel
theorem d_Shelf_weight_1 : decode prog_1_method_14_code 1 = .ok (.invokestatic 90, 3) := by decide +kernel
theorem d_Shelf_weight_4 : decode prog_1_method_14_code 4 = .ok (.ifCond .eq 13, 3) := by decide +kernel
theorem d_Shelf_weight_7 : decode prog_1_method_14_code 7 = .ok (.iload_n 2, 1) := by decide +kernel
theorem d_Shelf_weight_8 : decode prog_1_method_14_code 8 = .ok (.ifCond .lt 9, 3) := by decide +kernel
theorem d_Shelf_weight_11 : decode prog_1_method_14_code 11 = .ok (.iload_n 2, 1) := by decide +kernel
theorem d_Shelf_weight_12 : decode prog_1_method_14_code 12 = .ok (.bipush 9, 2) := by decide +kernel
theorem d_Shelf_weight_14 : decode prog_1_method_14_code 14 = .ok (.if_icmp .le 13, 3) := by decide +kernel
theorem d_Shelf_weight_17 : decode prog_1_method_14_code 17 = .ok (.new 71, 3) := by decide +kernel
theorem d_Shelf_weight_20 : decode prog_1_method_14_code 20 = .ok (.dup, 1) := by decide +kernel
theorem d_Shelf_weight_21 : decode prog_1_method_14_code 21 = .ok (.ldc 161, 2) := by decide +kernel
theorem d_Shelf_weight_23 : decode prog_1_method_14_code 23 = .ok (.invokespecial 75, 3) := by decide +kernel
theorem d_Shelf_weight_26 : decode prog_1_method_14_code 26 = .ok (.athrow, 1) := by decide +kernel
theorem d_Shelf_weight_27 : decode prog_1_method_14_code 27 = .ok (.aload_n 0, 1) := by decide +kernel
theorem d_Shelf_weight_28 : decode prog_1_method_14_code 28 = .ok (.getfield 19, 3) := by decide +kernel
theorem d_Shelf_weight_31 : decode prog_1_method_14_code 31 = .ok (.iload_n 1, 1) := by decide +kernel
theorem d_Shelf_weight_32 : decode prog_1_method_14_code 32 = .ok (.iaload, 1) := by decide +kernel
theorem d_Shelf_weight_33 : decode prog_1_method_14_code 33 = .ok (.istore_n 3, 1) := by decide +kernel
theorem d_Shelf_weight_34 : decode prog_1_method_14_code 34 = .ok (.aload_n 0, 1) := by decide +kernel
theorem d_Shelf_weight_35 : decode prog_1_method_14_code 35 = .ok (.getfield 19, 3) := by decide +kernel
theorem d_Shelf_weight_38 : decode prog_1_method_14_code 38 = .ok (.iload_n 1, 1) := by decide +kernel
theorem d_Shelf_weight_39 : decode prog_1_method_14_code 39 = .ok (.iload_n 2, 1) := by decide +kernel
theorem d_Shelf_weight_40 : decode prog_1_method_14_code 40 = .ok (.iastore, 1) := by decide +kernel
theorem d_Shelf_weight_41 : decode prog_1_method_14_code 41 = .ok (.iload_n 3, 1) := by decide +kernel
theorem d_Shelf_weight_42 : decode prog_1_method_14_code 42 = .ok (.ireturn, 1) := by decide +kernel
theorem d_Shelf_ask_0 : decode prog_1_method_15_code 0 = .ok (.aload_n 0, 1) := by decide +kernel
theorem d_Shelf_ask_1 : decode prog_1_method_15_code 1 = .ok (.getfield 78, 3) := by decide +kernel
theorem d_Shelf_ask_4 : decode prog_1_method_15_code 4 = .ok (.istore_n 1, 1) := by decide +kernel
theorem d_Shelf_ask_5 : decode prog_1_method_15_code 5 = .ok (.aload_n 0, 1) := by decide +kernel
theorem d_Shelf_ask_6 : decode prog_1_method_15_code 6 = .ok (.iconst 0, 1) := by decide +kernel
theorem d_Shelf_ask_7 : decode prog_1_method_15_code 7 = .ok (.putfield 78, 3) := by decide +kernel
theorem d_Shelf_ask_10 : decode prog_1_method_15_code 10 = .ok (.aload_n 0, 1) := by decide +kernel
theorem d_Shelf_ask_11 : decode prog_1_method_15_code 11 = .ok (.getfield 36, 3) := by decide +kernel
theorem d_Shelf_ask_14 : decode prog_1_method_15_code 14 = .ok (.aload_n 0, 1) := by decide +kernel
theorem d_Shelf_ask_15 : decode prog_1_method_15_code 15 = .ok (.getfield 9, 3) := by decide +kernel
theorem d_Shelf_ask_18 : decode prog_1_method_15_code 18 = .ok (.iload_n 1, 1) := by decide +kernel
theorem d_Shelf_ask_19 : decode prog_1_method_15_code 19 = .ok (.invokevirtual 163, 3) := by decide +kernel
theorem d_Shelf_ask_22 : decode prog_1_method_15_code 22 = .ok (.istore_n 2, 1) := by decide +kernel
theorem d_Shelf_ask_23 : decode prog_1_method_15_code 23 = .ok (.aload_n 0, 1) := by decide +kernel
theorem d_Shelf_ask_24 : decode prog_1_method_15_code 24 = .ok (.aload_n 0, 1) := by decide +kernel
theorem d_Shelf_ask_25 : decode prog_1_method_15_code 25 = .ok (.getfield 36, 3) := by decide +kernel
theorem d_Shelf_ask_28 : decode prog_1_method_15_code 28 = .ok (.getfield 167, 3) := by decide +kernel
theorem d_Shelf_ask_31 : decode prog_1_method_15_code 31 = .ok (.putfield 64, 3) := by decide +kernel
theorem d_Shelf_ask_34 : decode prog_1_method_15_code 34 = .ok (.iload_n 2, 1) := by decide +kernel
theorem d_Shelf_ask_35 : decode prog_1_method_15_code 35 = .ok (.ifCond .ne 13, 3) := by decide +kernel
theorem d_Shelf_ask_38 : decode prog_1_method_15_code 38 = .ok (.new 71, 3) := by decide +kernel
theorem d_Shelf_ask_41 : decode prog_1_method_15_code 41 = .ok (.dup, 1) := by decide +kernel
theorem d_Shelf_ask_42 : decode prog_1_method_15_code 42 = .ok (.ldc 168, 2) := by decide +kernel
theorem d_Shelf_ask_44 : decode prog_1_method_15_code 44 = .ok (.invokespecial 75, 3) := by decide +kernel
theorem d_Shelf_ask_47 : decode prog_1_method_15_code 47 = .ok (.athrow, 1) := by decide +kernel
theorem d_Shelf_ask_48 : decode prog_1_method_15_code 48 = .ok (.aload_n 0, 1) := by decide +kernel
theorem d_Shelf_ask_49 : decode prog_1_method_15_code 49 = .ok (.aload_n 0, 1) := by decide +kernel
theorem d_Shelf_ask_50 : decode prog_1_method_15_code 50 = .ok (.getfield 36, 3) := by decide +kernel
theorem d_Shelf_ask_53 : decode prog_1_method_15_code 53 = .ok (.getfield 170, 3) := by decide +kernel
theorem d_Shelf_ask_56 : decode prog_1_method_15_code 56 = .ok (.putfield 173, 3) := by decide +kernel
theorem d_Shelf_ask_59 : decode prog_1_method_15_code 59 = .ok (.aload_n 0, 1) := by decide +kernel
theorem d_Shelf_ask_60 : decode prog_1_method_15_code 60 = .ok (.getfield 43, 3) := by decide +kernel
theorem d_Shelf_ask_63 : decode prog_1_method_15_code 63 = .ok (.aload_n 0, 1) := by decide +kernel
theorem d_Shelf_ask_64 : decode prog_1_method_15_code 64 = .ok (.getfield 36, 3) := by decide +kernel
theorem d_Shelf_ask_67 : decode prog_1_method_15_code 67 = .ok (.aload_n 0, 1) := by decide +kernel
theorem d_Shelf_ask_68 : decode prog_1_method_15_code 68 = .ok (.getfield 26, 3) := by decide +kernel
theorem d_Shelf_ask_71 : decode prog_1_method_15_code 71 = .ok (.invokevirtual 176, 3) := by decide +kernel
theorem d_Shelf_ask_74 : decode prog_1_method_15_code 74 = .ok (.aload_n 0, 1) := by decide +kernel
theorem d_Shelf_ask_75 : decode prog_1_method_15_code 75 = .ok (.getfield 50, 3) := by decide +kernel
theorem d_Shelf_ask_78 : decode prog_1_method_15_code 78 = .ok (.aload_n 0, 1) := by decide +kernel
theorem d_Shelf_ask_79 : decode prog_1_method_15_code 79 = .ok (.getfield 43, 3) := by decide +kernel
theorem d_Shelf_ask_82 : decode prog_1_method_15_code 82 = .ok (.aload_n 0, 1) := by decide +kernel
theorem d_Shelf_ask_83 : decode prog_1_method_15_code 83 = .ok (.getfield 36, 3) := by decide +kernel
theorem d_Shelf_ask_86 : decode prog_1_method_15_code 86 = .ok (.invokevirtual 180, 3) := by decide +kernel
theorem d_Shelf_ask_89 : decode prog_1_method_15_code 89 = .ok (.aload_n 0, 1) := by decide +kernel
theorem d_Shelf_ask_90 : decode prog_1_method_15_code 90 = .ok (.getfield 26, 3) := by decide +kernel
theorem d_Shelf_ask_93 : decode prog_1_method_15_code 93 = .ok (.invokevirtual 184, 3) := by decide +kernel
theorem d_Shelf_ask_96 : decode prog_1_method_15_code 96 = .ok (.aload_n 0, 1) := by decide +kernel
theorem d_Shelf_ask_97 : decode prog_1_method_15_code 97 = .ok (.getfield 50, 3) := by decide +kernel
theorem d_Shelf_ask_100 : decode prog_1_method_15_code 100 = .ok (.aload_n 0, 1) := by decide +kernel
theorem d_Shelf_ask_101 : decode prog_1_method_15_code 101 = .ok (.getfield 43, 3) := by decide +kernel
theorem d_Shelf_ask_104 : decode prog_1_method_15_code 104 = .ok (.aload_n 0, 1) := by decide +kernel
theorem d_Shelf_ask_105 : decode prog_1_method_15_code 105 = .ok (.getfield 173, 3) := by decide +kernel
theorem d_Shelf_ask_108 : decode prog_1_method_15_code 108 = .ok (.aload_n 0, 1) := by decide +kernel
theorem d_Shelf_ask_109 : decode prog_1_method_15_code 109 = .ok (.getfield 19, 3) := by decide +kernel
theorem d_Shelf_ask_112 : decode prog_1_method_15_code 112 = .ok (.aload_n 0, 1) := by decide +kernel
theorem d_Shelf_ask_113 : decode prog_1_method_15_code 113 = .ok (.getfield 26, 3) := by decide +kernel
theorem d_Shelf_ask_116 : decode prog_1_method_15_code 116 = .ok (.invokevirtual 188, 3) := by decide +kernel
theorem d_Shelf_ask_119 : decode prog_1_method_15_code 119 = .ok (.aload_n 0, 1) := by decide +kernel
theorem d_Shelf_ask_120 : decode prog_1_method_15_code 120 = .ok (.getfield 50, 3) := by decide +kernel
theorem d_Shelf_ask_123 : decode prog_1_method_15_code 123 = .ok (.getfield 192, 3) := by decide +kernel
theorem d_Shelf_ask_126 : decode prog_1_method_15_code 126 = .ok (.ireturn, 1) := by decide +kernel
theorem d_Question_read_0 : decode prog_6_method_2_code 0 = .ok (.aload_n 0, 1) := by decide +kernel
theorem d_Question_read_1 : decode prog_6_method_2_code 1 = .ok (.getfield 35, 3) := by decide +kernel
theorem d_Question_read_4 : decode prog_6_method_2_code 4 = .ok (.aload_n 1, 1) := by decide +kernel
theorem d_Question_read_5 : decode prog_6_method_2_code 5 = .ok (.iload_n 2, 1) := by decide +kernel
theorem d_Question_read_6 : decode prog_6_method_2_code 6 = .ok (.invokevirtual 41, 3) := by decide +kernel
theorem d_Question_read_9 : decode prog_6_method_2_code 9 = .ok (.aload_n 0, 1) := by decide +kernel
theorem d_Question_read_10 : decode prog_6_method_2_code 10 = .ok (.aload_n 1, 1) := by decide +kernel
theorem d_Question_read_11 : decode prog_6_method_2_code 11 = .ok (.putfield 45, 3) := by decide +kernel
theorem d_Question_read_14 : decode prog_6_method_2_code 14 = .ok (.aload_n 0, 1) := by decide +kernel
theorem d_Question_read_15 : decode prog_6_method_2_code 15 = .ok (.iconst 0, 1) := by decide +kernel
theorem d_Question_read_16 : decode prog_6_method_2_code 16 = .ok (.putfield 49, 3) := by decide +kernel
theorem d_Question_read_19 : decode prog_6_method_2_code 19 = .ok (.aload_n 0, 1) := by decide +kernel
theorem d_Question_read_20 : decode prog_6_method_2_code 20 = .ok (.getfield 16, 3) := by decide +kernel
theorem d_Question_read_23 : decode prog_6_method_2_code 23 = .ok (.iconst 0, 1) := by decide +kernel
theorem d_Question_read_24 : decode prog_6_method_2_code 24 = .ok (.putfield 53, 3) := by decide +kernel
theorem d_Question_read_27 : decode prog_6_method_2_code 27 = .ok (.aload_n 0, 1) := by decide +kernel
theorem d_Question_read_28 : decode prog_6_method_2_code 28 = .ok (.iconst 0, 1) := by decide +kernel
theorem d_Question_read_29 : decode prog_6_method_2_code 29 = .ok (.putfield 56, 3) := by decide +kernel
theorem d_Question_read_32 : decode prog_6_method_2_code 32 = .ok (.aload_n 0, 1) := by decide +kernel
theorem d_Question_read_33 : decode prog_6_method_2_code 33 = .ok (.iconst 0, 1) := by decide +kernel
theorem d_Question_read_34 : decode prog_6_method_2_code 34 = .ok (.putfield 59, 3) := by decide +kernel
theorem d_Question_read_37 : decode prog_6_method_2_code 37 = .ok (.aload_n 0, 1) := by decide +kernel
theorem d_Question_read_38 : decode prog_6_method_2_code 38 = .ok (.iconst (-1), 1) := by decide +kernel
theorem d_Question_read_39 : decode prog_6_method_2_code 39 = .ok (.putfield 62, 3) := by decide +kernel
theorem d_Question_read_42 : decode prog_6_method_2_code 42 = .ok (.aload_n 0, 1) := by decide +kernel
theorem d_Question_read_43 : decode prog_6_method_2_code 43 = .ok (.iconst 5, 1) := by decide +kernel
theorem d_Question_read_44 : decode prog_6_method_2_code 44 = .ok (.iconst 3, 1) := by decide +kernel
theorem d_Question_read_45 : decode prog_6_method_2_code 45 = .ok (.iconst 0, 1) := by decide +kernel
theorem d_Question_read_46 : decode prog_6_method_2_code 46 = .ok (.invokevirtual 65, 3) := by decide +kernel
theorem d_Question_read_49 : decode prog_6_method_2_code 49 = .ok (.astore_n 3, 1) := by decide +kernel
theorem d_Question_read_50 : decode prog_6_method_2_code 50 = .ok (.aload_n 3, 1) := by decide +kernel
theorem d_Question_read_51 : decode prog_6_method_2_code 51 = .ok (.ifnull 15, 3) := by decide +kernel
theorem d_Question_read_54 : decode prog_6_method_2_code 54 = .ok (.aload_n 0, 1) := by decide +kernel
theorem d_Question_read_55 : decode prog_6_method_2_code 55 = .ok (.invokevirtual 69, 3) := by decide +kernel
theorem d_Question_read_58 : decode prog_6_method_2_code 58 = .ok (.ifCond .eq 8, 3) := by decide +kernel
theorem d_Question_read_61 : decode prog_6_method_2_code 61 = .ok (.aload_n 0, 1) := by decide +kernel
theorem d_Question_read_62 : decode prog_6_method_2_code 62 = .ok (.invokevirtual 73, 3) := by decide +kernel
theorem d_Question_read_65 : decode prog_6_method_2_code 65 = .ok (.astore_n 3, 1) := by decide +kernel
theorem d_Question_read_66 : decode prog_6_method_2_code 66 = .ok (.aload_n 3, 1) := by decide +kernel
theorem d_Question_read_67 : decode prog_6_method_2_code 67 = .ok (.ifnull 7, 3) := by decide +kernel
theorem d_Question_read_70 : decode prog_6_method_2_code 70 = .ok (.iconst 1, 1) := by decide +kernel
theorem d_Question_read_71 : decode prog_6_method_2_code 71 = .ok (.goto 4, 3) := by decide +kernel
theorem d_Question_read_74 : decode prog_6_method_2_code 74 = .ok (.iconst 0, 1) := by decide +kernel
theorem d_Question_read_75 : decode prog_6_method_2_code 75 = .ok (.ireturn, 1) := by decide +kernel
theorem d_Parts_split_0 : decode prog_4_method_2_code 0 = .ok (.aload_n 0, 1) := by decide +kernel
theorem d_Parts_split_1 : decode prog_4_method_2_code 1 = .ok (.aload_n 1, 1) := by decide +kernel
theorem d_Parts_split_2 : decode prog_4_method_2_code 2 = .ok (.putfield 21, 3) := by decide +kernel
theorem d_Parts_split_5 : decode prog_4_method_2_code 5 = .ok (.aload_n 0, 1) := by decide +kernel
theorem d_Parts_split_6 : decode prog_4_method_2_code 6 = .ok (.iload_n 2, 1) := by decide +kernel
theorem d_Parts_split_7 : decode prog_4_method_2_code 7 = .ok (.putfield 25, 3) := by decide +kernel
theorem d_Parts_split_10 : decode prog_4_method_2_code 10 = .ok (.iconst 0, 1) := by decide +kernel
theorem d_Parts_split_11 : decode prog_4_method_2_code 11 = .ok (.istore_n 3, 1) := by decide +kernel
theorem d_Parts_split_12 : decode prog_4_method_2_code 12 = .ok (.iconst 0, 1) := by decide +kernel
theorem d_Parts_split_13 : decode prog_4_method_2_code 13 = .ok (.istore 4, 2) := by decide +kernel
theorem d_Parts_split_15 : decode prog_4_method_2_code 15 = .ok (.iload 4, 2) := by decide +kernel
theorem d_Parts_split_17 : decode prog_4_method_2_code 17 = .ok (.aload_n 0, 1) := by decide +kernel
theorem d_Parts_split_18 : decode prog_4_method_2_code 18 = .ok (.getfield 9, 3) := by decide +kernel
theorem d_Parts_split_21 : decode prog_4_method_2_code 21 = .ok (.arraylength, 1) := by decide +kernel
theorem d_Parts_split_22 : decode prog_4_method_2_code 22 = .ok (.if_icmp .ge 59, 3) := by decide +kernel
theorem d_Parts_split_25 : decode prog_4_method_2_code 25 = .ok (.aload_n 0, 1) := by decide +kernel
theorem d_Parts_split_26 : decode prog_4_method_2_code 26 = .ok (.iload_n 3, 1) := by decide +kernel
theorem d_Parts_split_27 : decode prog_4_method_2_code 27 = .ok (.invokevirtual 29, 3) := by decide +kernel
theorem d_Parts_split_30 : decode prog_4_method_2_code 30 = .ok (.istore_n 3, 1) := by decide +kernel
theorem d_Parts_split_31 : decode prog_4_method_2_code 31 = .ok (.aload_n 0, 1) := by decide +kernel
theorem d_Parts_split_32 : decode prog_4_method_2_code 32 = .ok (.getfield 15, 3) := by decide +kernel
theorem d_Parts_split_35 : decode prog_4_method_2_code 35 = .ok (.iload 4, 2) := by decide +kernel
theorem d_Parts_split_37 : decode prog_4_method_2_code 37 = .ok (.iload_n 3, 1) := by decide +kernel
theorem d_Parts_split_38 : decode prog_4_method_2_code 38 = .ok (.iastore, 1) := by decide +kernel
theorem d_Parts_split_39 : decode prog_4_method_2_code 39 = .ok (.aload_n 0, 1) := by decide +kernel
theorem d_Parts_split_40 : decode prog_4_method_2_code 40 = .ok (.iload 4, 2) := by decide +kernel
theorem d_Parts_split_42 : decode prog_4_method_2_code 42 = .ok (.invokevirtual 33, 3) := by decide +kernel
theorem d_Parts_split_45 : decode prog_4_method_2_code 45 = .ok (.aload_n 0, 1) := by decide +kernel
theorem d_Parts_split_46 : decode prog_4_method_2_code 46 = .ok (.getfield 18, 3) := by decide +kernel
theorem d_Parts_split_49 : decode prog_4_method_2_code 49 = .ok (.iload 4, 2) := by decide +kernel
theorem d_Parts_split_51 : decode prog_4_method_2_code 51 = .ok (.iaload, 1) := by decide +kernel
theorem d_Parts_split_52 : decode prog_4_method_2_code 52 = .ok (.istore_n 3, 1) := by decide +kernel
theorem d_Parts_split_53 : decode prog_4_method_2_code 53 = .ok (.aload_n 0, 1) := by decide +kernel
theorem d_Parts_split_54 : decode prog_4_method_2_code 54 = .ok (.getfield 9, 3) := by decide +kernel
theorem d_Parts_split_57 : decode prog_4_method_2_code 57 = .ok (.iload 4, 2) := by decide +kernel
theorem d_Parts_split_59 : decode prog_4_method_2_code 59 = .ok (.iaload, 1) := by decide +kernel
theorem d_Parts_split_60 : decode prog_4_method_2_code 60 = .ok (.ifCond .eq 14, 3) := by decide +kernel
theorem d_Parts_split_63 : decode prog_4_method_2_code 63 = .ok (.aload_n 0, 1) := by decide +kernel
theorem d_Parts_split_64 : decode prog_4_method_2_code 64 = .ok (.getfield 9, 3) := by decide +kernel
theorem d_Parts_split_67 : decode prog_4_method_2_code 67 = .ok (.iload 4, 2) := by decide +kernel
theorem d_Parts_split_69 : decode prog_4_method_2_code 69 = .ok (.iaload, 1) := by decide +kernel
theorem d_Parts_split_70 : decode prog_4_method_2_code 70 = .ok (.iconst 1, 1) := by decide +kernel
theorem d_Parts_split_71 : decode prog_4_method_2_code 71 = .ok (.if_icmp .ne 4, 3) := by decide +kernel
theorem d_Parts_split_74 : decode prog_4_method_2_code 74 = .ok (.return_, 1) := by decide +kernel
theorem d_Parts_split_75 : decode prog_4_method_2_code 75 = .ok (.iinc 4 1, 3) := by decide +kernel
theorem d_Parts_split_78 : decode prog_4_method_2_code 78 = .ok (.goto (-63), 3) := by decide +kernel
theorem d_Parts_split_81 : decode prog_4_method_2_code 81 = .ok (.return_, 1) := by decide +kernel
theorem d_Parts_blanksEnd_0 : decode prog_4_method_3_code 0 = .ok (.iload_n 1, 1) := by decide +kernel
theorem d_Parts_blanksEnd_1 : decode prog_4_method_3_code 1 = .ok (.istore_n 2, 1) := by decide +kernel
theorem d_Parts_blanksEnd_2 : decode prog_4_method_3_code 2 = .ok (.iload_n 2, 1) := by decide +kernel
theorem d_Parts_blanksEnd_3 : decode prog_4_method_3_code 3 = .ok (.aload_n 0, 1) := by decide +kernel
theorem d_Parts_blanksEnd_4 : decode prog_4_method_3_code 4 = .ok (.getfield 25, 3) := by decide +kernel
theorem d_Parts_blanksEnd_7 : decode prog_4_method_3_code 7 = .ok (.if_icmp .ge 20, 3) := by decide +kernel
theorem d_Parts_blanksEnd_10 : decode prog_4_method_3_code 10 = .ok (.aload_n 0, 1) := by decide +kernel
theorem d_Parts_blanksEnd_11 : decode prog_4_method_3_code 11 = .ok (.getfield 21, 3) := by decide +kernel
theorem d_Parts_blanksEnd_14 : decode prog_4_method_3_code 14 = .ok (.iload_n 2, 1) := by decide +kernel
theorem d_Parts_blanksEnd_15 : decode prog_4_method_3_code 15 = .ok (.caload, 1) := by decide +kernel
theorem d_Parts_blanksEnd_16 : decode prog_4_method_3_code 16 = .ok (.bipush 32, 2) := by decide +kernel
theorem d_Parts_blanksEnd_18 : decode prog_4_method_3_code 18 = .ok (.if_icmp .ne 9, 3) := by decide +kernel
theorem d_Parts_blanksEnd_21 : decode prog_4_method_3_code 21 = .ok (.iinc 2 1, 3) := by decide +kernel
theorem d_Parts_blanksEnd_24 : decode prog_4_method_3_code 24 = .ok (.goto (-22), 3) := by decide +kernel
theorem d_Parts_blanksEnd_27 : decode prog_4_method_3_code 27 = .ok (.iload_n 2, 1) := by decide +kernel
theorem d_Parts_blanksEnd_28 : decode prog_4_method_3_code 28 = .ok (.ireturn, 1) := by decide +kernel
theorem d_Parts_readPart_0 : decode prog_4_method_4_code 0 = .ok (.aload_n 0, 1) := by decide +kernel
theorem d_Parts_readPart_1 : decode prog_4_method_4_code 1 = .ok (.getfield 15, 3) := by decide +kernel
theorem d_Parts_readPart_4 : decode prog_4_method_4_code 4 = .ok (.iload_n 1, 1) := by decide +kernel
theorem d_Parts_readPart_5 : decode prog_4_method_4_code 5 = .ok (.iaload, 1) := by decide +kernel
theorem d_Parts_readPart_6 : decode prog_4_method_4_code 6 = .ok (.istore_n 2, 1) := by decide +kernel
theorem d_Parts_readPart_7 : decode prog_4_method_4_code 7 = .ok (.iload_n 2, 1) := by decide +kernel
theorem d_Parts_readPart_8 : decode prog_4_method_4_code 8 = .ok (.aload_n 0, 1) := by decide +kernel
theorem d_Parts_readPart_9 : decode prog_4_method_4_code 9 = .ok (.getfield 25, 3) := by decide +kernel
theorem d_Parts_readPart_12 : decode prog_4_method_4_code 12 = .ok (.if_icmp .lt 20, 3) := by decide +kernel
theorem d_Parts_readPart_15 : decode prog_4_method_4_code 15 = .ok (.aload_n 0, 1) := by decide +kernel
theorem d_Parts_readPart_16 : decode prog_4_method_4_code 16 = .ok (.getfield 9, 3) := by decide +kernel
theorem d_Parts_readPart_19 : decode prog_4_method_4_code 19 = .ok (.iload_n 1, 1) := by decide +kernel
theorem d_Parts_readPart_20 : decode prog_4_method_4_code 20 = .ok (.iconst 0, 1) := by decide +kernel
theorem d_Parts_readPart_21 : decode prog_4_method_4_code 21 = .ok (.iastore, 1) := by decide +kernel
theorem d_Parts_readPart_22 : decode prog_4_method_4_code 22 = .ok (.aload_n 0, 1) := by decide +kernel
theorem d_Parts_readPart_23 : decode prog_4_method_4_code 23 = .ok (.getfield 18, 3) := by decide +kernel
theorem d_Parts_readPart_26 : decode prog_4_method_4_code 26 = .ok (.iload_n 1, 1) := by decide +kernel
theorem d_Parts_readPart_27 : decode prog_4_method_4_code 27 = .ok (.iload_n 2, 1) := by decide +kernel
theorem d_Parts_readPart_28 : decode prog_4_method_4_code 28 = .ok (.iastore, 1) := by decide +kernel
theorem d_Parts_readPart_29 : decode prog_4_method_4_code 29 = .ok (.goto 131, 3) := by decide +kernel
theorem d_Parts_readPart_32 : decode prog_4_method_4_code 32 = .ok (.aload_n 0, 1) := by decide +kernel
theorem d_Parts_readPart_33 : decode prog_4_method_4_code 33 = .ok (.getfield 21, 3) := by decide +kernel
theorem d_Parts_readPart_36 : decode prog_4_method_4_code 36 = .ok (.iload_n 2, 1) := by decide +kernel
theorem d_Parts_readPart_37 : decode prog_4_method_4_code 37 = .ok (.caload, 1) := by decide +kernel
theorem d_Parts_readPart_38 : decode prog_4_method_4_code 38 = .ok (.invokestatic 37, 3) := by decide +kernel
theorem d_Parts_readPart_41 : decode prog_4_method_4_code 41 = .ok (.ifCond .eq 34, 3) := by decide +kernel
theorem d_Parts_readPart_44 : decode prog_4_method_4_code 44 = .ok (.aload_n 0, 1) := by decide +kernel
theorem d_Parts_readPart_45 : decode prog_4_method_4_code 45 = .ok (.getfield 18, 3) := by decide +kernel
theorem d_Parts_readPart_48 : decode prog_4_method_4_code 48 = .ok (.iload_n 1, 1) := by decide +kernel
theorem d_Parts_readPart_49 : decode prog_4_method_4_code 49 = .ok (.aload_n 0, 1) := by decide +kernel
theorem d_Parts_readPart_50 : decode prog_4_method_4_code 50 = .ok (.iload_n 2, 1) := by decide +kernel
theorem d_Parts_readPart_51 : decode prog_4_method_4_code 51 = .ok (.invokevirtual 41, 3) := by decide +kernel
theorem d_Parts_readPart_54 : decode prog_4_method_4_code 54 = .ok (.iastore, 1) := by decide +kernel
theorem d_Parts_readPart_55 : decode prog_4_method_4_code 55 = .ok (.aload_n 0, 1) := by decide +kernel
theorem d_Parts_readPart_56 : decode prog_4_method_4_code 56 = .ok (.getfield 9, 3) := by decide +kernel
theorem d_Parts_readPart_59 : decode prog_4_method_4_code 59 = .ok (.iload_n 1, 1) := by decide +kernel
theorem d_Parts_readPart_60 : decode prog_4_method_4_code 60 = .ok (.aload_n 0, 1) := by decide +kernel
theorem d_Parts_readPart_61 : decode prog_4_method_4_code 61 = .ok (.iload_n 2, 1) := by decide +kernel
theorem d_Parts_readPart_62 : decode prog_4_method_4_code 62 = .ok (.aload_n 0, 1) := by decide +kernel
theorem d_Parts_readPart_63 : decode prog_4_method_4_code 63 = .ok (.getfield 18, 3) := by decide +kernel
theorem d_Parts_readPart_66 : decode prog_4_method_4_code 66 = .ok (.iload_n 1, 1) := by decide +kernel
theorem d_Parts_readPart_67 : decode prog_4_method_4_code 67 = .ok (.iaload, 1) := by decide +kernel
theorem d_Parts_readPart_68 : decode prog_4_method_4_code 68 = .ok (.invokevirtual 44, 3) := by decide +kernel
theorem d_Parts_readPart_71 : decode prog_4_method_4_code 71 = .ok (.iastore, 1) := by decide +kernel
theorem d_Parts_readPart_72 : decode prog_4_method_4_code 72 = .ok (.goto 88, 3) := by decide +kernel
theorem d_Parts_readPart_75 : decode prog_4_method_4_code 75 = .ok (.aload_n 0, 1) := by decide +kernel
theorem d_Parts_readPart_76 : decode prog_4_method_4_code 76 = .ok (.getfield 21, 3) := by decide +kernel
theorem d_Parts_readPart_79 : decode prog_4_method_4_code 79 = .ok (.iload_n 2, 1) := by decide +kernel
theorem d_Parts_readPart_80 : decode prog_4_method_4_code 80 = .ok (.caload, 1) := by decide +kernel
theorem d_Parts_readPart_81 : decode prog_4_method_4_code 81 = .ok (.bipush 34, 2) := by decide +kernel
theorem d_Parts_readPart_83 : decode prog_4_method_4_code 83 = .ok (.if_icmp .ne 38, 3) := by decide +kernel
theorem d_Parts_readPart_86 : decode prog_4_method_4_code 86 = .ok (.aload_n 0, 1) := by decide +kernel
theorem d_Parts_readPart_87 : decode prog_4_method_4_code 87 = .ok (.getfield 18, 3) := by decide +kernel
theorem d_Parts_readPart_90 : decode prog_4_method_4_code 90 = .ok (.iload_n 1, 1) := by decide +kernel
theorem d_Parts_readPart_91 : decode prog_4_method_4_code 91 = .ok (.aload_n 0, 1) := by decide +kernel
theorem d_Parts_readPart_92 : decode prog_4_method_4_code 92 = .ok (.iload_n 2, 1) := by decide +kernel
theorem d_Parts_readPart_93 : decode prog_4_method_4_code 93 = .ok (.invokevirtual 48, 3) := by decide +kernel
theorem d_Parts_readPart_96 : decode prog_4_method_4_code 96 = .ok (.iastore, 1) := by decide +kernel
theorem d_Parts_readPart_97 : decode prog_4_method_4_code 97 = .ok (.aload_n 0, 1) := by decide +kernel
theorem d_Parts_readPart_98 : decode prog_4_method_4_code 98 = .ok (.getfield 9, 3) := by decide +kernel
theorem d_Parts_readPart_101 : decode prog_4_method_4_code 101 = .ok (.iload_n 1, 1) := by decide +kernel
theorem d_Parts_readPart_102 : decode prog_4_method_4_code 102 = .ok (.aload_n 0, 1) := by decide +kernel
theorem d_Parts_readPart_103 : decode prog_4_method_4_code 103 = .ok (.getfield 18, 3) := by decide +kernel
theorem d_Parts_readPart_106 : decode prog_4_method_4_code 106 = .ok (.iload_n 1, 1) := by decide +kernel
theorem d_Parts_readPart_107 : decode prog_4_method_4_code 107 = .ok (.iaload, 1) := by decide +kernel
theorem d_Parts_readPart_108 : decode prog_4_method_4_code 108 = .ok (.iload_n 2, 1) := by decide +kernel
theorem d_Parts_readPart_109 : decode prog_4_method_4_code 109 = .ok (.if_icmp .le 7, 3) := by decide +kernel
theorem d_Parts_readPart_112 : decode prog_4_method_4_code 112 = .ok (.iconst 4, 1) := by decide +kernel
theorem d_Parts_readPart_113 : decode prog_4_method_4_code 113 = .ok (.goto 4, 3) := by decide +kernel
theorem d_Parts_readPart_116 : decode prog_4_method_4_code 116 = .ok (.iconst 1, 1) := by decide +kernel
theorem d_Parts_readPart_117 : decode prog_4_method_4_code 117 = .ok (.iastore, 1) := by decide +kernel
theorem d_Parts_readPart_118 : decode prog_4_method_4_code 118 = .ok (.goto 42, 3) := by decide +kernel
theorem d_Parts_readPart_121 : decode prog_4_method_4_code 121 = .ok (.ldc 51, 2) := by decide +kernel
theorem d_Parts_readPart_123 : decode prog_4_method_4_code 123 = .ok (.aload_n 0, 1) := by decide +kernel
theorem d_Parts_readPart_124 : decode prog_4_method_4_code 124 = .ok (.getfield 21, 3) := by decide +kernel
theorem d_Parts_readPart_127 : decode prog_4_method_4_code 127 = .ok (.iload_n 2, 1) := by decide +kernel
theorem d_Parts_readPart_128 : decode prog_4_method_4_code 128 = .ok (.caload, 1) := by decide +kernel
theorem d_Parts_readPart_129 : decode prog_4_method_4_code 129 = .ok (.invokevirtual 53, 3) := by decide +kernel
theorem d_Parts_readPart_132 : decode prog_4_method_4_code 132 = .ok (.istore_n 3, 1) := by decide +kernel
theorem d_Parts_readPart_133 : decode prog_4_method_4_code 133 = .ok (.aload_n 0, 1) := by decide +kernel
theorem d_Parts_readPart_134 : decode prog_4_method_4_code 134 = .ok (.getfield 9, 3) := by decide +kernel
theorem d_Parts_readPart_137 : decode prog_4_method_4_code 137 = .ok (.iload_n 1, 1) := by decide +kernel
theorem d_Parts_readPart_138 : decode prog_4_method_4_code 138 = .ok (.iload_n 3, 1) := by decide +kernel
theorem d_Parts_readPart_139 : decode prog_4_method_4_code 139 = .ok (.ifCond .lt 10, 3) := by decide +kernel
theorem d_Parts_readPart_142 : decode prog_4_method_4_code 142 = .ok (.bipush 9, 2) := by decide +kernel
theorem d_Parts_readPart_144 : decode prog_4_method_4_code 144 = .ok (.iload_n 3, 1) := by decide +kernel
theorem d_Parts_readPart_145 : decode prog_4_method_4_code 145 = .ok (.iadd, 1) := by decide +kernel
theorem d_Parts_readPart_146 : decode prog_4_method_4_code 146 = .ok (.goto 4, 3) := by decide +kernel
theorem d_Parts_readPart_149 : decode prog_4_method_4_code 149 = .ok (.iconst 1, 1) := by decide +kernel
theorem d_Parts_readPart_150 : decode prog_4_method_4_code 150 = .ok (.iastore, 1) := by decide +kernel
theorem d_Parts_readPart_151 : decode prog_4_method_4_code 151 = .ok (.aload_n 0, 1) := by decide +kernel
theorem d_Parts_readPart_152 : decode prog_4_method_4_code 152 = .ok (.getfield 18, 3) := by decide +kernel
theorem d_Parts_readPart_155 : decode prog_4_method_4_code 155 = .ok (.iload_n 1, 1) := by decide +kernel
theorem d_Parts_readPart_156 : decode prog_4_method_4_code 156 = .ok (.iload_n 2, 1) := by decide +kernel
theorem d_Parts_readPart_157 : decode prog_4_method_4_code 157 = .ok (.iconst 1, 1) := by decide +kernel
theorem d_Parts_readPart_158 : decode prog_4_method_4_code 158 = .ok (.iadd, 1) := by decide +kernel
theorem d_Parts_readPart_159 : decode prog_4_method_4_code 159 = .ok (.iastore, 1) := by decide +kernel
theorem d_Parts_readPart_160 : decode prog_4_method_4_code 160 = .ok (.return_, 1) := by decide +kernel
theorem d_Parts_wordEnd_0 : decode prog_4_method_5_code 0 = .ok (.iload_n 1, 1) := by decide +kernel
theorem d_Parts_wordEnd_1 : decode prog_4_method_5_code 1 = .ok (.istore_n 2, 1) := by decide +kernel
theorem d_Parts_wordEnd_2 : decode prog_4_method_5_code 2 = .ok (.iload_n 2, 1) := by decide +kernel
theorem d_Parts_wordEnd_3 : decode prog_4_method_5_code 3 = .ok (.aload_n 0, 1) := by decide +kernel
theorem d_Parts_wordEnd_4 : decode prog_4_method_5_code 4 = .ok (.getfield 25, 3) := by decide +kernel
theorem d_Parts_wordEnd_7 : decode prog_4_method_5_code 7 = .ok (.if_icmp .ge 21, 3) := by decide +kernel
theorem d_Parts_wordEnd_10 : decode prog_4_method_5_code 10 = .ok (.aload_n 0, 1) := by decide +kernel
theorem d_Parts_wordEnd_11 : decode prog_4_method_5_code 11 = .ok (.getfield 21, 3) := by decide +kernel
theorem d_Parts_wordEnd_14 : decode prog_4_method_5_code 14 = .ok (.iload_n 2, 1) := by decide +kernel
theorem d_Parts_wordEnd_15 : decode prog_4_method_5_code 15 = .ok (.caload, 1) := by decide +kernel
theorem d_Parts_wordEnd_16 : decode prog_4_method_5_code 16 = .ok (.invokestatic 37, 3) := by decide +kernel
theorem d_Parts_wordEnd_19 : decode prog_4_method_5_code 19 = .ok (.ifCond .eq 9, 3) := by decide +kernel
theorem d_Parts_wordEnd_22 : decode prog_4_method_5_code 22 = .ok (.iinc 2 1, 3) := by decide +kernel
theorem d_Parts_wordEnd_25 : decode prog_4_method_5_code 25 = .ok (.goto (-23), 3) := by decide +kernel
theorem d_Parts_wordEnd_28 : decode prog_4_method_5_code 28 = .ok (.iload_n 2, 1) := by decide +kernel
theorem d_Parts_wordEnd_29 : decode prog_4_method_5_code 29 = .ok (.ireturn, 1) := by decide +kernel
theorem d_Parts_wordKind_0 : decode prog_4_method_7_code 0 = .ok (.aload_n 0, 1) := by decide +kernel
theorem d_Parts_wordKind_1 : decode prog_4_method_7_code 1 = .ok (.iload_n 1, 1) := by decide +kernel
theorem d_Parts_wordKind_2 : decode prog_4_method_7_code 2 = .ok (.iload_n 2, 1) := by decide +kernel
theorem d_Parts_wordKind_3 : decode prog_4_method_7_code 3 = .ok (.ldc 58, 2) := by decide +kernel
theorem d_Parts_wordKind_5 : decode prog_4_method_7_code 5 = .ok (.invokevirtual 60, 3) := by decide +kernel
theorem d_Parts_wordKind_8 : decode prog_4_method_7_code 8 = .ok (.ifCond .eq 5, 3) := by decide +kernel
theorem d_Parts_wordKind_11 : decode prog_4_method_7_code 11 = .ok (.iconst 5, 1) := by decide +kernel
theorem d_Parts_wordKind_12 : decode prog_4_method_7_code 12 = .ok (.ireturn, 1) := by decide +kernel
theorem d_Parts_wordKind_13 : decode prog_4_method_7_code 13 = .ok (.aload_n 0, 1) := by decide +kernel
theorem d_Parts_wordKind_14 : decode prog_4_method_7_code 14 = .ok (.iload_n 1, 1) := by decide +kernel
theorem d_Parts_wordKind_15 : decode prog_4_method_7_code 15 = .ok (.iload_n 2, 1) := by decide +kernel
theorem d_Parts_wordKind_16 : decode prog_4_method_7_code 16 = .ok (.ldc 64, 2) := by decide +kernel
theorem d_Parts_wordKind_18 : decode prog_4_method_7_code 18 = .ok (.invokevirtual 60, 3) := by decide +kernel
theorem d_Parts_wordKind_21 : decode prog_4_method_7_code 21 = .ok (.ifCond .eq 6, 3) := by decide +kernel
theorem d_Parts_wordKind_24 : decode prog_4_method_7_code 24 = .ok (.bipush 6, 2) := by decide +kernel
theorem d_Parts_wordKind_26 : decode prog_4_method_7_code 26 = .ok (.ireturn, 1) := by decide +kernel
theorem d_Parts_wordKind_27 : decode prog_4_method_7_code 27 = .ok (.aload_n 0, 1) := by decide +kernel
theorem d_Parts_wordKind_28 : decode prog_4_method_7_code 28 = .ok (.iload_n 1, 1) := by decide +kernel
theorem d_Parts_wordKind_29 : decode prog_4_method_7_code 29 = .ok (.iload_n 2, 1) := by decide +kernel
theorem d_Parts_wordKind_30 : decode prog_4_method_7_code 30 = .ok (.ldc 66, 2) := by decide +kernel
theorem d_Parts_wordKind_32 : decode prog_4_method_7_code 32 = .ok (.invokevirtual 60, 3) := by decide +kernel
theorem d_Parts_wordKind_35 : decode prog_4_method_7_code 35 = .ok (.ifCond .eq 6, 3) := by decide +kernel
theorem d_Parts_wordKind_38 : decode prog_4_method_7_code 38 = .ok (.bipush 7, 2) := by decide +kernel
theorem d_Parts_wordKind_40 : decode prog_4_method_7_code 40 = .ok (.ireturn, 1) := by decide +kernel
theorem d_Parts_wordKind_41 : decode prog_4_method_7_code 41 = .ok (.aload_n 0, 1) := by decide +kernel
theorem d_Parts_wordKind_42 : decode prog_4_method_7_code 42 = .ok (.iload_n 1, 1) := by decide +kernel
theorem d_Parts_wordKind_43 : decode prog_4_method_7_code 43 = .ok (.iload_n 2, 1) := by decide +kernel
theorem d_Parts_wordKind_44 : decode prog_4_method_7_code 44 = .ok (.ldc 68, 2) := by decide +kernel
theorem d_Parts_wordKind_46 : decode prog_4_method_7_code 46 = .ok (.invokevirtual 60, 3) := by decide +kernel
theorem d_Parts_wordKind_49 : decode prog_4_method_7_code 49 = .ok (.ifCond .eq 6, 3) := by decide +kernel
theorem d_Parts_wordKind_52 : decode prog_4_method_7_code 52 = .ok (.bipush 8, 2) := by decide +kernel
theorem d_Parts_wordKind_54 : decode prog_4_method_7_code 54 = .ok (.ireturn, 1) := by decide +kernel
theorem d_Parts_wordKind_55 : decode prog_4_method_7_code 55 = .ok (.iload_n 2, 1) := by decide +kernel
theorem d_Parts_wordKind_56 : decode prog_4_method_7_code 56 = .ok (.aload_n 0, 1) := by decide +kernel
theorem d_Parts_wordKind_57 : decode prog_4_method_7_code 57 = .ok (.getfield 25, 3) := by decide +kernel
theorem d_Parts_wordKind_60 : decode prog_4_method_7_code 60 = .ok (.if_icmp .ge 18, 3) := by decide +kernel
theorem d_Parts_wordKind_63 : decode prog_4_method_7_code 63 = .ok (.aload_n 0, 1) := by decide +kernel
theorem d_Parts_wordKind_64 : decode prog_4_method_7_code 64 = .ok (.getfield 21, 3) := by decide +kernel
theorem d_Parts_wordKind_67 : decode prog_4_method_7_code 67 = .ok (.iload_n 2, 1) := by decide +kernel
theorem d_Parts_wordKind_68 : decode prog_4_method_7_code 68 = .ok (.caload, 1) := by decide +kernel
theorem d_Parts_wordKind_69 : decode prog_4_method_7_code 69 = .ok (.bipush 58, 2) := by decide +kernel
theorem d_Parts_wordKind_71 : decode prog_4_method_7_code 71 = .ok (.if_icmp .ne 7, 3) := by decide +kernel
theorem d_Parts_wordKind_74 : decode prog_4_method_7_code 74 = .ok (.iconst 3, 1) := by decide +kernel
theorem d_Parts_wordKind_75 : decode prog_4_method_7_code 75 = .ok (.goto 4, 3) := by decide +kernel
theorem d_Parts_wordKind_78 : decode prog_4_method_7_code 78 = .ok (.iconst 2, 1) := by decide +kernel
theorem d_Parts_wordKind_79 : decode prog_4_method_7_code 79 = .ok (.ireturn, 1) := by decide +kernel
theorem d_Parts_isName_0 : decode prog_4_method_8_code 0 = .ok (.iload_n 2, 1) := by decide +kernel
theorem d_Parts_isName_1 : decode prog_4_method_8_code 1 = .ok (.iload_n 1, 1) := by decide +kernel
theorem d_Parts_isName_2 : decode prog_4_method_8_code 2 = .ok (.isub, 1) := by decide +kernel
theorem d_Parts_isName_3 : decode prog_4_method_8_code 3 = .ok (.aload_n 3, 1) := by decide +kernel
theorem d_Parts_isName_4 : decode prog_4_method_8_code 4 = .ok (.invokevirtual 70, 3) := by decide +kernel
theorem d_Parts_isName_7 : decode prog_4_method_8_code 7 = .ok (.if_icmp .eq 5, 3) := by decide +kernel
theorem d_Parts_isName_10 : decode prog_4_method_8_code 10 = .ok (.iconst 0, 1) := by decide +kernel
theorem d_Parts_isName_11 : decode prog_4_method_8_code 11 = .ok (.ireturn, 1) := by decide +kernel
theorem d_Parts_isName_12 : decode prog_4_method_8_code 12 = .ok (.iconst 0, 1) := by decide +kernel
theorem d_Parts_isName_13 : decode prog_4_method_8_code 13 = .ok (.istore 4, 2) := by decide +kernel
theorem d_Parts_isName_15 : decode prog_4_method_8_code 15 = .ok (.iload 4, 2) := by decide +kernel
theorem d_Parts_isName_17 : decode prog_4_method_8_code 17 = .ok (.aload_n 3, 1) := by decide +kernel
theorem d_Parts_isName_18 : decode prog_4_method_8_code 18 = .ok (.invokevirtual 70, 3) := by decide +kernel
theorem d_Parts_isName_21 : decode prog_4_method_8_code 21 = .ok (.if_icmp .ge 29, 3) := by decide +kernel
theorem d_Parts_isName_24 : decode prog_4_method_8_code 24 = .ok (.aload_n 0, 1) := by decide +kernel
theorem d_Parts_isName_25 : decode prog_4_method_8_code 25 = .ok (.getfield 21, 3) := by decide +kernel
theorem d_Parts_isName_28 : decode prog_4_method_8_code 28 = .ok (.iload_n 1, 1) := by decide +kernel
theorem d_Parts_isName_29 : decode prog_4_method_8_code 29 = .ok (.iload 4, 2) := by decide +kernel
theorem d_Parts_isName_31 : decode prog_4_method_8_code 31 = .ok (.iadd, 1) := by decide +kernel
theorem d_Parts_isName_32 : decode prog_4_method_8_code 32 = .ok (.caload, 1) := by decide +kernel
theorem d_Parts_isName_33 : decode prog_4_method_8_code 33 = .ok (.aload_n 3, 1) := by decide +kernel
theorem d_Parts_isName_34 : decode prog_4_method_8_code 34 = .ok (.iload 4, 2) := by decide +kernel
theorem d_Parts_isName_36 : decode prog_4_method_8_code 36 = .ok (.invokevirtual 73, 3) := by decide +kernel
theorem d_Parts_isName_39 : decode prog_4_method_8_code 39 = .ok (.if_icmp .eq 5, 3) := by decide +kernel
theorem d_Parts_isName_42 : decode prog_4_method_8_code 42 = .ok (.iconst 0, 1) := by decide +kernel
theorem d_Parts_isName_43 : decode prog_4_method_8_code 43 = .ok (.ireturn, 1) := by decide +kernel
theorem d_Parts_isName_44 : decode prog_4_method_8_code 44 = .ok (.iinc 4 1, 3) := by decide +kernel
theorem d_Parts_isName_47 : decode prog_4_method_8_code 47 = .ok (.goto (-32), 3) := by decide +kernel
theorem d_Parts_isName_50 : decode prog_4_method_8_code 50 = .ok (.iconst 1, 1) := by decide +kernel
theorem d_Parts_isName_51 : decode prog_4_method_8_code 51 = .ok (.ireturn, 1) := by decide +kernel
theorem d_Parts_quoteEnd_0 : decode prog_4_method_6_code 0 = .ok (.iload_n 1, 1) := by decide +kernel
theorem d_Parts_quoteEnd_1 : decode prog_4_method_6_code 1 = .ok (.iconst 1, 1) := by decide +kernel
theorem d_Parts_quoteEnd_2 : decode prog_4_method_6_code 2 = .ok (.iadd, 1) := by decide +kernel
theorem d_Parts_quoteEnd_3 : decode prog_4_method_6_code 3 = .ok (.istore_n 2, 1) := by decide +kernel
theorem d_Parts_quoteEnd_4 : decode prog_4_method_6_code 4 = .ok (.iload_n 2, 1) := by decide +kernel
theorem d_Parts_quoteEnd_5 : decode prog_4_method_6_code 5 = .ok (.aload_n 0, 1) := by decide +kernel
theorem d_Parts_quoteEnd_6 : decode prog_4_method_6_code 6 = .ok (.getfield 25, 3) := by decide +kernel
theorem d_Parts_quoteEnd_9 : decode prog_4_method_6_code 9 = .ok (.if_icmp .ge 24, 3) := by decide +kernel
theorem d_Parts_quoteEnd_12 : decode prog_4_method_6_code 12 = .ok (.aload_n 0, 1) := by decide +kernel
theorem d_Parts_quoteEnd_13 : decode prog_4_method_6_code 13 = .ok (.getfield 21, 3) := by decide +kernel
theorem d_Parts_quoteEnd_16 : decode prog_4_method_6_code 16 = .ok (.iload_n 2, 1) := by decide +kernel
theorem d_Parts_quoteEnd_17 : decode prog_4_method_6_code 17 = .ok (.caload, 1) := by decide +kernel
theorem d_Parts_quoteEnd_18 : decode prog_4_method_6_code 18 = .ok (.bipush 34, 2) := by decide +kernel
theorem d_Parts_quoteEnd_20 : decode prog_4_method_6_code 20 = .ok (.if_icmp .ne 7, 3) := by decide +kernel
theorem d_Parts_quoteEnd_23 : decode prog_4_method_6_code 23 = .ok (.iload_n 2, 1) := by decide +kernel
theorem d_Parts_quoteEnd_24 : decode prog_4_method_6_code 24 = .ok (.iconst 1, 1) := by decide +kernel
theorem d_Parts_quoteEnd_25 : decode prog_4_method_6_code 25 = .ok (.iadd, 1) := by decide +kernel
theorem d_Parts_quoteEnd_26 : decode prog_4_method_6_code 26 = .ok (.ireturn, 1) := by decide +kernel
theorem d_Parts_quoteEnd_27 : decode prog_4_method_6_code 27 = .ok (.iinc 2 1, 3) := by decide +kernel
theorem d_Parts_quoteEnd_30 : decode prog_4_method_6_code 30 = .ok (.goto (-26), 3) := by decide +kernel
theorem d_Parts_quoteEnd_33 : decode prog_4_method_6_code 33 = .ok (.iload_n 1, 1) := by decide +kernel
theorem d_Parts_quoteEnd_34 : decode prog_4_method_6_code 34 = .ok (.ireturn, 1) := by decide +kernel
theorem d_Question_joined_0 : decode prog_6_method_6_code 0 = .ok (.aload_n 0, 1) := by decide +kernel
theorem d_Question_joined_1 : decode prog_6_method_6_code 1 = .ok (.iload_n 1, 1) := by decide +kernel
theorem d_Question_joined_2 : decode prog_6_method_6_code 2 = .ok (.iload_n 2, 1) := by decide +kernel
theorem d_Question_joined_3 : decode prog_6_method_6_code 3 = .ok (.iload_n 3, 1) := by decide +kernel
theorem d_Question_joined_4 : decode prog_6_method_6_code 4 = .ok (.invokevirtual 84, 3) := by decide +kernel
theorem d_Question_joined_7 : decode prog_6_method_6_code 7 = .ok (.astore 4, 2) := by decide +kernel
theorem d_Question_joined_9 : decode prog_6_method_6_code 9 = .ok (.iconst 0, 1) := by decide +kernel
theorem d_Question_joined_10 : decode prog_6_method_6_code 10 = .ok (.istore 5, 2) := by decide +kernel
theorem d_Question_joined_12 : decode prog_6_method_6_code 12 = .ok (.iload 5, 2) := by decide +kernel
theorem d_Question_joined_14 : decode prog_6_method_6_code 14 = .ok (.bipush 96, 2) := by decide +kernel
theorem d_Question_joined_16 : decode prog_6_method_6_code 16 = .ok (.if_icmp .ge 51, 3) := by decide +kernel
theorem d_Question_joined_19 : decode prog_6_method_6_code 19 = .ok (.aload 4, 2) := by decide +kernel
theorem d_Question_joined_21 : decode prog_6_method_6_code 21 = .ok (.ifnull 46, 3) := by decide +kernel
theorem d_Question_joined_24 : decode prog_6_method_6_code 24 = .ok (.aload_n 0, 1) := by decide +kernel
theorem d_Question_joined_25 : decode prog_6_method_6_code 25 = .ok (.iload_n 1, 1) := by decide +kernel
theorem d_Question_joined_26 : decode prog_6_method_6_code 26 = .ok (.invokevirtual 87, 3) := by decide +kernel
theorem d_Question_joined_29 : decode prog_6_method_6_code 29 = .ok (.ifCond .eq 38, 3) := by decide +kernel
theorem d_Question_joined_32 : decode prog_6_method_6_code 32 = .ok (.aload_n 0, 1) := by decide +kernel
theorem d_Question_joined_33 : decode prog_6_method_6_code 33 = .ok (.iload_n 1, 1) := by decide +kernel
theorem d_Question_joined_34 : decode prog_6_method_6_code 34 = .ok (.iload_n 2, 1) := by decide +kernel
theorem d_Question_joined_35 : decode prog_6_method_6_code 35 = .ok (.iload_n 3, 1) := by decide +kernel
theorem d_Question_joined_36 : decode prog_6_method_6_code 36 = .ok (.invokevirtual 84, 3) := by decide +kernel
theorem d_Question_joined_39 : decode prog_6_method_6_code 39 = .ok (.astore 6, 2) := by decide +kernel
theorem d_Question_joined_41 : decode prog_6_method_6_code 41 = .ok (.aload 6, 2) := by decide +kernel
theorem d_Question_joined_43 : decode prog_6_method_6_code 43 = .ok (.ifnonnull 7, 3) := by decide +kernel
theorem d_Question_joined_46 : decode prog_6_method_6_code 46 = .ok (.aconst_null, 1) := by decide +kernel
theorem d_Question_joined_47 : decode prog_6_method_6_code 47 = .ok (.goto 12, 3) := by decide +kernel
theorem d_Question_joined_50 : decode prog_6_method_6_code 50 = .ok (.aload_n 0, 1) := by decide +kernel
theorem d_Question_joined_51 : decode prog_6_method_6_code 51 = .ok (.iload_n 1, 1) := by decide +kernel
theorem d_Question_joined_52 : decode prog_6_method_6_code 52 = .ok (.aload 4, 2) := by decide +kernel
theorem d_Question_joined_54 : decode prog_6_method_6_code 54 = .ok (.aload 6, 2) := by decide +kernel
theorem d_Question_joined_56 : decode prog_6_method_6_code 56 = .ok (.invokevirtual 91, 3) := by decide +kernel
theorem d_Question_joined_59 : decode prog_6_method_6_code 59 = .ok (.astore 4, 2) := by decide +kernel
theorem d_Question_joined_61 : decode prog_6_method_6_code 61 = .ok (.iinc 5 1, 3) := by decide +kernel
theorem d_Question_joined_64 : decode prog_6_method_6_code 64 = .ok (.goto (-52), 3) := by decide +kernel
theorem d_Question_joined_67 : decode prog_6_method_6_code 67 = .ok (.aload 4, 2) := by decide +kernel
theorem d_Question_joined_69 : decode prog_6_method_6_code 69 = .ok (.areturn, 1) := by decide +kernel
theorem d_Question_operand_0 : decode prog_6_method_7_code 0 = .ok (.iload_n 1, 1) := by decide +kernel
theorem d_Question_operand_1 : decode prog_6_method_7_code 1 = .ok (.bipush 8, 2) := by decide +kernel
theorem d_Question_operand_3 : decode prog_6_method_7_code 3 = .ok (.if_icmp .ne 12, 3) := by decide +kernel
theorem d_Question_operand_6 : decode prog_6_method_7_code 6 = .ok (.aload_n 0, 1) := by decide +kernel
theorem d_Question_operand_7 : decode prog_6_method_7_code 7 = .ok (.iload_n 2, 1) := by decide +kernel
theorem d_Question_operand_8 : decode prog_6_method_7_code 8 = .ok (.iload_n 3, 1) := by decide +kernel
theorem d_Question_operand_9 : decode prog_6_method_7_code 9 = .ok (.invokevirtual 95, 3) := by decide +kernel
theorem d_Question_operand_12 : decode prog_6_method_7_code 12 = .ok (.goto 12, 3) := by decide +kernel
theorem d_Question_operand_15 : decode prog_6_method_7_code 15 = .ok (.aload_n 0, 1) := by decide +kernel
theorem d_Question_operand_16 : decode prog_6_method_7_code 16 = .ok (.iload_n 1, 1) := by decide +kernel
theorem d_Question_operand_17 : decode prog_6_method_7_code 17 = .ok (.iconst 1, 1) := by decide +kernel
theorem d_Question_operand_18 : decode prog_6_method_7_code 18 = .ok (.iadd, 1) := by decide +kernel
theorem d_Question_operand_19 : decode prog_6_method_7_code 19 = .ok (.iload_n 2, 1) := by decide +kernel
theorem d_Question_operand_20 : decode prog_6_method_7_code 20 = .ok (.iload_n 3, 1) := by decide +kernel
theorem d_Question_operand_21 : decode prog_6_method_7_code 21 = .ok (.invokevirtual 65, 3) := by decide +kernel
theorem d_Question_operand_24 : decode prog_6_method_7_code 24 = .ok (.areturn, 1) := by decide +kernel
theorem d_Question_atom_0 : decode prog_6_method_12_code 0 = .ok (.aload_n 0, 1) := by decide +kernel
theorem d_Question_atom_1 : decode prog_6_method_12_code 1 = .ok (.invokevirtual 106, 3) := by decide +kernel
theorem d_Question_atom_4 : decode prog_6_method_12_code 4 = .ok (.ifCond .eq 25, 3) := by decide +kernel
theorem d_Question_atom_7 : decode prog_6_method_12_code 7 = .ok (.iload_n 2, 1) := by decide +kernel
theorem d_Question_atom_8 : decode prog_6_method_12_code 8 = .ok (.bipush 8, 2) := by decide +kernel
theorem d_Question_atom_10 : decode prog_6_method_12_code 10 = .ok (.if_icmp .lt 10, 3) := by decide +kernel
theorem d_Question_atom_13 : decode prog_6_method_12_code 13 = .ok (.aload_n 0, 1) := by decide +kernel
theorem d_Question_atom_14 : decode prog_6_method_12_code 14 = .ok (.invokevirtual 73, 3) := by decide +kernel
theorem d_Question_atom_17 : decode prog_6_method_12_code 17 = .ok (.goto 11, 3) := by decide +kernel
theorem d_Question_atom_20 : decode prog_6_method_12_code 20 = .ok (.aload_n 0, 1) := by decide +kernel
theorem d_Question_atom_21 : decode prog_6_method_12_code 21 = .ok (.iload_n 1, 1) := by decide +kernel
theorem d_Question_atom_22 : decode prog_6_method_12_code 22 = .ok (.iload_n 2, 1) := by decide +kernel
theorem d_Question_atom_23 : decode prog_6_method_12_code 23 = .ok (.iconst 1, 1) := by decide +kernel
theorem d_Question_atom_24 : decode prog_6_method_12_code 24 = .ok (.iadd, 1) := by decide +kernel
theorem d_Question_atom_25 : decode prog_6_method_12_code 25 = .ok (.invokevirtual 112, 3) := by decide +kernel
theorem d_Question_atom_28 : decode prog_6_method_12_code 28 = .ok (.areturn, 1) := by decide +kernel
theorem d_Question_atom_29 : decode prog_6_method_12_code 29 = .ok (.aload_n 0, 1) := by decide +kernel
theorem d_Question_atom_30 : decode prog_6_method_12_code 30 = .ok (.bipush 8, 2) := by decide +kernel
theorem d_Question_atom_32 : decode prog_6_method_12_code 32 = .ok (.invokevirtual 103, 3) := by decide +kernel
theorem d_Question_atom_35 : decode prog_6_method_12_code 35 = .ok (.ifCond .eq 11, 3) := by decide +kernel
theorem d_Question_atom_38 : decode prog_6_method_12_code 38 = .ok (.aload_n 0, 1) := by decide +kernel
theorem d_Question_atom_39 : decode prog_6_method_12_code 39 = .ok (.iload_n 1, 1) := by decide +kernel
theorem d_Question_atom_40 : decode prog_6_method_12_code 40 = .ok (.invokevirtual 115, 3) := by decide +kernel
theorem d_Question_atom_43 : decode prog_6_method_12_code 43 = .ok (.goto 8, 3) := by decide +kernel
theorem d_Question_atom_46 : decode prog_6_method_12_code 46 = .ok (.aload_n 0, 1) := by decide +kernel
theorem d_Question_atom_47 : decode prog_6_method_12_code 47 = .ok (.iload_n 1, 1) := by decide +kernel
theorem d_Question_atom_48 : decode prog_6_method_12_code 48 = .ok (.invokevirtual 119, 3) := by decide +kernel
theorem d_Question_atom_51 : decode prog_6_method_12_code 51 = .ok (.areturn, 1) := by decide +kernel
theorem d_Question_beginsDeeper_0 : decode prog_6_method_10_code 0 = .ok (.aload_n 0, 1) := by decide +kernel
theorem d_Question_beginsDeeper_1 : decode prog_6_method_10_code 1 = .ok (.invokevirtual 69, 3) := by decide +kernel
theorem d_Question_beginsDeeper_4 : decode prog_6_method_10_code 4 = .ok (.istore_n 1, 1) := by decide +kernel
theorem d_Question_beginsDeeper_5 : decode prog_6_method_10_code 5 = .ok (.iload_n 1, 1) := by decide +kernel
theorem d_Question_beginsDeeper_6 : decode prog_6_method_10_code 6 = .ok (.bipush 9, 2) := by decide +kernel
theorem d_Question_beginsDeeper_8 : decode prog_6_method_10_code 8 = .ok (.if_icmp .eq 14, 3) := by decide +kernel
theorem d_Question_beginsDeeper_11 : decode prog_6_method_10_code 11 = .ok (.iload_n 1, 1) := by decide +kernel
theorem d_Question_beginsDeeper_12 : decode prog_6_method_10_code 12 = .ok (.bipush 11, 2) := by decide +kernel
theorem d_Question_beginsDeeper_14 : decode prog_6_method_10_code 14 = .ok (.if_icmp .eq 8, 3) := by decide +kernel
theorem d_Question_beginsDeeper_17 : decode prog_6_method_10_code 17 = .ok (.iload_n 1, 1) := by decide +kernel
theorem d_Question_beginsDeeper_18 : decode prog_6_method_10_code 18 = .ok (.iconst 3, 1) := by decide +kernel
theorem d_Question_beginsDeeper_19 : decode prog_6_method_10_code 19 = .ok (.if_icmp .ne 7, 3) := by decide +kernel
theorem d_Question_beginsDeeper_22 : decode prog_6_method_10_code 22 = .ok (.iconst 1, 1) := by decide +kernel
theorem d_Question_beginsDeeper_23 : decode prog_6_method_10_code 23 = .ok (.goto 4, 3) := by decide +kernel
theorem d_Question_beginsDeeper_26 : decode prog_6_method_10_code 26 = .ok (.iconst 0, 1) := by decide +kernel
theorem d_Question_beginsDeeper_27 : decode prog_6_method_10_code 27 = .ok (.ireturn, 1) := by decide +kernel
theorem d_Question_kind_0 : decode prog_6_method_3_code 0 = .ok (.aload_n 0, 1) := by decide +kernel
theorem d_Question_kind_1 : decode prog_6_method_3_code 1 = .ok (.getfield 35, 3) := by decide +kernel
theorem d_Question_kind_4 : decode prog_6_method_3_code 4 = .ok (.getfield 77, 3) := by decide +kernel
theorem d_Question_kind_7 : decode prog_6_method_3_code 7 = .ok (.aload_n 0, 1) := by decide +kernel
theorem d_Question_kind_8 : decode prog_6_method_3_code 8 = .ok (.getfield 49, 3) := by decide +kernel
theorem d_Question_kind_11 : decode prog_6_method_3_code 11 = .ok (.iaload, 1) := by decide +kernel
theorem d_Question_kind_12 : decode prog_6_method_3_code 12 = .ok (.ireturn, 1) := by decide +kernel
theorem d_Question_refuse_0 : decode prog_6_method_5_code 0 = .ok (.aload_n 0, 1) := by decide +kernel
theorem d_Question_refuse_1 : decode prog_6_method_5_code 1 = .ok (.aload_n 0, 1) := by decide +kernel
theorem d_Question_refuse_2 : decode prog_6_method_5_code 2 = .ok (.getfield 35, 3) := by decide +kernel
theorem d_Question_refuse_5 : decode prog_6_method_5_code 5 = .ok (.getfield 81, 3) := by decide +kernel
theorem d_Question_refuse_8 : decode prog_6_method_5_code 8 = .ok (.aload_n 0, 1) := by decide +kernel
theorem d_Question_refuse_9 : decode prog_6_method_5_code 9 = .ok (.getfield 49, 3) := by decide +kernel
theorem d_Question_refuse_12 : decode prog_6_method_5_code 12 = .ok (.iaload, 1) := by decide +kernel
theorem d_Question_refuse_13 : decode prog_6_method_5_code 13 = .ok (.putfield 62, 3) := by decide +kernel
theorem d_Question_refuse_16 : decode prog_6_method_5_code 16 = .ok (.aconst_null, 1) := by decide +kernel
theorem d_Question_refuse_17 : decode prog_6_method_5_code 17 = .ok (.areturn, 1) := by decide +kernel
theorem d_Question_deeper_0 : decode prog_6_method_13_code 0 = .ok (.aload_n 0, 1) := by decide +kernel
theorem d_Question_deeper_1 : decode prog_6_method_13_code 1 = .ok (.bipush 9, 2) := by decide +kernel
theorem d_Question_deeper_3 : decode prog_6_method_13_code 3 = .ok (.invokevirtual 103, 3) := by decide +kernel
theorem d_Question_deeper_6 : decode prog_6_method_13_code 6 = .ok (.ifCond .eq 33, 3) := by decide +kernel
theorem d_Question_deeper_9 : decode prog_6_method_13_code 9 = .ok (.aload_n 0, 1) := by decide +kernel
theorem d_Question_deeper_10 : decode prog_6_method_13_code 10 = .ok (.iconst 5, 1) := by decide +kernel
theorem d_Question_deeper_11 : decode prog_6_method_13_code 11 = .ok (.iload_n 1, 1) := by decide +kernel
theorem d_Question_deeper_12 : decode prog_6_method_13_code 12 = .ok (.iload_n 2, 1) := by decide +kernel
theorem d_Question_deeper_13 : decode prog_6_method_13_code 13 = .ok (.invokevirtual 65, 3) := by decide +kernel
theorem d_Question_deeper_16 : decode prog_6_method_13_code 16 = .ok (.astore_n 3, 1) := by decide +kernel
theorem d_Question_deeper_17 : decode prog_6_method_13_code 17 = .ok (.aload_n 3, 1) := by decide +kernel
theorem d_Question_deeper_18 : decode prog_6_method_13_code 18 = .ok (.ifnull 12, 3) := by decide +kernel
theorem d_Question_deeper_21 : decode prog_6_method_13_code 21 = .ok (.aload_n 0, 1) := by decide +kernel
theorem d_Question_deeper_22 : decode prog_6_method_13_code 22 = .ok (.bipush 10, 2) := by decide +kernel
theorem d_Question_deeper_24 : decode prog_6_method_13_code 24 = .ok (.invokevirtual 103, 3) := by decide +kernel
theorem d_Question_deeper_27 : decode prog_6_method_13_code 27 = .ok (.ifCond .eq 7, 3) := by decide +kernel
theorem d_Question_deeper_30 : decode prog_6_method_13_code 30 = .ok (.aload_n 3, 1) := by decide +kernel
theorem d_Question_deeper_31 : decode prog_6_method_13_code 31 = .ok (.goto 7, 3) := by decide +kernel
theorem d_Question_deeper_34 : decode prog_6_method_13_code 34 = .ok (.aload_n 0, 1) := by decide +kernel
theorem d_Question_deeper_35 : decode prog_6_method_13_code 35 = .ok (.invokevirtual 73, 3) := by decide +kernel
theorem d_Question_deeper_38 : decode prog_6_method_13_code 38 = .ok (.areturn, 1) := by decide +kernel
theorem d_Question_deeper_39 : decode prog_6_method_13_code 39 = .ok (.aload_n 0, 1) := by decide +kernel
theorem d_Question_deeper_40 : decode prog_6_method_13_code 40 = .ok (.bipush 11, 2) := by decide +kernel
theorem d_Question_deeper_42 : decode prog_6_method_13_code 42 = .ok (.invokevirtual 103, 3) := by decide +kernel
theorem d_Question_deeper_45 : decode prog_6_method_13_code 45 = .ok (.istore_n 3, 1) := by decide +kernel
theorem d_Question_deeper_46 : decode prog_6_method_13_code 46 = .ok (.aload_n 0, 1) := by decide +kernel
theorem d_Question_deeper_47 : decode prog_6_method_13_code 47 = .ok (.invokevirtual 69, 3) := by decide +kernel
theorem d_Question_deeper_50 : decode prog_6_method_13_code 50 = .ok (.iconst 3, 1) := by decide +kernel
theorem d_Question_deeper_51 : decode prog_6_method_13_code 51 = .ok (.if_icmp .ne 17, 3) := by decide +kernel
theorem d_Question_deeper_54 : decode prog_6_method_13_code 54 = .ok (.aload_n 0, 1) := by decide +kernel
theorem d_Question_deeper_55 : decode prog_6_method_13_code 55 = .ok (.getfield 35, 3) := by decide +kernel
theorem d_Question_deeper_58 : decode prog_6_method_13_code 58 = .ok (.aload_n 0, 1) := by decide +kernel
theorem d_Question_deeper_59 : decode prog_6_method_13_code 59 = .ok (.getfield 49, 3) := by decide +kernel
theorem d_Question_deeper_62 : decode prog_6_method_13_code 62 = .ok (.invokevirtual 122, 3) := by decide +kernel
theorem d_Question_deeper_65 : decode prog_6_method_13_code 65 = .ok (.goto 4, 3) := by decide +kernel
theorem d_Question_deeper_68 : decode prog_6_method_13_code 68 = .ok (.iconst (-1), 1) := by decide +kernel
theorem d_Question_deeper_69 : decode prog_6_method_13_code 69 = .ok (.istore 4, 2) := by decide +kernel
theorem d_Question_deeper_71 : decode prog_6_method_13_code 71 = .ok (.iload 4, 2) := by decide +kernel
theorem d_Question_deeper_73 : decode prog_6_method_13_code 73 = .ok (.ifCond .ge 8, 3) := by decide +kernel
theorem d_Question_deeper_76 : decode prog_6_method_13_code 76 = .ok (.aload_n 0, 1) := by decide +kernel
theorem d_Question_deeper_77 : decode prog_6_method_13_code 77 = .ok (.invokevirtual 73, 3) := by decide +kernel
theorem d_Question_deeper_80 : decode prog_6_method_13_code 80 = .ok (.areturn, 1) := by decide +kernel
theorem d_Question_deeper_81 : decode prog_6_method_13_code 81 = .ok (.iconst 1, 1) := by decide +kernel
theorem d_Question_deeper_82 : decode prog_6_method_13_code 82 = .ok (.iload_n 3, 1) := by decide +kernel
theorem d_Question_deeper_83 : decode prog_6_method_13_code 83 = .ok (.ifCond .eq 10, 3) := by decide +kernel
theorem d_Question_deeper_86 : decode prog_6_method_13_code 86 = .ok (.iconst 1, 1) := by decide +kernel
theorem d_Question_deeper_87 : decode prog_6_method_13_code 87 = .ok (.iload 4, 2) := by decide +kernel
theorem d_Question_deeper_89 : decode prog_6_method_13_code 89 = .ok (.isub, 1) := by decide +kernel
theorem d_Question_deeper_90 : decode prog_6_method_13_code 90 = .ok (.goto 5, 3) := by decide +kernel
theorem d_Question_deeper_93 : decode prog_6_method_13_code 93 = .ok (.iload 4, 2) := by decide +kernel
theorem d_Question_deeper_95 : decode prog_6_method_13_code 95 = .ok (.ishl, 1) := by decide +kernel
theorem d_Question_deeper_96 : decode prog_6_method_13_code 96 = .ok (.istore 5, 2) := by decide +kernel
theorem d_Question_deeper_98 : decode prog_6_method_13_code 98 = .ok (.aload_n 0, 1) := by decide +kernel
theorem d_Question_deeper_99 : decode prog_6_method_13_code 99 = .ok (.dup, 1) := by decide +kernel
theorem d_Question_deeper_100 : decode prog_6_method_13_code 100 = .ok (.getfield 49, 3) := by decide +kernel
theorem d_Question_deeper_103 : decode prog_6_method_13_code 103 = .ok (.iconst 2, 1) := by decide +kernel
theorem d_Question_deeper_104 : decode prog_6_method_13_code 104 = .ok (.iadd, 1) := by decide +kernel
theorem d_Question_deeper_105 : decode prog_6_method_13_code 105 = .ok (.putfield 49, 3) := by decide +kernel
theorem d_Question_deeper_108 : decode prog_6_method_13_code 108 = .ok (.aload_n 0, 1) := by decide +kernel
theorem d_Question_deeper_109 : decode prog_6_method_13_code 109 = .ok (.iload_n 1, 1) := by decide +kernel
theorem d_Question_deeper_110 : decode prog_6_method_13_code 110 = .ok (.iload 5, 2) := by decide +kernel
theorem d_Question_deeper_112 : decode prog_6_method_13_code 112 = .ok (.iand, 1) := by decide +kernel
theorem d_Question_deeper_113 : decode prog_6_method_13_code 113 = .ok (.iload_n 2, 1) := by decide +kernel
theorem d_Question_deeper_114 : decode prog_6_method_13_code 114 = .ok (.invokevirtual 95, 3) := by decide +kernel
theorem d_Question_deeper_117 : decode prog_6_method_13_code 117 = .ok (.areturn, 1) := by decide +kernel
theorem d_Question_takes_0 : decode prog_6_method_4_code 0 = .ok (.aload_n 0, 1) := by decide +kernel
theorem d_Question_takes_1 : decode prog_6_method_4_code 1 = .ok (.invokevirtual 69, 3) := by decide +kernel
theorem d_Question_takes_4 : decode prog_6_method_4_code 4 = .ok (.iload_n 1, 1) := by decide +kernel
theorem d_Question_takes_5 : decode prog_6_method_4_code 5 = .ok (.if_icmp .eq 5, 3) := by decide +kernel
theorem d_Question_takes_8 : decode prog_6_method_4_code 8 = .ok (.iconst 0, 1) := by decide +kernel
theorem d_Question_takes_9 : decode prog_6_method_4_code 9 = .ok (.ireturn, 1) := by decide +kernel
theorem d_Question_takes_10 : decode prog_6_method_4_code 10 = .ok (.aload_n 0, 1) := by decide +kernel
theorem d_Question_takes_11 : decode prog_6_method_4_code 11 = .ok (.dup, 1) := by decide +kernel
theorem d_Question_takes_12 : decode prog_6_method_4_code 12 = .ok (.getfield 49, 3) := by decide +kernel
theorem d_Question_takes_15 : decode prog_6_method_4_code 15 = .ok (.iconst 1, 1) := by decide +kernel
theorem d_Question_takes_16 : decode prog_6_method_4_code 16 = .ok (.iadd, 1) := by decide +kernel
theorem d_Question_takes_17 : decode prog_6_method_4_code 17 = .ok (.putfield 49, 3) := by decide +kernel
theorem d_Question_takes_20 : decode prog_6_method_4_code 20 = .ok (.iconst 1, 1) := by decide +kernel
theorem d_Question_takes_21 : decode prog_6_method_4_code 21 = .ok (.ireturn, 1) := by decide +kernel
theorem d_Parts_columnNamed_0 : decode prog_4_method_9_code 0 = .ok (.aload_n 0, 1) := by decide +kernel
theorem d_Parts_columnNamed_1 : decode prog_4_method_9_code 1 = .ok (.getfield 18, 3) := by decide +kernel
theorem d_Parts_columnNamed_4 : decode prog_4_method_9_code 4 = .ok (.iload_n 1, 1) := by decide +kernel
theorem d_Parts_columnNamed_5 : decode prog_4_method_9_code 5 = .ok (.iaload, 1) := by decide +kernel
theorem d_Parts_columnNamed_6 : decode prog_4_method_9_code 6 = .ok (.aload_n 0, 1) := by decide +kernel
theorem d_Parts_columnNamed_7 : decode prog_4_method_9_code 7 = .ok (.getfield 15, 3) := by decide +kernel
theorem d_Parts_columnNamed_10 : decode prog_4_method_9_code 10 = .ok (.iload_n 1, 1) := by decide +kernel
theorem d_Parts_columnNamed_11 : decode prog_4_method_9_code 11 = .ok (.iaload, 1) := by decide +kernel
theorem d_Parts_columnNamed_12 : decode prog_4_method_9_code 12 = .ok (.isub, 1) := by decide +kernel
theorem d_Parts_columnNamed_13 : decode prog_4_method_9_code 13 = .ok (.iconst 1, 1) := by decide +kernel
theorem d_Parts_columnNamed_14 : decode prog_4_method_9_code 14 = .ok (.if_icmp .eq 5, 3) := by decide +kernel
theorem d_Parts_columnNamed_17 : decode prog_4_method_9_code 17 = .ok (.iconst (-1), 1) := by decide +kernel
theorem d_Parts_columnNamed_18 : decode prog_4_method_9_code 18 = .ok (.ireturn, 1) := by decide +kernel
theorem d_Parts_columnNamed_19 : decode prog_4_method_9_code 19 = .ok (.aload_n 0, 1) := by decide +kernel
theorem d_Parts_columnNamed_20 : decode prog_4_method_9_code 20 = .ok (.getfield 21, 3) := by decide +kernel
theorem d_Parts_columnNamed_23 : decode prog_4_method_9_code 23 = .ok (.aload_n 0, 1) := by decide +kernel
theorem d_Parts_columnNamed_24 : decode prog_4_method_9_code 24 = .ok (.getfield 15, 3) := by decide +kernel
theorem d_Parts_columnNamed_27 : decode prog_4_method_9_code 27 = .ok (.iload_n 1, 1) := by decide +kernel
theorem d_Parts_columnNamed_28 : decode prog_4_method_9_code 28 = .ok (.iaload, 1) := by decide +kernel
theorem d_Parts_columnNamed_29 : decode prog_4_method_9_code 29 = .ok (.caload, 1) := by decide +kernel
theorem d_Parts_columnNamed_30 : decode prog_4_method_9_code 30 = .ok (.bipush 97, 2) := by decide +kernel
theorem d_Parts_columnNamed_32 : decode prog_4_method_9_code 32 = .ok (.isub, 1) := by decide +kernel
theorem d_Parts_columnNamed_33 : decode prog_4_method_9_code 33 = .ok (.istore_n 2, 1) := by decide +kernel
theorem d_Parts_columnNamed_34 : decode prog_4_method_9_code 34 = .ok (.iload_n 2, 1) := by decide +kernel
theorem d_Parts_columnNamed_35 : decode prog_4_method_9_code 35 = .ok (.invokestatic 77, 3) := by decide +kernel
theorem d_Parts_columnNamed_38 : decode prog_4_method_9_code 38 = .ok (.ifCond .eq 7, 3) := by decide +kernel
theorem d_Parts_columnNamed_41 : decode prog_4_method_9_code 41 = .ok (.iload_n 2, 1) := by decide +kernel
theorem d_Parts_columnNamed_42 : decode prog_4_method_9_code 42 = .ok (.goto 4, 3) := by decide +kernel
theorem d_Parts_columnNamed_45 : decode prog_4_method_9_code 45 = .ok (.iconst (-1), 1) := by decide +kernel
theorem d_Parts_columnNamed_46 : decode prog_4_method_9_code 46 = .ok (.ireturn, 1) := by decide +kernel
theorem d_Question_near_0 : decode prog_6_method_15_code 0 = .ok (.aload_n 0, 1) := by decide +kernel
theorem d_Question_near_1 : decode prog_6_method_15_code 1 = .ok (.bipush 9, 2) := by decide +kernel
theorem d_Question_near_3 : decode prog_6_method_15_code 3 = .ok (.invokevirtual 103, 3) := by decide +kernel
theorem d_Question_near_6 : decode prog_6_method_15_code 6 = .ok (.ifCond .ne 8, 3) := by decide +kernel
theorem d_Question_near_9 : decode prog_6_method_15_code 9 = .ok (.aload_n 0, 1) := by decide +kernel
theorem d_Question_near_10 : decode prog_6_method_15_code 10 = .ok (.invokevirtual 73, 3) := by decide +kernel
theorem d_Question_near_13 : decode prog_6_method_15_code 13 = .ok (.areturn, 1) := by decide +kernel
theorem d_Question_near_14 : decode prog_6_method_15_code 14 = .ok (.aload_n 0, 1) := by decide +kernel
theorem d_Question_near_15 : decode prog_6_method_15_code 15 = .ok (.getfield 56, 3) := by decide +kernel
theorem d_Question_near_18 : decode prog_6_method_15_code 18 = .ok (.istore_n 2, 1) := by decide +kernel
theorem d_Question_near_19 : decode prog_6_method_15_code 19 = .ok (.aload_n 0, 1) := by decide +kernel
theorem d_Question_near_20 : decode prog_6_method_15_code 20 = .ok (.invokevirtual 126, 3) := by decide +kernel
theorem d_Question_near_23 : decode prog_6_method_15_code 23 = .ok (.istore_n 3, 1) := by decide +kernel
theorem d_Question_near_24 : decode prog_6_method_15_code 24 = .ok (.iconst 0, 1) := by decide +kernel
theorem d_Question_near_25 : decode prog_6_method_15_code 25 = .ok (.istore 4, 2) := by decide +kernel
theorem d_Question_near_27 : decode prog_6_method_15_code 27 = .ok (.iload 4, 2) := by decide +kernel
theorem d_Question_near_29 : decode prog_6_method_15_code 29 = .ok (.bipush 96, 2) := by decide +kernel
theorem d_Question_near_31 : decode prog_6_method_15_code 31 = .ok (.if_icmp .ge 25, 3) := by decide +kernel
theorem d_Question_near_34 : decode prog_6_method_15_code 34 = .ok (.iload_n 3, 1) := by decide +kernel
theorem d_Question_near_35 : decode prog_6_method_15_code 35 = .ok (.ifCond .eq 21, 3) := by decide +kernel
theorem d_Question_near_38 : decode prog_6_method_15_code 38 = .ok (.aload_n 0, 1) := by decide +kernel
theorem d_Question_near_39 : decode prog_6_method_15_code 39 = .ok (.invokevirtual 109, 3) := by decide +kernel
theorem d_Question_near_42 : decode prog_6_method_15_code 42 = .ok (.ifCond .eq 14, 3) := by decide +kernel
theorem d_Question_near_45 : decode prog_6_method_15_code 45 = .ok (.aload_n 0, 1) := by decide +kernel
theorem d_Question_near_46 : decode prog_6_method_15_code 46 = .ok (.invokevirtual 126, 3) := by decide +kernel
theorem d_Question_near_49 : decode prog_6_method_15_code 49 = .ok (.istore_n 3, 1) := by decide +kernel
theorem d_Question_near_50 : decode prog_6_method_15_code 50 = .ok (.iinc 4 1, 3) := by decide +kernel
theorem d_Question_near_53 : decode prog_6_method_15_code 53 = .ok (.goto (-26), 3) := by decide +kernel
theorem d_Question_near_56 : decode prog_6_method_15_code 56 = .ok (.iload_n 3, 1) := by decide +kernel
theorem d_Question_near_57 : decode prog_6_method_15_code 57 = .ok (.ifCond .ne 5, 3) := by decide +kernel
theorem d_Question_near_60 : decode prog_6_method_15_code 60 = .ok (.aconst_null, 1) := by decide +kernel
theorem d_Question_near_61 : decode prog_6_method_15_code 61 = .ok (.areturn, 1) := by decide +kernel
theorem d_Question_near_62 : decode prog_6_method_15_code 62 = .ok (.bipush 10, 2) := by decide +kernel
theorem d_Question_near_64 : decode prog_6_method_15_code 64 = .ok (.istore 4, 2) := by decide +kernel
theorem d_Question_near_66 : decode prog_6_method_15_code 66 = .ok (.aload_n 0, 1) := by decide +kernel
theorem d_Question_near_67 : decode prog_6_method_15_code 67 = .ok (.bipush 13, 2) := by decide +kernel
theorem d_Question_near_69 : decode prog_6_method_15_code 69 = .ok (.invokevirtual 103, 3) := by decide +kernel
theorem d_Question_near_72 : decode prog_6_method_15_code 72 = .ok (.ifCond .eq 36, 3) := by decide +kernel
theorem d_Question_near_75 : decode prog_6_method_15_code 75 = .ok (.aload_n 0, 1) := by decide +kernel
theorem d_Question_near_76 : decode prog_6_method_15_code 76 = .ok (.getfield 35, 3) := by decide +kernel
theorem d_Question_near_79 : decode prog_6_method_15_code 79 = .ok (.aload_n 0, 1) := by decide +kernel
theorem d_Question_near_80 : decode prog_6_method_15_code 80 = .ok (.getfield 49, 3) := by decide +kernel
theorem d_Question_near_83 : decode prog_6_method_15_code 83 = .ok (.invokevirtual 133, 3) := by decide +kernel
theorem d_Question_near_86 : decode prog_6_method_15_code 86 = .ok (.istore 4, 2) := by decide +kernel
theorem d_Question_near_88 : decode prog_6_method_15_code 88 = .ok (.iload 4, 2) := by decide +kernel
theorem d_Question_near_90 : decode prog_6_method_15_code 90 = .ok (.ifCond .ge 8, 3) := by decide +kernel
theorem d_Question_near_93 : decode prog_6_method_15_code 93 = .ok (.aload_n 0, 1) := by decide +kernel
theorem d_Question_near_94 : decode prog_6_method_15_code 94 = .ok (.invokevirtual 73, 3) := by decide +kernel
theorem d_Question_near_97 : decode prog_6_method_15_code 97 = .ok (.areturn, 1) := by decide +kernel
theorem d_Question_near_98 : decode prog_6_method_15_code 98 = .ok (.aload_n 0, 1) := by decide +kernel
theorem d_Question_near_99 : decode prog_6_method_15_code 99 = .ok (.dup, 1) := by decide +kernel
theorem d_Question_near_100 : decode prog_6_method_15_code 100 = .ok (.getfield 49, 3) := by decide +kernel
theorem d_Question_near_103 : decode prog_6_method_15_code 103 = .ok (.iconst 1, 1) := by decide +kernel
theorem d_Question_near_104 : decode prog_6_method_15_code 104 = .ok (.iadd, 1) := by decide +kernel
theorem d_Question_near_105 : decode prog_6_method_15_code 105 = .ok (.putfield 49, 3) := by decide +kernel
theorem d_Question_near_108 : decode prog_6_method_15_code 108 = .ok (.aload_n 0, 1) := by decide +kernel
theorem d_Question_near_109 : decode prog_6_method_15_code 109 = .ok (.bipush 10, 2) := by decide +kernel
theorem d_Question_near_111 : decode prog_6_method_15_code 111 = .ok (.invokevirtual 103, 3) := by decide +kernel
theorem d_Question_near_114 : decode prog_6_method_15_code 114 = .ok (.ifCond .eq 15, 3) := by decide +kernel
theorem d_Question_near_117 : decode prog_6_method_15_code 117 = .ok (.aload_n 0, 1) := by decide +kernel
theorem d_Question_near_118 : decode prog_6_method_15_code 118 = .ok (.iload_n 2, 1) := by decide +kernel
theorem d_Question_near_119 : decode prog_6_method_15_code 119 = .ok (.iload 4, 2) := by decide +kernel
theorem d_Question_near_121 : decode prog_6_method_15_code 121 = .ok (.iload_n 1, 1) := by decide +kernel
theorem d_Question_near_122 : decode prog_6_method_15_code 122 = .ok (.iconst (-1), 1) := by decide +kernel
theorem d_Question_near_123 : decode prog_6_method_15_code 123 = .ok (.invokevirtual 129, 3) := by decide +kernel
theorem d_Question_near_126 : decode prog_6_method_15_code 126 = .ok (.goto 7, 3) := by decide +kernel
theorem d_Question_near_129 : decode prog_6_method_15_code 129 = .ok (.aload_n 0, 1) := by decide +kernel
theorem d_Question_near_130 : decode prog_6_method_15_code 130 = .ok (.invokevirtual 73, 3) := by decide +kernel
theorem d_Question_near_133 : decode prog_6_method_15_code 133 = .ok (.areturn, 1) := by decide +kernel
theorem d_Question_readPhrase_0 : decode prog_6_method_16_code 0 = .ok (.aload_n 0, 1) := by decide +kernel
theorem d_Question_readPhrase_1 : decode prog_6_method_16_code 1 = .ok (.getfield 16, 3) := by decide +kernel
theorem d_Question_readPhrase_4 : decode prog_6_method_16_code 4 = .ok (.getfield 53, 3) := by decide +kernel
theorem d_Question_readPhrase_7 : decode prog_6_method_16_code 7 = .ok (.istore_n 1, 1) := by decide +kernel
theorem d_Question_readPhrase_8 : decode prog_6_method_16_code 8 = .ok (.aload_n 0, 1) := by decide +kernel
theorem d_Question_readPhrase_9 : decode prog_6_method_16_code 9 = .ok (.getfield 56, 3) := by decide +kernel
theorem d_Question_readPhrase_12 : decode prog_6_method_16_code 12 = .ok (.bipush 12, 2) := by decide +kernel
theorem d_Question_readPhrase_14 : decode prog_6_method_16_code 14 = .ok (.if_icmp .ge 10, 3) := by decide +kernel
theorem d_Question_readPhrase_17 : decode prog_6_method_16_code 17 = .ok (.aload_n 0, 1) := by decide +kernel
theorem d_Question_readPhrase_18 : decode prog_6_method_16_code 18 = .ok (.invokevirtual 136, 3) := by decide +kernel
theorem d_Question_readPhrase_21 : decode prog_6_method_16_code 21 = .ok (.ifCond .ne 10, 3) := by decide +kernel
theorem d_Question_readPhrase_24 : decode prog_6_method_16_code 24 = .ok (.aload_n 0, 1) := by decide +kernel
theorem d_Question_readPhrase_25 : decode prog_6_method_16_code 25 = .ok (.invokevirtual 73, 3) := by decide +kernel
theorem d_Question_readPhrase_28 : decode prog_6_method_16_code 28 = .ok (.pop, 1) := by decide +kernel
theorem d_Question_readPhrase_29 : decode prog_6_method_16_code 29 = .ok (.iconst 0, 1) := by decide +kernel
theorem d_Question_readPhrase_30 : decode prog_6_method_16_code 30 = .ok (.ireturn, 1) := by decide +kernel
theorem d_Question_readPhrase_31 : decode prog_6_method_16_code 31 = .ok (.iconst 0, 1) := by decide +kernel
theorem d_Question_readPhrase_32 : decode prog_6_method_16_code 32 = .ok (.istore_n 2, 1) := by decide +kernel
theorem d_Question_readPhrase_33 : decode prog_6_method_16_code 33 = .ok (.iload_n 2, 1) := by decide +kernel
theorem d_Question_readPhrase_34 : decode prog_6_method_16_code 34 = .ok (.bipush 96, 2) := by decide +kernel
theorem d_Question_readPhrase_36 : decode prog_6_method_16_code 36 = .ok (.if_icmp .ge 32, 3) := by decide +kernel
theorem d_Question_readPhrase_39 : decode prog_6_method_16_code 39 = .ok (.aload_n 0, 1) := by decide +kernel
theorem d_Question_readPhrase_40 : decode prog_6_method_16_code 40 = .ok (.bipush 14, 2) := by decide +kernel
theorem d_Question_readPhrase_42 : decode prog_6_method_16_code 42 = .ok (.invokevirtual 103, 3) := by decide +kernel
theorem d_Question_readPhrase_45 : decode prog_6_method_16_code 45 = .ok (.ifCond .eq 23, 3) := by decide +kernel
theorem d_Question_readPhrase_48 : decode prog_6_method_16_code 48 = .ok (.aload_n 0, 1) := by decide +kernel
theorem d_Question_readPhrase_49 : decode prog_6_method_16_code 49 = .ok (.invokevirtual 136, 3) := by decide +kernel
theorem d_Question_readPhrase_52 : decode prog_6_method_16_code 52 = .ok (.ifCond .ne 10, 3) := by decide +kernel
theorem d_Question_readPhrase_55 : decode prog_6_method_16_code 55 = .ok (.aload_n 0, 1) := by decide +kernel
theorem d_Question_readPhrase_56 : decode prog_6_method_16_code 56 = .ok (.invokevirtual 73, 3) := by decide +kernel
theorem d_Question_readPhrase_59 : decode prog_6_method_16_code 59 = .ok (.pop, 1) := by decide +kernel
theorem d_Question_readPhrase_60 : decode prog_6_method_16_code 60 = .ok (.iconst 0, 1) := by decide +kernel
theorem d_Question_readPhrase_61 : decode prog_6_method_16_code 61 = .ok (.ireturn, 1) := by decide +kernel
theorem d_Question_readPhrase_62 : decode prog_6_method_16_code 62 = .ok (.iinc 2 1, 3) := by decide +kernel
theorem d_Question_readPhrase_65 : decode prog_6_method_16_code 65 = .ok (.goto (-32), 3) := by decide +kernel
theorem d_Question_readPhrase_68 : decode prog_6_method_16_code 68 = .ok (.aload_n 0, 1) := by decide +kernel
theorem d_Question_readPhrase_69 : decode prog_6_method_16_code 69 = .ok (.getfield 24, 3) := by decide +kernel
theorem d_Question_readPhrase_72 : decode prog_6_method_16_code 72 = .ok (.aload_n 0, 1) := by decide +kernel
theorem d_Question_readPhrase_73 : decode prog_6_method_16_code 73 = .ok (.getfield 56, 3) := by decide +kernel
theorem d_Question_readPhrase_76 : decode prog_6_method_16_code 76 = .ok (.aaload, 1) := by decide +kernel
theorem d_Question_readPhrase_77 : decode prog_6_method_16_code 77 = .ok (.astore_n 2, 1) := by decide +kernel
theorem d_Question_readPhrase_78 : decode prog_6_method_16_code 78 = .ok (.aload_n 2, 1) := by decide +kernel
theorem d_Question_readPhrase_79 : decode prog_6_method_16_code 79 = .ok (.iload_n 1, 1) := by decide +kernel
theorem d_Question_readPhrase_80 : decode prog_6_method_16_code 80 = .ok (.putfield 139, 3) := by decide +kernel
theorem d_Question_readPhrase_83 : decode prog_6_method_16_code 83 = .ok (.aload_n 2, 1) := by decide +kernel
theorem d_Question_readPhrase_84 : decode prog_6_method_16_code 84 = .ok (.aload_n 0, 1) := by decide +kernel
theorem d_Question_readPhrase_85 : decode prog_6_method_16_code 85 = .ok (.getfield 16, 3) := by decide +kernel
theorem d_Question_readPhrase_88 : decode prog_6_method_16_code 88 = .ok (.getfield 53, 3) := by decide +kernel
theorem d_Question_readPhrase_91 : decode prog_6_method_16_code 91 = .ok (.iload_n 1, 1) := by decide +kernel
theorem d_Question_readPhrase_92 : decode prog_6_method_16_code 92 = .ok (.isub, 1) := by decide +kernel
theorem d_Question_readPhrase_93 : decode prog_6_method_16_code 93 = .ok (.putfield 142, 3) := by decide +kernel
theorem d_Question_readPhrase_96 : decode prog_6_method_16_code 96 = .ok (.aload_n 2, 1) := by decide +kernel
theorem d_Question_readPhrase_97 : decode prog_6_method_16_code 97 = .ok (.aload_n 0, 1) := by decide +kernel
theorem d_Question_readPhrase_98 : decode prog_6_method_16_code 98 = .ok (.bipush 15, 2) := by decide +kernel
theorem d_Question_readPhrase_100 : decode prog_6_method_16_code 100 = .ok (.invokevirtual 103, 3) := by decide +kernel
theorem d_Question_readPhrase_103 : decode prog_6_method_16_code 103 = .ok (.putfield 145, 3) := by decide +kernel
theorem d_Question_readPhrase_106 : decode prog_6_method_16_code 106 = .ok (.aload_n 0, 1) := by decide +kernel
theorem d_Question_readPhrase_107 : decode prog_6_method_16_code 107 = .ok (.dup, 1) := by decide +kernel
theorem d_Question_readPhrase_108 : decode prog_6_method_16_code 108 = .ok (.getfield 56, 3) := by decide +kernel
theorem d_Question_readPhrase_111 : decode prog_6_method_16_code 111 = .ok (.iconst 1, 1) := by decide +kernel
theorem d_Question_readPhrase_112 : decode prog_6_method_16_code 112 = .ok (.iadd, 1) := by decide +kernel
theorem d_Question_readPhrase_113 : decode prog_6_method_16_code 113 = .ok (.putfield 56, 3) := by decide +kernel
theorem d_Question_readPhrase_116 : decode prog_6_method_16_code 116 = .ok (.iconst 1, 1) := by decide +kernel
theorem d_Question_readPhrase_117 : decode prog_6_method_16_code 117 = .ok (.ireturn, 1) := by decide +kernel
theorem d_Question_readString_0 : decode prog_6_method_17_code 0 = .ok (.aload_n 0, 1) := by decide +kernel
theorem d_Question_readString_1 : decode prog_6_method_17_code 1 = .ok (.invokevirtual 109, 3) := by decide +kernel
theorem d_Question_readString_4 : decode prog_6_method_17_code 4 = .ok (.ifCond .ne 5, 3) := by decide +kernel
theorem d_Question_readString_7 : decode prog_6_method_17_code 7 = .ok (.iconst 0, 1) := by decide +kernel
theorem d_Question_readString_8 : decode prog_6_method_17_code 8 = .ok (.ireturn, 1) := by decide +kernel
theorem d_Question_readString_9 : decode prog_6_method_17_code 9 = .ok (.aload_n 0, 1) := by decide +kernel
theorem d_Question_readString_10 : decode prog_6_method_17_code 10 = .ok (.getfield 16, 3) := by decide +kernel
theorem d_Question_readString_13 : decode prog_6_method_17_code 13 = .ok (.aload_n 0, 1) := by decide +kernel
theorem d_Question_readString_14 : decode prog_6_method_17_code 14 = .ok (.getfield 45, 3) := by decide +kernel
theorem d_Question_readString_17 : decode prog_6_method_17_code 17 = .ok (.aload_n 0, 1) := by decide +kernel
theorem d_Question_readString_18 : decode prog_6_method_17_code 18 = .ok (.getfield 35, 3) := by decide +kernel
theorem d_Question_readString_21 : decode prog_6_method_17_code 21 = .ok (.getfield 81, 3) := by decide +kernel
theorem d_Question_readString_24 : decode prog_6_method_17_code 24 = .ok (.aload_n 0, 1) := by decide +kernel
theorem d_Question_readString_25 : decode prog_6_method_17_code 25 = .ok (.getfield 49, 3) := by decide +kernel
theorem d_Question_readString_28 : decode prog_6_method_17_code 28 = .ok (.iaload, 1) := by decide +kernel
theorem d_Question_readString_29 : decode prog_6_method_17_code 29 = .ok (.aload_n 0, 1) := by decide +kernel
theorem d_Question_readString_30 : decode prog_6_method_17_code 30 = .ok (.getfield 35, 3) := by decide +kernel
theorem d_Question_readString_33 : decode prog_6_method_17_code 33 = .ok (.getfield 149, 3) := by decide +kernel
theorem d_Question_readString_36 : decode prog_6_method_17_code 36 = .ok (.aload_n 0, 1) := by decide +kernel
theorem d_Question_readString_37 : decode prog_6_method_17_code 37 = .ok (.getfield 49, 3) := by decide +kernel
theorem d_Question_readString_40 : decode prog_6_method_17_code 40 = .ok (.iaload, 1) := by decide +kernel
theorem d_Question_readString_41 : decode prog_6_method_17_code 41 = .ok (.invokevirtual 152, 3) := by decide +kernel
theorem d_Question_readString_44 : decode prog_6_method_17_code 44 = .ok (.aload_n 0, 1) := by decide +kernel
theorem d_Question_readString_45 : decode prog_6_method_17_code 45 = .ok (.dup, 1) := by decide +kernel
theorem d_Question_readString_46 : decode prog_6_method_17_code 46 = .ok (.getfield 49, 3) := by decide +kernel
theorem d_Question_readString_49 : decode prog_6_method_17_code 49 = .ok (.iconst 1, 1) := by decide +kernel
theorem d_Question_readString_50 : decode prog_6_method_17_code 50 = .ok (.iadd, 1) := by decide +kernel
theorem d_Question_readString_51 : decode prog_6_method_17_code 51 = .ok (.putfield 49, 3) := by decide +kernel
theorem d_Question_readString_54 : decode prog_6_method_17_code 54 = .ok (.iconst 1, 1) := by decide +kernel
theorem d_Question_readString_55 : decode prog_6_method_17_code 55 = .ok (.ireturn, 1) := by decide +kernel
theorem d_Question_beginsString_0 : decode prog_6_method_11_code 0 = .ok (.aload_n 0, 1) := by decide +kernel
theorem d_Question_beginsString_1 : decode prog_6_method_11_code 1 = .ok (.invokevirtual 69, 3) := by decide +kernel
theorem d_Question_beginsString_4 : decode prog_6_method_11_code 4 = .ok (.istore_n 1, 1) := by decide +kernel
theorem d_Question_beginsString_5 : decode prog_6_method_11_code 5 = .ok (.iload_n 1, 1) := by decide +kernel
theorem d_Question_beginsString_6 : decode prog_6_method_11_code 6 = .ok (.iconst 2, 1) := by decide +kernel
theorem d_Question_beginsString_7 : decode prog_6_method_11_code 7 = .ok (.if_icmp .eq 8, 3) := by decide +kernel
theorem d_Question_beginsString_10 : decode prog_6_method_11_code 10 = .ok (.iload_n 1, 1) := by decide +kernel
theorem d_Question_beginsString_11 : decode prog_6_method_11_code 11 = .ok (.iconst 4, 1) := by decide +kernel
theorem d_Question_beginsString_12 : decode prog_6_method_11_code 12 = .ok (.if_icmp .ne 7, 3) := by decide +kernel
theorem d_Question_beginsString_15 : decode prog_6_method_11_code 15 = .ok (.iconst 1, 1) := by decide +kernel
theorem d_Question_beginsString_16 : decode prog_6_method_11_code 16 = .ok (.goto 4, 3) := by decide +kernel
theorem d_Question_beginsString_19 : decode prog_6_method_11_code 19 = .ok (.iconst 0, 1) := by decide +kernel
theorem d_Question_beginsString_20 : decode prog_6_method_11_code 20 = .ok (.ireturn, 1) := by decide +kernel
theorem d_Parts_number_0 : decode prog_4_method_10_code 0 = .ok (.aload_n 0, 1) := by decide +kernel
theorem d_Parts_number_1 : decode prog_4_method_10_code 1 = .ok (.getfield 9, 3) := by decide +kernel
theorem d_Parts_number_4 : decode prog_4_method_10_code 4 = .ok (.iload_n 1, 1) := by decide +kernel
theorem d_Parts_number_5 : decode prog_4_method_10_code 5 = .ok (.iaload, 1) := by decide +kernel
theorem d_Parts_number_6 : decode prog_4_method_10_code 6 = .ok (.iconst 2, 1) := by decide +kernel
theorem d_Parts_number_7 : decode prog_4_method_10_code 7 = .ok (.if_icmp .eq 13, 3) := by decide +kernel
theorem d_Parts_number_10 : decode prog_4_method_10_code 10 = .ok (.aload_n 0, 1) := by decide +kernel
theorem d_Parts_number_11 : decode prog_4_method_10_code 11 = .ok (.getfield 9, 3) := by decide +kernel
theorem d_Parts_number_14 : decode prog_4_method_10_code 14 = .ok (.iload_n 1, 1) := by decide +kernel
theorem d_Parts_number_15 : decode prog_4_method_10_code 15 = .ok (.iaload, 1) := by decide +kernel
theorem d_Parts_number_16 : decode prog_4_method_10_code 16 = .ok (.iconst 3, 1) := by decide +kernel
theorem d_Parts_number_17 : decode prog_4_method_10_code 17 = .ok (.if_icmp .ne 20, 3) := by decide +kernel
theorem d_Parts_number_20 : decode prog_4_method_10_code 20 = .ok (.aload_n 0, 1) := by decide +kernel
theorem d_Parts_number_21 : decode prog_4_method_10_code 21 = .ok (.getfield 18, 3) := by decide +kernel
theorem d_Parts_number_24 : decode prog_4_method_10_code 24 = .ok (.iload_n 1, 1) := by decide +kernel
theorem d_Parts_number_25 : decode prog_4_method_10_code 25 = .ok (.iaload, 1) := by decide +kernel
theorem d_Parts_number_26 : decode prog_4_method_10_code 26 = .ok (.aload_n 0, 1) := by decide +kernel
theorem d_Parts_number_27 : decode prog_4_method_10_code 27 = .ok (.getfield 15, 3) := by decide +kernel
theorem d_Parts_number_30 : decode prog_4_method_10_code 30 = .ok (.iload_n 1, 1) := by decide +kernel
theorem d_Parts_number_31 : decode prog_4_method_10_code 31 = .ok (.iaload, 1) := by decide +kernel
theorem d_Parts_number_32 : decode prog_4_method_10_code 32 = .ok (.isub, 1) := by decide +kernel
theorem d_Parts_number_33 : decode prog_4_method_10_code 33 = .ok (.iconst 2, 1) := by decide +kernel
theorem d_Parts_number_34 : decode prog_4_method_10_code 34 = .ok (.if_icmp .le 5, 3) := by decide +kernel
theorem d_Parts_number_37 : decode prog_4_method_10_code 37 = .ok (.iconst (-1), 1) := by decide +kernel
theorem d_Parts_number_38 : decode prog_4_method_10_code 38 = .ok (.ireturn, 1) := by decide +kernel
theorem d_Parts_number_39 : decode prog_4_method_10_code 39 = .ok (.iconst 0, 1) := by decide +kernel
theorem d_Parts_number_40 : decode prog_4_method_10_code 40 = .ok (.istore_n 2, 1) := by decide +kernel
theorem d_Parts_number_41 : decode prog_4_method_10_code 41 = .ok (.aload_n 0, 1) := by decide +kernel
theorem d_Parts_number_42 : decode prog_4_method_10_code 42 = .ok (.getfield 15, 3) := by decide +kernel
theorem d_Parts_number_45 : decode prog_4_method_10_code 45 = .ok (.iload_n 1, 1) := by decide +kernel
theorem d_Parts_number_46 : decode prog_4_method_10_code 46 = .ok (.iaload, 1) := by decide +kernel
theorem d_Parts_number_47 : decode prog_4_method_10_code 47 = .ok (.istore_n 3, 1) := by decide +kernel
theorem d_Parts_number_48 : decode prog_4_method_10_code 48 = .ok (.iload_n 3, 1) := by decide +kernel
theorem d_Parts_number_49 : decode prog_4_method_10_code 49 = .ok (.aload_n 0, 1) := by decide +kernel
theorem d_Parts_number_50 : decode prog_4_method_10_code 50 = .ok (.getfield 18, 3) := by decide +kernel
theorem d_Parts_number_53 : decode prog_4_method_10_code 53 = .ok (.iload_n 1, 1) := by decide +kernel
theorem d_Parts_number_54 : decode prog_4_method_10_code 54 = .ok (.iaload, 1) := by decide +kernel
theorem d_Parts_number_55 : decode prog_4_method_10_code 55 = .ok (.if_icmp .ge 37, 3) := by decide +kernel
theorem d_Parts_number_58 : decode prog_4_method_10_code 58 = .ok (.aload_n 0, 1) := by decide +kernel
theorem d_Parts_number_59 : decode prog_4_method_10_code 59 = .ok (.getfield 21, 3) := by decide +kernel
theorem d_Parts_number_62 : decode prog_4_method_10_code 62 = .ok (.iload_n 3, 1) := by decide +kernel
theorem d_Parts_number_63 : decode prog_4_method_10_code 63 = .ok (.caload, 1) := by decide +kernel
theorem d_Parts_number_64 : decode prog_4_method_10_code 64 = .ok (.bipush 57, 2) := by decide +kernel
theorem d_Parts_number_66 : decode prog_4_method_10_code 66 = .ok (.if_icmp .le 5, 3) := by decide +kernel
theorem d_Parts_number_69 : decode prog_4_method_10_code 69 = .ok (.iconst (-1), 1) := by decide +kernel
theorem d_Parts_number_70 : decode prog_4_method_10_code 70 = .ok (.ireturn, 1) := by decide +kernel
theorem d_Parts_number_71 : decode prog_4_method_10_code 71 = .ok (.iload_n 2, 1) := by decide +kernel
theorem d_Parts_number_72 : decode prog_4_method_10_code 72 = .ok (.bipush 10, 2) := by decide +kernel
theorem d_Parts_number_74 : decode prog_4_method_10_code 74 = .ok (.imul, 1) := by decide +kernel
theorem d_Parts_number_75 : decode prog_4_method_10_code 75 = .ok (.aload_n 0, 1) := by decide +kernel
theorem d_Parts_number_76 : decode prog_4_method_10_code 76 = .ok (.getfield 21, 3) := by decide +kernel
theorem d_Parts_number_79 : decode prog_4_method_10_code 79 = .ok (.iload_n 3, 1) := by decide +kernel
theorem d_Parts_number_80 : decode prog_4_method_10_code 80 = .ok (.caload, 1) := by decide +kernel
theorem d_Parts_number_81 : decode prog_4_method_10_code 81 = .ok (.iadd, 1) := by decide +kernel
theorem d_Parts_number_82 : decode prog_4_method_10_code 82 = .ok (.bipush 48, 2) := by decide +kernel
theorem d_Parts_number_84 : decode prog_4_method_10_code 84 = .ok (.isub, 1) := by decide +kernel
theorem d_Parts_number_85 : decode prog_4_method_10_code 85 = .ok (.istore_n 2, 1) := by decide +kernel
theorem d_Parts_number_86 : decode prog_4_method_10_code 86 = .ok (.iinc 3 1, 3) := by decide +kernel
theorem d_Parts_number_89 : decode prog_4_method_10_code 89 = .ok (.goto (-41), 3) := by decide +kernel
theorem d_Parts_number_92 : decode prog_4_method_10_code 92 = .ok (.iload_n 2, 1) := by decide +kernel
theorem d_Parts_number_93 : decode prog_4_method_10_code 93 = .ok (.ireturn, 1) := by decide +kernel
theorem d_Question_group_0 : decode prog_6_method_18_code 0 = .ok (.aload_n 0, 1) := by decide +kernel
theorem d_Question_group_1 : decode prog_6_method_18_code 1 = .ok (.iconst 0, 1) := by decide +kernel
theorem d_Question_group_2 : decode prog_6_method_18_code 2 = .ok (.invokevirtual 156, 3) := by decide +kernel
theorem d_Question_group_5 : decode prog_6_method_18_code 5 = .ok (.astore 5, 2) := by decide +kernel
theorem d_Question_group_7 : decode prog_6_method_18_code 7 = .ok (.aload 5, 2) := by decide +kernel
theorem d_Question_group_9 : decode prog_6_method_18_code 9 = .ok (.ifnull 37, 3) := by decide +kernel
theorem d_Question_group_12 : decode prog_6_method_18_code 12 = .ok (.aload 5, 2) := by decide +kernel
theorem d_Question_group_14 : decode prog_6_method_18_code 14 = .ok (.iload_n 1, 1) := by decide +kernel
theorem d_Question_group_15 : decode prog_6_method_18_code 15 = .ok (.putfield 159, 3) := by decide +kernel
theorem d_Question_group_18 : decode prog_6_method_18_code 18 = .ok (.aload 5, 2) := by decide +kernel
theorem d_Question_group_20 : decode prog_6_method_18_code 20 = .ok (.aload_n 0, 1) := by decide +kernel
theorem d_Question_group_21 : decode prog_6_method_18_code 21 = .ok (.getfield 56, 3) := by decide +kernel
theorem d_Question_group_24 : decode prog_6_method_18_code 24 = .ok (.putfield 162, 3) := by decide +kernel
theorem d_Question_group_27 : decode prog_6_method_18_code 27 = .ok (.aload 5, 2) := by decide +kernel
theorem d_Question_group_29 : decode prog_6_method_18_code 29 = .ok (.iload_n 2, 1) := by decide +kernel
theorem d_Question_group_30 : decode prog_6_method_18_code 30 = .ok (.putfield 165, 3) := by decide +kernel
theorem d_Question_group_33 : decode prog_6_method_18_code 33 = .ok (.aload 5, 2) := by decide +kernel
theorem d_Question_group_35 : decode prog_6_method_18_code 35 = .ok (.iload_n 3, 1) := by decide +kernel
theorem d_Question_group_36 : decode prog_6_method_18_code 36 = .ok (.putfield 168, 3) := by decide +kernel
theorem d_Question_group_39 : decode prog_6_method_18_code 39 = .ok (.aload 5, 2) := by decide +kernel
theorem d_Question_group_41 : decode prog_6_method_18_code 41 = .ok (.iload 4, 2) := by decide +kernel
theorem d_Question_group_43 : decode prog_6_method_18_code 43 = .ok (.putfield 171, 3) := by decide +kernel
theorem d_Question_group_46 : decode prog_6_method_18_code 46 = .ok (.aload 5, 2) := by decide +kernel
theorem d_Question_group_48 : decode prog_6_method_18_code 48 = .ok (.areturn, 1) := by decide +kernel
theorem d_Question_newNode_0 : decode prog_6_method_20_code 0 = .ok (.aload_n 0, 1) := by decide +kernel
theorem d_Question_newNode_1 : decode prog_6_method_20_code 1 = .ok (.getfield 59, 3) := by decide +kernel
theorem d_Question_newNode_4 : decode prog_6_method_20_code 4 = .ok (.bipush 24, 2) := by decide +kernel
theorem d_Question_newNode_6 : decode prog_6_method_20_code 6 = .ok (.if_icmp .lt 8, 3) := by decide +kernel
theorem d_Question_newNode_9 : decode prog_6_method_20_code 9 = .ok (.aload_n 0, 1) := by decide +kernel
theorem d_Question_newNode_10 : decode prog_6_method_20_code 10 = .ok (.invokevirtual 73, 3) := by decide +kernel
theorem d_Question_newNode_13 : decode prog_6_method_20_code 13 = .ok (.areturn, 1) := by decide +kernel
theorem d_Question_newNode_14 : decode prog_6_method_20_code 14 = .ok (.aload_n 0, 1) := by decide +kernel
theorem d_Question_newNode_15 : decode prog_6_method_20_code 15 = .ok (.getfield 30, 3) := by decide +kernel
theorem d_Question_newNode_18 : decode prog_6_method_20_code 18 = .ok (.aload_n 0, 1) := by decide +kernel
theorem d_Question_newNode_19 : decode prog_6_method_20_code 19 = .ok (.getfield 59, 3) := by decide +kernel
theorem d_Question_newNode_22 : decode prog_6_method_20_code 22 = .ok (.aaload, 1) := by decide +kernel
theorem d_Question_newNode_23 : decode prog_6_method_20_code 23 = .ok (.astore_n 2, 1) := by decide +kernel
theorem d_Question_newNode_24 : decode prog_6_method_20_code 24 = .ok (.aload_n 2, 1) := by decide +kernel
theorem d_Question_newNode_25 : decode prog_6_method_20_code 25 = .ok (.iload_n 1, 1) := by decide +kernel
theorem d_Question_newNode_26 : decode prog_6_method_20_code 26 = .ok (.putfield 181, 3) := by decide +kernel
theorem d_Question_newNode_29 : decode prog_6_method_20_code 29 = .ok (.aload_n 0, 1) := by decide +kernel
theorem d_Question_newNode_30 : decode prog_6_method_20_code 30 = .ok (.dup, 1) := by decide +kernel
theorem d_Question_newNode_31 : decode prog_6_method_20_code 31 = .ok (.getfield 59, 3) := by decide +kernel
theorem d_Question_newNode_34 : decode prog_6_method_20_code 34 = .ok (.iconst 1, 1) := by decide +kernel
theorem d_Question_newNode_35 : decode prog_6_method_20_code 35 = .ok (.iadd, 1) := by decide +kernel
theorem d_Question_newNode_36 : decode prog_6_method_20_code 36 = .ok (.putfield 59, 3) := by decide +kernel
theorem d_Question_newNode_39 : decode prog_6_method_20_code 39 = .ok (.aload_n 2, 1) := by decide +kernel
theorem d_Question_newNode_40 : decode prog_6_method_20_code 40 = .ok (.areturn, 1) := by decide +kernel
theorem d_Question_single_0 : decode prog_6_method_14_code 0 = .ok (.aload_n 0, 1) := by decide +kernel
theorem d_Question_single_1 : decode prog_6_method_14_code 1 = .ok (.bipush 12, 2) := by decide +kernel
theorem d_Question_single_3 : decode prog_6_method_14_code 3 = .ok (.invokevirtual 103, 3) := by decide +kernel
theorem d_Question_single_6 : decode prog_6_method_14_code 6 = .ok (.ifCond .eq 7, 3) := by decide +kernel
theorem d_Question_single_9 : decode prog_6_method_14_code 9 = .ok (.iconst 1, 1) := by decide +kernel
theorem d_Question_single_10 : decode prog_6_method_14_code 10 = .ok (.goto 4, 3) := by decide +kernel
theorem d_Question_single_13 : decode prog_6_method_14_code 13 = .ok (.iconst (-1), 1) := by decide +kernel
theorem d_Question_single_14 : decode prog_6_method_14_code 14 = .ok (.istore_n 2, 1) := by decide +kernel
theorem d_Question_single_15 : decode prog_6_method_14_code 15 = .ok (.aload_n 0, 1) := by decide +kernel
theorem d_Question_single_16 : decode prog_6_method_14_code 16 = .ok (.getfield 56, 3) := by decide +kernel
theorem d_Question_single_19 : decode prog_6_method_14_code 19 = .ok (.istore_n 3, 1) := by decide +kernel
theorem d_Question_single_20 : decode prog_6_method_14_code 20 = .ok (.aload_n 0, 1) := by decide +kernel
theorem d_Question_single_21 : decode prog_6_method_14_code 21 = .ok (.invokevirtual 126, 3) := by decide +kernel
theorem d_Question_single_24 : decode prog_6_method_14_code 24 = .ok (.ifCond .eq 14, 3) := by decide +kernel
theorem d_Question_single_27 : decode prog_6_method_14_code 27 = .ok (.aload_n 0, 1) := by decide +kernel
theorem d_Question_single_28 : decode prog_6_method_14_code 28 = .ok (.iload_n 3, 1) := by decide +kernel
theorem d_Question_single_29 : decode prog_6_method_14_code 29 = .ok (.iconst 0, 1) := by decide +kernel
theorem d_Question_single_30 : decode prog_6_method_14_code 30 = .ok (.iload_n 1, 1) := by decide +kernel
theorem d_Question_single_31 : decode prog_6_method_14_code 31 = .ok (.iload_n 2, 1) := by decide +kernel
theorem d_Question_single_32 : decode prog_6_method_14_code 32 = .ok (.invokevirtual 129, 3) := by decide +kernel
theorem d_Question_single_35 : decode prog_6_method_14_code 35 = .ok (.goto 4, 3) := by decide +kernel
theorem d_Question_single_38 : decode prog_6_method_14_code 38 = .ok (.aconst_null, 1) := by decide +kernel
theorem d_Question_single_39 : decode prog_6_method_14_code 39 = .ok (.areturn, 1) := by decide +kernel
theorem d_Question_goesOn_0 : decode prog_6_method_8_code 0 = .ok (.iload_n 1, 1) := by decide +kernel
theorem d_Question_goesOn_1 : decode prog_6_method_8_code 1 = .ok (.bipush 8, 2) := by decide +kernel
theorem d_Question_goesOn_3 : decode prog_6_method_8_code 3 = .ok (.if_icmp .ne 10, 3) := by decide +kernel
theorem d_Question_goesOn_6 : decode prog_6_method_8_code 6 = .ok (.aload_n 0, 1) := by decide +kernel
theorem d_Question_goesOn_7 : decode prog_6_method_8_code 7 = .ok (.invokevirtual 99, 3) := by decide +kernel
theorem d_Question_goesOn_10 : decode prog_6_method_8_code 10 = .ok (.goto 8, 3) := by decide +kernel
theorem d_Question_goesOn_13 : decode prog_6_method_8_code 13 = .ok (.aload_n 0, 1) := by decide +kernel
theorem d_Question_goesOn_14 : decode prog_6_method_8_code 14 = .ok (.iload_n 1, 1) := by decide +kernel
theorem d_Question_goesOn_15 : decode prog_6_method_8_code 15 = .ok (.invokevirtual 103, 3) := by decide +kernel
theorem d_Question_goesOn_18 : decode prog_6_method_8_code 18 = .ok (.ireturn, 1) := by decide +kernel
theorem d_Question_beginsAtom_0 : decode prog_6_method_9_code 0 = .ok (.aload_n 0, 1) := by decide +kernel
theorem d_Question_beginsAtom_1 : decode prog_6_method_9_code 1 = .ok (.invokevirtual 69, 3) := by decide +kernel
theorem d_Question_beginsAtom_4 : decode prog_6_method_9_code 4 = .ok (.istore_n 1, 1) := by decide +kernel
theorem d_Question_beginsAtom_5 : decode prog_6_method_9_code 5 = .ok (.aload_n 0, 1) := by decide +kernel
theorem d_Question_beginsAtom_6 : decode prog_6_method_9_code 6 = .ok (.invokevirtual 106, 3) := by decide +kernel
theorem d_Question_beginsAtom_9 : decode prog_6_method_9_code 9 = .ok (.ifCond .ne 22, 3) := by decide +kernel
theorem d_Question_beginsAtom_12 : decode prog_6_method_9_code 12 = .ok (.aload_n 0, 1) := by decide +kernel
theorem d_Question_beginsAtom_13 : decode prog_6_method_9_code 13 = .ok (.invokevirtual 109, 3) := by decide +kernel
theorem d_Question_beginsAtom_16 : decode prog_6_method_9_code 16 = .ok (.ifCond .ne 15, 3) := by decide +kernel
theorem d_Question_beginsAtom_19 : decode prog_6_method_9_code 19 = .ok (.iload_n 1, 1) := by decide +kernel
theorem d_Question_beginsAtom_20 : decode prog_6_method_9_code 20 = .ok (.bipush 12, 2) := by decide +kernel
theorem d_Question_beginsAtom_22 : decode prog_6_method_9_code 22 = .ok (.if_icmp .eq 9, 3) := by decide +kernel
theorem d_Question_beginsAtom_25 : decode prog_6_method_9_code 25 = .ok (.iload_n 1, 1) := by decide +kernel
theorem d_Question_beginsAtom_26 : decode prog_6_method_9_code 26 = .ok (.bipush 8, 2) := by decide +kernel
theorem d_Question_beginsAtom_28 : decode prog_6_method_9_code 28 = .ok (.if_icmp .ne 7, 3) := by decide +kernel
theorem d_Question_beginsAtom_31 : decode prog_6_method_9_code 31 = .ok (.iconst 1, 1) := by decide +kernel
theorem d_Question_beginsAtom_32 : decode prog_6_method_9_code 32 = .ok (.goto 4, 3) := by decide +kernel
theorem d_Question_beginsAtom_35 : decode prog_6_method_9_code 35 = .ok (.iconst 0, 1) := by decide +kernel
theorem d_Question_beginsAtom_36 : decode prog_6_method_9_code 36 = .ok (.ireturn, 1) := by decide +kernel
theorem d_Question_join_0 : decode prog_6_method_19_code 0 = .ok (.aload_n 0, 1) := by decide +kernel
theorem d_Question_join_1 : decode prog_6_method_19_code 1 = .ok (.iload_n 1, 1) := by decide +kernel
theorem d_Question_join_2 : decode prog_6_method_19_code 2 = .ok (.bipush 8, 2) := by decide +kernel
theorem d_Question_join_4 : decode prog_6_method_19_code 4 = .ok (.if_icmp .ne 8, 3) := by decide +kernel
theorem d_Question_join_7 : decode prog_6_method_19_code 7 = .ok (.bipush 6, 2) := by decide +kernel
theorem d_Question_join_9 : decode prog_6_method_19_code 9 = .ok (.goto 4, 3) := by decide +kernel
theorem d_Question_join_12 : decode prog_6_method_19_code 12 = .ok (.iload_n 1, 1) := by decide +kernel
theorem d_Question_join_13 : decode prog_6_method_19_code 13 = .ok (.invokevirtual 156, 3) := by decide +kernel
theorem d_Question_join_16 : decode prog_6_method_19_code 16 = .ok (.astore 4, 2) := by decide +kernel
theorem d_Question_join_18 : decode prog_6_method_19_code 18 = .ok (.aload 4, 2) := by decide +kernel
theorem d_Question_join_20 : decode prog_6_method_19_code 20 = .ok (.ifnull 15, 3) := by decide +kernel
theorem d_Question_join_23 : decode prog_6_method_19_code 23 = .ok (.aload 4, 2) := by decide +kernel
theorem d_Question_join_25 : decode prog_6_method_19_code 25 = .ok (.aload_n 2, 1) := by decide +kernel
theorem d_Question_join_26 : decode prog_6_method_19_code 26 = .ok (.putfield 174, 3) := by decide +kernel
theorem d_Question_join_29 : decode prog_6_method_19_code 29 = .ok (.aload 4, 2) := by decide +kernel
theorem d_Question_join_31 : decode prog_6_method_19_code 31 = .ok (.aload_n 3, 1) := by decide +kernel
theorem d_Question_join_32 : decode prog_6_method_19_code 32 = .ok (.putfield 178, 3) := by decide +kernel
theorem d_Question_join_35 : decode prog_6_method_19_code 35 = .ok (.aload 4, 2) := by decide +kernel
theorem d_Question_join_37 : decode prog_6_method_19_code 37 = .ok (.areturn, 1) := by decide +kernel
theorem d_Standing_fill_0 : decode prog_8_method_2_code 0 = .ok (.aload_n 0, 1) := by decide +kernel
theorem d_Standing_fill_1 : decode prog_8_method_2_code 1 = .ok (.aload_n 1, 1) := by decide +kernel
theorem d_Standing_fill_2 : decode prog_8_method_2_code 2 = .ok (.putfield 15, 3) := by decide +kernel
theorem d_Standing_fill_5 : decode prog_8_method_2_code 5 = .ok (.iconst 0, 1) := by decide +kernel
theorem d_Standing_fill_6 : decode prog_8_method_2_code 6 = .ok (.istore_n 3, 1) := by decide +kernel
theorem d_Standing_fill_7 : decode prog_8_method_2_code 7 = .ok (.iload_n 3, 1) := by decide +kernel
theorem d_Standing_fill_8 : decode prog_8_method_2_code 8 = .ok (.aload_n 1, 1) := by decide +kernel
theorem d_Standing_fill_9 : decode prog_8_method_2_code 9 = .ok (.getfield 19, 3) := by decide +kernel
theorem d_Standing_fill_12 : decode prog_8_method_2_code 12 = .ok (.if_icmp .ge 91, 3) := by decide +kernel
theorem d_Standing_fill_15 : decode prog_8_method_2_code 15 = .ok (.iconst 1, 1) := by decide +kernel
theorem d_Standing_fill_16 : decode prog_8_method_2_code 16 = .ok (.istore 4, 2) := by decide +kernel
theorem d_Standing_fill_18 : decode prog_8_method_2_code 18 = .ok (.iload 4, 2) := by decide +kernel
theorem d_Standing_fill_20 : decode prog_8_method_2_code 20 = .ok (.bipush 24, 2) := by decide +kernel
theorem d_Standing_fill_22 : decode prog_8_method_2_code 22 = .ok (.if_icmp .gt 75, 3) := by decide +kernel
theorem d_Standing_fill_25 : decode prog_8_method_2_code 25 = .ok (.aload_n 2, 1) := by decide +kernel
theorem d_Standing_fill_26 : decode prog_8_method_2_code 26 = .ok (.iload 4, 2) := by decide +kernel
theorem d_Standing_fill_28 : decode prog_8_method_2_code 28 = .ok (.invokevirtual 25, 3) := by decide +kernel
theorem d_Standing_fill_31 : decode prog_8_method_2_code 31 = .ok (.astore 5, 2) := by decide +kernel
theorem d_Standing_fill_33 : decode prog_8_method_2_code 33 = .ok (.iconst 0, 1) := by decide +kernel
theorem d_Standing_fill_34 : decode prog_8_method_2_code 34 = .ok (.istore 6, 2) := by decide +kernel
theorem d_Standing_fill_36 : decode prog_8_method_2_code 36 = .ok (.iload 6, 2) := by decide +kernel
theorem d_Standing_fill_38 : decode prog_8_method_2_code 38 = .ok (.iconst 2, 1) := by decide +kernel
theorem d_Standing_fill_39 : decode prog_8_method_2_code 39 = .ok (.if_icmp .ge 52, 3) := by decide +kernel
theorem d_Standing_fill_42 : decode prog_8_method_2_code 42 = .ok (.aload 5, 2) := by decide +kernel
theorem d_Standing_fill_44 : decode prog_8_method_2_code 44 = .ok (.ifnonnull 7, 3) := by decide +kernel
theorem d_Standing_fill_47 : decode prog_8_method_2_code 47 = .ok (.iconst 0, 1) := by decide +kernel
theorem d_Standing_fill_48 : decode prog_8_method_2_code 48 = .ok (.goto 20, 3) := by decide +kernel
theorem d_Standing_fill_51 : decode prog_8_method_2_code 51 = .ok (.aload_n 0, 1) := by decide +kernel
theorem d_Standing_fill_52 : decode prog_8_method_2_code 52 = .ok (.aload_n 1, 1) := by decide +kernel
theorem d_Standing_fill_53 : decode prog_8_method_2_code 53 = .ok (.getfield 31, 3) := by decide +kernel
theorem d_Standing_fill_56 : decode prog_8_method_2_code 56 = .ok (.iload_n 3, 1) := by decide +kernel
theorem d_Standing_fill_57 : decode prog_8_method_2_code 57 = .ok (.aaload, 1) := by decide +kernel
theorem d_Standing_fill_58 : decode prog_8_method_2_code 58 = .ok (.aload 5, 2) := by decide +kernel
theorem d_Standing_fill_60 : decode prog_8_method_2_code 60 = .ok (.iload 6, 2) := by decide +kernel
theorem d_Standing_fill_62 : decode prog_8_method_2_code 62 = .ok (.invokevirtual 35, 3) := by decide +kernel
theorem d_Standing_fill_65 : decode prog_8_method_2_code 65 = .ok (.invokevirtual 41, 3) := by decide +kernel
theorem d_Standing_fill_68 : decode prog_8_method_2_code 68 = .ok (.istore 7, 2) := by decide +kernel
theorem d_Standing_fill_70 : decode prog_8_method_2_code 70 = .ok (.aload_n 0, 1) := by decide +kernel
theorem d_Standing_fill_71 : decode prog_8_method_2_code 71 = .ok (.getfield 9, 3) := by decide +kernel
theorem d_Standing_fill_74 : decode prog_8_method_2_code 74 = .ok (.iload_n 3, 1) := by decide +kernel
theorem d_Standing_fill_75 : decode prog_8_method_2_code 75 = .ok (.iload 4, 2) := by decide +kernel
theorem d_Standing_fill_77 : decode prog_8_method_2_code 77 = .ok (.iload 6, 2) := by decide +kernel
theorem d_Standing_fill_79 : decode prog_8_method_2_code 79 = .ok (.invokestatic 45, 3) := by decide +kernel
theorem d_Standing_fill_82 : decode prog_8_method_2_code 82 = .ok (.iload 7, 2) := by decide +kernel
theorem d_Standing_fill_84 : decode prog_8_method_2_code 84 = .ok (.iastore, 1) := by decide +kernel
theorem d_Standing_fill_85 : decode prog_8_method_2_code 85 = .ok (.iinc 6 1, 3) := by decide +kernel
theorem d_Standing_fill_88 : decode prog_8_method_2_code 88 = .ok (.goto (-52), 3) := by decide +kernel
theorem d_Standing_fill_91 : decode prog_8_method_2_code 91 = .ok (.iinc 4 1, 3) := by decide +kernel
theorem d_Standing_fill_94 : decode prog_8_method_2_code 94 = .ok (.goto (-76), 3) := by decide +kernel
theorem d_Standing_fill_97 : decode prog_8_method_2_code 97 = .ok (.iinc 3 1, 3) := by decide +kernel
theorem d_Standing_fill_100 : decode prog_8_method_2_code 100 = .ok (.goto (-93), 3) := by decide +kernel
theorem d_Standing_fill_103 : decode prog_8_method_2_code 103 = .ok (.return_, 1) := by decide +kernel
theorem d_Version_text_0 : decode prog_11_method_2_code 0 = .ok (.iload_n 1, 1) := by decide +kernel
theorem d_Version_text_1 : decode prog_11_method_2_code 1 = .ok (.ifCond .ne 10, 3) := by decide +kernel
theorem d_Version_text_4 : decode prog_11_method_2_code 4 = .ok (.aload_n 0, 1) := by decide +kernel
theorem d_Version_text_5 : decode prog_11_method_2_code 5 = .ok (.getfield 16, 3) := by decide +kernel
theorem d_Version_text_8 : decode prog_11_method_2_code 8 = .ok (.goto 7, 3) := by decide +kernel
theorem d_Version_text_11 : decode prog_11_method_2_code 11 = .ok (.aload_n 0, 1) := by decide +kernel
theorem d_Version_text_12 : decode prog_11_method_2_code 12 = .ok (.getfield 20, 3) := by decide +kernel
theorem d_Version_text_15 : decode prog_11_method_2_code 15 = .ok (.areturn, 1) := by decide +kernel
theorem d_Standing_placesIn_0 : decode prog_8_method_5_code 0 = .ok (.iconst 0, 1) := by decide +kernel
theorem d_Standing_placesIn_1 : decode prog_8_method_5_code 1 = .ok (.istore_n 3, 1) := by decide +kernel
theorem d_Standing_placesIn_2 : decode prog_8_method_5_code 2 = .ok (.aload_n 1, 1) := by decide +kernel
theorem d_Standing_placesIn_3 : decode prog_8_method_5_code 3 = .ok (.getfield 49, 3) := by decide +kernel
theorem d_Standing_placesIn_6 : decode prog_8_method_5_code 6 = .ok (.ifCond .le 44, 3) := by decide +kernel
theorem d_Standing_placesIn_9 : decode prog_8_method_5_code 9 = .ok (.iconst 0, 1) := by decide +kernel
theorem d_Standing_placesIn_10 : decode prog_8_method_5_code 10 = .ok (.istore 4, 2) := by decide +kernel
theorem d_Standing_placesIn_12 : decode prog_8_method_5_code 12 = .ok (.iload 4, 2) := by decide +kernel
theorem d_Standing_placesIn_14 : decode prog_8_method_5_code 14 = .ok (.aload_n 1, 1) := by decide +kernel
theorem d_Standing_placesIn_15 : decode prog_8_method_5_code 15 = .ok (.getfield 49, 3) := by decide +kernel
theorem d_Standing_placesIn_18 : decode prog_8_method_5_code 18 = .ok (.iadd, 1) := by decide +kernel
theorem d_Standing_placesIn_19 : decode prog_8_method_5_code 19 = .ok (.aload_n 2, 1) := by decide +kernel
theorem d_Standing_placesIn_20 : decode prog_8_method_5_code 20 = .ok (.getfield 54, 3) := by decide +kernel
theorem d_Standing_placesIn_23 : decode prog_8_method_5_code 23 = .ok (.if_icmp .gt 27, 3) := by decide +kernel
theorem d_Standing_placesIn_26 : decode prog_8_method_5_code 26 = .ok (.aload_n 0, 1) := by decide +kernel
theorem d_Standing_placesIn_27 : decode prog_8_method_5_code 27 = .ok (.aload_n 1, 1) := by decide +kernel
theorem d_Standing_placesIn_28 : decode prog_8_method_5_code 28 = .ok (.aload_n 2, 1) := by decide +kernel
theorem d_Standing_placesIn_29 : decode prog_8_method_5_code 29 = .ok (.iload 4, 2) := by decide +kernel
theorem d_Standing_placesIn_31 : decode prog_8_method_5_code 31 = .ok (.invokevirtual 59, 3) := by decide +kernel
theorem d_Standing_placesIn_34 : decode prog_8_method_5_code 34 = .ok (.ifCond .eq 10, 3) := by decide +kernel
theorem d_Standing_placesIn_37 : decode prog_8_method_5_code 37 = .ok (.iload_n 3, 1) := by decide +kernel
theorem d_Standing_placesIn_38 : decode prog_8_method_5_code 38 = .ok (.iconst 1, 1) := by decide +kernel
theorem d_Standing_placesIn_39 : decode prog_8_method_5_code 39 = .ok (.iload 4, 2) := by decide +kernel
theorem d_Standing_placesIn_41 : decode prog_8_method_5_code 41 = .ok (.ishl, 1) := by decide +kernel
theorem d_Standing_placesIn_42 : decode prog_8_method_5_code 42 = .ok (.ior, 1) := by decide +kernel
theorem d_Standing_placesIn_43 : decode prog_8_method_5_code 43 = .ok (.istore_n 3, 1) := by decide +kernel
theorem d_Standing_placesIn_44 : decode prog_8_method_5_code 44 = .ok (.iinc 4 1, 3) := by decide +kernel
theorem d_Standing_placesIn_47 : decode prog_8_method_5_code 47 = .ok (.goto (-35), 3) := by decide +kernel
theorem d_Standing_placesIn_50 : decode prog_8_method_5_code 50 = .ok (.iload_n 3, 1) := by decide +kernel
theorem d_Standing_placesIn_51 : decode prog_8_method_5_code 51 = .ok (.ireturn, 1) := by decide +kernel
theorem d_Standing_standsAt_0 : decode prog_8_method_6_code 0 = .ok (.iconst 0, 1) := by decide +kernel
theorem d_Standing_standsAt_1 : decode prog_8_method_6_code 1 = .ok (.istore 4, 2) := by decide +kernel
theorem d_Standing_standsAt_3 : decode prog_8_method_6_code 3 = .ok (.iload 4, 2) := by decide +kernel
theorem d_Standing_standsAt_5 : decode prog_8_method_6_code 5 = .ok (.aload_n 1, 1) := by decide +kernel
theorem d_Standing_standsAt_6 : decode prog_8_method_6_code 6 = .ok (.getfield 49, 3) := by decide +kernel
theorem d_Standing_standsAt_9 : decode prog_8_method_6_code 9 = .ok (.if_icmp .ge 63, 3) := by decide +kernel
theorem d_Standing_standsAt_12 : decode prog_8_method_6_code 12 = .ok (.aload_n 1, 1) := by decide +kernel
theorem d_Standing_standsAt_13 : decode prog_8_method_6_code 13 = .ok (.getfield 63, 3) := by decide +kernel
theorem d_Standing_standsAt_16 : decode prog_8_method_6_code 16 = .ok (.ifCond .eq 18, 3) := by decide +kernel
theorem d_Standing_standsAt_19 : decode prog_8_method_6_code 19 = .ok (.iload 4, 2) := by decide +kernel
theorem d_Standing_standsAt_21 : decode prog_8_method_6_code 21 = .ok (.aload_n 1, 1) := by decide +kernel
theorem d_Standing_standsAt_22 : decode prog_8_method_6_code 22 = .ok (.getfield 49, 3) := by decide +kernel
theorem d_Standing_standsAt_25 : decode prog_8_method_6_code 25 = .ok (.iconst 1, 1) := by decide +kernel
theorem d_Standing_standsAt_26 : decode prog_8_method_6_code 26 = .ok (.isub, 1) := by decide +kernel
theorem d_Standing_standsAt_27 : decode prog_8_method_6_code 27 = .ok (.if_icmp .ne 7, 3) := by decide +kernel
theorem d_Standing_standsAt_30 : decode prog_8_method_6_code 30 = .ok (.iconst 1, 1) := by decide +kernel
theorem d_Standing_standsAt_31 : decode prog_8_method_6_code 31 = .ok (.goto 4, 3) := by decide +kernel
theorem d_Standing_standsAt_34 : decode prog_8_method_6_code 34 = .ok (.iconst 0, 1) := by decide +kernel
theorem d_Standing_standsAt_35 : decode prog_8_method_6_code 35 = .ok (.istore 5, 2) := by decide +kernel
theorem d_Standing_standsAt_37 : decode prog_8_method_6_code 37 = .ok (.aload_n 0, 1) := by decide +kernel
theorem d_Standing_standsAt_38 : decode prog_8_method_6_code 38 = .ok (.getfield 15, 3) := by decide +kernel
theorem d_Standing_standsAt_41 : decode prog_8_method_6_code 41 = .ok (.getfield 67, 3) := by decide +kernel
theorem d_Standing_standsAt_44 : decode prog_8_method_6_code 44 = .ok (.aload_n 1, 1) := by decide +kernel
theorem d_Standing_standsAt_45 : decode prog_8_method_6_code 45 = .ok (.getfield 71, 3) := by decide +kernel
theorem d_Standing_standsAt_48 : decode prog_8_method_6_code 48 = .ok (.iload 4, 2) := by decide +kernel
theorem d_Standing_standsAt_50 : decode prog_8_method_6_code 50 = .ok (.iadd, 1) := by decide +kernel
theorem d_Standing_standsAt_51 : decode prog_8_method_6_code 51 = .ok (.aload_n 2, 1) := by decide +kernel
theorem d_Standing_standsAt_52 : decode prog_8_method_6_code 52 = .ok (.iload_n 3, 1) := by decide +kernel
theorem d_Standing_standsAt_53 : decode prog_8_method_6_code 53 = .ok (.iload 4, 2) := by decide +kernel
theorem d_Standing_standsAt_55 : decode prog_8_method_6_code 55 = .ok (.iadd, 1) := by decide +kernel
theorem d_Standing_standsAt_56 : decode prog_8_method_6_code 56 = .ok (.iload 5, 2) := by decide +kernel
theorem d_Standing_standsAt_58 : decode prog_8_method_6_code 58 = .ok (.invokevirtual 74, 3) := by decide +kernel
theorem d_Standing_standsAt_61 : decode prog_8_method_6_code 61 = .ok (.ifCond .ne 5, 3) := by decide +kernel
theorem d_Standing_standsAt_64 : decode prog_8_method_6_code 64 = .ok (.iconst 0, 1) := by decide +kernel
theorem d_Standing_standsAt_65 : decode prog_8_method_6_code 65 = .ok (.ireturn, 1) := by decide +kernel
theorem d_Standing_standsAt_66 : decode prog_8_method_6_code 66 = .ok (.iinc 4 1, 3) := by decide +kernel
theorem d_Standing_standsAt_69 : decode prog_8_method_6_code 69 = .ok (.goto (-66), 3) := by decide +kernel
theorem d_Standing_standsAt_72 : decode prog_8_method_6_code 72 = .ok (.iconst 1, 1) := by decide +kernel
theorem d_Standing_standsAt_73 : decode prog_8_method_6_code 73 = .ok (.ireturn, 1) := by decide +kernel
theorem d_Standing_index_0 : decode prog_8_method_3_code 0 = .ok (.iload_n 0, 1) := by decide +kernel
theorem d_Standing_index_1 : decode prog_8_method_3_code 1 = .ok (.bipush 24, 2) := by decide +kernel
theorem d_Standing_index_3 : decode prog_8_method_3_code 3 = .ok (.imul, 1) := by decide +kernel
theorem d_Standing_index_4 : decode prog_8_method_3_code 4 = .ok (.iload_n 1, 1) := by decide +kernel
theorem d_Standing_index_5 : decode prog_8_method_3_code 5 = .ok (.iadd, 1) := by decide +kernel
theorem d_Standing_index_6 : decode prog_8_method_3_code 6 = .ok (.iconst 1, 1) := by decide +kernel
theorem d_Standing_index_7 : decode prog_8_method_3_code 7 = .ok (.isub, 1) := by decide +kernel
theorem d_Standing_index_8 : decode prog_8_method_3_code 8 = .ok (.iconst 2, 1) := by decide +kernel
theorem d_Standing_index_9 : decode prog_8_method_3_code 9 = .ok (.imul, 1) := by decide +kernel
theorem d_Standing_index_10 : decode prog_8_method_3_code 10 = .ok (.iload_n 2, 1) := by decide +kernel
theorem d_Standing_index_11 : decode prog_8_method_3_code 11 = .ok (.iadd, 1) := by decide +kernel
theorem d_Standing_index_12 : decode prog_8_method_3_code 12 = .ok (.ireturn, 1) := by decide +kernel
theorem d_Standing_rowsFound_0 : decode prog_8_method_9_code 0 = .ok (.iconst 0, 1) := by decide +kernel
theorem d_Standing_rowsFound_1 : decode prog_8_method_9_code 1 = .ok (.istore_n 2, 1) := by decide +kernel
theorem d_Standing_rowsFound_2 : decode prog_8_method_9_code 2 = .ok (.iconst 0, 1) := by decide +kernel
theorem d_Standing_rowsFound_3 : decode prog_8_method_9_code 3 = .ok (.istore_n 3, 1) := by decide +kernel
theorem d_Standing_rowsFound_4 : decode prog_8_method_9_code 4 = .ok (.iload_n 3, 1) := by decide +kernel
theorem d_Standing_rowsFound_5 : decode prog_8_method_9_code 5 = .ok (.aload_n 1, 1) := by decide +kernel
theorem d_Standing_rowsFound_6 : decode prog_8_method_9_code 6 = .ok (.getfield 85, 3) := by decide +kernel
theorem d_Standing_rowsFound_9 : decode prog_8_method_9_code 9 = .ok (.if_icmp .ge 50, 3) := by decide +kernel
theorem d_Standing_rowsFound_12 : decode prog_8_method_9_code 12 = .ok (.aload_n 1, 1) := by decide +kernel
theorem d_Standing_rowsFound_13 : decode prog_8_method_9_code 13 = .ok (.getfield 88, 3) := by decide +kernel
theorem d_Standing_rowsFound_16 : decode prog_8_method_9_code 16 = .ok (.iload_n 3, 1) := by decide +kernel
theorem d_Standing_rowsFound_17 : decode prog_8_method_9_code 17 = .ok (.aaload, 1) := by decide +kernel
theorem d_Standing_rowsFound_18 : decode prog_8_method_9_code 18 = .ok (.astore 4, 2) := by decide +kernel
theorem d_Standing_rowsFound_20 : decode prog_8_method_9_code 20 = .ok (.aload 4, 2) := by decide +kernel
theorem d_Standing_rowsFound_22 : decode prog_8_method_9_code 22 = .ok (.aload 4, 2) := by decide +kernel
theorem d_Standing_rowsFound_24 : decode prog_8_method_9_code 24 = .ok (.getfield 92, 3) := by decide +kernel
theorem d_Standing_rowsFound_27 : decode prog_8_method_9_code 27 = .ok (.ifCond .ne 12, 3) := by decide +kernel
theorem d_Standing_rowsFound_30 : decode prog_8_method_9_code 30 = .ok (.aload_n 0, 1) := by decide +kernel
theorem d_Standing_rowsFound_31 : decode prog_8_method_9_code 31 = .ok (.aload 4, 2) := by decide +kernel
theorem d_Standing_rowsFound_33 : decode prog_8_method_9_code 33 = .ok (.invokevirtual 97, 3) := by decide +kernel
theorem d_Standing_rowsFound_36 : decode prog_8_method_9_code 36 = .ok (.goto 8, 3) := by decide +kernel
theorem d_Standing_rowsFound_39 : decode prog_8_method_9_code 39 = .ok (.aload 4, 2) := by decide +kernel
theorem d_Standing_rowsFound_41 : decode prog_8_method_9_code 41 = .ok (.invokestatic 101, 3) := by decide +kernel
theorem d_Standing_rowsFound_44 : decode prog_8_method_9_code 44 = .ok (.putfield 104, 3) := by decide +kernel
theorem d_Standing_rowsFound_47 : decode prog_8_method_9_code 47 = .ok (.aload 4, 2) := by decide +kernel
theorem d_Standing_rowsFound_49 : decode prog_8_method_9_code 49 = .ok (.getfield 104, 3) := by decide +kernel
theorem d_Standing_rowsFound_52 : decode prog_8_method_9_code 52 = .ok (.istore_n 2, 1) := by decide +kernel
theorem d_Standing_rowsFound_53 : decode prog_8_method_9_code 53 = .ok (.iinc 3 1, 3) := by decide +kernel
theorem d_Standing_rowsFound_56 : decode prog_8_method_9_code 56 = .ok (.goto (-52), 3) := by decide +kernel
theorem d_Standing_rowsFound_59 : decode prog_8_method_9_code 59 = .ok (.iload_n 2, 1) := by decide +kernel
theorem d_Standing_rowsFound_60 : decode prog_8_method_9_code 60 = .ok (.ireturn, 1) := by decide +kernel
theorem d_Standing_rowsOfGroup_0 : decode prog_8_method_11_code 0 = .ok (.iconst 0, 1) := by decide +kernel
theorem d_Standing_rowsOfGroup_1 : decode prog_8_method_11_code 1 = .ok (.istore_n 2, 1) := by decide +kernel
theorem d_Standing_rowsOfGroup_2 : decode prog_8_method_11_code 2 = .ok (.iconst 1, 1) := by decide +kernel
theorem d_Standing_rowsOfGroup_3 : decode prog_8_method_11_code 3 = .ok (.istore_n 3, 1) := by decide +kernel
theorem d_Standing_rowsOfGroup_4 : decode prog_8_method_11_code 4 = .ok (.iload_n 3, 1) := by decide +kernel
theorem d_Standing_rowsOfGroup_5 : decode prog_8_method_11_code 5 = .ok (.bipush 24, 2) := by decide +kernel
theorem d_Standing_rowsOfGroup_7 : decode prog_8_method_11_code 7 = .ok (.if_icmp .gt 54, 3) := by decide +kernel
theorem d_Standing_rowsOfGroup_10 : decode prog_8_method_11_code 10 = .ok (.iconst 0, 1) := by decide +kernel
theorem d_Standing_rowsOfGroup_11 : decode prog_8_method_11_code 11 = .ok (.istore 4, 2) := by decide +kernel
theorem d_Standing_rowsOfGroup_13 : decode prog_8_method_11_code 13 = .ok (.iload 4, 2) := by decide +kernel
theorem d_Standing_rowsOfGroup_15 : decode prog_8_method_11_code 15 = .ok (.iconst 2, 1) := by decide +kernel
theorem d_Standing_rowsOfGroup_16 : decode prog_8_method_11_code 16 = .ok (.if_icmp .ge 39, 3) := by decide +kernel
theorem d_Standing_rowsOfGroup_19 : decode prog_8_method_11_code 19 = .ok (.aload_n 1, 1) := by decide +kernel
theorem d_Standing_rowsOfGroup_20 : decode prog_8_method_11_code 20 = .ok (.getfield 116, 3) := by decide +kernel
theorem d_Standing_rowsOfGroup_23 : decode prog_8_method_11_code 23 = .ok (.iload 4, 2) := by decide +kernel
theorem d_Standing_rowsOfGroup_25 : decode prog_8_method_11_code 25 = .ok (.ishr, 1) := by decide +kernel
theorem d_Standing_rowsOfGroup_26 : decode prog_8_method_11_code 26 = .ok (.iconst 1, 1) := by decide +kernel
theorem d_Standing_rowsOfGroup_27 : decode prog_8_method_11_code 27 = .ok (.iand, 1) := by decide +kernel
theorem d_Standing_rowsOfGroup_28 : decode prog_8_method_11_code 28 = .ok (.iconst 1, 1) := by decide +kernel
theorem d_Standing_rowsOfGroup_29 : decode prog_8_method_11_code 29 = .ok (.if_icmp .ne 20, 3) := by decide +kernel
theorem d_Standing_rowsOfGroup_32 : decode prog_8_method_11_code 32 = .ok (.aload_n 0, 1) := by decide +kernel
theorem d_Standing_rowsOfGroup_33 : decode prog_8_method_11_code 33 = .ok (.aload_n 1, 1) := by decide +kernel
theorem d_Standing_rowsOfGroup_34 : decode prog_8_method_11_code 34 = .ok (.iload_n 3, 1) := by decide +kernel
theorem d_Standing_rowsOfGroup_35 : decode prog_8_method_11_code 35 = .ok (.iload 4, 2) := by decide +kernel
theorem d_Standing_rowsOfGroup_37 : decode prog_8_method_11_code 37 = .ok (.invokevirtual 119, 3) := by decide +kernel
theorem d_Standing_rowsOfGroup_40 : decode prog_8_method_11_code 40 = .ok (.ifCond .eq 9, 3) := by decide +kernel
theorem d_Standing_rowsOfGroup_43 : decode prog_8_method_11_code 43 = .ok (.iload_n 2, 1) := by decide +kernel
theorem d_Standing_rowsOfGroup_44 : decode prog_8_method_11_code 44 = .ok (.iconst 1, 1) := by decide +kernel
theorem d_Standing_rowsOfGroup_45 : decode prog_8_method_11_code 45 = .ok (.iload_n 3, 1) := by decide +kernel
theorem d_Standing_rowsOfGroup_46 : decode prog_8_method_11_code 46 = .ok (.ishl, 1) := by decide +kernel
theorem d_Standing_rowsOfGroup_47 : decode prog_8_method_11_code 47 = .ok (.ior, 1) := by decide +kernel
theorem d_Standing_rowsOfGroup_48 : decode prog_8_method_11_code 48 = .ok (.istore_n 2, 1) := by decide +kernel
theorem d_Standing_rowsOfGroup_49 : decode prog_8_method_11_code 49 = .ok (.iinc 4 1, 3) := by decide +kernel
theorem d_Standing_rowsOfGroup_52 : decode prog_8_method_11_code 52 = .ok (.goto (-39), 3) := by decide +kernel
theorem d_Standing_rowsOfGroup_55 : decode prog_8_method_11_code 55 = .ok (.iinc 3 1, 3) := by decide +kernel
theorem d_Standing_rowsOfGroup_58 : decode prog_8_method_11_code 58 = .ok (.goto (-54), 3) := by decide +kernel
theorem d_Standing_rowsOfGroup_61 : decode prog_8_method_11_code 61 = .ok (.iload_n 2, 1) := by decide +kernel
theorem d_Standing_rowsOfGroup_62 : decode prog_8_method_11_code 62 = .ok (.ireturn, 1) := by decide +kernel
theorem d_Standing_holds_0 : decode prog_8_method_12_code 0 = .ok (.aload_n 1, 1) := by decide +kernel
theorem d_Standing_holds_1 : decode prog_8_method_12_code 1 = .ok (.getfield 123, 3) := by decide +kernel
theorem d_Standing_holds_4 : decode prog_8_method_12_code 4 = .ok (.istore 4, 2) := by decide +kernel
theorem d_Standing_holds_6 : decode prog_8_method_12_code 6 = .ok (.iload 4, 2) := by decide +kernel
theorem d_Standing_holds_8 : decode prog_8_method_12_code 8 = .ok (.aload_n 1, 1) := by decide +kernel
theorem d_Standing_holds_9 : decode prog_8_method_12_code 9 = .ok (.getfield 126, 3) := by decide +kernel
theorem d_Standing_holds_12 : decode prog_8_method_12_code 12 = .ok (.if_icmp .ge 27, 3) := by decide +kernel
theorem d_Standing_holds_15 : decode prog_8_method_12_code 15 = .ok (.aload_n 0, 1) := by decide +kernel
theorem d_Standing_holds_16 : decode prog_8_method_12_code 16 = .ok (.iload 4, 2) := by decide +kernel
theorem d_Standing_holds_18 : decode prog_8_method_12_code 18 = .ok (.iload_n 2, 1) := by decide +kernel
theorem d_Standing_holds_19 : decode prog_8_method_12_code 19 = .ok (.iload_n 3, 1) := by decide +kernel
theorem d_Standing_holds_20 : decode prog_8_method_12_code 20 = .ok (.invokevirtual 78, 3) := by decide +kernel
theorem d_Standing_holds_23 : decode prog_8_method_12_code 23 = .ok (.aload_n 1, 1) := by decide +kernel
theorem d_Standing_holds_24 : decode prog_8_method_12_code 24 = .ok (.getfield 129, 3) := by decide +kernel
theorem d_Standing_holds_27 : decode prog_8_method_12_code 27 = .ok (.iand, 1) := by decide +kernel
theorem d_Standing_holds_28 : decode prog_8_method_12_code 28 = .ok (.ifCond .ne 5, 3) := by decide +kernel
theorem d_Standing_holds_31 : decode prog_8_method_12_code 31 = .ok (.iconst 0, 1) := by decide +kernel
theorem d_Standing_holds_32 : decode prog_8_method_12_code 32 = .ok (.ireturn, 1) := by decide +kernel
theorem d_Standing_holds_33 : decode prog_8_method_12_code 33 = .ok (.iinc 4 1, 3) := by decide +kernel
theorem d_Standing_holds_36 : decode prog_8_method_12_code 36 = .ok (.goto (-30), 3) := by decide +kernel
theorem d_Standing_holds_39 : decode prog_8_method_12_code 39 = .ok (.aload_n 1, 1) := by decide +kernel
theorem d_Standing_holds_40 : decode prog_8_method_12_code 40 = .ok (.getfield 126, 3) := by decide +kernel
theorem d_Standing_holds_43 : decode prog_8_method_12_code 43 = .ok (.aload_n 1, 1) := by decide +kernel
theorem d_Standing_holds_44 : decode prog_8_method_12_code 44 = .ok (.getfield 123, 3) := by decide +kernel
theorem d_Standing_holds_47 : decode prog_8_method_12_code 47 = .ok (.isub, 1) := by decide +kernel
theorem d_Standing_holds_48 : decode prog_8_method_12_code 48 = .ok (.iconst 1, 1) := by decide +kernel
theorem d_Standing_holds_49 : decode prog_8_method_12_code 49 = .ok (.if_icmp .eq 13, 3) := by decide +kernel
theorem d_Standing_holds_52 : decode prog_8_method_12_code 52 = .ok (.aload_n 0, 1) := by decide +kernel
theorem d_Standing_holds_53 : decode prog_8_method_12_code 53 = .ok (.aload_n 1, 1) := by decide +kernel
theorem d_Standing_holds_54 : decode prog_8_method_12_code 54 = .ok (.iload_n 2, 1) := by decide +kernel
theorem d_Standing_holds_55 : decode prog_8_method_12_code 55 = .ok (.iload_n 3, 1) := by decide +kernel
theorem d_Standing_holds_56 : decode prog_8_method_12_code 56 = .ok (.invokevirtual 131, 3) := by decide +kernel
theorem d_Standing_holds_59 : decode prog_8_method_12_code 59 = .ok (.ifCond .eq 7, 3) := by decide +kernel
theorem d_Standing_holds_62 : decode prog_8_method_12_code 62 = .ok (.iconst 1, 1) := by decide +kernel
theorem d_Standing_holds_63 : decode prog_8_method_12_code 63 = .ok (.goto 4, 3) := by decide +kernel
theorem d_Standing_holds_66 : decode prog_8_method_12_code 66 = .ok (.iconst 0, 1) := by decide +kernel
theorem d_Standing_holds_67 : decode prog_8_method_12_code 67 = .ok (.ireturn, 1) := by decide +kernel
theorem d_Standing_placesOf_0 : decode prog_8_method_4_code 0 = .ok (.aload_n 0, 1) := by decide +kernel
theorem d_Standing_placesOf_1 : decode prog_8_method_4_code 1 = .ok (.getfield 9, 3) := by decide +kernel
theorem d_Standing_placesOf_4 : decode prog_8_method_4_code 4 = .ok (.iload_n 1, 1) := by decide +kernel
theorem d_Standing_placesOf_5 : decode prog_8_method_4_code 5 = .ok (.iload_n 2, 1) := by decide +kernel
theorem d_Standing_placesOf_6 : decode prog_8_method_4_code 6 = .ok (.iload_n 3, 1) := by decide +kernel
theorem d_Standing_placesOf_7 : decode prog_8_method_4_code 7 = .ok (.invokestatic 45, 3) := by decide +kernel
theorem d_Standing_placesOf_10 : decode prog_8_method_4_code 10 = .ok (.iaload, 1) := by decide +kernel
theorem d_Standing_placesOf_11 : decode prog_8_method_4_code 11 = .ok (.ireturn, 1) := by decide +kernel
theorem d_Standing_areNear_0 : decode prog_8_method_13_code 0 = .ok (.iconst 1, 1) := by decide +kernel
theorem d_Standing_areNear_1 : decode prog_8_method_13_code 1 = .ok (.istore 4, 2) := by decide +kernel
theorem d_Standing_areNear_3 : decode prog_8_method_13_code 3 = .ok (.iload 4, 2) := by decide +kernel
theorem d_Standing_areNear_5 : decode prog_8_method_13_code 5 = .ok (.bipush 24, 2) := by decide +kernel
theorem d_Standing_areNear_7 : decode prog_8_method_13_code 7 = .ok (.if_icmp .gt 23, 3) := by decide +kernel
theorem d_Standing_areNear_10 : decode prog_8_method_13_code 10 = .ok (.aload_n 0, 1) := by decide +kernel
theorem d_Standing_areNear_11 : decode prog_8_method_13_code 11 = .ok (.aload_n 1, 1) := by decide +kernel
theorem d_Standing_areNear_12 : decode prog_8_method_13_code 12 = .ok (.iload_n 2, 1) := by decide +kernel
theorem d_Standing_areNear_13 : decode prog_8_method_13_code 13 = .ok (.iload_n 3, 1) := by decide +kernel
theorem d_Standing_areNear_14 : decode prog_8_method_13_code 14 = .ok (.iload 4, 2) := by decide +kernel
theorem d_Standing_areNear_16 : decode prog_8_method_13_code 16 = .ok (.invokevirtual 134, 3) := by decide +kernel
theorem d_Standing_areNear_19 : decode prog_8_method_13_code 19 = .ok (.ifCond .eq 5, 3) := by decide +kernel
theorem d_Standing_areNear_22 : decode prog_8_method_13_code 22 = .ok (.iconst 1, 1) := by decide +kernel
theorem d_Standing_areNear_23 : decode prog_8_method_13_code 23 = .ok (.ireturn, 1) := by decide +kernel
theorem d_Standing_areNear_24 : decode prog_8_method_13_code 24 = .ok (.iinc 4 1, 3) := by decide +kernel
theorem d_Standing_areNear_27 : decode prog_8_method_13_code 27 = .ok (.goto (-24), 3) := by decide +kernel
theorem d_Standing_areNear_30 : decode prog_8_method_13_code 30 = .ok (.iconst 0, 1) := by decide +kernel
theorem d_Standing_areNear_31 : decode prog_8_method_13_code 31 = .ok (.ireturn, 1) := by decide +kernel
theorem d_Standing_allReach_0 : decode prog_8_method_14_code 0 = .ok (.aload_n 1, 1) := by decide +kernel
theorem d_Standing_allReach_1 : decode prog_8_method_14_code 1 = .ok (.getfield 123, 3) := by decide +kernel
theorem d_Standing_allReach_4 : decode prog_8_method_14_code 4 = .ok (.istore 5, 2) := by decide +kernel
theorem d_Standing_allReach_6 : decode prog_8_method_14_code 6 = .ok (.iload 5, 2) := by decide +kernel
theorem d_Standing_allReach_8 : decode prog_8_method_14_code 8 = .ok (.aload_n 1, 1) := by decide +kernel
theorem d_Standing_allReach_9 : decode prog_8_method_14_code 9 = .ok (.getfield 126, 3) := by decide +kernel
theorem d_Standing_allReach_12 : decode prog_8_method_14_code 12 = .ok (.if_icmp .ge 74, 3) := by decide +kernel
theorem d_Standing_allReach_15 : decode prog_8_method_14_code 15 = .ok (.iconst 0, 1) := by decide +kernel
theorem d_Standing_allReach_16 : decode prog_8_method_14_code 16 = .ok (.iload 4, 2) := by decide +kernel
theorem d_Standing_allReach_18 : decode prog_8_method_14_code 18 = .ok (.aload_n 0, 1) := by decide +kernel
theorem d_Standing_allReach_19 : decode prog_8_method_14_code 19 = .ok (.getfield 15, 3) := by decide +kernel
theorem d_Standing_allReach_22 : decode prog_8_method_14_code 22 = .ok (.getfield 31, 3) := by decide +kernel
theorem d_Standing_allReach_25 : decode prog_8_method_14_code 25 = .ok (.iload 5, 2) := by decide +kernel
theorem d_Standing_allReach_27 : decode prog_8_method_14_code 27 = .ok (.aaload, 1) := by decide +kernel
theorem d_Standing_allReach_28 : decode prog_8_method_14_code 28 = .ok (.getfield 49, 3) := by decide +kernel
theorem d_Standing_allReach_31 : decode prog_8_method_14_code 31 = .ok (.isub, 1) := by decide +kernel
theorem d_Standing_allReach_32 : decode prog_8_method_14_code 32 = .ok (.invokestatic 138, 3) := by decide +kernel
theorem d_Standing_allReach_35 : decode prog_8_method_14_code 35 = .ok (.istore 6, 2) := by decide +kernel
theorem d_Standing_allReach_37 : decode prog_8_method_14_code 37 = .ok (.bipush 24, 2) := by decide +kernel
theorem d_Standing_allReach_39 : decode prog_8_method_14_code 39 = .ok (.iload 4, 2) := by decide +kernel
theorem d_Standing_allReach_41 : decode prog_8_method_14_code 41 = .ok (.aload_n 1, 1) := by decide +kernel
theorem d_Standing_allReach_42 : decode prog_8_method_14_code 42 = .ok (.getfield 144, 3) := by decide +kernel
theorem d_Standing_allReach_45 : decode prog_8_method_14_code 45 = .ok (.iadd, 1) := by decide +kernel
theorem d_Standing_allReach_46 : decode prog_8_method_14_code 46 = .ok (.invokestatic 147, 3) := by decide +kernel
theorem d_Standing_allReach_49 : decode prog_8_method_14_code 49 = .ok (.istore 7, 2) := by decide +kernel
theorem d_Standing_allReach_51 : decode prog_8_method_14_code 51 = .ok (.iconst 1, 1) := by decide +kernel
theorem d_Standing_allReach_52 : decode prog_8_method_14_code 52 = .ok (.iload 7, 2) := by decide +kernel
theorem d_Standing_allReach_54 : decode prog_8_method_14_code 54 = .ok (.iconst 1, 1) := by decide +kernel
theorem d_Standing_allReach_55 : decode prog_8_method_14_code 55 = .ok (.iadd, 1) := by decide +kernel
theorem d_Standing_allReach_56 : decode prog_8_method_14_code 56 = .ok (.ishl, 1) := by decide +kernel
theorem d_Standing_allReach_57 : decode prog_8_method_14_code 57 = .ok (.iconst 1, 1) := by decide +kernel
theorem d_Standing_allReach_58 : decode prog_8_method_14_code 58 = .ok (.iload 6, 2) := by decide +kernel
theorem d_Standing_allReach_60 : decode prog_8_method_14_code 60 = .ok (.ishl, 1) := by decide +kernel
theorem d_Standing_allReach_61 : decode prog_8_method_14_code 61 = .ok (.isub, 1) := by decide +kernel
theorem d_Standing_allReach_62 : decode prog_8_method_14_code 62 = .ok (.istore 8, 2) := by decide +kernel
theorem d_Standing_allReach_64 : decode prog_8_method_14_code 64 = .ok (.aload_n 0, 1) := by decide +kernel
theorem d_Standing_allReach_65 : decode prog_8_method_14_code 65 = .ok (.iload 5, 2) := by decide +kernel
theorem d_Standing_allReach_67 : decode prog_8_method_14_code 67 = .ok (.iload_n 2, 1) := by decide +kernel
theorem d_Standing_allReach_68 : decode prog_8_method_14_code 68 = .ok (.iload_n 3, 1) := by decide +kernel
theorem d_Standing_allReach_69 : decode prog_8_method_14_code 69 = .ok (.invokevirtual 78, 3) := by decide +kernel
theorem d_Standing_allReach_72 : decode prog_8_method_14_code 72 = .ok (.iload 8, 2) := by decide +kernel
theorem d_Standing_allReach_74 : decode prog_8_method_14_code 74 = .ok (.iand, 1) := by decide +kernel
theorem d_Standing_allReach_75 : decode prog_8_method_14_code 75 = .ok (.ifCond .ne 5, 3) := by decide +kernel
theorem d_Standing_allReach_78 : decode prog_8_method_14_code 78 = .ok (.iconst 0, 1) := by decide +kernel
theorem d_Standing_allReach_79 : decode prog_8_method_14_code 79 = .ok (.ireturn, 1) := by decide +kernel
theorem d_Standing_allReach_80 : decode prog_8_method_14_code 80 = .ok (.iinc 5 1, 3) := by decide +kernel
theorem d_Standing_allReach_83 : decode prog_8_method_14_code 83 = .ok (.goto (-77), 3) := by decide +kernel
theorem d_Standing_allReach_86 : decode prog_8_method_14_code 86 = .ok (.iconst 1, 1) := by decide +kernel
theorem d_Standing_allReach_87 : decode prog_8_method_14_code 87 = .ok (.ireturn, 1) := by decide +kernel
theorem d_Standing_rowsOfJoin_0 : decode prog_8_method_10_code 0 = .ok (.aload_n 0, 1) := by decide +kernel
theorem d_Standing_rowsOfJoin_1 : decode prog_8_method_10_code 1 = .ok (.getfield 92, 3) := by decide +kernel
theorem d_Standing_rowsOfJoin_4 : decode prog_8_method_10_code 4 = .ok (.iconst 5, 1) := by decide +kernel
theorem d_Standing_rowsOfJoin_5 : decode prog_8_method_10_code 5 = .ok (.if_icmp .ne 19, 3) := by decide +kernel
theorem d_Standing_rowsOfJoin_8 : decode prog_8_method_10_code 8 = .ok (.aload_n 0, 1) := by decide +kernel
theorem d_Standing_rowsOfJoin_9 : decode prog_8_method_10_code 9 = .ok (.getfield 109, 3) := by decide +kernel
theorem d_Standing_rowsOfJoin_12 : decode prog_8_method_10_code 12 = .ok (.getfield 104, 3) := by decide +kernel
theorem d_Standing_rowsOfJoin_15 : decode prog_8_method_10_code 15 = .ok (.aload_n 0, 1) := by decide +kernel
theorem d_Standing_rowsOfJoin_16 : decode prog_8_method_10_code 16 = .ok (.getfield 113, 3) := by decide +kernel
theorem d_Standing_rowsOfJoin_19 : decode prog_8_method_10_code 19 = .ok (.getfield 104, 3) := by decide +kernel
theorem d_Standing_rowsOfJoin_22 : decode prog_8_method_10_code 22 = .ok (.ior, 1) := by decide +kernel
theorem d_Standing_rowsOfJoin_23 : decode prog_8_method_10_code 23 = .ok (.ireturn, 1) := by decide +kernel
theorem d_Standing_rowsOfJoin_24 : decode prog_8_method_10_code 24 = .ok (.aload_n 0, 1) := by decide +kernel
theorem d_Standing_rowsOfJoin_25 : decode prog_8_method_10_code 25 = .ok (.getfield 109, 3) := by decide +kernel
theorem d_Standing_rowsOfJoin_28 : decode prog_8_method_10_code 28 = .ok (.getfield 104, 3) := by decide +kernel
theorem d_Standing_rowsOfJoin_31 : decode prog_8_method_10_code 31 = .ok (.aload_n 0, 1) := by decide +kernel
theorem d_Standing_rowsOfJoin_32 : decode prog_8_method_10_code 32 = .ok (.getfield 92, 3) := by decide +kernel
theorem d_Standing_rowsOfJoin_35 : decode prog_8_method_10_code 35 = .ok (.bipush 6, 2) := by decide +kernel
theorem d_Standing_rowsOfJoin_37 : decode prog_8_method_10_code 37 = .ok (.if_icmp .ne 13, 3) := by decide +kernel
theorem d_Standing_rowsOfJoin_40 : decode prog_8_method_10_code 40 = .ok (.aload_n 0, 1) := by decide +kernel
theorem d_Standing_rowsOfJoin_41 : decode prog_8_method_10_code 41 = .ok (.getfield 113, 3) := by decide +kernel
theorem d_Standing_rowsOfJoin_44 : decode prog_8_method_10_code 44 = .ok (.getfield 104, 3) := by decide +kernel
theorem d_Standing_rowsOfJoin_47 : decode prog_8_method_10_code 47 = .ok (.goto 12, 3) := by decide +kernel
theorem d_Standing_rowsOfJoin_50 : decode prog_8_method_10_code 50 = .ok (.aload_n 0, 1) := by decide +kernel
theorem d_Standing_rowsOfJoin_51 : decode prog_8_method_10_code 51 = .ok (.getfield 113, 3) := by decide +kernel
theorem d_Standing_rowsOfJoin_54 : decode prog_8_method_10_code 54 = .ok (.getfield 104, 3) := by decide +kernel
theorem d_Standing_rowsOfJoin_57 : decode prog_8_method_10_code 57 = .ok (.iconst (-1), 1) := by decide +kernel
theorem d_Standing_rowsOfJoin_58 : decode prog_8_method_10_code 58 = .ok (.ixor, 1) := by decide +kernel
theorem d_Standing_rowsOfJoin_59 : decode prog_8_method_10_code 59 = .ok (.iand, 1) := by decide +kernel
theorem d_Standing_rowsOfJoin_60 : decode prog_8_method_10_code 60 = .ok (.ireturn, 1) := by decide +kernel
theorem d_Answers_take_0 : decode prog_2_method_4_code 0 = .ok (.aload_n 0, 1) := by decide +kernel
theorem d_Answers_take_1 : decode prog_2_method_4_code 1 = .ok (.iconst 0, 1) := by decide +kernel
theorem d_Answers_take_2 : decode prog_2_method_4_code 2 = .ok (.putfield 25, 3) := by decide +kernel
theorem d_Answers_take_5 : decode prog_2_method_4_code 5 = .ok (.iconst 1, 1) := by decide +kernel
theorem d_Answers_take_6 : decode prog_2_method_4_code 6 = .ok (.istore_n 3, 1) := by decide +kernel
theorem d_Answers_take_7 : decode prog_2_method_4_code 7 = .ok (.iload_n 3, 1) := by decide +kernel
theorem d_Answers_take_8 : decode prog_2_method_4_code 8 = .ok (.bipush 24, 2) := by decide +kernel
theorem d_Answers_take_10 : decode prog_2_method_4_code 10 = .ok (.if_icmp .gt 74, 3) := by decide +kernel
theorem d_Answers_take_13 : decode prog_2_method_4_code 13 = .ok (.aload_n 2, 1) := by decide +kernel
theorem d_Answers_take_14 : decode prog_2_method_4_code 14 = .ok (.iload_n 3, 1) := by decide +kernel
theorem d_Answers_take_15 : decode prog_2_method_4_code 15 = .ok (.invokevirtual 29, 3) := by decide +kernel
theorem d_Answers_take_18 : decode prog_2_method_4_code 18 = .ok (.astore 4, 2) := by decide +kernel
theorem d_Answers_take_20 : decode prog_2_method_4_code 20 = .ok (.aload 4, 2) := by decide +kernel
theorem d_Answers_take_22 : decode prog_2_method_4_code 22 = .ok (.ifnull 56, 3) := by decide +kernel
theorem d_Answers_take_25 : decode prog_2_method_4_code 25 = .ok (.iload_n 1, 1) := by decide +kernel
theorem d_Answers_take_26 : decode prog_2_method_4_code 26 = .ok (.iload_n 3, 1) := by decide +kernel
theorem d_Answers_take_27 : decode prog_2_method_4_code 27 = .ok (.ishr, 1) := by decide +kernel
theorem d_Answers_take_28 : decode prog_2_method_4_code 28 = .ok (.iconst 1, 1) := by decide +kernel
theorem d_Answers_take_29 : decode prog_2_method_4_code 29 = .ok (.iand, 1) := by decide +kernel
theorem d_Answers_take_30 : decode prog_2_method_4_code 30 = .ok (.iconst 1, 1) := by decide +kernel
theorem d_Answers_take_31 : decode prog_2_method_4_code 31 = .ok (.if_icmp .ne 47, 3) := by decide +kernel
theorem d_Answers_take_34 : decode prog_2_method_4_code 34 = .ok (.aload_n 0, 1) := by decide +kernel
theorem d_Answers_take_35 : decode prog_2_method_4_code 35 = .ok (.getfield 9, 3) := by decide +kernel
theorem d_Answers_take_38 : decode prog_2_method_4_code 38 = .ok (.aload_n 0, 1) := by decide +kernel
theorem d_Answers_take_39 : decode prog_2_method_4_code 39 = .ok (.getfield 25, 3) := by decide +kernel
theorem d_Answers_take_42 : decode prog_2_method_4_code 42 = .ok (.iload_n 3, 1) := by decide +kernel
theorem d_Answers_take_43 : decode prog_2_method_4_code 43 = .ok (.iastore, 1) := by decide +kernel
theorem d_Answers_take_44 : decode prog_2_method_4_code 44 = .ok (.aload_n 0, 1) := by decide +kernel
theorem d_Answers_take_45 : decode prog_2_method_4_code 45 = .ok (.getfield 19, 3) := by decide +kernel
theorem d_Answers_take_48 : decode prog_2_method_4_code 48 = .ok (.aload_n 0, 1) := by decide +kernel
theorem d_Answers_take_49 : decode prog_2_method_4_code 49 = .ok (.getfield 25, 3) := by decide +kernel
theorem d_Answers_take_52 : decode prog_2_method_4_code 52 = .ok (.aload 4, 2) := by decide +kernel
theorem d_Answers_take_54 : decode prog_2_method_4_code 54 = .ok (.invokevirtual 35, 3) := by decide +kernel
theorem d_Answers_take_57 : decode prog_2_method_4_code 57 = .ok (.iastore, 1) := by decide +kernel
theorem d_Answers_take_58 : decode prog_2_method_4_code 58 = .ok (.aload_n 0, 1) := by decide +kernel
theorem d_Answers_take_59 : decode prog_2_method_4_code 59 = .ok (.getfield 15, 3) := by decide +kernel
theorem d_Answers_take_62 : decode prog_2_method_4_code 62 = .ok (.aload_n 0, 1) := by decide +kernel
theorem d_Answers_take_63 : decode prog_2_method_4_code 63 = .ok (.getfield 25, 3) := by decide +kernel
theorem d_Answers_take_66 : decode prog_2_method_4_code 66 = .ok (.dconst 0, 1) := by decide +kernel
theorem d_Answers_take_67 : decode prog_2_method_4_code 67 = .ok (.dastore, 1) := by decide +kernel
theorem d_Answers_take_68 : decode prog_2_method_4_code 68 = .ok (.aload_n 0, 1) := by decide +kernel
theorem d_Answers_take_69 : decode prog_2_method_4_code 69 = .ok (.dup, 1) := by decide +kernel
theorem d_Answers_take_70 : decode prog_2_method_4_code 70 = .ok (.getfield 25, 3) := by decide +kernel
theorem d_Answers_take_73 : decode prog_2_method_4_code 73 = .ok (.iconst 1, 1) := by decide +kernel
theorem d_Answers_take_74 : decode prog_2_method_4_code 74 = .ok (.iadd, 1) := by decide +kernel
theorem d_Answers_take_75 : decode prog_2_method_4_code 75 = .ok (.putfield 25, 3) := by decide +kernel
theorem d_Answers_take_78 : decode prog_2_method_4_code 78 = .ok (.iinc 3 1, 3) := by decide +kernel
theorem d_Answers_take_81 : decode prog_2_method_4_code 81 = .ok (.goto (-74), 3) := by decide +kernel
theorem d_Answers_take_84 : decode prog_2_method_4_code 84 = .ok (.return_, 1) := by decide +kernel
theorem d_Answers_rank_0 : decode prog_2_method_5_code 0 = .ok (.aload 4, 2) := by decide +kernel
theorem d_Answers_rank_2 : decode prog_2_method_5_code 2 = .ok (.invokevirtual 41, 3) := by decide +kernel
theorem d_Answers_rank_5 : decode prog_2_method_5_code 5 = .ok (.istore 5, 2) := by decide +kernel
theorem d_Answers_rank_7 : decode prog_2_method_5_code 7 = .ok (.aload 4, 2) := by decide +kernel
theorem d_Answers_rank_9 : decode prog_2_method_5_code 9 = .ok (.invokevirtual 44, 3) := by decide +kernel
theorem d_Answers_rank_12 : decode prog_2_method_5_code 12 = .ok (.istore 6, 2) := by decide +kernel
theorem d_Answers_rank_14 : decode prog_2_method_5_code 14 = .ok (.iload 5, 2) := by decide +kernel
theorem d_Answers_rank_16 : decode prog_2_method_5_code 16 = .ok (.ifCond .le 53, 3) := by decide +kernel
theorem d_Answers_rank_19 : decode prog_2_method_5_code 19 = .ok (.iload 6, 2) := by decide +kernel
theorem d_Answers_rank_21 : decode prog_2_method_5_code 21 = .ok (.ifCond .le 48, 3) := by decide +kernel
theorem d_Answers_rank_24 : decode prog_2_method_5_code 24 = .ok (.iload 6, 2) := by decide +kernel
theorem d_Answers_rank_26 : decode prog_2_method_5_code 26 = .ok (.i2d, 1) := by decide +kernel
theorem d_Answers_rank_27 : decode prog_2_method_5_code 27 = .ok (.iload 5, 2) := by decide +kernel
theorem d_Answers_rank_29 : decode prog_2_method_5_code 29 = .ok (.i2d, 1) := by decide +kernel
theorem d_Answers_rank_30 : decode prog_2_method_5_code 30 = .ok (.ddiv, 1) := by decide +kernel
theorem d_Answers_rank_31 : decode prog_2_method_5_code 31 = .ok (.dstore 7, 2) := by decide +kernel
theorem d_Answers_rank_33 : decode prog_2_method_5_code 33 = .ok (.iconst 0, 1) := by decide +kernel
theorem d_Answers_rank_34 : decode prog_2_method_5_code 34 = .ok (.istore 9, 2) := by decide +kernel
theorem d_Answers_rank_36 : decode prog_2_method_5_code 36 = .ok (.iload 9, 2) := by decide +kernel
theorem d_Answers_rank_38 : decode prog_2_method_5_code 38 = .ok (.iload_n 2, 1) := by decide +kernel
theorem d_Answers_rank_39 : decode prog_2_method_5_code 39 = .ok (.if_icmp .ge 30, 3) := by decide +kernel
theorem d_Answers_rank_42 : decode prog_2_method_5_code 42 = .ok (.aload_n 0, 1) := by decide +kernel
theorem d_Answers_rank_43 : decode prog_2_method_5_code 43 = .ok (.aload_n 1, 1) := by decide +kernel
theorem d_Answers_rank_44 : decode prog_2_method_5_code 44 = .ok (.iload 9, 2) := by decide +kernel
theorem d_Answers_rank_46 : decode prog_2_method_5_code 46 = .ok (.aload_n 3, 1) := by decide +kernel
theorem d_Answers_rank_47 : decode prog_2_method_5_code 47 = .ok (.iload 5, 2) := by decide +kernel
theorem d_Answers_rank_49 : decode prog_2_method_5_code 49 = .ok (.aload_n 1, 1) := by decide +kernel
theorem d_Answers_rank_50 : decode prog_2_method_5_code 50 = .ok (.iload 9, 2) := by decide +kernel
theorem d_Answers_rank_52 : decode prog_2_method_5_code 52 = .ok (.invokevirtual 47, 3) := by decide +kernel
theorem d_Answers_rank_55 : decode prog_2_method_5_code 55 = .ok (.invokestatic 53, 3) := by decide +kernel
theorem d_Answers_rank_58 : decode prog_2_method_5_code 58 = .ok (.dload 7, 2) := by decide +kernel
theorem d_Answers_rank_60 : decode prog_2_method_5_code 60 = .ok (.invokevirtual 57, 3) := by decide +kernel
theorem d_Answers_rank_63 : decode prog_2_method_5_code 63 = .ok (.iinc 9 1, 3) := by decide +kernel
theorem d_Answers_rank_66 : decode prog_2_method_5_code 66 = .ok (.goto (-30), 3) := by decide +kernel
theorem d_Answers_rank_69 : decode prog_2_method_5_code 69 = .ok (.aload_n 0, 1) := by decide +kernel
theorem d_Answers_rank_70 : decode prog_2_method_5_code 70 = .ok (.invokevirtual 61, 3) := by decide +kernel
theorem d_Answers_rank_73 : decode prog_2_method_5_code 73 = .ok (.return_, 1) := by decide +kernel
theorem d_Store_tokenCount_0 : decode prog_9_method_4_code 0 = .ok (.iconst 0, 1) := by decide +kernel
theorem d_Store_tokenCount_1 : decode prog_9_method_4_code 1 = .ok (.istore_n 1, 1) := by decide +kernel
theorem d_Store_tokenCount_2 : decode prog_9_method_4_code 2 = .ok (.iconst 1, 1) := by decide +kernel
theorem d_Store_tokenCount_3 : decode prog_9_method_4_code 3 = .ok (.istore_n 2, 1) := by decide +kernel
theorem d_Store_tokenCount_4 : decode prog_9_method_4_code 4 = .ok (.iload_n 2, 1) := by decide +kernel
theorem d_Store_tokenCount_5 : decode prog_9_method_4_code 5 = .ok (.bipush 24, 2) := by decide +kernel
theorem d_Store_tokenCount_7 : decode prog_9_method_4_code 7 = .ok (.if_icmp .gt 30, 3) := by decide +kernel
theorem d_Store_tokenCount_10 : decode prog_9_method_4_code 10 = .ok (.aload_n 0, 1) := by decide +kernel
theorem d_Store_tokenCount_11 : decode prog_9_method_4_code 11 = .ok (.getfield 11, 3) := by decide +kernel
theorem d_Store_tokenCount_14 : decode prog_9_method_4_code 14 = .ok (.iload_n 2, 1) := by decide +kernel
theorem d_Store_tokenCount_15 : decode prog_9_method_4_code 15 = .ok (.aaload, 1) := by decide +kernel
theorem d_Store_tokenCount_16 : decode prog_9_method_4_code 16 = .ok (.ifnull 15, 3) := by decide +kernel
theorem d_Store_tokenCount_19 : decode prog_9_method_4_code 19 = .ok (.iload_n 1, 1) := by decide +kernel
theorem d_Store_tokenCount_20 : decode prog_9_method_4_code 20 = .ok (.aload_n 0, 1) := by decide +kernel
theorem d_Store_tokenCount_21 : decode prog_9_method_4_code 21 = .ok (.getfield 11, 3) := by decide +kernel
theorem d_Store_tokenCount_24 : decode prog_9_method_4_code 24 = .ok (.iload_n 2, 1) := by decide +kernel
theorem d_Store_tokenCount_25 : decode prog_9_method_4_code 25 = .ok (.aaload, 1) := by decide +kernel
theorem d_Store_tokenCount_26 : decode prog_9_method_4_code 26 = .ok (.invokevirtual 29, 3) := by decide +kernel
theorem d_Store_tokenCount_29 : decode prog_9_method_4_code 29 = .ok (.iadd, 1) := by decide +kernel
theorem d_Store_tokenCount_30 : decode prog_9_method_4_code 30 = .ok (.istore_n 1, 1) := by decide +kernel
theorem d_Store_tokenCount_31 : decode prog_9_method_4_code 31 = .ok (.iinc 2 1, 3) := by decide +kernel
theorem d_Store_tokenCount_34 : decode prog_9_method_4_code 34 = .ok (.goto (-30), 3) := by decide +kernel
theorem d_Store_tokenCount_37 : decode prog_9_method_4_code 37 = .ok (.iload_n 1, 1) := by decide +kernel
theorem d_Store_tokenCount_38 : decode prog_9_method_4_code 38 = .ok (.ireturn, 1) := by decide +kernel
theorem d_Standing_rowsWith_0 : decode prog_8_method_8_code 0 = .ok (.iconst 0, 1) := by decide +kernel
theorem d_Standing_rowsWith_1 : decode prog_8_method_8_code 1 = .ok (.istore_n 2, 1) := by decide +kernel
theorem d_Standing_rowsWith_2 : decode prog_8_method_8_code 2 = .ok (.iconst 1, 1) := by decide +kernel
theorem d_Standing_rowsWith_3 : decode prog_8_method_8_code 3 = .ok (.istore_n 3, 1) := by decide +kernel
theorem d_Standing_rowsWith_4 : decode prog_8_method_8_code 4 = .ok (.iload_n 3, 1) := by decide +kernel
theorem d_Standing_rowsWith_5 : decode prog_8_method_8_code 5 = .ok (.bipush 24, 2) := by decide +kernel
theorem d_Standing_rowsWith_7 : decode prog_8_method_8_code 7 = .ok (.if_icmp .gt 21, 3) := by decide +kernel
theorem d_Standing_rowsWith_10 : decode prog_8_method_8_code 10 = .ok (.aload_n 0, 1) := by decide +kernel
theorem d_Standing_rowsWith_11 : decode prog_8_method_8_code 11 = .ok (.iload_n 1, 1) := by decide +kernel
theorem d_Standing_rowsWith_12 : decode prog_8_method_8_code 12 = .ok (.iload_n 3, 1) := by decide +kernel
theorem d_Standing_rowsWith_13 : decode prog_8_method_8_code 13 = .ok (.invokevirtual 81, 3) := by decide +kernel
theorem d_Standing_rowsWith_16 : decode prog_8_method_8_code 16 = .ok (.ifCond .eq 6, 3) := by decide +kernel
theorem d_Standing_rowsWith_19 : decode prog_8_method_8_code 19 = .ok (.iinc 2 1, 3) := by decide +kernel
theorem d_Standing_rowsWith_22 : decode prog_8_method_8_code 22 = .ok (.iinc 3 1, 3) := by decide +kernel
theorem d_Standing_rowsWith_25 : decode prog_8_method_8_code 25 = .ok (.goto (-21), 3) := by decide +kernel
theorem d_Standing_rowsWith_28 : decode prog_8_method_8_code 28 = .ok (.iload_n 2, 1) := by decide +kernel
theorem d_Standing_rowsWith_29 : decode prog_8_method_8_code 29 = .ok (.ireturn, 1) := by decide +kernel
theorem d_Standing_standsIn_0 : decode prog_8_method_7_code 0 = .ok (.aload_n 0, 1) := by decide +kernel
theorem d_Standing_standsIn_1 : decode prog_8_method_7_code 1 = .ok (.iload_n 1, 1) := by decide +kernel
theorem d_Standing_standsIn_2 : decode prog_8_method_7_code 2 = .ok (.iload_n 2, 1) := by decide +kernel
theorem d_Standing_standsIn_3 : decode prog_8_method_7_code 3 = .ok (.iconst 0, 1) := by decide +kernel
theorem d_Standing_standsIn_4 : decode prog_8_method_7_code 4 = .ok (.invokevirtual 78, 3) := by decide +kernel
theorem d_Standing_standsIn_7 : decode prog_8_method_7_code 7 = .ok (.aload_n 0, 1) := by decide +kernel
theorem d_Standing_standsIn_8 : decode prog_8_method_7_code 8 = .ok (.iload_n 1, 1) := by decide +kernel
theorem d_Standing_standsIn_9 : decode prog_8_method_7_code 9 = .ok (.iload_n 2, 1) := by decide +kernel
theorem d_Standing_standsIn_10 : decode prog_8_method_7_code 10 = .ok (.iconst 1, 1) := by decide +kernel
theorem d_Standing_standsIn_11 : decode prog_8_method_7_code 11 = .ok (.invokevirtual 78, 3) := by decide +kernel
theorem d_Standing_standsIn_14 : decode prog_8_method_7_code 14 = .ok (.ior, 1) := by decide +kernel
theorem d_Standing_standsIn_15 : decode prog_8_method_7_code 15 = .ok (.ifCond .eq 7, 3) := by decide +kernel
theorem d_Standing_standsIn_18 : decode prog_8_method_7_code 18 = .ok (.iconst 1, 1) := by decide +kernel
theorem d_Standing_standsIn_19 : decode prog_8_method_7_code 19 = .ok (.goto 4, 3) := by decide +kernel
theorem d_Standing_standsIn_22 : decode prog_8_method_7_code 22 = .ok (.iconst 0, 1) := by decide +kernel
theorem d_Standing_standsIn_23 : decode prog_8_method_7_code 23 = .ok (.ireturn, 1) := by decide +kernel
theorem d_Answers_rarity_0 : decode prog_2_method_7_code 0 = .ok (.iload_n 0, 1) := by decide +kernel
theorem d_Answers_rarity_1 : decode prog_2_method_7_code 1 = .ok (.iload_n 1, 1) := by decide +kernel
theorem d_Answers_rarity_2 : decode prog_2_method_7_code 2 = .ok (.isub, 1) := by decide +kernel
theorem d_Answers_rarity_3 : decode prog_2_method_7_code 3 = .ok (.i2d, 1) := by decide +kernel
theorem d_Answers_rarity_4 : decode prog_2_method_7_code 4 = .ok (.ldc2_w 81, 3) := by decide +kernel
theorem d_Answers_rarity_7 : decode prog_2_method_7_code 7 = .ok (.dadd, 1) := by decide +kernel
theorem d_Answers_rarity_8 : decode prog_2_method_7_code 8 = .ok (.iload_n 1, 1) := by decide +kernel
theorem d_Answers_rarity_9 : decode prog_2_method_7_code 9 = .ok (.i2d, 1) := by decide +kernel
theorem d_Answers_rarity_10 : decode prog_2_method_7_code 10 = .ok (.ldc2_w 81, 3) := by decide +kernel
theorem d_Answers_rarity_13 : decode prog_2_method_7_code 13 = .ok (.dadd, 1) := by decide +kernel
theorem d_Answers_rarity_14 : decode prog_2_method_7_code 14 = .ok (.ddiv, 1) := by decide +kernel
theorem d_Answers_rarity_15 : decode prog_2_method_7_code 15 = .ok (.invokestatic 83, 3) := by decide +kernel
theorem d_Answers_rarity_18 : decode prog_2_method_7_code 18 = .ok (.dstore_n 2, 1) := by decide +kernel
theorem d_Answers_rarity_19 : decode prog_2_method_7_code 19 = .ok (.dload_n 2, 1) := by decide +kernel
theorem d_Answers_rarity_20 : decode prog_2_method_7_code 20 = .ok (.dconst 0, 1) := by decide +kernel
theorem d_Answers_rarity_21 : decode prog_2_method_7_code 21 = .ok (.dcmp .l, 1) := by decide +kernel
theorem d_Answers_rarity_22 : decode prog_2_method_7_code 22 = .ok (.ifCond .le 7, 3) := by decide +kernel
theorem d_Answers_rarity_25 : decode prog_2_method_7_code 25 = .ok (.dload_n 2, 1) := by decide +kernel
theorem d_Answers_rarity_26 : decode prog_2_method_7_code 26 = .ok (.goto 6, 3) := by decide +kernel
theorem d_Answers_rarity_29 : decode prog_2_method_7_code 29 = .ok (.ldc2_w 87, 3) := by decide +kernel
theorem d_Answers_rarity_32 : decode prog_2_method_7_code 32 = .ok (.dreturn, 1) := by decide +kernel
theorem d_Answers_ln_0 : decode prog_2_method_8_code 0 = .ok (.dload_n 0, 1) := by decide +kernel
theorem d_Answers_ln_1 : decode prog_2_method_8_code 1 = .ok (.dstore_n 2, 1) := by decide +kernel
theorem d_Answers_ln_2 : decode prog_2_method_8_code 2 = .ok (.iconst 0, 1) := by decide +kernel
theorem d_Answers_ln_3 : decode prog_2_method_8_code 3 = .ok (.istore 4, 2) := by decide +kernel
theorem d_Answers_ln_5 : decode prog_2_method_8_code 5 = .ok (.iconst 0, 1) := by decide +kernel
theorem d_Answers_ln_6 : decode prog_2_method_8_code 6 = .ok (.istore 5, 2) := by decide +kernel
theorem d_Answers_ln_8 : decode prog_2_method_8_code 8 = .ok (.iload 5, 2) := by decide +kernel
theorem d_Answers_ln_10 : decode prog_2_method_8_code 10 = .ok (.bipush 64, 2) := by decide +kernel
theorem d_Answers_ln_12 : decode prog_2_method_8_code 12 = .ok (.if_icmp .ge 26, 3) := by decide +kernel
theorem d_Answers_ln_15 : decode prog_2_method_8_code 15 = .ok (.dload_n 2, 1) := by decide +kernel
theorem d_Answers_ln_16 : decode prog_2_method_8_code 16 = .ok (.ldc2_w 89, 3) := by decide +kernel
theorem d_Answers_ln_19 : decode prog_2_method_8_code 19 = .ok (.dcmp .l, 1) := by decide +kernel
theorem d_Answers_ln_20 : decode prog_2_method_8_code 20 = .ok (.ifCond .lt 18, 3) := by decide +kernel
theorem d_Answers_ln_23 : decode prog_2_method_8_code 23 = .ok (.dload_n 2, 1) := by decide +kernel
theorem d_Answers_ln_24 : decode prog_2_method_8_code 24 = .ok (.ldc2_w 91, 3) := by decide +kernel
theorem d_Answers_ln_27 : decode prog_2_method_8_code 27 = .ok (.ddiv, 1) := by decide +kernel
theorem d_Answers_ln_28 : decode prog_2_method_8_code 28 = .ok (.dstore_n 2, 1) := by decide +kernel
theorem d_Answers_ln_29 : decode prog_2_method_8_code 29 = .ok (.iinc 4 1, 3) := by decide +kernel
theorem d_Answers_ln_32 : decode prog_2_method_8_code 32 = .ok (.iinc 5 1, 3) := by decide +kernel
theorem d_Answers_ln_35 : decode prog_2_method_8_code 35 = .ok (.goto (-27), 3) := by decide +kernel
theorem d_Answers_ln_38 : decode prog_2_method_8_code 38 = .ok (.iconst 0, 1) := by decide +kernel
theorem d_Answers_ln_39 : decode prog_2_method_8_code 39 = .ok (.istore 5, 2) := by decide +kernel
theorem d_Answers_ln_41 : decode prog_2_method_8_code 41 = .ok (.iload 5, 2) := by decide +kernel
theorem d_Answers_ln_43 : decode prog_2_method_8_code 43 = .ok (.bipush 64, 2) := by decide +kernel
theorem d_Answers_ln_45 : decode prog_2_method_8_code 45 = .ok (.if_icmp .ge 26, 3) := by decide +kernel
theorem d_Answers_ln_48 : decode prog_2_method_8_code 48 = .ok (.dload_n 2, 1) := by decide +kernel
theorem d_Answers_ln_49 : decode prog_2_method_8_code 49 = .ok (.ldc2_w 79, 3) := by decide +kernel
theorem d_Answers_ln_52 : decode prog_2_method_8_code 52 = .ok (.dcmp .g, 1) := by decide +kernel
theorem d_Answers_ln_53 : decode prog_2_method_8_code 53 = .ok (.ifCond .ge 18, 3) := by decide +kernel
theorem d_Answers_ln_56 : decode prog_2_method_8_code 56 = .ok (.dload_n 2, 1) := by decide +kernel
theorem d_Answers_ln_57 : decode prog_2_method_8_code 57 = .ok (.ldc2_w 91, 3) := by decide +kernel
theorem d_Answers_ln_60 : decode prog_2_method_8_code 60 = .ok (.dmul, 1) := by decide +kernel
theorem d_Answers_ln_61 : decode prog_2_method_8_code 61 = .ok (.dstore_n 2, 1) := by decide +kernel
theorem d_Answers_ln_62 : decode prog_2_method_8_code 62 = .ok (.iinc 4 (-1), 3) := by decide +kernel
theorem d_Answers_ln_65 : decode prog_2_method_8_code 65 = .ok (.iinc 5 1, 3) := by decide +kernel
theorem d_Answers_ln_68 : decode prog_2_method_8_code 68 = .ok (.goto (-27), 3) := by decide +kernel
theorem d_Answers_ln_71 : decode prog_2_method_8_code 71 = .ok (.dload_n 2, 1) := by decide +kernel
theorem d_Answers_ln_72 : decode prog_2_method_8_code 72 = .ok (.dconst 1, 1) := by decide +kernel
theorem d_Answers_ln_73 : decode prog_2_method_8_code 73 = .ok (.dsub, 1) := by decide +kernel
theorem d_Answers_ln_74 : decode prog_2_method_8_code 74 = .ok (.dload_n 2, 1) := by decide +kernel
theorem d_Answers_ln_75 : decode prog_2_method_8_code 75 = .ok (.dconst 1, 1) := by decide +kernel
theorem d_Answers_ln_76 : decode prog_2_method_8_code 76 = .ok (.dadd, 1) := by decide +kernel
theorem d_Answers_ln_77 : decode prog_2_method_8_code 77 = .ok (.ddiv, 1) := by decide +kernel
theorem d_Answers_ln_78 : decode prog_2_method_8_code 78 = .ok (.dstore 5, 2) := by decide +kernel
theorem d_Answers_ln_80 : decode prog_2_method_8_code 80 = .ok (.dload 5, 2) := by decide +kernel
theorem d_Answers_ln_82 : decode prog_2_method_8_code 82 = .ok (.dload 5, 2) := by decide +kernel
theorem d_Answers_ln_84 : decode prog_2_method_8_code 84 = .ok (.dmul, 1) := by decide +kernel
theorem d_Answers_ln_85 : decode prog_2_method_8_code 85 = .ok (.dstore 7, 2) := by decide +kernel
theorem d_Answers_ln_87 : decode prog_2_method_8_code 87 = .ok (.dconst 0, 1) := by decide +kernel
theorem d_Answers_ln_88 : decode prog_2_method_8_code 88 = .ok (.dstore 9, 2) := by decide +kernel
theorem d_Answers_ln_90 : decode prog_2_method_8_code 90 = .ok (.bipush 19, 2) := by decide +kernel
theorem d_Answers_ln_92 : decode prog_2_method_8_code 92 = .ok (.istore 11, 2) := by decide +kernel
theorem d_Answers_ln_94 : decode prog_2_method_8_code 94 = .ok (.iload 11, 2) := by decide +kernel
theorem d_Answers_ln_96 : decode prog_2_method_8_code 96 = .ok (.iconst 1, 1) := by decide +kernel
theorem d_Answers_ln_97 : decode prog_2_method_8_code 97 = .ok (.if_icmp .lt 22, 3) := by decide +kernel
theorem d_Answers_ln_100 : decode prog_2_method_8_code 100 = .ok (.dload 9, 2) := by decide +kernel
theorem d_Answers_ln_102 : decode prog_2_method_8_code 102 = .ok (.dload 7, 2) := by decide +kernel
theorem d_Answers_ln_104 : decode prog_2_method_8_code 104 = .ok (.dmul, 1) := by decide +kernel
theorem d_Answers_ln_105 : decode prog_2_method_8_code 105 = .ok (.dconst 1, 1) := by decide +kernel
theorem d_Answers_ln_106 : decode prog_2_method_8_code 106 = .ok (.iload 11, 2) := by decide +kernel
theorem d_Answers_ln_108 : decode prog_2_method_8_code 108 = .ok (.i2d, 1) := by decide +kernel
theorem d_Answers_ln_109 : decode prog_2_method_8_code 109 = .ok (.ddiv, 1) := by decide +kernel
theorem d_Answers_ln_110 : decode prog_2_method_8_code 110 = .ok (.dadd, 1) := by decide +kernel
theorem d_Answers_ln_111 : decode prog_2_method_8_code 111 = .ok (.dstore 9, 2) := by decide +kernel
theorem d_Answers_ln_113 : decode prog_2_method_8_code 113 = .ok (.iinc 11 (-2), 3) := by decide +kernel
theorem d_Answers_ln_116 : decode prog_2_method_8_code 116 = .ok (.goto (-22), 3) := by decide +kernel
theorem d_Answers_ln_119 : decode prog_2_method_8_code 119 = .ok (.ldc2_w 91, 3) := by decide +kernel
theorem d_Answers_ln_122 : decode prog_2_method_8_code 122 = .ok (.dload 5, 2) := by decide +kernel
theorem d_Answers_ln_124 : decode prog_2_method_8_code 124 = .ok (.dmul, 1) := by decide +kernel
theorem d_Answers_ln_125 : decode prog_2_method_8_code 125 = .ok (.dload 9, 2) := by decide +kernel
theorem d_Answers_ln_127 : decode prog_2_method_8_code 127 = .ok (.dmul, 1) := by decide +kernel
theorem d_Answers_ln_128 : decode prog_2_method_8_code 128 = .ok (.iload 4, 2) := by decide +kernel
theorem d_Answers_ln_130 : decode prog_2_method_8_code 130 = .ok (.i2d, 1) := by decide +kernel
theorem d_Answers_ln_131 : decode prog_2_method_8_code 131 = .ok (.ldc2_w 93, 3) := by decide +kernel
theorem d_Answers_ln_134 : decode prog_2_method_8_code 134 = .ok (.dmul, 1) := by decide +kernel
theorem d_Answers_ln_135 : decode prog_2_method_8_code 135 = .ok (.dadd, 1) := by decide +kernel
theorem d_Answers_ln_136 : decode prog_2_method_8_code 136 = .ok (.dreturn, 1) := by decide +kernel
theorem d_Answers_addPhrase_0 : decode prog_2_method_6_code 0 = .ok (.iconst 0, 1) := by decide +kernel
theorem d_Answers_addPhrase_1 : decode prog_2_method_6_code 1 = .ok (.istore 8, 2) := by decide +kernel
theorem d_Answers_addPhrase_3 : decode prog_2_method_6_code 3 = .ok (.iload 8, 2) := by decide +kernel
theorem d_Answers_addPhrase_5 : decode prog_2_method_6_code 5 = .ok (.aload_n 0, 1) := by decide +kernel
theorem d_Answers_addPhrase_6 : decode prog_2_method_6_code 6 = .ok (.getfield 25, 3) := by decide +kernel
theorem d_Answers_addPhrase_9 : decode prog_2_method_6_code 9 = .ok (.if_icmp .ge 105, 3) := by decide +kernel
theorem d_Answers_addPhrase_12 : decode prog_2_method_6_code 12 = .ok (.aload_n 1, 1) := by decide +kernel
theorem d_Answers_addPhrase_13 : decode prog_2_method_6_code 13 = .ok (.iload_n 2, 1) := by decide +kernel
theorem d_Answers_addPhrase_14 : decode prog_2_method_6_code 14 = .ok (.aload_n 0, 1) := by decide +kernel
theorem d_Answers_addPhrase_15 : decode prog_2_method_6_code 15 = .ok (.getfield 9, 3) := by decide +kernel
theorem d_Answers_addPhrase_18 : decode prog_2_method_6_code 18 = .ok (.iload 8, 2) := by decide +kernel
theorem d_Answers_addPhrase_20 : decode prog_2_method_6_code 20 = .ok (.iaload, 1) := by decide +kernel
theorem d_Answers_addPhrase_21 : decode prog_2_method_6_code 21 = .ok (.iconst 0, 1) := by decide +kernel
theorem d_Answers_addPhrase_22 : decode prog_2_method_6_code 22 = .ok (.invokevirtual 64, 3) := by decide +kernel
theorem d_Answers_addPhrase_25 : decode prog_2_method_6_code 25 = .ok (.invokestatic 68, 3) := by decide +kernel
theorem d_Answers_addPhrase_28 : decode prog_2_method_6_code 28 = .ok (.aload_n 3, 1) := by decide +kernel
theorem d_Answers_addPhrase_29 : decode prog_2_method_6_code 29 = .ok (.iconst 0, 1) := by decide +kernel
theorem d_Answers_addPhrase_30 : decode prog_2_method_6_code 30 = .ok (.iaload, 1) := by decide +kernel
theorem d_Answers_addPhrase_31 : decode prog_2_method_6_code 31 = .ok (.imul, 1) := by decide +kernel
theorem d_Answers_addPhrase_32 : decode prog_2_method_6_code 32 = .ok (.aload_n 1, 1) := by decide +kernel
theorem d_Answers_addPhrase_33 : decode prog_2_method_6_code 33 = .ok (.iload_n 2, 1) := by decide +kernel
theorem d_Answers_addPhrase_34 : decode prog_2_method_6_code 34 = .ok (.aload_n 0, 1) := by decide +kernel
theorem d_Answers_addPhrase_35 : decode prog_2_method_6_code 35 = .ok (.getfield 9, 3) := by decide +kernel
theorem d_Answers_addPhrase_38 : decode prog_2_method_6_code 38 = .ok (.iload 8, 2) := by decide +kernel
theorem d_Answers_addPhrase_40 : decode prog_2_method_6_code 40 = .ok (.iaload, 1) := by decide +kernel
theorem d_Answers_addPhrase_41 : decode prog_2_method_6_code 41 = .ok (.iconst 1, 1) := by decide +kernel
theorem d_Answers_addPhrase_42 : decode prog_2_method_6_code 42 = .ok (.invokevirtual 64, 3) := by decide +kernel
theorem d_Answers_addPhrase_45 : decode prog_2_method_6_code 45 = .ok (.invokestatic 68, 3) := by decide +kernel
theorem d_Answers_addPhrase_48 : decode prog_2_method_6_code 48 = .ok (.aload_n 3, 1) := by decide +kernel
theorem d_Answers_addPhrase_49 : decode prog_2_method_6_code 49 = .ok (.iconst 1, 1) := by decide +kernel
theorem d_Answers_addPhrase_50 : decode prog_2_method_6_code 50 = .ok (.iaload, 1) := by decide +kernel
theorem d_Answers_addPhrase_51 : decode prog_2_method_6_code 51 = .ok (.imul, 1) := by decide +kernel
theorem d_Answers_addPhrase_52 : decode prog_2_method_6_code 52 = .ok (.iadd, 1) := by decide +kernel
theorem d_Answers_addPhrase_53 : decode prog_2_method_6_code 53 = .ok (.istore 9, 2) := by decide +kernel
theorem d_Answers_addPhrase_55 : decode prog_2_method_6_code 55 = .ok (.iload 9, 2) := by decide +kernel
theorem d_Answers_addPhrase_57 : decode prog_2_method_6_code 57 = .ok (.ifCond .le 51, 3) := by decide +kernel
theorem d_Answers_addPhrase_60 : decode prog_2_method_6_code 60 = .ok (.aload_n 0, 1) := by decide +kernel
theorem d_Answers_addPhrase_61 : decode prog_2_method_6_code 61 = .ok (.getfield 15, 3) := by decide +kernel
theorem d_Answers_addPhrase_64 : decode prog_2_method_6_code 64 = .ok (.iload 8, 2) := by decide +kernel
theorem d_Answers_addPhrase_66 : decode prog_2_method_6_code 66 = .ok (.dup2, 1) := by decide +kernel
theorem d_Answers_addPhrase_67 : decode prog_2_method_6_code 67 = .ok (.daload, 1) := by decide +kernel
theorem d_Answers_addPhrase_68 : decode prog_2_method_6_code 68 = .ok (.dload 4, 2) := by decide +kernel
theorem d_Answers_addPhrase_70 : decode prog_2_method_6_code 70 = .ok (.iload 9, 2) := by decide +kernel
theorem d_Answers_addPhrase_72 : decode prog_2_method_6_code 72 = .ok (.i2d, 1) := by decide +kernel
theorem d_Answers_addPhrase_73 : decode prog_2_method_6_code 73 = .ok (.ldc2_w 73, 3) := by decide +kernel
theorem d_Answers_addPhrase_76 : decode prog_2_method_6_code 76 = .ok (.dmul, 1) := by decide +kernel
theorem d_Answers_addPhrase_77 : decode prog_2_method_6_code 77 = .ok (.dmul, 1) := by decide +kernel
theorem d_Answers_addPhrase_78 : decode prog_2_method_6_code 78 = .ok (.iload 9, 2) := by decide +kernel
theorem d_Answers_addPhrase_80 : decode prog_2_method_6_code 80 = .ok (.i2d, 1) := by decide +kernel
theorem d_Answers_addPhrase_81 : decode prog_2_method_6_code 81 = .ok (.ldc2_w 75, 3) := by decide +kernel
theorem d_Answers_addPhrase_84 : decode prog_2_method_6_code 84 = .ok (.ldc2_w 77, 3) := by decide +kernel
theorem d_Answers_addPhrase_87 : decode prog_2_method_6_code 87 = .ok (.ldc2_w 79, 3) := by decide +kernel
theorem d_Answers_addPhrase_90 : decode prog_2_method_6_code 90 = .ok (.aload_n 0, 1) := by decide +kernel
theorem d_Answers_addPhrase_91 : decode prog_2_method_6_code 91 = .ok (.getfield 19, 3) := by decide +kernel
theorem d_Answers_addPhrase_94 : decode prog_2_method_6_code 94 = .ok (.iload 8, 2) := by decide +kernel
theorem d_Answers_addPhrase_96 : decode prog_2_method_6_code 96 = .ok (.iaload, 1) := by decide +kernel
theorem d_Answers_addPhrase_97 : decode prog_2_method_6_code 97 = .ok (.i2d, 1) := by decide +kernel
theorem d_Answers_addPhrase_98 : decode prog_2_method_6_code 98 = .ok (.dmul, 1) := by decide +kernel
theorem d_Answers_addPhrase_99 : decode prog_2_method_6_code 99 = .ok (.dload 6, 2) := by decide +kernel
theorem d_Answers_addPhrase_101 : decode prog_2_method_6_code 101 = .ok (.ddiv, 1) := by decide +kernel
theorem d_Answers_addPhrase_102 : decode prog_2_method_6_code 102 = .ok (.dadd, 1) := by decide +kernel
theorem d_Answers_addPhrase_103 : decode prog_2_method_6_code 103 = .ok (.dmul, 1) := by decide +kernel
theorem d_Answers_addPhrase_104 : decode prog_2_method_6_code 104 = .ok (.dadd, 1) := by decide +kernel
theorem d_Answers_addPhrase_105 : decode prog_2_method_6_code 105 = .ok (.ddiv, 1) := by decide +kernel
theorem d_Answers_addPhrase_106 : decode prog_2_method_6_code 106 = .ok (.dadd, 1) := by decide +kernel
theorem d_Answers_addPhrase_107 : decode prog_2_method_6_code 107 = .ok (.dastore, 1) := by decide +kernel
theorem d_Answers_addPhrase_108 : decode prog_2_method_6_code 108 = .ok (.iinc 8 1, 3) := by decide +kernel
theorem d_Answers_addPhrase_111 : decode prog_2_method_6_code 111 = .ok (.goto (-108), 3) := by decide +kernel
theorem d_Answers_addPhrase_114 : decode prog_2_method_6_code 114 = .ok (.return_, 1) := by decide +kernel
theorem d_Answers_sort_0 : decode prog_2_method_9_code 0 = .ok (.iconst 0, 1) := by decide +kernel
theorem d_Answers_sort_1 : decode prog_2_method_9_code 1 = .ok (.istore_n 1, 1) := by decide +kernel
theorem d_Answers_sort_2 : decode prog_2_method_9_code 2 = .ok (.iload_n 1, 1) := by decide +kernel
theorem d_Answers_sort_3 : decode prog_2_method_9_code 3 = .ok (.aload_n 0, 1) := by decide +kernel
theorem d_Answers_sort_4 : decode prog_2_method_9_code 4 = .ok (.getfield 25, 3) := by decide +kernel
theorem d_Answers_sort_7 : decode prog_2_method_9_code 7 = .ok (.if_icmp .ge 65, 3) := by decide +kernel
theorem d_Answers_sort_10 : decode prog_2_method_9_code 10 = .ok (.iload_n 1, 1) := by decide +kernel
theorem d_Answers_sort_11 : decode prog_2_method_9_code 11 = .ok (.istore_n 2, 1) := by decide +kernel
theorem d_Answers_sort_12 : decode prog_2_method_9_code 12 = .ok (.iload_n 2, 1) := by decide +kernel
theorem d_Answers_sort_13 : decode prog_2_method_9_code 13 = .ok (.ifCond .le 46, 3) := by decide +kernel
theorem d_Answers_sort_16 : decode prog_2_method_9_code 16 = .ok (.aload_n 0, 1) := by decide +kernel
theorem d_Answers_sort_17 : decode prog_2_method_9_code 17 = .ok (.getfield 15, 3) := by decide +kernel
theorem d_Answers_sort_20 : decode prog_2_method_9_code 20 = .ok (.aload_n 0, 1) := by decide +kernel
theorem d_Answers_sort_21 : decode prog_2_method_9_code 21 = .ok (.getfield 22, 3) := by decide +kernel
theorem d_Answers_sort_24 : decode prog_2_method_9_code 24 = .ok (.iload_n 2, 1) := by decide +kernel
theorem d_Answers_sort_25 : decode prog_2_method_9_code 25 = .ok (.iconst 1, 1) := by decide +kernel
theorem d_Answers_sort_26 : decode prog_2_method_9_code 26 = .ok (.isub, 1) := by decide +kernel
theorem d_Answers_sort_27 : decode prog_2_method_9_code 27 = .ok (.iaload, 1) := by decide +kernel
theorem d_Answers_sort_28 : decode prog_2_method_9_code 28 = .ok (.daload, 1) := by decide +kernel
theorem d_Answers_sort_29 : decode prog_2_method_9_code 29 = .ok (.aload_n 0, 1) := by decide +kernel
theorem d_Answers_sort_30 : decode prog_2_method_9_code 30 = .ok (.getfield 15, 3) := by decide +kernel
theorem d_Answers_sort_33 : decode prog_2_method_9_code 33 = .ok (.iload_n 1, 1) := by decide +kernel
theorem d_Answers_sort_34 : decode prog_2_method_9_code 34 = .ok (.daload, 1) := by decide +kernel
theorem d_Answers_sort_35 : decode prog_2_method_9_code 35 = .ok (.dcmp .g, 1) := by decide +kernel
theorem d_Answers_sort_36 : decode prog_2_method_9_code 36 = .ok (.ifCond .ge 23, 3) := by decide +kernel
theorem d_Answers_sort_39 : decode prog_2_method_9_code 39 = .ok (.aload_n 0, 1) := by decide +kernel
theorem d_Answers_sort_40 : decode prog_2_method_9_code 40 = .ok (.getfield 22, 3) := by decide +kernel
theorem d_Answers_sort_43 : decode prog_2_method_9_code 43 = .ok (.iload_n 2, 1) := by decide +kernel
theorem d_Answers_sort_44 : decode prog_2_method_9_code 44 = .ok (.aload_n 0, 1) := by decide +kernel
theorem d_Answers_sort_45 : decode prog_2_method_9_code 45 = .ok (.getfield 22, 3) := by decide +kernel
theorem d_Answers_sort_48 : decode prog_2_method_9_code 48 = .ok (.iload_n 2, 1) := by decide +kernel
theorem d_Answers_sort_49 : decode prog_2_method_9_code 49 = .ok (.iconst 1, 1) := by decide +kernel
theorem d_Answers_sort_50 : decode prog_2_method_9_code 50 = .ok (.isub, 1) := by decide +kernel
theorem d_Answers_sort_51 : decode prog_2_method_9_code 51 = .ok (.iaload, 1) := by decide +kernel
theorem d_Answers_sort_52 : decode prog_2_method_9_code 52 = .ok (.iastore, 1) := by decide +kernel
theorem d_Answers_sort_53 : decode prog_2_method_9_code 53 = .ok (.iinc 2 (-1), 3) := by decide +kernel
theorem d_Answers_sort_56 : decode prog_2_method_9_code 56 = .ok (.goto (-44), 3) := by decide +kernel
theorem d_Answers_sort_59 : decode prog_2_method_9_code 59 = .ok (.aload_n 0, 1) := by decide +kernel
theorem d_Answers_sort_60 : decode prog_2_method_9_code 60 = .ok (.getfield 22, 3) := by decide +kernel
theorem d_Answers_sort_63 : decode prog_2_method_9_code 63 = .ok (.iload_n 2, 1) := by decide +kernel
theorem d_Answers_sort_64 : decode prog_2_method_9_code 64 = .ok (.iload_n 1, 1) := by decide +kernel
theorem d_Answers_sort_65 : decode prog_2_method_9_code 65 = .ok (.iastore, 1) := by decide +kernel
theorem d_Answers_sort_66 : decode prog_2_method_9_code 66 = .ok (.iinc 1 1, 3) := by decide +kernel
theorem d_Answers_sort_69 : decode prog_2_method_9_code 69 = .ok (.goto (-67), 3) := by decide +kernel
theorem d_Answers_sort_72 : decode prog_2_method_9_code 72 = .ok (.return_, 1) := by decide +kernel
theorem d_Shelf_answer_0 : decode prog_1_method_17_code 0 = .ok (.aload_n 0, 1) := by decide +kernel
theorem d_Shelf_answer_1 : decode prog_1_method_17_code 1 = .ok (.getfield 50, 3) := by decide +kernel
theorem d_Shelf_answer_4 : decode prog_1_method_17_code 4 = .ok (.iload_n 1, 1) := by decide +kernel
theorem d_Shelf_answer_5 : decode prog_1_method_17_code 5 = .ok (.invokevirtual 195, 3) := by decide +kernel
theorem d_Shelf_answer_8 : decode prog_1_method_17_code 8 = .ok (.ifCond .ne 13, 3) := by decide +kernel
theorem d_Shelf_answer_11 : decode prog_1_method_17_code 11 = .ok (.new 81, 3) := by decide +kernel
theorem d_Shelf_answer_14 : decode prog_1_method_17_code 14 = .ok (.dup, 1) := by decide +kernel
theorem d_Shelf_answer_15 : decode prog_1_method_17_code 15 = .ok (.ldc 198, 2) := by decide +kernel
theorem d_Shelf_answer_17 : decode prog_1_method_17_code 17 = .ok (.invokespecial 85, 3) := by decide +kernel
theorem d_Shelf_answer_20 : decode prog_1_method_17_code 20 = .ok (.athrow, 1) := by decide +kernel
theorem d_Shelf_answer_21 : decode prog_1_method_17_code 21 = .ok (.aload_n 0, 1) := by decide +kernel
theorem d_Shelf_answer_22 : decode prog_1_method_17_code 22 = .ok (.getfield 50, 3) := by decide +kernel
theorem d_Shelf_answer_25 : decode prog_1_method_17_code 25 = .ok (.getfield 200, 3) := by decide +kernel
theorem d_Shelf_answer_28 : decode prog_1_method_17_code 28 = .ok (.aload_n 0, 1) := by decide +kernel
theorem d_Shelf_answer_29 : decode prog_1_method_17_code 29 = .ok (.getfield 50, 3) := by decide +kernel
theorem d_Shelf_answer_32 : decode prog_1_method_17_code 32 = .ok (.iload_n 1, 1) := by decide +kernel
theorem d_Shelf_answer_33 : decode prog_1_method_17_code 33 = .ok (.iload_n 2, 1) := by decide +kernel
theorem d_Shelf_answer_34 : decode prog_1_method_17_code 34 = .ok (.invokevirtual 203, 3) := by decide +kernel
theorem d_Shelf_answer_37 : decode prog_1_method_17_code 37 = .ok (.iaload, 1) := by decide +kernel
theorem d_Shelf_answer_38 : decode prog_1_method_17_code 38 = .ok (.ireturn, 1) := by decide +kernel
theorem d_Answers_has_0 : decode prog_2_method_2_code 0 = .ok (.iload_n 1, 1) := by decide +kernel
theorem d_Answers_has_1 : decode prog_2_method_2_code 1 = .ok (.ifCond .lt 15, 3) := by decide +kernel
theorem d_Answers_has_4 : decode prog_2_method_2_code 4 = .ok (.iload_n 1, 1) := by decide +kernel
theorem d_Answers_has_5 : decode prog_2_method_2_code 5 = .ok (.aload_n 0, 1) := by decide +kernel
theorem d_Answers_has_6 : decode prog_2_method_2_code 6 = .ok (.getfield 25, 3) := by decide +kernel
theorem d_Answers_has_9 : decode prog_2_method_2_code 9 = .ok (.if_icmp .ge 7, 3) := by decide +kernel
theorem d_Answers_has_12 : decode prog_2_method_2_code 12 = .ok (.iconst 1, 1) := by decide +kernel
theorem d_Answers_has_13 : decode prog_2_method_2_code 13 = .ok (.goto 4, 3) := by decide +kernel
theorem d_Answers_has_16 : decode prog_2_method_2_code 16 = .ok (.iconst 0, 1) := by decide +kernel
theorem d_Answers_has_17 : decode prog_2_method_2_code 17 = .ok (.ireturn, 1) := by decide +kernel
theorem d_Answers_place_0 : decode prog_2_method_3_code 0 = .ok (.iload_n 2, 1) := by decide +kernel
theorem d_Answers_place_1 : decode prog_2_method_3_code 1 = .ok (.ifCond .eq 12, 3) := by decide +kernel
theorem d_Answers_place_4 : decode prog_2_method_3_code 4 = .ok (.aload_n 0, 1) := by decide +kernel
theorem d_Answers_place_5 : decode prog_2_method_3_code 5 = .ok (.getfield 22, 3) := by decide +kernel
theorem d_Answers_place_8 : decode prog_2_method_3_code 8 = .ok (.iload_n 1, 1) := by decide +kernel
theorem d_Answers_place_9 : decode prog_2_method_3_code 9 = .ok (.iaload, 1) := by decide +kernel
theorem d_Answers_place_10 : decode prog_2_method_3_code 10 = .ok (.goto 4, 3) := by decide +kernel
theorem d_Answers_place_13 : decode prog_2_method_3_code 13 = .ok (.iload_n 1, 1) := by decide +kernel
theorem d_Answers_place_14 : decode prog_2_method_3_code 14 = .ok (.ireturn, 1) := by decide +kernel
theorem d_Shelf_score_0 : decode prog_1_method_18_code 0 = .ok (.aload_n 0, 1) := by decide +kernel
theorem d_Shelf_score_1 : decode prog_1_method_18_code 1 = .ok (.getfield 50, 3) := by decide +kernel
theorem d_Shelf_score_4 : decode prog_1_method_18_code 4 = .ok (.iload_n 1, 1) := by decide +kernel
theorem d_Shelf_score_5 : decode prog_1_method_18_code 5 = .ok (.invokevirtual 195, 3) := by decide +kernel
theorem d_Shelf_score_8 : decode prog_1_method_18_code 8 = .ok (.ifCond .ne 13, 3) := by decide +kernel
theorem d_Shelf_score_11 : decode prog_1_method_18_code 11 = .ok (.new 81, 3) := by decide +kernel
theorem d_Shelf_score_14 : decode prog_1_method_18_code 14 = .ok (.dup, 1) := by decide +kernel
theorem d_Shelf_score_15 : decode prog_1_method_18_code 15 = .ok (.ldc 198, 2) := by decide +kernel
theorem d_Shelf_score_17 : decode prog_1_method_18_code 17 = .ok (.invokespecial 85, 3) := by decide +kernel
theorem d_Shelf_score_20 : decode prog_1_method_18_code 20 = .ok (.athrow, 1) := by decide +kernel
theorem d_Shelf_score_21 : decode prog_1_method_18_code 21 = .ok (.aload_n 0, 1) := by decide +kernel
theorem d_Shelf_score_22 : decode prog_1_method_18_code 22 = .ok (.getfield 50, 3) := by decide +kernel
theorem d_Shelf_score_25 : decode prog_1_method_18_code 25 = .ok (.getfield 207, 3) := by decide +kernel
theorem d_Shelf_score_28 : decode prog_1_method_18_code 28 = .ok (.aload_n 0, 1) := by decide +kernel
theorem d_Shelf_score_29 : decode prog_1_method_18_code 29 = .ok (.getfield 50, 3) := by decide +kernel
theorem d_Shelf_score_32 : decode prog_1_method_18_code 32 = .ok (.iload_n 1, 1) := by decide +kernel
theorem d_Shelf_score_33 : decode prog_1_method_18_code 33 = .ok (.iload_n 2, 1) := by decide +kernel
theorem d_Shelf_score_34 : decode prog_1_method_18_code 34 = .ok (.invokevirtual 203, 3) := by decide +kernel
theorem d_Shelf_score_37 : decode prog_1_method_18_code 37 = .ok (.daload, 1) := by decide +kernel
theorem d_Shelf_score_38 : decode prog_1_method_18_code 38 = .ok (.dreturn, 1) := by decide +kernel
theorem d_Shelf_look_0 : decode prog_1_method_19_code 0 = .ok (.aload_n 0, 1) := by decide +kernel
theorem d_Shelf_look_1 : decode prog_1_method_19_code 1 = .ok (.getfield 26, 3) := by decide +kernel
theorem d_Shelf_look_4 : decode prog_1_method_19_code 4 = .ok (.iload_n 1, 1) := by decide +kernel
theorem d_Shelf_look_5 : decode prog_1_method_19_code 5 = .ok (.invokevirtual 115, 3) := by decide +kernel
theorem d_Shelf_look_8 : decode prog_1_method_19_code 8 = .ok (.astore_n 3, 1) := by decide +kernel
theorem d_Shelf_look_9 : decode prog_1_method_19_code 9 = .ok (.aload_n 3, 1) := by decide +kernel
theorem d_Shelf_look_10 : decode prog_1_method_19_code 10 = .ok (.ifnonnull 13, 3) := by decide +kernel
theorem d_Shelf_look_13 : decode prog_1_method_19_code 13 = .ok (.new 119, 3) := by decide +kernel
theorem d_Shelf_look_16 : decode prog_1_method_19_code 16 = .ok (.dup, 1) := by decide +kernel
theorem d_Shelf_look_17 : decode prog_1_method_19_code 17 = .ok (.ldc 121, 2) := by decide +kernel
theorem d_Shelf_look_19 : decode prog_1_method_19_code 19 = .ok (.invokespecial 123, 3) := by decide +kernel
theorem d_Shelf_look_22 : decode prog_1_method_19_code 22 = .ok (.athrow, 1) := by decide +kernel
theorem d_Shelf_look_23 : decode prog_1_method_19_code 23 = .ok (.iload_n 2, 1) := by decide +kernel
theorem d_Shelf_look_24 : decode prog_1_method_19_code 24 = .ok (.tableswitch 49 0 2 #[28, 36, 44], 28) := by decide +kernel
theorem d_Shelf_look_52 : decode prog_1_method_19_code 52 = .ok (.aload_n 3, 1) := by decide +kernel
theorem d_Shelf_look_53 : decode prog_1_method_19_code 53 = .ok (.getfield 211, 3) := by decide +kernel
theorem d_Shelf_look_56 : decode prog_1_method_19_code 56 = .ok (.getfield 102, 3) := by decide +kernel
theorem d_Shelf_look_59 : decode prog_1_method_19_code 59 = .ok (.ireturn, 1) := by decide +kernel
theorem d_Shelf_look_60 : decode prog_1_method_19_code 60 = .ok (.aload_n 3, 1) := by decide +kernel
theorem d_Shelf_look_61 : decode prog_1_method_19_code 61 = .ok (.getfield 215, 3) := by decide +kernel
theorem d_Shelf_look_64 : decode prog_1_method_19_code 64 = .ok (.getfield 102, 3) := by decide +kernel
theorem d_Shelf_look_67 : decode prog_1_method_19_code 67 = .ok (.ireturn, 1) := by decide +kernel
theorem d_Shelf_look_68 : decode prog_1_method_19_code 68 = .ok (.aload_n 3, 1) := by decide +kernel
theorem d_Shelf_look_69 : decode prog_1_method_19_code 69 = .ok (.getfield 218, 3) := by decide +kernel
theorem d_Shelf_look_72 : decode prog_1_method_19_code 72 = .ok (.ireturn, 1) := by decide +kernel
theorem d_Shelf_look_73 : decode prog_1_method_19_code 73 = .ok (.new 71, 3) := by decide +kernel
theorem d_Shelf_look_76 : decode prog_1_method_19_code 76 = .ok (.dup, 1) := by decide +kernel
theorem d_Shelf_look_77 : decode prog_1_method_19_code 77 = .ok (.ldc 221, 2) := by decide +kernel
theorem d_Shelf_look_79 : decode prog_1_method_19_code 79 = .ok (.invokespecial 75, 3) := by decide +kernel
theorem d_Shelf_look_82 : decode prog_1_method_19_code 82 = .ok (.athrow, 1) := by decide +kernel
theorem d_Shelf_segment_0 : decode prog_1_method_20_code 0 = .ok (.iload_n 1, 1) := by decide +kernel
theorem d_Shelf_segment_1 : decode prog_1_method_20_code 1 = .ok (.ifCond .lt 14, 3) := by decide +kernel
theorem d_Shelf_segment_4 : decode prog_1_method_20_code 4 = .ok (.iload_n 1, 1) := by decide +kernel
theorem d_Shelf_segment_5 : decode prog_1_method_20_code 5 = .ok (.aload_n 0, 1) := by decide +kernel
theorem d_Shelf_segment_6 : decode prog_1_method_20_code 6 = .ok (.getfield 26, 3) := by decide +kernel
theorem d_Shelf_segment_9 : decode prog_1_method_20_code 9 = .ok (.getfield 150, 3) := by decide +kernel
theorem d_Shelf_segment_12 : decode prog_1_method_20_code 12 = .ok (.if_icmp .lt 13, 3) := by decide +kernel
theorem d_Shelf_segment_15 : decode prog_1_method_20_code 15 = .ok (.new 81, 3) := by decide +kernel
theorem d_Shelf_segment_18 : decode prog_1_method_20_code 18 = .ok (.dup, 1) := by decide +kernel
theorem d_Shelf_segment_19 : decode prog_1_method_20_code 19 = .ok (.ldc 223, 2) := by decide +kernel
theorem d_Shelf_segment_21 : decode prog_1_method_20_code 21 = .ok (.invokespecial 85, 3) := by decide +kernel
theorem d_Shelf_segment_24 : decode prog_1_method_20_code 24 = .ok (.athrow, 1) := by decide +kernel
theorem d_Shelf_segment_25 : decode prog_1_method_20_code 25 = .ok (.aload_n 0, 1) := by decide +kernel
theorem d_Shelf_segment_26 : decode prog_1_method_20_code 26 = .ok (.getfield 26, 3) := by decide +kernel
theorem d_Shelf_segment_29 : decode prog_1_method_20_code 29 = .ok (.getfield 225, 3) := by decide +kernel
theorem d_Shelf_segment_32 : decode prog_1_method_20_code 32 = .ok (.iload_n 1, 1) := by decide +kernel
theorem d_Shelf_segment_33 : decode prog_1_method_20_code 33 = .ok (.aaload, 1) := by decide +kernel
theorem d_Shelf_segment_34 : decode prog_1_method_20_code 34 = .ok (.astore_n 3, 1) := by decide +kernel
theorem d_Shelf_segment_35 : decode prog_1_method_20_code 35 = .ok (.iload_n 2, 1) := by decide +kernel
theorem d_Shelf_segment_36 : decode prog_1_method_20_code 36 = .ok (.tableswitch 44 0 2 #[28, 33, 39], 28) := by decide +kernel
theorem d_Shelf_segment_64 : decode prog_1_method_20_code 64 = .ok (.aload_n 3, 1) := by decide +kernel
theorem d_Shelf_segment_65 : decode prog_1_method_20_code 65 = .ok (.getfield 229, 3) := by decide +kernel
theorem d_Shelf_segment_68 : decode prog_1_method_20_code 68 = .ok (.ireturn, 1) := by decide +kernel
theorem d_Shelf_segment_69 : decode prog_1_method_20_code 69 = .ok (.aload_n 3, 1) := by decide +kernel
theorem d_Shelf_segment_70 : decode prog_1_method_20_code 70 = .ok (.getfield 234, 3) := by decide +kernel
theorem d_Shelf_segment_73 : decode prog_1_method_20_code 73 = .ok (.arraylength, 1) := by decide +kernel
theorem d_Shelf_segment_74 : decode prog_1_method_20_code 74 = .ok (.ireturn, 1) := by decide +kernel
theorem d_Shelf_segment_75 : decode prog_1_method_20_code 75 = .ok (.aload_n 3, 1) := by decide +kernel
theorem d_Shelf_segment_76 : decode prog_1_method_20_code 76 = .ok (.getfield 238, 3) := by decide +kernel
theorem d_Shelf_segment_79 : decode prog_1_method_20_code 79 = .ok (.ireturn, 1) := by decide +kernel
theorem d_Shelf_segment_80 : decode prog_1_method_20_code 80 = .ok (.new 71, 3) := by decide +kernel
theorem d_Shelf_segment_83 : decode prog_1_method_20_code 83 = .ok (.dup, 1) := by decide +kernel
theorem d_Shelf_segment_84 : decode prog_1_method_20_code 84 = .ok (.ldc 239, 2) := by decide +kernel
theorem d_Shelf_segment_86 : decode prog_1_method_20_code 86 = .ok (.invokespecial 75, 3) := by decide +kernel
theorem d_Shelf_segment_89 : decode prog_1_method_20_code 89 = .ok (.athrow, 1) := by decide +kernel
theorem d_Shelf_count_0 : decode prog_1_method_21_code 0 = .ok (.iload_n 1, 1) := by decide +kernel
theorem d_Shelf_count_1 : decode prog_1_method_21_code 1 = .ok (.tableswitch 122 0 8 #[51, 59, 67, 75, 83, 91, 99, 104, 117], 51) := by decide +kernel
theorem d_Shelf_count_52 : decode prog_1_method_21_code 52 = .ok (.aload_n 0, 1) := by decide +kernel
theorem d_Shelf_count_53 : decode prog_1_method_21_code 53 = .ok (.getfield 26, 3) := by decide +kernel
theorem d_Shelf_count_56 : decode prog_1_method_21_code 56 = .ok (.invokevirtual 153, 3) := by decide +kernel
theorem d_Shelf_count_59 : decode prog_1_method_21_code 59 = .ok (.ireturn, 1) := by decide +kernel
theorem d_Shelf_count_60 : decode prog_1_method_21_code 60 = .ok (.aload_n 0, 1) := by decide +kernel
theorem d_Shelf_count_61 : decode prog_1_method_21_code 61 = .ok (.getfield 26, 3) := by decide +kernel
theorem d_Shelf_count_64 : decode prog_1_method_21_code 64 = .ok (.getfield 150, 3) := by decide +kernel
theorem d_Shelf_count_67 : decode prog_1_method_21_code 67 = .ok (.ireturn, 1) := by decide +kernel
theorem d_Shelf_count_68 : decode prog_1_method_21_code 68 = .ok (.aload_n 0, 1) := by decide +kernel
theorem d_Shelf_count_69 : decode prog_1_method_21_code 69 = .ok (.getfield 26, 3) := by decide +kernel
theorem d_Shelf_count_72 : decode prog_1_method_21_code 72 = .ok (.getfield 241, 3) := by decide +kernel
theorem d_Shelf_count_75 : decode prog_1_method_21_code 75 = .ok (.ireturn, 1) := by decide +kernel
theorem d_Shelf_count_76 : decode prog_1_method_21_code 76 = .ok (.aload_n 0, 1) := by decide +kernel
theorem d_Shelf_count_77 : decode prog_1_method_21_code 77 = .ok (.getfield 26, 3) := by decide +kernel
theorem d_Shelf_count_80 : decode prog_1_method_21_code 80 = .ok (.getfield 244, 3) := by decide +kernel
theorem d_Shelf_count_83 : decode prog_1_method_21_code 83 = .ok (.ireturn, 1) := by decide +kernel
theorem d_Shelf_count_84 : decode prog_1_method_21_code 84 = .ok (.aload_n 0, 1) := by decide +kernel
theorem d_Shelf_count_85 : decode prog_1_method_21_code 85 = .ok (.getfield 26, 3) := by decide +kernel
theorem d_Shelf_count_88 : decode prog_1_method_21_code 88 = .ok (.getfield 247, 3) := by decide +kernel
theorem d_Shelf_count_91 : decode prog_1_method_21_code 91 = .ok (.ireturn, 1) := by decide +kernel
theorem d_Shelf_count_92 : decode prog_1_method_21_code 92 = .ok (.aload_n 0, 1) := by decide +kernel
theorem d_Shelf_count_93 : decode prog_1_method_21_code 93 = .ok (.getfield 50, 3) := by decide +kernel
theorem d_Shelf_count_96 : decode prog_1_method_21_code 96 = .ok (.getfield 192, 3) := by decide +kernel
theorem d_Shelf_count_99 : decode prog_1_method_21_code 99 = .ok (.ireturn, 1) := by decide +kernel
theorem d_Shelf_count_100 : decode prog_1_method_21_code 100 = .ok (.aload_n 0, 1) := by decide +kernel
theorem d_Shelf_count_101 : decode prog_1_method_21_code 101 = .ok (.getfield 173, 3) := by decide +kernel
theorem d_Shelf_count_104 : decode prog_1_method_21_code 104 = .ok (.ireturn, 1) := by decide +kernel
theorem d_Shelf_count_105 : decode prog_1_method_21_code 105 = .ok (.aload_n 0, 1) := by decide +kernel
theorem d_Shelf_count_106 : decode prog_1_method_21_code 106 = .ok (.getfield 132, 3) := by decide +kernel
theorem d_Shelf_count_109 : decode prog_1_method_21_code 109 = .ok (.ifCond .eq 7, 3) := by decide +kernel
theorem d_Shelf_count_112 : decode prog_1_method_21_code 112 = .ok (.iconst 1, 1) := by decide +kernel
theorem d_Shelf_count_113 : decode prog_1_method_21_code 113 = .ok (.goto 4, 3) := by decide +kernel
theorem d_Shelf_count_116 : decode prog_1_method_21_code 116 = .ok (.iconst 0, 1) := by decide +kernel
theorem d_Shelf_count_117 : decode prog_1_method_21_code 117 = .ok (.ireturn, 1) := by decide +kernel
theorem d_Shelf_count_118 : decode prog_1_method_21_code 118 = .ok (.aload_n 0, 1) := by decide +kernel
theorem d_Shelf_count_119 : decode prog_1_method_21_code 119 = .ok (.getfield 78, 3) := by decide +kernel
theorem d_Shelf_count_122 : decode prog_1_method_21_code 122 = .ok (.ireturn, 1) := by decide +kernel
theorem d_Shelf_count_123 : decode prog_1_method_21_code 123 = .ok (.new 71, 3) := by decide +kernel
theorem d_Shelf_count_126 : decode prog_1_method_21_code 126 = .ok (.dup, 1) := by decide +kernel
theorem d_Shelf_count_127 : decode prog_1_method_21_code 127 = .ok (.ldc 250, 2) := by decide +kernel
theorem d_Shelf_count_129 : decode prog_1_method_21_code 129 = .ok (.invokespecial 75, 3) := by decide +kernel
theorem d_Shelf_count_132 : decode prog_1_method_21_code 132 = .ok (.athrow, 1) := by decide +kernel
end
section
/-! rows that decode: by program -/
theorem d_Model_init_0 : decode prog_13_method_1_code 0 = .ok (.aload_n 0, 1) := by decide +kernel
theorem d_Model_init_1 : decode prog_13_method_1_code 1 = .ok (.invokespecial 1, 3) := by decide +kernel
theorem d_Model_init_4 : decode prog_13_method_1_code 4 = .ok (.aload_n 0, 1) := by decide +kernel
theorem d_Model_init_5 : decode prog_13_method_1_code 5 = .ok (.iconst 3, 1) := by decide +kernel
theorem d_Model_init_6 : decode prog_13_method_1_code 6 = .ok (.putfield 7, 3) := by decide +kernel
theorem d_Model_init_9 : decode prog_13_method_1_code 9 = .ok (.aload_n 0, 1) := by decide +kernel
theorem d_Model_init_10 : decode prog_13_method_1_code 10 = .ok (.bipush 20, 2) := by decide +kernel
theorem d_Model_init_12 : decode prog_13_method_1_code 12 = .ok (.putfield 13, 3) := by decide +kernel
theorem d_Model_init_15 : decode prog_13_method_1_code 15 = .ok (.aload_n 0, 1) := by decide +kernel
theorem d_Model_init_16 : decode prog_13_method_1_code 16 = .ok (.bipush 96, 2) := by decide +kernel
theorem d_Model_init_18 : decode prog_13_method_1_code 18 = .ok (.newarray .int, 2) := by decide +kernel
theorem d_Model_init_20 : decode prog_13_method_1_code 20 = .ok (.putfield 16, 3) := by decide +kernel
theorem d_Model_init_23 : decode prog_13_method_1_code 23 = .ok (.aload_n 0, 1) := by decide +kernel
theorem d_Model_init_24 : decode prog_13_method_1_code 24 = .ok (.bipush 96, 2) := by decide +kernel
theorem d_Model_init_26 : decode prog_13_method_1_code 26 = .ok (.newarray .int, 2) := by decide +kernel
theorem d_Model_init_28 : decode prog_13_method_1_code 28 = .ok (.putfield 20, 3) := by decide +kernel
theorem d_Model_init_31 : decode prog_13_method_1_code 31 = .ok (.aload_n 0, 1) := by decide +kernel
theorem d_Model_init_32 : decode prog_13_method_1_code 32 = .ok (.bipush 96, 2) := by decide +kernel
theorem d_Model_init_34 : decode prog_13_method_1_code 34 = .ok (.newarray .int, 2) := by decide +kernel
theorem d_Model_init_36 : decode prog_13_method_1_code 36 = .ok (.putfield 23, 3) := by decide +kernel
theorem d_Model_init_39 : decode prog_13_method_1_code 39 = .ok (.aload_n 0, 1) := by decide +kernel
theorem d_Model_init_40 : decode prog_13_method_1_code 40 = .ok (.iconst 2, 1) := by decide +kernel
theorem d_Model_init_41 : decode prog_13_method_1_code 41 = .ok (.newarray .int, 2) := by decide +kernel
theorem d_Model_init_43 : decode prog_13_method_1_code 43 = .ok (.putfield 26, 3) := by decide +kernel
theorem d_Model_init_46 : decode prog_13_method_1_code 46 = .ok (.aload_n 0, 1) := by decide +kernel
theorem d_Model_init_47 : decode prog_13_method_1_code 47 = .ok (.sipush 2304, 3) := by decide +kernel
theorem d_Model_init_50 : decode prog_13_method_1_code 50 = .ok (.newarray .int, 2) := by decide +kernel
theorem d_Model_init_52 : decode prog_13_method_1_code 52 = .ok (.putfield 29, 3) := by decide +kernel
theorem d_Model_init_55 : decode prog_13_method_1_code 55 = .ok (.aload_n 0, 1) := by decide +kernel
theorem d_Model_init_56 : decode prog_13_method_1_code 56 = .ok (.bipush 48, 2) := by decide +kernel
theorem d_Model_init_58 : decode prog_13_method_1_code 58 = .ok (.newarray .int, 2) := by decide +kernel
theorem d_Model_init_60 : decode prog_13_method_1_code 60 = .ok (.putfield 32, 3) := by decide +kernel
theorem d_Model_init_63 : decode prog_13_method_1_code 63 = .ok (.aload_n 0, 1) := by decide +kernel
theorem d_Model_init_64 : decode prog_13_method_1_code 64 = .ok (.iconst 2, 1) := by decide +kernel
theorem d_Model_init_65 : decode prog_13_method_1_code 65 = .ok (.newarray .int, 2) := by decide +kernel
theorem d_Model_init_67 : decode prog_13_method_1_code 67 = .ok (.putfield 35, 3) := by decide +kernel
theorem d_Model_init_70 : decode prog_13_method_1_code 70 = .ok (.aload_n 0, 1) := by decide +kernel
theorem d_Model_init_71 : decode prog_13_method_1_code 71 = .ok (.sipush 600, 3) := by decide +kernel
theorem d_Model_init_74 : decode prog_13_method_1_code 74 = .ok (.newarray .int, 2) := by decide +kernel
theorem d_Model_init_76 : decode prog_13_method_1_code 76 = .ok (.putfield 38, 3) := by decide +kernel
theorem d_Model_init_79 : decode prog_13_method_1_code 79 = .ok (.aload_n 0, 1) := by decide +kernel
theorem d_Model_init_80 : decode prog_13_method_1_code 80 = .ok (.sipush 600, 3) := by decide +kernel
theorem d_Model_init_83 : decode prog_13_method_1_code 83 = .ok (.newarray .int, 2) := by decide +kernel
theorem d_Model_init_85 : decode prog_13_method_1_code 85 = .ok (.putfield 41, 3) := by decide +kernel
theorem d_Model_init_88 : decode prog_13_method_1_code 88 = .ok (.aload_n 0, 1) := by decide +kernel
theorem d_Model_init_89 : decode prog_13_method_1_code 89 = .ok (.bipush 24, 2) := by decide +kernel
theorem d_Model_init_91 : decode prog_13_method_1_code 91 = .ok (.newarray .int, 2) := by decide +kernel
theorem d_Model_init_93 : decode prog_13_method_1_code 93 = .ok (.putfield 44, 3) := by decide +kernel
theorem d_Model_init_96 : decode prog_13_method_1_code 96 = .ok (.aload_n 0, 1) := by decide +kernel
theorem d_Model_init_97 : decode prog_13_method_1_code 97 = .ok (.sipush 600, 3) := by decide +kernel
theorem d_Model_init_100 : decode prog_13_method_1_code 100 = .ok (.newarray .int, 2) := by decide +kernel
theorem d_Model_init_102 : decode prog_13_method_1_code 102 = .ok (.putfield 47, 3) := by decide +kernel
theorem d_Model_init_105 : decode prog_13_method_1_code 105 = .ok (.aload_n 0, 1) := by decide +kernel
theorem d_Model_init_106 : decode prog_13_method_1_code 106 = .ok (.sipush 1300, 3) := by decide +kernel
theorem d_Model_init_109 : decode prog_13_method_1_code 109 = .ok (.newarray .int, 2) := by decide +kernel
theorem d_Model_init_111 : decode prog_13_method_1_code 111 = .ok (.putfield 50, 3) := by decide +kernel
theorem d_Model_init_114 : decode prog_13_method_1_code 114 = .ok (.aload_n 0, 1) := by decide +kernel
theorem d_Model_init_115 : decode prog_13_method_1_code 115 = .ok (.sipush 2304, 3) := by decide +kernel
theorem d_Model_init_118 : decode prog_13_method_1_code 118 = .ok (.newarray .int, 2) := by decide +kernel
theorem d_Model_init_120 : decode prog_13_method_1_code 120 = .ok (.putfield 53, 3) := by decide +kernel
theorem d_Model_init_123 : decode prog_13_method_1_code 123 = .ok (.aload_n 0, 1) := by decide +kernel
theorem d_Model_init_124 : decode prog_13_method_1_code 124 = .ok (.bipush 48, 2) := by decide +kernel
theorem d_Model_init_126 : decode prog_13_method_1_code 126 = .ok (.newarray .int, 2) := by decide +kernel
theorem d_Model_init_128 : decode prog_13_method_1_code 128 = .ok (.putfield 56, 3) := by decide +kernel
theorem d_Model_init_131 : decode prog_13_method_1_code 131 = .ok (.aload_n 0, 1) := by decide +kernel
theorem d_Model_init_132 : decode prog_13_method_1_code 132 = .ok (.sipush 600, 3) := by decide +kernel
theorem d_Model_init_135 : decode prog_13_method_1_code 135 = .ok (.newarray .int, 2) := by decide +kernel
theorem d_Model_init_137 : decode prog_13_method_1_code 137 = .ok (.putfield 59, 3) := by decide +kernel
theorem d_Model_init_140 : decode prog_13_method_1_code 140 = .ok (.aload_n 0, 1) := by decide +kernel
theorem d_Model_init_141 : decode prog_13_method_1_code 141 = .ok (.bipush 24, 2) := by decide +kernel
theorem d_Model_init_143 : decode prog_13_method_1_code 143 = .ok (.newarray .int, 2) := by decide +kernel
theorem d_Model_init_145 : decode prog_13_method_1_code 145 = .ok (.putfield 62, 3) := by decide +kernel
theorem d_Model_init_148 : decode prog_13_method_1_code 148 = .ok (.aload_n 0, 1) := by decide +kernel
theorem d_Model_init_149 : decode prog_13_method_1_code 149 = .ok (.sipush 600, 3) := by decide +kernel
theorem d_Model_init_152 : decode prog_13_method_1_code 152 = .ok (.newarray .int, 2) := by decide +kernel
theorem d_Model_init_154 : decode prog_13_method_1_code 154 = .ok (.putfield 65, 3) := by decide +kernel
theorem d_Model_init_157 : decode prog_13_method_1_code 157 = .ok (.aload_n 0, 1) := by decide +kernel
theorem d_Model_init_158 : decode prog_13_method_1_code 158 = .ok (.iconst (-1), 1) := by decide +kernel
theorem d_Model_init_159 : decode prog_13_method_1_code 159 = .ok (.putfield 68, 3) := by decide +kernel
theorem d_Model_init_162 : decode prog_13_method_1_code 162 = .ok (.aload_n 0, 1) := by decide +kernel
theorem d_Model_init_163 : decode prog_13_method_1_code 163 = .ok (.iconst (-1), 1) := by decide +kernel
theorem d_Model_init_164 : decode prog_13_method_1_code 164 = .ok (.putfield 71, 3) := by decide +kernel
theorem d_Model_init_167 : decode prog_13_method_1_code 167 = .ok (.aload_n 0, 1) := by decide +kernel
theorem d_Model_init_168 : decode prog_13_method_1_code 168 = .ok (.bipush 13, 2) := by decide +kernel
theorem d_Model_init_170 : decode prog_13_method_1_code 170 = .ok (.newarray .int, 2) := by decide +kernel
theorem d_Model_init_172 : decode prog_13_method_1_code 172 = .ok (.putfield 74, 3) := by decide +kernel
theorem d_Model_init_175 : decode prog_13_method_1_code 175 = .ok (.aload_n 0, 1) := by decide +kernel
theorem d_Model_init_176 : decode prog_13_method_1_code 176 = .ok (.bipush 13, 2) := by decide +kernel
theorem d_Model_init_178 : decode prog_13_method_1_code 178 = .ok (.newarray .int, 2) := by decide +kernel
theorem d_Model_init_180 : decode prog_13_method_1_code 180 = .ok (.putfield 77, 3) := by decide +kernel
theorem d_Model_init_183 : decode prog_13_method_1_code 183 = .ok (.aload_n 0, 1) := by decide +kernel
theorem d_Model_init_184 : decode prog_13_method_1_code 184 = .ok (.bipush 60, 2) := by decide +kernel
theorem d_Model_init_186 : decode prog_13_method_1_code 186 = .ok (.newarray .int, 2) := by decide +kernel
theorem d_Model_init_188 : decode prog_13_method_1_code 188 = .ok (.putfield 80, 3) := by decide +kernel
theorem d_Model_init_191 : decode prog_13_method_1_code 191 = .ok (.aload_n 0, 1) := by decide +kernel
theorem d_Model_init_192 : decode prog_13_method_1_code 192 = .ok (.bipush 60, 2) := by decide +kernel
theorem d_Model_init_194 : decode prog_13_method_1_code 194 = .ok (.newarray .int, 2) := by decide +kernel
theorem d_Model_init_196 : decode prog_13_method_1_code 196 = .ok (.putfield 83, 3) := by decide +kernel
theorem d_Model_init_199 : decode prog_13_method_1_code 199 = .ok (.aload_n 0, 1) := by decide +kernel
theorem d_Model_init_200 : decode prog_13_method_1_code 200 = .ok (.bipush 13, 2) := by decide +kernel
theorem d_Model_init_202 : decode prog_13_method_1_code 202 = .ok (.newarray .int, 2) := by decide +kernel
theorem d_Model_init_204 : decode prog_13_method_1_code 204 = .ok (.putfield 86, 3) := by decide +kernel
theorem d_Model_init_207 : decode prog_13_method_1_code 207 = .ok (.aload_n 0, 1) := by decide +kernel
theorem d_Model_init_208 : decode prog_13_method_1_code 208 = .ok (.bipush 13, 2) := by decide +kernel
theorem d_Model_init_210 : decode prog_13_method_1_code 210 = .ok (.newarray .int, 2) := by decide +kernel
theorem d_Model_init_212 : decode prog_13_method_1_code 212 = .ok (.putfield 89, 3) := by decide +kernel
theorem d_Model_init_215 : decode prog_13_method_1_code 215 = .ok (.aload_n 0, 1) := by decide +kernel
theorem d_Model_init_216 : decode prog_13_method_1_code 216 = .ok (.bipush 13, 2) := by decide +kernel
theorem d_Model_init_218 : decode prog_13_method_1_code 218 = .ok (.newarray .int, 2) := by decide +kernel
theorem d_Model_init_220 : decode prog_13_method_1_code 220 = .ok (.putfield 92, 3) := by decide +kernel
theorem d_Model_init_223 : decode prog_13_method_1_code 223 = .ok (.aload_n 0, 1) := by decide +kernel
theorem d_Model_init_224 : decode prog_13_method_1_code 224 = .ok (.bipush 13, 2) := by decide +kernel
theorem d_Model_init_226 : decode prog_13_method_1_code 226 = .ok (.newarray .int, 2) := by decide +kernel
theorem d_Model_init_228 : decode prog_13_method_1_code 228 = .ok (.putfield 95, 3) := by decide +kernel
theorem d_Model_init_231 : decode prog_13_method_1_code 231 = .ok (.aload_n 0, 1) := by decide +kernel
theorem d_Model_init_232 : decode prog_13_method_1_code 232 = .ok (.bipush 13, 2) := by decide +kernel
theorem d_Model_init_234 : decode prog_13_method_1_code 234 = .ok (.newarray .int, 2) := by decide +kernel
theorem d_Model_init_236 : decode prog_13_method_1_code 236 = .ok (.putfield 98, 3) := by decide +kernel
theorem d_Model_init_239 : decode prog_13_method_1_code 239 = .ok (.aload_n 0, 1) := by decide +kernel
theorem d_Model_init_240 : decode prog_13_method_1_code 240 = .ok (.bipush 60, 2) := by decide +kernel
theorem d_Model_init_242 : decode prog_13_method_1_code 242 = .ok (.newarray .int, 2) := by decide +kernel
theorem d_Model_init_244 : decode prog_13_method_1_code 244 = .ok (.putfield 101, 3) := by decide +kernel
theorem d_Model_init_247 : decode prog_13_method_1_code 247 = .ok (.aload_n 0, 1) := by decide +kernel
theorem d_Model_init_248 : decode prog_13_method_1_code 248 = .ok (.bipush 60, 2) := by decide +kernel
theorem d_Model_init_250 : decode prog_13_method_1_code 250 = .ok (.newarray .int, 2) := by decide +kernel
theorem d_Model_init_252 : decode prog_13_method_1_code 252 = .ok (.putfield 104, 3) := by decide +kernel
theorem d_Model_init_255 : decode prog_13_method_1_code 255 = .ok (.aload_n 0, 1) := by decide +kernel
theorem d_Model_init_256 : decode prog_13_method_1_code 256 = .ok (.bipush 60, 2) := by decide +kernel
theorem d_Model_init_258 : decode prog_13_method_1_code 258 = .ok (.newarray .int, 2) := by decide +kernel
theorem d_Model_init_260 : decode prog_13_method_1_code 260 = .ok (.putfield 107, 3) := by decide +kernel
theorem d_Model_init_263 : decode prog_13_method_1_code 263 = .ok (.aload_n 0, 1) := by decide +kernel
theorem d_Model_init_264 : decode prog_13_method_1_code 264 = .ok (.bipush 24, 2) := by decide +kernel
theorem d_Model_init_266 : decode prog_13_method_1_code 266 = .ok (.newarray .int, 2) := by decide +kernel
theorem d_Model_init_268 : decode prog_13_method_1_code 268 = .ok (.putfield 110, 3) := by decide +kernel
theorem d_Model_init_271 : decode prog_13_method_1_code 271 = .ok (.aload_n 0, 1) := by decide +kernel
theorem d_Model_init_272 : decode prog_13_method_1_code 272 = .ok (.bipush 24, 2) := by decide +kernel
theorem d_Model_init_274 : decode prog_13_method_1_code 274 = .ok (.newarray .int, 2) := by decide +kernel
theorem d_Model_init_276 : decode prog_13_method_1_code 276 = .ok (.putfield 113, 3) := by decide +kernel
theorem d_Model_init_279 : decode prog_13_method_1_code 279 = .ok (.aload_n 0, 1) := by decide +kernel
theorem d_Model_init_280 : decode prog_13_method_1_code 280 = .ok (.bipush 60, 2) := by decide +kernel
theorem d_Model_init_282 : decode prog_13_method_1_code 282 = .ok (.newarray .boolean, 2) := by decide +kernel
theorem d_Model_init_284 : decode prog_13_method_1_code 284 = .ok (.putfield 116, 3) := by decide +kernel
theorem d_Model_init_287 : decode prog_13_method_1_code 287 = .ok (.aload_n 0, 1) := by decide +kernel
theorem d_Model_init_288 : decode prog_13_method_1_code 288 = .ok (.bipush 24, 2) := by decide +kernel
theorem d_Model_init_290 : decode prog_13_method_1_code 290 = .ok (.newarray .int, 2) := by decide +kernel
theorem d_Model_init_292 : decode prog_13_method_1_code 292 = .ok (.putfield 120, 3) := by decide +kernel
theorem d_Model_init_295 : decode prog_13_method_1_code 295 = .ok (.aload_n 0, 1) := by decide +kernel
theorem d_Model_init_296 : decode prog_13_method_1_code 296 = .ok (.bipush 24, 2) := by decide +kernel
theorem d_Model_init_298 : decode prog_13_method_1_code 298 = .ok (.newarray .int, 2) := by decide +kernel
theorem d_Model_init_300 : decode prog_13_method_1_code 300 = .ok (.putfield 123, 3) := by decide +kernel
theorem d_Model_init_303 : decode prog_13_method_1_code 303 = .ok (.aload_n 0, 1) := by decide +kernel
theorem d_Model_init_304 : decode prog_13_method_1_code 304 = .ok (.bipush 24, 2) := by decide +kernel
theorem d_Model_init_306 : decode prog_13_method_1_code 306 = .ok (.newarray .double, 2) := by decide +kernel
theorem d_Model_init_308 : decode prog_13_method_1_code 308 = .ok (.putfield 126, 3) := by decide +kernel
theorem d_Model_init_311 : decode prog_13_method_1_code 311 = .ok (.aload_n 0, 1) := by decide +kernel
theorem d_Model_init_312 : decode prog_13_method_1_code 312 = .ok (.getfield 35, 3) := by decide +kernel
theorem d_Model_init_315 : decode prog_13_method_1_code 315 = .ok (.iconst 0, 1) := by decide +kernel
theorem d_Model_init_316 : decode prog_13_method_1_code 316 = .ok (.iconst 1, 1) := by decide +kernel
theorem d_Model_init_317 : decode prog_13_method_1_code 317 = .ok (.iastore, 1) := by decide +kernel
theorem d_Model_init_318 : decode prog_13_method_1_code 318 = .ok (.aload_n 0, 1) := by decide +kernel
theorem d_Model_init_319 : decode prog_13_method_1_code 319 = .ok (.getfield 35, 3) := by decide +kernel
theorem d_Model_init_322 : decode prog_13_method_1_code 322 = .ok (.iconst 1, 1) := by decide +kernel
theorem d_Model_init_323 : decode prog_13_method_1_code 323 = .ok (.iconst 1, 1) := by decide +kernel
theorem d_Model_init_324 : decode prog_13_method_1_code 324 = .ok (.iastore, 1) := by decide +kernel
theorem d_Model_init_325 : decode prog_13_method_1_code 325 = .ok (.iconst 0, 1) := by decide +kernel
theorem d_Model_init_326 : decode prog_13_method_1_code 326 = .ok (.istore_n 1, 1) := by decide +kernel
theorem d_Model_init_327 : decode prog_13_method_1_code 327 = .ok (.iload_n 1, 1) := by decide +kernel
theorem d_Model_init_328 : decode prog_13_method_1_code 328 = .ok (.bipush 24, 2) := by decide +kernel
theorem d_Model_init_330 : decode prog_13_method_1_code 330 = .ok (.if_icmp .ge 16, 3) := by decide +kernel
theorem d_Model_init_333 : decode prog_13_method_1_code 333 = .ok (.aload_n 0, 1) := by decide +kernel
theorem d_Model_init_334 : decode prog_13_method_1_code 334 = .ok (.getfield 44, 3) := by decide +kernel
theorem d_Model_init_337 : decode prog_13_method_1_code 337 = .ok (.iload_n 1, 1) := by decide +kernel
theorem d_Model_init_338 : decode prog_13_method_1_code 338 = .ok (.iconst (-1), 1) := by decide +kernel
theorem d_Model_init_339 : decode prog_13_method_1_code 339 = .ok (.iastore, 1) := by decide +kernel
theorem d_Model_init_340 : decode prog_13_method_1_code 340 = .ok (.iinc 1 1, 3) := by decide +kernel
theorem d_Model_init_343 : decode prog_13_method_1_code 343 = .ok (.goto (-16), 3) := by decide +kernel
theorem d_Model_init_346 : decode prog_13_method_1_code 346 = .ok (.return_, 1) := by decide +kernel
theorem d_Model_thrown_0 : decode prog_13_method_2_code 0 = .ok (.aload_n 0, 1) := by decide +kernel
theorem d_Model_thrown_1 : decode prog_13_method_2_code 1 = .ok (.getfield 130, 3) := by decide +kernel
theorem d_Model_thrown_4 : decode prog_13_method_2_code 4 = .ok (.ireturn, 1) := by decide +kernel
theorem d_Model_letters_0 : decode prog_13_method_7_code 0 = .ok (.aload_n 0, 1) := by decide +kernel
theorem d_Model_letters_1 : decode prog_13_method_7_code 1 = .ok (.iconst 0, 1) := by decide +kernel
theorem d_Model_letters_2 : decode prog_13_method_7_code 2 = .ok (.putfield 130, 3) := by decide +kernel
theorem d_Model_letters_5 : decode prog_13_method_7_code 5 = .ok (.iconst 0, 1) := by decide +kernel
theorem d_Model_letters_6 : decode prog_13_method_7_code 6 = .ok (.istore_n 3, 1) := by decide +kernel
theorem d_Model_letters_7 : decode prog_13_method_7_code 7 = .ok (.iconst 0, 1) := by decide +kernel
theorem d_Model_letters_8 : decode prog_13_method_7_code 8 = .ok (.istore 4, 2) := by decide +kernel
theorem d_Model_letters_10 : decode prog_13_method_7_code 10 = .ok (.iload 4, 2) := by decide +kernel
theorem d_Model_letters_12 : decode prog_13_method_7_code 12 = .ok (.bipush 8, 2) := by decide +kernel
theorem d_Model_letters_14 : decode prog_13_method_7_code 14 = .ok (.if_icmp .ge 69, 3) := by decide +kernel
theorem d_Model_letters_17 : decode prog_13_method_7_code 17 = .ok (.iload_n 3, 1) := by decide +kernel
theorem d_Model_letters_18 : decode prog_13_method_7_code 18 = .ok (.iload 4, 2) := by decide +kernel
theorem d_Model_letters_20 : decode prog_13_method_7_code 20 = .ok (.if_icmp .ne 63, 3) := by decide +kernel
theorem d_Model_letters_23 : decode prog_13_method_7_code 23 = .ok (.lload_n 1, 1) := by decide +kernel
theorem d_Model_letters_24 : decode prog_13_method_7_code 24 = .ok (.bipush 8, 2) := by decide +kernel
theorem d_Model_letters_26 : decode prog_13_method_7_code 26 = .ok (.iload 4, 2) := by decide +kernel
theorem d_Model_letters_28 : decode prog_13_method_7_code 28 = .ok (.imul, 1) := by decide +kernel
theorem d_Model_letters_29 : decode prog_13_method_7_code 29 = .ok (.lushr, 1) := by decide +kernel
theorem d_Model_letters_30 : decode prog_13_method_7_code 30 = .ok (.ldc2_w 137, 3) := by decide +kernel
theorem d_Model_letters_33 : decode prog_13_method_7_code 33 = .ok (.land, 1) := by decide +kernel
theorem d_Model_letters_34 : decode prog_13_method_7_code 34 = .ok (.l2i, 1) := by decide +kernel
theorem d_Model_letters_35 : decode prog_13_method_7_code 35 = .ok (.istore 5, 2) := by decide +kernel
theorem d_Model_letters_37 : decode prog_13_method_7_code 37 = .ok (.aload_n 0, 1) := by decide +kernel
theorem d_Model_letters_38 : decode prog_13_method_7_code 38 = .ok (.iload 5, 2) := by decide +kernel
theorem d_Model_letters_40 : decode prog_13_method_7_code 40 = .ok (.ifCond .eq 19, 3) := by decide +kernel
theorem d_Model_letters_43 : decode prog_13_method_7_code 43 = .ok (.iload 5, 2) := by decide +kernel
theorem d_Model_letters_45 : decode prog_13_method_7_code 45 = .ok (.bipush 32, 2) := by decide +kernel
theorem d_Model_letters_47 : decode prog_13_method_7_code 47 = .ok (.bipush 126, 2) := by decide +kernel
theorem d_Model_letters_49 : decode prog_13_method_7_code 49 = .ok (.invokestatic 133, 3) := by decide +kernel
theorem d_Model_letters_52 : decode prog_13_method_7_code 52 = .ok (.ifCond .ne 7, 3) := by decide +kernel
theorem d_Model_letters_55 : decode prog_13_method_7_code 55 = .ok (.iconst 1, 1) := by decide +kernel
theorem d_Model_letters_56 : decode prog_13_method_7_code 56 = .ok (.goto 4, 3) := by decide +kernel
theorem d_Model_letters_59 : decode prog_13_method_7_code 59 = .ok (.iconst 0, 1) := by decide +kernel
theorem d_Model_letters_60 : decode prog_13_method_7_code 60 = .ok (.iconst 1, 1) := by decide +kernel
theorem d_Model_letters_61 : decode prog_13_method_7_code 61 = .ok (.invokevirtual 139, 3) := by decide +kernel
theorem d_Model_letters_64 : decode prog_13_method_7_code 64 = .ok (.ifCond .eq 5, 3) := by decide +kernel
theorem d_Model_letters_67 : decode prog_13_method_7_code 67 = .ok (.iconst 0, 1) := by decide +kernel
theorem d_Model_letters_68 : decode prog_13_method_7_code 68 = .ok (.ireturn, 1) := by decide +kernel
theorem d_Model_letters_69 : decode prog_13_method_7_code 69 = .ok (.iload 5, 2) := by decide +kernel
theorem d_Model_letters_71 : decode prog_13_method_7_code 71 = .ok (.ifCond .eq 6, 3) := by decide +kernel
theorem d_Model_letters_74 : decode prog_13_method_7_code 74 = .ok (.iinc 3 1, 3) := by decide +kernel
theorem d_Model_letters_77 : decode prog_13_method_7_code 77 = .ok (.iinc 4 1, 3) := by decide +kernel
theorem d_Model_letters_80 : decode prog_13_method_7_code 80 = .ok (.goto (-70), 3) := by decide +kernel
theorem d_Model_letters_83 : decode prog_13_method_7_code 83 = .ok (.aload_n 0, 1) := by decide +kernel
theorem d_Model_letters_84 : decode prog_13_method_7_code 84 = .ok (.iload_n 3, 1) := by decide +kernel
theorem d_Model_letters_85 : decode prog_13_method_7_code 85 = .ok (.ifCond .ne 7, 3) := by decide +kernel
theorem d_Model_letters_88 : decode prog_13_method_7_code 88 = .ok (.iconst 1, 1) := by decide +kernel
theorem d_Model_letters_89 : decode prog_13_method_7_code 89 = .ok (.goto 4, 3) := by decide +kernel
theorem d_Model_letters_92 : decode prog_13_method_7_code 92 = .ok (.iconst 0, 1) := by decide +kernel
theorem d_Model_letters_93 : decode prog_13_method_7_code 93 = .ok (.iconst 1, 1) := by decide +kernel
theorem d_Model_letters_94 : decode prog_13_method_7_code 94 = .ok (.invokevirtual 139, 3) := by decide +kernel
theorem d_Model_letters_97 : decode prog_13_method_7_code 97 = .ok (.ifCond .ne 27, 3) := by decide +kernel
theorem d_Model_letters_100 : decode prog_13_method_7_code 100 = .ok (.aload_n 0, 1) := by decide +kernel
theorem d_Model_letters_101 : decode prog_13_method_7_code 101 = .ok (.aload_n 0, 1) := by decide +kernel
theorem d_Model_letters_102 : decode prog_13_method_7_code 102 = .ok (.getfield 143, 3) := by decide +kernel
theorem d_Model_letters_105 : decode prog_13_method_7_code 105 = .ok (.iload_n 3, 1) := by decide +kernel
theorem d_Model_letters_106 : decode prog_13_method_7_code 106 = .ok (.iadd, 1) := by decide +kernel
theorem d_Model_letters_107 : decode prog_13_method_7_code 107 = .ok (.bipush 96, 2) := by decide +kernel
theorem d_Model_letters_109 : decode prog_13_method_7_code 109 = .ok (.if_icmp .le 7, 3) := by decide +kernel
theorem d_Model_letters_112 : decode prog_13_method_7_code 112 = .ok (.iconst 1, 1) := by decide +kernel
theorem d_Model_letters_113 : decode prog_13_method_7_code 113 = .ok (.goto 4, 3) := by decide +kernel
theorem d_Model_letters_116 : decode prog_13_method_7_code 116 = .ok (.iconst 0, 1) := by decide +kernel
theorem d_Model_letters_117 : decode prog_13_method_7_code 117 = .ok (.iconst 2, 1) := by decide +kernel
theorem d_Model_letters_118 : decode prog_13_method_7_code 118 = .ok (.invokevirtual 139, 3) := by decide +kernel
theorem d_Model_letters_121 : decode prog_13_method_7_code 121 = .ok (.ifCond .eq 5, 3) := by decide +kernel
theorem d_Model_letters_124 : decode prog_13_method_7_code 124 = .ok (.iconst 0, 1) := by decide +kernel
theorem d_Model_letters_125 : decode prog_13_method_7_code 125 = .ok (.ireturn, 1) := by decide +kernel
theorem d_Model_letters_126 : decode prog_13_method_7_code 126 = .ok (.iconst 0, 1) := by decide +kernel
theorem d_Model_letters_127 : decode prog_13_method_7_code 127 = .ok (.istore 4, 2) := by decide +kernel
theorem d_Model_letters_129 : decode prog_13_method_7_code 129 = .ok (.iload 4, 2) := by decide +kernel
theorem d_Model_letters_131 : decode prog_13_method_7_code 131 = .ok (.iload_n 3, 1) := by decide +kernel
theorem d_Model_letters_132 : decode prog_13_method_7_code 132 = .ok (.if_icmp .ge 33, 3) := by decide +kernel
theorem d_Model_letters_135 : decode prog_13_method_7_code 135 = .ok (.aload_n 0, 1) := by decide +kernel
theorem d_Model_letters_136 : decode prog_13_method_7_code 136 = .ok (.getfield 16, 3) := by decide +kernel
theorem d_Model_letters_139 : decode prog_13_method_7_code 139 = .ok (.aload_n 0, 1) := by decide +kernel
theorem d_Model_letters_140 : decode prog_13_method_7_code 140 = .ok (.getfield 143, 3) := by decide +kernel
theorem d_Model_letters_143 : decode prog_13_method_7_code 143 = .ok (.iload 4, 2) := by decide +kernel
theorem d_Model_letters_145 : decode prog_13_method_7_code 145 = .ok (.iadd, 1) := by decide +kernel
theorem d_Model_letters_146 : decode prog_13_method_7_code 146 = .ok (.lload_n 1, 1) := by decide +kernel
theorem d_Model_letters_147 : decode prog_13_method_7_code 147 = .ok (.bipush 8, 2) := by decide +kernel
theorem d_Model_letters_149 : decode prog_13_method_7_code 149 = .ok (.iload 4, 2) := by decide +kernel
theorem d_Model_letters_151 : decode prog_13_method_7_code 151 = .ok (.imul, 1) := by decide +kernel
theorem d_Model_letters_152 : decode prog_13_method_7_code 152 = .ok (.lushr, 1) := by decide +kernel
theorem d_Model_letters_153 : decode prog_13_method_7_code 153 = .ok (.ldc2_w 137, 3) := by decide +kernel
theorem d_Model_letters_156 : decode prog_13_method_7_code 156 = .ok (.land, 1) := by decide +kernel
theorem d_Model_letters_157 : decode prog_13_method_7_code 157 = .ok (.l2i, 1) := by decide +kernel
theorem d_Model_letters_158 : decode prog_13_method_7_code 158 = .ok (.iastore, 1) := by decide +kernel
theorem d_Model_letters_159 : decode prog_13_method_7_code 159 = .ok (.iinc 4 1, 3) := by decide +kernel
theorem d_Model_letters_162 : decode prog_13_method_7_code 162 = .ok (.goto (-33), 3) := by decide +kernel
theorem d_Model_letters_165 : decode prog_13_method_7_code 165 = .ok (.aload_n 0, 1) := by decide +kernel
theorem d_Model_letters_166 : decode prog_13_method_7_code 166 = .ok (.dup, 1) := by decide +kernel
theorem d_Model_letters_167 : decode prog_13_method_7_code 167 = .ok (.getfield 143, 3) := by decide +kernel
theorem d_Model_letters_170 : decode prog_13_method_7_code 170 = .ok (.iload_n 3, 1) := by decide +kernel
theorem d_Model_letters_171 : decode prog_13_method_7_code 171 = .ok (.iadd, 1) := by decide +kernel
theorem d_Model_letters_172 : decode prog_13_method_7_code 172 = .ok (.putfield 143, 3) := by decide +kernel
theorem d_Model_letters_175 : decode prog_13_method_7_code 175 = .ok (.aload_n 0, 1) := by decide +kernel
theorem d_Model_letters_176 : decode prog_13_method_7_code 176 = .ok (.getfield 143, 3) := by decide +kernel
theorem d_Model_letters_179 : decode prog_13_method_7_code 179 = .ok (.ireturn, 1) := by decide +kernel
theorem d_Model_in_0 : decode prog_13_method_3_code 0 = .ok (.iload_n 0, 1) := by decide +kernel
theorem d_Model_in_1 : decode prog_13_method_3_code 1 = .ok (.iload_n 1, 1) := by decide +kernel
theorem d_Model_in_2 : decode prog_13_method_3_code 2 = .ok (.if_icmp .lt 12, 3) := by decide +kernel
theorem d_Model_in_5 : decode prog_13_method_3_code 5 = .ok (.iload_n 0, 1) := by decide +kernel
theorem d_Model_in_6 : decode prog_13_method_3_code 6 = .ok (.iload_n 2, 1) := by decide +kernel
theorem d_Model_in_7 : decode prog_13_method_3_code 7 = .ok (.if_icmp .gt 7, 3) := by decide +kernel
theorem d_Model_in_10 : decode prog_13_method_3_code 10 = .ok (.iconst 1, 1) := by decide +kernel
theorem d_Model_in_11 : decode prog_13_method_3_code 11 = .ok (.goto 4, 3) := by decide +kernel
theorem d_Model_in_14 : decode prog_13_method_3_code 14 = .ok (.iconst 0, 1) := by decide +kernel
theorem d_Model_in_15 : decode prog_13_method_3_code 15 = .ok (.ireturn, 1) := by decide +kernel
theorem d_Model_fails_0 : decode prog_13_method_4_code 0 = .ok (.iload_n 1, 1) := by decide +kernel
theorem d_Model_fails_1 : decode prog_13_method_4_code 1 = .ok (.ifCond .eq 15, 3) := by decide +kernel
theorem d_Model_fails_4 : decode prog_13_method_4_code 4 = .ok (.aload_n 0, 1) := by decide +kernel
theorem d_Model_fails_5 : decode prog_13_method_4_code 5 = .ok (.getfield 130, 3) := by decide +kernel
theorem d_Model_fails_8 : decode prog_13_method_4_code 8 = .ok (.ifCond .ne 8, 3) := by decide +kernel
theorem d_Model_fails_11 : decode prog_13_method_4_code 11 = .ok (.aload_n 0, 1) := by decide +kernel
theorem d_Model_fails_12 : decode prog_13_method_4_code 12 = .ok (.iload_n 2, 1) := by decide +kernel
theorem d_Model_fails_13 : decode prog_13_method_4_code 13 = .ok (.putfield 130, 3) := by decide +kernel
theorem d_Model_fails_16 : decode prog_13_method_4_code 16 = .ok (.aload_n 0, 1) := by decide +kernel
theorem d_Model_fails_17 : decode prog_13_method_4_code 17 = .ok (.getfield 130, 3) := by decide +kernel
theorem d_Model_fails_20 : decode prog_13_method_4_code 20 = .ok (.ifCond .eq 7, 3) := by decide +kernel
theorem d_Model_fails_23 : decode prog_13_method_4_code 23 = .ok (.iconst 1, 1) := by decide +kernel
theorem d_Model_fails_24 : decode prog_13_method_4_code 24 = .ok (.goto 4, 3) := by decide +kernel
theorem d_Model_fails_27 : decode prog_13_method_4_code 27 = .ok (.iconst 0, 1) := by decide +kernel
theorem d_Model_fails_28 : decode prog_13_method_4_code 28 = .ok (.ireturn, 1) := by decide +kernel
theorem d_Model_drop_0 : decode prog_13_method_8_code 0 = .ok (.aload_n 0, 1) := by decide +kernel
theorem d_Model_drop_1 : decode prog_13_method_8_code 1 = .ok (.iconst 0, 1) := by decide +kernel
theorem d_Model_drop_2 : decode prog_13_method_8_code 2 = .ok (.putfield 130, 3) := by decide +kernel
theorem d_Model_drop_5 : decode prog_13_method_8_code 5 = .ok (.aload_n 0, 1) := by decide +kernel
theorem d_Model_drop_6 : decode prog_13_method_8_code 6 = .ok (.getfield 143, 3) := by decide +kernel
theorem d_Model_drop_9 : decode prog_13_method_8_code 9 = .ok (.istore_n 1, 1) := by decide +kernel
theorem d_Model_drop_10 : decode prog_13_method_8_code 10 = .ok (.aload_n 0, 1) := by decide +kernel
theorem d_Model_drop_11 : decode prog_13_method_8_code 11 = .ok (.iconst 0, 1) := by decide +kernel
theorem d_Model_drop_12 : decode prog_13_method_8_code 12 = .ok (.putfield 143, 3) := by decide +kernel
theorem d_Model_drop_15 : decode prog_13_method_8_code 15 = .ok (.iload_n 1, 1) := by decide +kernel
theorem d_Model_drop_16 : decode prog_13_method_8_code 16 = .ok (.ireturn, 1) := by decide +kernel
theorem d_Model_set_0 : decode prog_13_method_9_code 0 = .ok (.aload_n 0, 1) := by decide +kernel
theorem d_Model_set_1 : decode prog_13_method_9_code 1 = .ok (.iconst 0, 1) := by decide +kernel
theorem d_Model_set_2 : decode prog_13_method_9_code 2 = .ok (.putfield 130, 3) := by decide +kernel
theorem d_Model_set_5 : decode prog_13_method_9_code 5 = .ok (.aload_n 0, 1) := by decide +kernel
theorem d_Model_set_6 : decode prog_13_method_9_code 6 = .ok (.iload_n 1, 1) := by decide +kernel
theorem d_Model_set_7 : decode prog_13_method_9_code 7 = .ok (.iconst 0, 1) := by decide +kernel
theorem d_Model_set_8 : decode prog_13_method_9_code 8 = .ok (.iconst 1, 1) := by decide +kernel
theorem d_Model_set_9 : decode prog_13_method_9_code 9 = .ok (.invokestatic 133, 3) := by decide +kernel
theorem d_Model_set_12 : decode prog_13_method_9_code 12 = .ok (.ifCond .ne 7, 3) := by decide +kernel
theorem d_Model_set_15 : decode prog_13_method_9_code 15 = .ok (.iconst 1, 1) := by decide +kernel
theorem d_Model_set_16 : decode prog_13_method_9_code 16 = .ok (.goto 4, 3) := by decide +kernel
theorem d_Model_set_19 : decode prog_13_method_9_code 19 = .ok (.iconst 0, 1) := by decide +kernel
theorem d_Model_set_20 : decode prog_13_method_9_code 20 = .ok (.iconst 1, 1) := by decide +kernel
theorem d_Model_set_21 : decode prog_13_method_9_code 21 = .ok (.invokevirtual 139, 3) := by decide +kernel
theorem d_Model_set_24 : decode prog_13_method_9_code 24 = .ok (.ifCond .ne 25, 3) := by decide +kernel
theorem d_Model_set_27 : decode prog_13_method_9_code 27 = .ok (.aload_n 0, 1) := by decide +kernel
theorem d_Model_set_28 : decode prog_13_method_9_code 28 = .ok (.aload_n 0, 1) := by decide +kernel
theorem d_Model_set_29 : decode prog_13_method_9_code 29 = .ok (.getfield 143, 3) := by decide +kernel
theorem d_Model_set_32 : decode prog_13_method_9_code 32 = .ok (.bipush 48, 2) := by decide +kernel
theorem d_Model_set_34 : decode prog_13_method_9_code 34 = .ok (.if_icmp .le 7, 3) := by decide +kernel
theorem d_Model_set_37 : decode prog_13_method_9_code 37 = .ok (.iconst 1, 1) := by decide +kernel
theorem d_Model_set_38 : decode prog_13_method_9_code 38 = .ok (.goto 4, 3) := by decide +kernel
theorem d_Model_set_41 : decode prog_13_method_9_code 41 = .ok (.iconst 0, 1) := by decide +kernel
theorem d_Model_set_42 : decode prog_13_method_9_code 42 = .ok (.iconst 2, 1) := by decide +kernel
theorem d_Model_set_43 : decode prog_13_method_9_code 43 = .ok (.invokevirtual 139, 3) := by decide +kernel
theorem d_Model_set_46 : decode prog_13_method_9_code 46 = .ok (.ifCond .eq 5, 3) := by decide +kernel
theorem d_Model_set_49 : decode prog_13_method_9_code 49 = .ok (.iconst 0, 1) := by decide +kernel
theorem d_Model_set_50 : decode prog_13_method_9_code 50 = .ok (.ireturn, 1) := by decide +kernel
theorem d_Model_set_51 : decode prog_13_method_9_code 51 = .ok (.iconst 0, 1) := by decide +kernel
theorem d_Model_set_52 : decode prog_13_method_9_code 52 = .ok (.istore_n 2, 1) := by decide +kernel
theorem d_Model_set_53 : decode prog_13_method_9_code 53 = .ok (.iload_n 2, 1) := by decide +kernel
theorem d_Model_set_54 : decode prog_13_method_9_code 54 = .ok (.aload_n 0, 1) := by decide +kernel
theorem d_Model_set_55 : decode prog_13_method_9_code 55 = .ok (.getfield 143, 3) := by decide +kernel
theorem d_Model_set_58 : decode prog_13_method_9_code 58 = .ok (.if_icmp .ge 26, 3) := by decide +kernel
theorem d_Model_set_61 : decode prog_13_method_9_code 61 = .ok (.aload_n 0, 1) := by decide +kernel
theorem d_Model_set_62 : decode prog_13_method_9_code 62 = .ok (.getfield 23, 3) := by decide +kernel
theorem d_Model_set_65 : decode prog_13_method_9_code 65 = .ok (.bipush 48, 2) := by decide +kernel
theorem d_Model_set_67 : decode prog_13_method_9_code 67 = .ok (.iload_n 1, 1) := by decide +kernel
theorem d_Model_set_68 : decode prog_13_method_9_code 68 = .ok (.imul, 1) := by decide +kernel
theorem d_Model_set_69 : decode prog_13_method_9_code 69 = .ok (.iload_n 2, 1) := by decide +kernel
theorem d_Model_set_70 : decode prog_13_method_9_code 70 = .ok (.iadd, 1) := by decide +kernel
theorem d_Model_set_71 : decode prog_13_method_9_code 71 = .ok (.aload_n 0, 1) := by decide +kernel
theorem d_Model_set_72 : decode prog_13_method_9_code 72 = .ok (.getfield 16, 3) := by decide +kernel
theorem d_Model_set_75 : decode prog_13_method_9_code 75 = .ok (.iload_n 2, 1) := by decide +kernel
theorem d_Model_set_76 : decode prog_13_method_9_code 76 = .ok (.iaload, 1) := by decide +kernel
theorem d_Model_set_77 : decode prog_13_method_9_code 77 = .ok (.iastore, 1) := by decide +kernel
theorem d_Model_set_78 : decode prog_13_method_9_code 78 = .ok (.iinc 2 1, 3) := by decide +kernel
theorem d_Model_set_81 : decode prog_13_method_9_code 81 = .ok (.goto (-28), 3) := by decide +kernel
theorem d_Model_set_84 : decode prog_13_method_9_code 84 = .ok (.aload_n 0, 1) := by decide +kernel
theorem d_Model_set_85 : decode prog_13_method_9_code 85 = .ok (.getfield 26, 3) := by decide +kernel
theorem d_Model_set_88 : decode prog_13_method_9_code 88 = .ok (.iload_n 1, 1) := by decide +kernel
theorem d_Model_set_89 : decode prog_13_method_9_code 89 = .ok (.aload_n 0, 1) := by decide +kernel
theorem d_Model_set_90 : decode prog_13_method_9_code 90 = .ok (.getfield 143, 3) := by decide +kernel
theorem d_Model_set_93 : decode prog_13_method_9_code 93 = .ok (.iastore, 1) := by decide +kernel
theorem d_Model_set_94 : decode prog_13_method_9_code 94 = .ok (.iconst 0, 1) := by decide +kernel
theorem d_Model_set_95 : decode prog_13_method_9_code 95 = .ok (.istore_n 2, 1) := by decide +kernel
theorem d_Model_set_96 : decode prog_13_method_9_code 96 = .ok (.iconst 0, 1) := by decide +kernel
theorem d_Model_set_97 : decode prog_13_method_9_code 97 = .ok (.istore_n 3, 1) := by decide +kernel
theorem d_Model_set_98 : decode prog_13_method_9_code 98 = .ok (.iload_n 3, 1) := by decide +kernel
theorem d_Model_set_99 : decode prog_13_method_9_code 99 = .ok (.aload_n 0, 1) := by decide +kernel
theorem d_Model_set_100 : decode prog_13_method_9_code 100 = .ok (.getfield 143, 3) := by decide +kernel
theorem d_Model_set_103 : decode prog_13_method_9_code 103 = .ok (.if_icmp .ge 42, 3) := by decide +kernel
theorem d_Model_set_106 : decode prog_13_method_9_code 106 = .ok (.aload_n 0, 1) := by decide +kernel
theorem d_Model_set_107 : decode prog_13_method_9_code 107 = .ok (.getfield 16, 3) := by decide +kernel
theorem d_Model_set_110 : decode prog_13_method_9_code 110 = .ok (.iload_n 3, 1) := by decide +kernel
theorem d_Model_set_111 : decode prog_13_method_9_code 111 = .ok (.iaload, 1) := by decide +kernel
theorem d_Model_set_112 : decode prog_13_method_9_code 112 = .ok (.invokestatic 146, 3) := by decide +kernel
theorem d_Model_set_115 : decode prog_13_method_9_code 115 = .ok (.ifCond .eq 24, 3) := by decide +kernel
theorem d_Model_set_118 : decode prog_13_method_9_code 118 = .ok (.iload_n 3, 1) := by decide +kernel
theorem d_Model_set_119 : decode prog_13_method_9_code 119 = .ok (.ifCond .eq 17, 3) := by decide +kernel
theorem d_Model_set_122 : decode prog_13_method_9_code 122 = .ok (.aload_n 0, 1) := by decide +kernel
theorem d_Model_set_123 : decode prog_13_method_9_code 123 = .ok (.getfield 16, 3) := by decide +kernel
theorem d_Model_set_126 : decode prog_13_method_9_code 126 = .ok (.iload_n 3, 1) := by decide +kernel
theorem d_Model_set_127 : decode prog_13_method_9_code 127 = .ok (.iconst 1, 1) := by decide +kernel
theorem d_Model_set_128 : decode prog_13_method_9_code 128 = .ok (.isub, 1) := by decide +kernel
theorem d_Model_set_129 : decode prog_13_method_9_code 129 = .ok (.iaload, 1) := by decide +kernel
theorem d_Model_set_130 : decode prog_13_method_9_code 130 = .ok (.invokestatic 146, 3) := by decide +kernel
theorem d_Model_set_133 : decode prog_13_method_9_code 133 = .ok (.ifCond .ne 6, 3) := by decide +kernel
theorem d_Model_set_136 : decode prog_13_method_9_code 136 = .ok (.iinc 2 1, 3) := by decide +kernel
theorem d_Model_set_139 : decode prog_13_method_9_code 139 = .ok (.iinc 3 1, 3) := by decide +kernel
theorem d_Model_set_142 : decode prog_13_method_9_code 142 = .ok (.goto (-44), 3) := by decide +kernel
theorem d_Model_set_145 : decode prog_13_method_9_code 145 = .ok (.aload_n 0, 1) := by decide +kernel
theorem d_Model_set_146 : decode prog_13_method_9_code 146 = .ok (.iconst 0, 1) := by decide +kernel
theorem d_Model_set_147 : decode prog_13_method_9_code 147 = .ok (.putfield 143, 3) := by decide +kernel
theorem d_Model_set_150 : decode prog_13_method_9_code 150 = .ok (.iload_n 2, 1) := by decide +kernel
theorem d_Model_set_151 : decode prog_13_method_9_code 151 = .ok (.ireturn, 1) := by decide +kernel
theorem d_Model_isSign_0 : decode prog_13_method_5_code 0 = .ok (.iload_n 0, 1) := by decide +kernel
theorem d_Model_isSign_1 : decode prog_13_method_5_code 1 = .ok (.bipush 97, 2) := by decide +kernel
theorem d_Model_isSign_3 : decode prog_13_method_5_code 3 = .ok (.bipush 122, 2) := by decide +kernel
theorem d_Model_isSign_5 : decode prog_13_method_5_code 5 = .ok (.invokestatic 133, 3) := by decide +kernel
theorem d_Model_isSign_8 : decode prog_13_method_5_code 8 = .ok (.ifCond .ne 25, 3) := by decide +kernel
theorem d_Model_isSign_11 : decode prog_13_method_5_code 11 = .ok (.iload_n 0, 1) := by decide +kernel
theorem d_Model_isSign_12 : decode prog_13_method_5_code 12 = .ok (.bipush 65, 2) := by decide +kernel
theorem d_Model_isSign_14 : decode prog_13_method_5_code 14 = .ok (.bipush 90, 2) := by decide +kernel
theorem d_Model_isSign_16 : decode prog_13_method_5_code 16 = .ok (.invokestatic 133, 3) := by decide +kernel
theorem d_Model_isSign_19 : decode prog_13_method_5_code 19 = .ok (.ifCond .ne 14, 3) := by decide +kernel
theorem d_Model_isSign_22 : decode prog_13_method_5_code 22 = .ok (.iload_n 0, 1) := by decide +kernel
theorem d_Model_isSign_23 : decode prog_13_method_5_code 23 = .ok (.bipush 48, 2) := by decide +kernel
theorem d_Model_isSign_25 : decode prog_13_method_5_code 25 = .ok (.bipush 57, 2) := by decide +kernel
theorem d_Model_isSign_27 : decode prog_13_method_5_code 27 = .ok (.invokestatic 133, 3) := by decide +kernel
theorem d_Model_isSign_30 : decode prog_13_method_5_code 30 = .ok (.ifCond .eq 7, 3) := by decide +kernel
theorem d_Model_isSign_33 : decode prog_13_method_5_code 33 = .ok (.iconst 1, 1) := by decide +kernel
theorem d_Model_isSign_34 : decode prog_13_method_5_code 34 = .ok (.goto 4, 3) := by decide +kernel
theorem d_Model_isSign_37 : decode prog_13_method_5_code 37 = .ok (.iconst 0, 1) := by decide +kernel
theorem d_Model_isSign_38 : decode prog_13_method_5_code 38 = .ok (.ireturn, 1) := by decide +kernel
theorem d_Model_insert_0 : decode prog_13_method_18_code 0 = .ok (.aload_n 0, 1) := by decide +kernel
theorem d_Model_insert_1 : decode prog_13_method_18_code 1 = .ok (.iconst 0, 1) := by decide +kernel
theorem d_Model_insert_2 : decode prog_13_method_18_code 2 = .ok (.putfield 130, 3) := by decide +kernel
theorem d_Model_insert_5 : decode prog_13_method_18_code 5 = .ok (.iconst 0, 1) := by decide +kernel
theorem d_Model_insert_6 : decode prog_13_method_18_code 6 = .ok (.istore_n 1, 1) := by decide +kernel
theorem d_Model_insert_7 : decode prog_13_method_18_code 7 = .ok (.iload_n 1, 1) := by decide +kernel
theorem d_Model_insert_8 : decode prog_13_method_18_code 8 = .ok (.bipush 24, 2) := by decide +kernel
theorem d_Model_insert_10 : decode prog_13_method_18_code 10 = .ok (.if_icmp .ge 18, 3) := by decide +kernel
theorem d_Model_insert_13 : decode prog_13_method_18_code 13 = .ok (.aload_n 0, 1) := by decide +kernel
theorem d_Model_insert_14 : decode prog_13_method_18_code 14 = .ok (.getfield 44, 3) := by decide +kernel
theorem d_Model_insert_17 : decode prog_13_method_18_code 17 = .ok (.iload_n 1, 1) := by decide +kernel
theorem d_Model_insert_18 : decode prog_13_method_18_code 18 = .ok (.iaload, 1) := by decide +kernel
theorem d_Model_insert_19 : decode prog_13_method_18_code 19 = .ok (.ifCond .lt 9, 3) := by decide +kernel
theorem d_Model_insert_22 : decode prog_13_method_18_code 22 = .ok (.iinc 1 1, 3) := by decide +kernel
theorem d_Model_insert_25 : decode prog_13_method_18_code 25 = .ok (.goto (-18), 3) := by decide +kernel
theorem d_Model_insert_28 : decode prog_13_method_18_code 28 = .ok (.aload_n 0, 1) := by decide +kernel
theorem d_Model_insert_29 : decode prog_13_method_18_code 29 = .ok (.iload_n 1, 1) := by decide +kernel
theorem d_Model_insert_30 : decode prog_13_method_18_code 30 = .ok (.bipush 24, 2) := by decide +kernel
theorem d_Model_insert_32 : decode prog_13_method_18_code 32 = .ok (.if_icmp .ne 7, 3) := by decide +kernel
theorem d_Model_insert_35 : decode prog_13_method_18_code 35 = .ok (.iconst 1, 1) := by decide +kernel
theorem d_Model_insert_36 : decode prog_13_method_18_code 36 = .ok (.goto 4, 3) := by decide +kernel
theorem d_Model_insert_39 : decode prog_13_method_18_code 39 = .ok (.iconst 0, 1) := by decide +kernel
theorem d_Model_insert_40 : decode prog_13_method_18_code 40 = .ok (.iconst 1, 1) := by decide +kernel
theorem d_Model_insert_41 : decode prog_13_method_18_code 41 = .ok (.invokevirtual 139, 3) := by decide +kernel
theorem d_Model_insert_44 : decode prog_13_method_18_code 44 = .ok (.ifCond .eq 5, 3) := by decide +kernel
theorem d_Model_insert_47 : decode prog_13_method_18_code 47 = .ok (.iconst 0, 1) := by decide +kernel
theorem d_Model_insert_48 : decode prog_13_method_18_code 48 = .ok (.ireturn, 1) := by decide +kernel
theorem d_Model_insert_49 : decode prog_13_method_18_code 49 = .ok (.aload_n 0, 1) := by decide +kernel
theorem d_Model_insert_50 : decode prog_13_method_18_code 50 = .ok (.iload_n 1, 1) := by decide +kernel
theorem d_Model_insert_51 : decode prog_13_method_18_code 51 = .ok (.invokevirtual 178, 3) := by decide +kernel
theorem d_Model_insert_54 : decode prog_13_method_18_code 54 = .ok (.pop, 1) := by decide +kernel
theorem d_Model_insert_55 : decode prog_13_method_18_code 55 = .ok (.iload_n 1, 1) := by decide +kernel
theorem d_Model_insert_56 : decode prog_13_method_18_code 56 = .ok (.iconst 1, 1) := by decide +kernel
theorem d_Model_insert_57 : decode prog_13_method_18_code 57 = .ok (.iadd, 1) := by decide +kernel
theorem d_Model_insert_58 : decode prog_13_method_18_code 58 = .ok (.ireturn, 1) := by decide +kernel
theorem d_Model_gets_0 : decode prog_13_method_15_code 0 = .ok (.iconst 0, 1) := by decide +kernel
theorem d_Model_gets_1 : decode prog_13_method_15_code 1 = .ok (.istore_n 2, 1) := by decide +kernel
theorem d_Model_gets_2 : decode prog_13_method_15_code 2 = .ok (.iload_n 2, 1) := by decide +kernel
theorem d_Model_gets_3 : decode prog_13_method_15_code 3 = .ok (.iconst 2, 1) := by decide +kernel
theorem d_Model_gets_4 : decode prog_13_method_15_code 4 = .ok (.if_icmp .ge 66, 3) := by decide +kernel
theorem d_Model_gets_7 : decode prog_13_method_15_code 7 = .ok (.aload_n 0, 1) := by decide +kernel
theorem d_Model_gets_8 : decode prog_13_method_15_code 8 = .ok (.getfield 32, 3) := by decide +kernel
theorem d_Model_gets_11 : decode prog_13_method_15_code 11 = .ok (.iconst 2, 1) := by decide +kernel
theorem d_Model_gets_12 : decode prog_13_method_15_code 12 = .ok (.iload_n 1, 1) := by decide +kernel
theorem d_Model_gets_13 : decode prog_13_method_15_code 13 = .ok (.imul, 1) := by decide +kernel
theorem d_Model_gets_14 : decode prog_13_method_15_code 14 = .ok (.iload_n 2, 1) := by decide +kernel
theorem d_Model_gets_15 : decode prog_13_method_15_code 15 = .ok (.iadd, 1) := by decide +kernel
theorem d_Model_gets_16 : decode prog_13_method_15_code 16 = .ok (.aload_n 0, 1) := by decide +kernel
theorem d_Model_gets_17 : decode prog_13_method_15_code 17 = .ok (.getfield 26, 3) := by decide +kernel
theorem d_Model_gets_20 : decode prog_13_method_15_code 20 = .ok (.iload_n 2, 1) := by decide +kernel
theorem d_Model_gets_21 : decode prog_13_method_15_code 21 = .ok (.iaload, 1) := by decide +kernel
theorem d_Model_gets_22 : decode prog_13_method_15_code 22 = .ok (.iastore, 1) := by decide +kernel
theorem d_Model_gets_23 : decode prog_13_method_15_code 23 = .ok (.iconst 0, 1) := by decide +kernel
theorem d_Model_gets_24 : decode prog_13_method_15_code 24 = .ok (.istore_n 3, 1) := by decide +kernel
theorem d_Model_gets_25 : decode prog_13_method_15_code 25 = .ok (.iload_n 3, 1) := by decide +kernel
theorem d_Model_gets_26 : decode prog_13_method_15_code 26 = .ok (.bipush 48, 2) := by decide +kernel
theorem d_Model_gets_28 : decode prog_13_method_15_code 28 = .ok (.if_icmp .ge 36, 3) := by decide +kernel
theorem d_Model_gets_31 : decode prog_13_method_15_code 31 = .ok (.aload_n 0, 1) := by decide +kernel
theorem d_Model_gets_32 : decode prog_13_method_15_code 32 = .ok (.getfield 29, 3) := by decide +kernel
theorem d_Model_gets_35 : decode prog_13_method_15_code 35 = .ok (.bipush 96, 2) := by decide +kernel
theorem d_Model_gets_37 : decode prog_13_method_15_code 37 = .ok (.iload_n 1, 1) := by decide +kernel
theorem d_Model_gets_38 : decode prog_13_method_15_code 38 = .ok (.imul, 1) := by decide +kernel
theorem d_Model_gets_39 : decode prog_13_method_15_code 39 = .ok (.bipush 48, 2) := by decide +kernel
theorem d_Model_gets_41 : decode prog_13_method_15_code 41 = .ok (.iload_n 2, 1) := by decide +kernel
theorem d_Model_gets_42 : decode prog_13_method_15_code 42 = .ok (.imul, 1) := by decide +kernel
theorem d_Model_gets_43 : decode prog_13_method_15_code 43 = .ok (.iadd, 1) := by decide +kernel
theorem d_Model_gets_44 : decode prog_13_method_15_code 44 = .ok (.iload_n 3, 1) := by decide +kernel
theorem d_Model_gets_45 : decode prog_13_method_15_code 45 = .ok (.iadd, 1) := by decide +kernel
theorem d_Model_gets_46 : decode prog_13_method_15_code 46 = .ok (.aload_n 0, 1) := by decide +kernel
theorem d_Model_gets_47 : decode prog_13_method_15_code 47 = .ok (.getfield 23, 3) := by decide +kernel
theorem d_Model_gets_50 : decode prog_13_method_15_code 50 = .ok (.bipush 48, 2) := by decide +kernel
theorem d_Model_gets_52 : decode prog_13_method_15_code 52 = .ok (.iload_n 2, 1) := by decide +kernel
theorem d_Model_gets_53 : decode prog_13_method_15_code 53 = .ok (.imul, 1) := by decide +kernel
theorem d_Model_gets_54 : decode prog_13_method_15_code 54 = .ok (.iload_n 3, 1) := by decide +kernel
theorem d_Model_gets_55 : decode prog_13_method_15_code 55 = .ok (.iadd, 1) := by decide +kernel
theorem d_Model_gets_56 : decode prog_13_method_15_code 56 = .ok (.iaload, 1) := by decide +kernel
theorem d_Model_gets_57 : decode prog_13_method_15_code 57 = .ok (.iastore, 1) := by decide +kernel
theorem d_Model_gets_58 : decode prog_13_method_15_code 58 = .ok (.iinc 3 1, 3) := by decide +kernel
theorem d_Model_gets_61 : decode prog_13_method_15_code 61 = .ok (.goto (-36), 3) := by decide +kernel
theorem d_Model_gets_64 : decode prog_13_method_15_code 64 = .ok (.iinc 2 1, 3) := by decide +kernel
theorem d_Model_gets_67 : decode prog_13_method_15_code 67 = .ok (.goto (-65), 3) := by decide +kernel
theorem d_Model_gets_70 : decode prog_13_method_15_code 70 = .ok (.aload_n 0, 1) := by decide +kernel
theorem d_Model_gets_71 : decode prog_13_method_15_code 71 = .ok (.getfield 165, 3) := by decide +kernel
theorem d_Model_gets_74 : decode prog_13_method_15_code 74 = .ok (.istore_n 2, 1) := by decide +kernel
theorem d_Model_gets_75 : decode prog_13_method_15_code 75 = .ok (.aload_n 0, 1) := by decide +kernel
theorem d_Model_gets_76 : decode prog_13_method_15_code 76 = .ok (.dup, 1) := by decide +kernel
theorem d_Model_gets_77 : decode prog_13_method_15_code 77 = .ok (.getfield 165, 3) := by decide +kernel
theorem d_Model_gets_80 : decode prog_13_method_15_code 80 = .ok (.iconst 1, 1) := by decide +kernel
theorem d_Model_gets_81 : decode prog_13_method_15_code 81 = .ok (.iadd, 1) := by decide +kernel
theorem d_Model_gets_82 : decode prog_13_method_15_code 82 = .ok (.putfield 165, 3) := by decide +kernel
theorem d_Model_gets_85 : decode prog_13_method_15_code 85 = .ok (.aload_n 0, 1) := by decide +kernel
theorem d_Model_gets_86 : decode prog_13_method_15_code 86 = .ok (.getfield 38, 3) := by decide +kernel
theorem d_Model_gets_89 : decode prog_13_method_15_code 89 = .ok (.iload_n 2, 1) := by decide +kernel
theorem d_Model_gets_90 : decode prog_13_method_15_code 90 = .ok (.aload_n 0, 1) := by decide +kernel
theorem d_Model_gets_91 : decode prog_13_method_15_code 91 = .ok (.iload_n 1, 1) := by decide +kernel
theorem d_Model_gets_92 : decode prog_13_method_15_code 92 = .ok (.invokevirtual 168, 3) := by decide +kernel
theorem d_Model_gets_95 : decode prog_13_method_15_code 95 = .ok (.iastore, 1) := by decide +kernel
theorem d_Model_gets_96 : decode prog_13_method_15_code 96 = .ok (.aload_n 0, 1) := by decide +kernel
theorem d_Model_gets_97 : decode prog_13_method_15_code 97 = .ok (.getfield 41, 3) := by decide +kernel
theorem d_Model_gets_100 : decode prog_13_method_15_code 100 = .ok (.iload_n 2, 1) := by decide +kernel
theorem d_Model_gets_101 : decode prog_13_method_15_code 101 = .ok (.bipush (-2), 2) := by decide +kernel
theorem d_Model_gets_103 : decode prog_13_method_15_code 103 = .ok (.iastore, 1) := by decide +kernel
theorem d_Model_gets_104 : decode prog_13_method_15_code 104 = .ok (.aload_n 0, 1) := by decide +kernel
theorem d_Model_gets_105 : decode prog_13_method_15_code 105 = .ok (.getfield 44, 3) := by decide +kernel
theorem d_Model_gets_108 : decode prog_13_method_15_code 108 = .ok (.iload_n 1, 1) := by decide +kernel
theorem d_Model_gets_109 : decode prog_13_method_15_code 109 = .ok (.iload_n 2, 1) := by decide +kernel
theorem d_Model_gets_110 : decode prog_13_method_15_code 110 = .ok (.iastore, 1) := by decide +kernel
theorem d_Model_gets_111 : decode prog_13_method_15_code 111 = .ok (.aload_n 0, 1) := by decide +kernel
theorem d_Model_gets_112 : decode prog_13_method_15_code 112 = .ok (.invokevirtual 171, 3) := by decide +kernel
theorem d_Model_gets_115 : decode prog_13_method_15_code 115 = .ok (.aload_n 0, 1) := by decide +kernel
theorem d_Model_gets_116 : decode prog_13_method_15_code 116 = .ok (.getfield 13, 3) := by decide +kernel
theorem d_Model_gets_119 : decode prog_13_method_15_code 119 = .ok (.if_icmp .le 7, 3) := by decide +kernel
theorem d_Model_gets_122 : decode prog_13_method_15_code 122 = .ok (.aload_n 0, 1) := by decide +kernel
theorem d_Model_gets_123 : decode prog_13_method_15_code 123 = .ok (.invokevirtual 175, 3) := by decide +kernel
theorem d_Model_gets_126 : decode prog_13_method_15_code 126 = .ok (.aload_n 0, 1) := by decide +kernel
theorem d_Model_gets_127 : decode prog_13_method_15_code 127 = .ok (.getfield 38, 3) := by decide +kernel
theorem d_Model_gets_130 : decode prog_13_method_15_code 130 = .ok (.iload_n 2, 1) := by decide +kernel
theorem d_Model_gets_131 : decode prog_13_method_15_code 131 = .ok (.iaload, 1) := by decide +kernel
theorem d_Model_gets_132 : decode prog_13_method_15_code 132 = .ok (.ireturn, 1) := by decide +kernel
theorem d_Model_entriesOf_0 : decode prog_13_method_13_code 0 = .ok (.iconst 0, 1) := by decide +kernel
theorem d_Model_entriesOf_1 : decode prog_13_method_13_code 1 = .ok (.istore_n 2, 1) := by decide +kernel
theorem d_Model_entriesOf_2 : decode prog_13_method_13_code 2 = .ok (.iconst 0, 1) := by decide +kernel
theorem d_Model_entriesOf_3 : decode prog_13_method_13_code 3 = .ok (.istore_n 3, 1) := by decide +kernel
theorem d_Model_entriesOf_4 : decode prog_13_method_13_code 4 = .ok (.iload_n 3, 1) := by decide +kernel
theorem d_Model_entriesOf_5 : decode prog_13_method_13_code 5 = .ok (.iconst 2, 1) := by decide +kernel
theorem d_Model_entriesOf_6 : decode prog_13_method_13_code 6 = .ok (.if_icmp .ge 81, 3) := by decide +kernel
theorem d_Model_entriesOf_9 : decode prog_13_method_13_code 9 = .ok (.aload_n 0, 1) := by decide +kernel
theorem d_Model_entriesOf_10 : decode prog_13_method_13_code 10 = .ok (.iload_n 1, 1) := by decide +kernel
theorem d_Model_entriesOf_11 : decode prog_13_method_13_code 11 = .ok (.iload_n 3, 1) := by decide +kernel
theorem d_Model_entriesOf_12 : decode prog_13_method_13_code 12 = .ok (.invokevirtual 153, 3) := by decide +kernel
theorem d_Model_entriesOf_15 : decode prog_13_method_13_code 15 = .ok (.iconst 0, 1) := by decide +kernel
theorem d_Model_entriesOf_16 : decode prog_13_method_13_code 16 = .ok (.istore 4, 2) := by decide +kernel
theorem d_Model_entriesOf_18 : decode prog_13_method_13_code 18 = .ok (.iload 4, 2) := by decide +kernel
theorem d_Model_entriesOf_20 : decode prog_13_method_13_code 20 = .ok (.aload_n 0, 1) := by decide +kernel
theorem d_Model_entriesOf_21 : decode prog_13_method_13_code 21 = .ok (.getfield 150, 3) := by decide +kernel
theorem d_Model_entriesOf_24 : decode prog_13_method_13_code 24 = .ok (.if_icmp .ge 57, 3) := by decide +kernel
theorem d_Model_entriesOf_27 : decode prog_13_method_13_code 27 = .ok (.iconst 1, 1) := by decide +kernel
theorem d_Model_entriesOf_28 : decode prog_13_method_13_code 28 = .ok (.istore 5, 2) := by decide +kernel
theorem d_Model_entriesOf_30 : decode prog_13_method_13_code 30 = .ok (.iconst 0, 1) := by decide +kernel
theorem d_Model_entriesOf_31 : decode prog_13_method_13_code 31 = .ok (.istore 6, 2) := by decide +kernel
theorem d_Model_entriesOf_33 : decode prog_13_method_13_code 33 = .ok (.iload 6, 2) := by decide +kernel
theorem d_Model_entriesOf_35 : decode prog_13_method_13_code 35 = .ok (.iload 4, 2) := by decide +kernel
theorem d_Model_entriesOf_37 : decode prog_13_method_13_code 37 = .ok (.if_icmp .ge 30, 3) := by decide +kernel
theorem d_Model_entriesOf_40 : decode prog_13_method_13_code 40 = .ok (.iload 5, 2) := by decide +kernel
theorem d_Model_entriesOf_42 : decode prog_13_method_13_code 42 = .ok (.aload_n 0, 1) := by decide +kernel
theorem d_Model_entriesOf_43 : decode prog_13_method_13_code 43 = .ok (.iload 4, 2) := by decide +kernel
theorem d_Model_entriesOf_45 : decode prog_13_method_13_code 45 = .ok (.iload 6, 2) := by decide +kernel
theorem d_Model_entriesOf_47 : decode prog_13_method_13_code 47 = .ok (.invokevirtual 161, 3) := by decide +kernel
theorem d_Model_entriesOf_50 : decode prog_13_method_13_code 50 = .ok (.ifCond .ne 7, 3) := by decide +kernel
theorem d_Model_entriesOf_53 : decode prog_13_method_13_code 53 = .ok (.iconst 1, 1) := by decide +kernel
theorem d_Model_entriesOf_54 : decode prog_13_method_13_code 54 = .ok (.goto 4, 3) := by decide +kernel
theorem d_Model_entriesOf_57 : decode prog_13_method_13_code 57 = .ok (.iconst 0, 1) := by decide +kernel
theorem d_Model_entriesOf_58 : decode prog_13_method_13_code 58 = .ok (.iand, 1) := by decide +kernel
theorem d_Model_entriesOf_59 : decode prog_13_method_13_code 59 = .ok (.istore 5, 2) := by decide +kernel
theorem d_Model_entriesOf_61 : decode prog_13_method_13_code 61 = .ok (.iinc 6 1, 3) := by decide +kernel
theorem d_Model_entriesOf_64 : decode prog_13_method_13_code 64 = .ok (.goto (-31), 3) := by decide +kernel
theorem d_Model_entriesOf_67 : decode prog_13_method_13_code 67 = .ok (.iload 5, 2) := by decide +kernel
theorem d_Model_entriesOf_69 : decode prog_13_method_13_code 69 = .ok (.ifCond .eq 6, 3) := by decide +kernel
theorem d_Model_entriesOf_72 : decode prog_13_method_13_code 72 = .ok (.iinc 2 1, 3) := by decide +kernel
theorem d_Model_entriesOf_75 : decode prog_13_method_13_code 75 = .ok (.iinc 4 1, 3) := by decide +kernel
theorem d_Model_entriesOf_78 : decode prog_13_method_13_code 78 = .ok (.goto (-60), 3) := by decide +kernel
theorem d_Model_entriesOf_81 : decode prog_13_method_13_code 81 = .ok (.iinc 3 1, 3) := by decide +kernel
theorem d_Model_entriesOf_84 : decode prog_13_method_13_code 84 = .ok (.goto (-80), 3) := by decide +kernel
theorem d_Model_entriesOf_87 : decode prog_13_method_13_code 87 = .ok (.iload_n 2, 1) := by decide +kernel
theorem d_Model_entriesOf_88 : decode prog_13_method_13_code 88 = .ok (.ireturn, 1) := by decide +kernel
theorem d_Model_opens_0 : decode prog_13_method_10_code 0 = .ok (.bipush 96, 2) := by decide +kernel
theorem d_Model_opens_2 : decode prog_13_method_10_code 2 = .ok (.iload_n 1, 1) := by decide +kernel
theorem d_Model_opens_3 : decode prog_13_method_10_code 3 = .ok (.imul, 1) := by decide +kernel
theorem d_Model_opens_4 : decode prog_13_method_10_code 4 = .ok (.bipush 48, 2) := by decide +kernel
theorem d_Model_opens_6 : decode prog_13_method_10_code 6 = .ok (.iload_n 2, 1) := by decide +kernel
theorem d_Model_opens_7 : decode prog_13_method_10_code 7 = .ok (.imul, 1) := by decide +kernel
theorem d_Model_opens_8 : decode prog_13_method_10_code 8 = .ok (.iadd, 1) := by decide +kernel
theorem d_Model_opens_9 : decode prog_13_method_10_code 9 = .ok (.istore_n 3, 1) := by decide +kernel
theorem d_Model_opens_10 : decode prog_13_method_10_code 10 = .ok (.aload_n 0, 1) := by decide +kernel
theorem d_Model_opens_11 : decode prog_13_method_10_code 11 = .ok (.getfield 32, 3) := by decide +kernel
theorem d_Model_opens_14 : decode prog_13_method_10_code 14 = .ok (.iconst 2, 1) := by decide +kernel
theorem d_Model_opens_15 : decode prog_13_method_10_code 15 = .ok (.iload_n 1, 1) := by decide +kernel
theorem d_Model_opens_16 : decode prog_13_method_10_code 16 = .ok (.imul, 1) := by decide +kernel
theorem d_Model_opens_17 : decode prog_13_method_10_code 17 = .ok (.iload_n 2, 1) := by decide +kernel
theorem d_Model_opens_18 : decode prog_13_method_10_code 18 = .ok (.iadd, 1) := by decide +kernel
theorem d_Model_opens_19 : decode prog_13_method_10_code 19 = .ok (.iaload, 1) := by decide +kernel
theorem d_Model_opens_20 : decode prog_13_method_10_code 20 = .ok (.istore 4, 2) := by decide +kernel
theorem d_Model_opens_22 : decode prog_13_method_10_code 22 = .ok (.aload_n 0, 1) := by decide +kernel
theorem d_Model_opens_23 : decode prog_13_method_10_code 23 = .ok (.iconst 0, 1) := by decide +kernel
theorem d_Model_opens_24 : decode prog_13_method_10_code 24 = .ok (.putfield 150, 3) := by decide +kernel
theorem d_Model_opens_27 : decode prog_13_method_10_code 27 = .ok (.iconst 0, 1) := by decide +kernel
theorem d_Model_opens_28 : decode prog_13_method_10_code 28 = .ok (.istore 5, 2) := by decide +kernel
theorem d_Model_opens_30 : decode prog_13_method_10_code 30 = .ok (.iload 5, 2) := by decide +kernel
theorem d_Model_opens_32 : decode prog_13_method_10_code 32 = .ok (.iload 4, 2) := by decide +kernel
theorem d_Model_opens_34 : decode prog_13_method_10_code 34 = .ok (.if_icmp .ge 89, 3) := by decide +kernel
theorem d_Model_opens_37 : decode prog_13_method_10_code 37 = .ok (.aload_n 0, 1) := by decide +kernel
theorem d_Model_opens_38 : decode prog_13_method_10_code 38 = .ok (.getfield 29, 3) := by decide +kernel
theorem d_Model_opens_41 : decode prog_13_method_10_code 41 = .ok (.iload_n 3, 1) := by decide +kernel
theorem d_Model_opens_42 : decode prog_13_method_10_code 42 = .ok (.iload 5, 2) := by decide +kernel
theorem d_Model_opens_44 : decode prog_13_method_10_code 44 = .ok (.iadd, 1) := by decide +kernel
theorem d_Model_opens_45 : decode prog_13_method_10_code 45 = .ok (.iaload, 1) := by decide +kernel
theorem d_Model_opens_46 : decode prog_13_method_10_code 46 = .ok (.invokestatic 146, 3) := by decide +kernel
theorem d_Model_opens_49 : decode prog_13_method_10_code 49 = .ok (.ifCond .ne 6, 3) := by decide +kernel
theorem d_Model_opens_52 : decode prog_13_method_10_code 52 = .ok (.goto 65, 3) := by decide +kernel
theorem d_Model_opens_55 : decode prog_13_method_10_code 55 = .ok (.iload 5, 2) := by decide +kernel
theorem d_Model_opens_57 : decode prog_13_method_10_code 57 = .ok (.ifCond .eq 20, 3) := by decide +kernel
theorem d_Model_opens_60 : decode prog_13_method_10_code 60 = .ok (.aload_n 0, 1) := by decide +kernel
theorem d_Model_opens_61 : decode prog_13_method_10_code 61 = .ok (.getfield 29, 3) := by decide +kernel
theorem d_Model_opens_64 : decode prog_13_method_10_code 64 = .ok (.iload_n 3, 1) := by decide +kernel
theorem d_Model_opens_65 : decode prog_13_method_10_code 65 = .ok (.iload 5, 2) := by decide +kernel
theorem d_Model_opens_67 : decode prog_13_method_10_code 67 = .ok (.iadd, 1) := by decide +kernel
theorem d_Model_opens_68 : decode prog_13_method_10_code 68 = .ok (.iconst 1, 1) := by decide +kernel
theorem d_Model_opens_69 : decode prog_13_method_10_code 69 = .ok (.isub, 1) := by decide +kernel
theorem d_Model_opens_70 : decode prog_13_method_10_code 70 = .ok (.iaload, 1) := by decide +kernel
theorem d_Model_opens_71 : decode prog_13_method_10_code 71 = .ok (.invokestatic 146, 3) := by decide +kernel
theorem d_Model_opens_74 : decode prog_13_method_10_code 74 = .ok (.ifCond .ne 26, 3) := by decide +kernel
theorem d_Model_opens_77 : decode prog_13_method_10_code 77 = .ok (.aload_n 0, 1) := by decide +kernel
theorem d_Model_opens_78 : decode prog_13_method_10_code 78 = .ok (.getfield 110, 3) := by decide +kernel
theorem d_Model_opens_81 : decode prog_13_method_10_code 81 = .ok (.aload_n 0, 1) := by decide +kernel
theorem d_Model_opens_82 : decode prog_13_method_10_code 82 = .ok (.getfield 150, 3) := by decide +kernel
theorem d_Model_opens_85 : decode prog_13_method_10_code 85 = .ok (.iload_n 3, 1) := by decide +kernel
theorem d_Model_opens_86 : decode prog_13_method_10_code 86 = .ok (.iload 5, 2) := by decide +kernel
theorem d_Model_opens_88 : decode prog_13_method_10_code 88 = .ok (.iadd, 1) := by decide +kernel
theorem d_Model_opens_89 : decode prog_13_method_10_code 89 = .ok (.iastore, 1) := by decide +kernel
theorem d_Model_opens_90 : decode prog_13_method_10_code 90 = .ok (.aload_n 0, 1) := by decide +kernel
theorem d_Model_opens_91 : decode prog_13_method_10_code 91 = .ok (.dup, 1) := by decide +kernel
theorem d_Model_opens_92 : decode prog_13_method_10_code 92 = .ok (.getfield 150, 3) := by decide +kernel
theorem d_Model_opens_95 : decode prog_13_method_10_code 95 = .ok (.iconst 1, 1) := by decide +kernel
theorem d_Model_opens_96 : decode prog_13_method_10_code 96 = .ok (.iadd, 1) := by decide +kernel
theorem d_Model_opens_97 : decode prog_13_method_10_code 97 = .ok (.putfield 150, 3) := by decide +kernel
theorem d_Model_opens_100 : decode prog_13_method_10_code 100 = .ok (.aload_n 0, 1) := by decide +kernel
theorem d_Model_opens_101 : decode prog_13_method_10_code 101 = .ok (.getfield 113, 3) := by decide +kernel
theorem d_Model_opens_104 : decode prog_13_method_10_code 104 = .ok (.aload_n 0, 1) := by decide +kernel
theorem d_Model_opens_105 : decode prog_13_method_10_code 105 = .ok (.getfield 150, 3) := by decide +kernel
theorem d_Model_opens_108 : decode prog_13_method_10_code 108 = .ok (.iconst 1, 1) := by decide +kernel
theorem d_Model_opens_109 : decode prog_13_method_10_code 109 = .ok (.isub, 1) := by decide +kernel
theorem d_Model_opens_110 : decode prog_13_method_10_code 110 = .ok (.iload_n 3, 1) := by decide +kernel
theorem d_Model_opens_111 : decode prog_13_method_10_code 111 = .ok (.iload 5, 2) := by decide +kernel
theorem d_Model_opens_113 : decode prog_13_method_10_code 113 = .ok (.iadd, 1) := by decide +kernel
theorem d_Model_opens_114 : decode prog_13_method_10_code 114 = .ok (.iconst 1, 1) := by decide +kernel
theorem d_Model_opens_115 : decode prog_13_method_10_code 115 = .ok (.iadd, 1) := by decide +kernel
theorem d_Model_opens_116 : decode prog_13_method_10_code 116 = .ok (.iastore, 1) := by decide +kernel
theorem d_Model_opens_117 : decode prog_13_method_10_code 117 = .ok (.iinc 5 1, 3) := by decide +kernel
theorem d_Model_opens_120 : decode prog_13_method_10_code 120 = .ok (.goto (-90), 3) := by decide +kernel
theorem d_Model_opens_123 : decode prog_13_method_10_code 123 = .ok (.return_, 1) := by decide +kernel
theorem d_Model_alike_0 : decode prog_13_method_12_code 0 = .ok (.aload_n 0, 1) := by decide +kernel
theorem d_Model_alike_1 : decode prog_13_method_12_code 1 = .ok (.getfield 113, 3) := by decide +kernel
theorem d_Model_alike_4 : decode prog_13_method_12_code 4 = .ok (.iload_n 1, 1) := by decide +kernel
theorem d_Model_alike_5 : decode prog_13_method_12_code 5 = .ok (.iaload, 1) := by decide +kernel
theorem d_Model_alike_6 : decode prog_13_method_12_code 6 = .ok (.aload_n 0, 1) := by decide +kernel
theorem d_Model_alike_7 : decode prog_13_method_12_code 7 = .ok (.getfield 110, 3) := by decide +kernel
theorem d_Model_alike_10 : decode prog_13_method_12_code 10 = .ok (.iload_n 1, 1) := by decide +kernel
theorem d_Model_alike_11 : decode prog_13_method_12_code 11 = .ok (.iaload, 1) := by decide +kernel
theorem d_Model_alike_12 : decode prog_13_method_12_code 12 = .ok (.isub, 1) := by decide +kernel
theorem d_Model_alike_13 : decode prog_13_method_12_code 13 = .ok (.istore_n 3, 1) := by decide +kernel
theorem d_Model_alike_14 : decode prog_13_method_12_code 14 = .ok (.aload_n 0, 1) := by decide +kernel
theorem d_Model_alike_15 : decode prog_13_method_12_code 15 = .ok (.getfield 113, 3) := by decide +kernel
theorem d_Model_alike_18 : decode prog_13_method_12_code 18 = .ok (.iload_n 2, 1) := by decide +kernel
theorem d_Model_alike_19 : decode prog_13_method_12_code 19 = .ok (.iaload, 1) := by decide +kernel
theorem d_Model_alike_20 : decode prog_13_method_12_code 20 = .ok (.aload_n 0, 1) := by decide +kernel
theorem d_Model_alike_21 : decode prog_13_method_12_code 21 = .ok (.getfield 110, 3) := by decide +kernel
theorem d_Model_alike_24 : decode prog_13_method_12_code 24 = .ok (.iload_n 2, 1) := by decide +kernel
theorem d_Model_alike_25 : decode prog_13_method_12_code 25 = .ok (.iaload, 1) := by decide +kernel
theorem d_Model_alike_26 : decode prog_13_method_12_code 26 = .ok (.isub, 1) := by decide +kernel
theorem d_Model_alike_27 : decode prog_13_method_12_code 27 = .ok (.iload_n 3, 1) := by decide +kernel
theorem d_Model_alike_28 : decode prog_13_method_12_code 28 = .ok (.if_icmp .eq 5, 3) := by decide +kernel
theorem d_Model_alike_31 : decode prog_13_method_12_code 31 = .ok (.iconst 0, 1) := by decide +kernel
theorem d_Model_alike_32 : decode prog_13_method_12_code 32 = .ok (.ireturn, 1) := by decide +kernel
theorem d_Model_alike_33 : decode prog_13_method_12_code 33 = .ok (.iconst 0, 1) := by decide +kernel
theorem d_Model_alike_34 : decode prog_13_method_12_code 34 = .ok (.istore 4, 2) := by decide +kernel
theorem d_Model_alike_36 : decode prog_13_method_12_code 36 = .ok (.iload 4, 2) := by decide +kernel
theorem d_Model_alike_38 : decode prog_13_method_12_code 38 = .ok (.iload_n 3, 1) := by decide +kernel
theorem d_Model_alike_39 : decode prog_13_method_12_code 39 = .ok (.if_icmp .ge 48, 3) := by decide +kernel
theorem d_Model_alike_42 : decode prog_13_method_12_code 42 = .ok (.aload_n 0, 1) := by decide +kernel
theorem d_Model_alike_43 : decode prog_13_method_12_code 43 = .ok (.getfield 29, 3) := by decide +kernel
theorem d_Model_alike_46 : decode prog_13_method_12_code 46 = .ok (.aload_n 0, 1) := by decide +kernel
theorem d_Model_alike_47 : decode prog_13_method_12_code 47 = .ok (.getfield 110, 3) := by decide +kernel
theorem d_Model_alike_50 : decode prog_13_method_12_code 50 = .ok (.iload_n 1, 1) := by decide +kernel
theorem d_Model_alike_51 : decode prog_13_method_12_code 51 = .ok (.iaload, 1) := by decide +kernel
theorem d_Model_alike_52 : decode prog_13_method_12_code 52 = .ok (.iload 4, 2) := by decide +kernel
theorem d_Model_alike_54 : decode prog_13_method_12_code 54 = .ok (.iadd, 1) := by decide +kernel
theorem d_Model_alike_55 : decode prog_13_method_12_code 55 = .ok (.iaload, 1) := by decide +kernel
theorem d_Model_alike_56 : decode prog_13_method_12_code 56 = .ok (.invokestatic 157, 3) := by decide +kernel
theorem d_Model_alike_59 : decode prog_13_method_12_code 59 = .ok (.aload_n 0, 1) := by decide +kernel
theorem d_Model_alike_60 : decode prog_13_method_12_code 60 = .ok (.getfield 29, 3) := by decide +kernel
theorem d_Model_alike_63 : decode prog_13_method_12_code 63 = .ok (.aload_n 0, 1) := by decide +kernel
theorem d_Model_alike_64 : decode prog_13_method_12_code 64 = .ok (.getfield 110, 3) := by decide +kernel
theorem d_Model_alike_67 : decode prog_13_method_12_code 67 = .ok (.iload_n 2, 1) := by decide +kernel
theorem d_Model_alike_68 : decode prog_13_method_12_code 68 = .ok (.iaload, 1) := by decide +kernel
theorem d_Model_alike_69 : decode prog_13_method_12_code 69 = .ok (.iload 4, 2) := by decide +kernel
theorem d_Model_alike_71 : decode prog_13_method_12_code 71 = .ok (.iadd, 1) := by decide +kernel
theorem d_Model_alike_72 : decode prog_13_method_12_code 72 = .ok (.iaload, 1) := by decide +kernel
theorem d_Model_alike_73 : decode prog_13_method_12_code 73 = .ok (.invokestatic 157, 3) := by decide +kernel
theorem d_Model_alike_76 : decode prog_13_method_12_code 76 = .ok (.if_icmp .eq 5, 3) := by decide +kernel
theorem d_Model_alike_79 : decode prog_13_method_12_code 79 = .ok (.iconst 0, 1) := by decide +kernel
theorem d_Model_alike_80 : decode prog_13_method_12_code 80 = .ok (.ireturn, 1) := by decide +kernel
theorem d_Model_alike_81 : decode prog_13_method_12_code 81 = .ok (.iinc 4 1, 3) := by decide +kernel
theorem d_Model_alike_84 : decode prog_13_method_12_code 84 = .ok (.goto (-48), 3) := by decide +kernel
theorem d_Model_alike_87 : decode prog_13_method_12_code 87 = .ok (.iconst 1, 1) := by decide +kernel
theorem d_Model_alike_88 : decode prog_13_method_12_code 88 = .ok (.ireturn, 1) := by decide +kernel
theorem d_Model_small_0 : decode prog_13_method_6_code 0 = .ok (.iload_n 0, 1) := by decide +kernel
theorem d_Model_small_1 : decode prog_13_method_6_code 1 = .ok (.bipush 65, 2) := by decide +kernel
theorem d_Model_small_3 : decode prog_13_method_6_code 3 = .ok (.bipush 90, 2) := by decide +kernel
theorem d_Model_small_5 : decode prog_13_method_6_code 5 = .ok (.invokestatic 133, 3) := by decide +kernel
theorem d_Model_small_8 : decode prog_13_method_6_code 8 = .ok (.ifCond .eq 10, 3) := by decide +kernel
theorem d_Model_small_11 : decode prog_13_method_6_code 11 = .ok (.iload_n 0, 1) := by decide +kernel
theorem d_Model_small_12 : decode prog_13_method_6_code 12 = .ok (.bipush 32, 2) := by decide +kernel
theorem d_Model_small_14 : decode prog_13_method_6_code 14 = .ok (.iadd, 1) := by decide +kernel
theorem d_Model_small_15 : decode prog_13_method_6_code 15 = .ok (.goto 4, 3) := by decide +kernel
theorem d_Model_small_18 : decode prog_13_method_6_code 18 = .ok (.iload_n 0, 1) := by decide +kernel
theorem d_Model_small_19 : decode prog_13_method_6_code 19 = .ok (.ireturn, 1) := by decide +kernel
theorem d_Model_pending_0 : decode prog_13_method_16_code 0 = .ok (.iconst 0, 1) := by decide +kernel
theorem d_Model_pending_1 : decode prog_13_method_16_code 1 = .ok (.istore_n 1, 1) := by decide +kernel
theorem d_Model_pending_2 : decode prog_13_method_16_code 2 = .ok (.iconst 0, 1) := by decide +kernel
theorem d_Model_pending_3 : decode prog_13_method_16_code 3 = .ok (.istore_n 2, 1) := by decide +kernel
theorem d_Model_pending_4 : decode prog_13_method_16_code 4 = .ok (.iload_n 2, 1) := by decide +kernel
theorem d_Model_pending_5 : decode prog_13_method_16_code 5 = .ok (.aload_n 0, 1) := by decide +kernel
theorem d_Model_pending_6 : decode prog_13_method_16_code 6 = .ok (.getfield 165, 3) := by decide +kernel
theorem d_Model_pending_9 : decode prog_13_method_16_code 9 = .ok (.if_icmp .ge 29, 3) := by decide +kernel
theorem d_Model_pending_12 : decode prog_13_method_16_code 12 = .ok (.aload_n 0, 1) := by decide +kernel
theorem d_Model_pending_13 : decode prog_13_method_16_code 13 = .ok (.getfield 41, 3) := by decide +kernel
theorem d_Model_pending_16 : decode prog_13_method_16_code 16 = .ok (.iload_n 2, 1) := by decide +kernel
theorem d_Model_pending_17 : decode prog_13_method_16_code 17 = .ok (.iaload, 1) := by decide +kernel
theorem d_Model_pending_18 : decode prog_13_method_16_code 18 = .ok (.bipush (-2), 2) := by decide +kernel
theorem d_Model_pending_20 : decode prog_13_method_16_code 20 = .ok (.if_icmp .ne 12, 3) := by decide +kernel
theorem d_Model_pending_23 : decode prog_13_method_16_code 23 = .ok (.iload_n 1, 1) := by decide +kernel
theorem d_Model_pending_24 : decode prog_13_method_16_code 24 = .ok (.aload_n 0, 1) := by decide +kernel
theorem d_Model_pending_25 : decode prog_13_method_16_code 25 = .ok (.getfield 38, 3) := by decide +kernel
theorem d_Model_pending_28 : decode prog_13_method_16_code 28 = .ok (.iload_n 2, 1) := by decide +kernel
theorem d_Model_pending_29 : decode prog_13_method_16_code 29 = .ok (.iaload, 1) := by decide +kernel
theorem d_Model_pending_30 : decode prog_13_method_16_code 30 = .ok (.iadd, 1) := by decide +kernel
theorem d_Model_pending_31 : decode prog_13_method_16_code 31 = .ok (.istore_n 1, 1) := by decide +kernel
theorem d_Model_pending_32 : decode prog_13_method_16_code 32 = .ok (.iinc 2 1, 3) := by decide +kernel
theorem d_Model_pending_35 : decode prog_13_method_16_code 35 = .ok (.goto (-31), 3) := by decide +kernel
theorem d_Model_pending_38 : decode prog_13_method_16_code 38 = .ok (.iload_n 1, 1) := by decide +kernel
theorem d_Model_pending_39 : decode prog_13_method_16_code 39 = .ok (.ireturn, 1) := by decide +kernel
theorem d_Model_flushes_0 : decode prog_13_method_22_code 0 = .ok (.aload_n 0, 1) := by decide +kernel
theorem d_Model_flushes_1 : decode prog_13_method_22_code 1 = .ok (.bipush (-2), 2) := by decide +kernel
theorem d_Model_flushes_3 : decode prog_13_method_22_code 3 = .ok (.iconst 0, 1) := by decide +kernel
theorem d_Model_flushes_4 : decode prog_13_method_22_code 4 = .ok (.invokevirtual 196, 3) := by decide +kernel
theorem d_Model_flushes_7 : decode prog_13_method_22_code 7 = .ok (.iconst 0, 1) := by decide +kernel
theorem d_Model_flushes_8 : decode prog_13_method_22_code 8 = .ok (.istore_n 1, 1) := by decide +kernel
theorem d_Model_flushes_9 : decode prog_13_method_22_code 9 = .ok (.iload_n 1, 1) := by decide +kernel
theorem d_Model_flushes_10 : decode prog_13_method_22_code 10 = .ok (.iconst 5, 1) := by decide +kernel
theorem d_Model_flushes_11 : decode prog_13_method_22_code 11 = .ok (.if_icmp .ge 61, 3) := by decide +kernel
theorem d_Model_flushes_14 : decode prog_13_method_22_code 14 = .ok (.iconst 0, 1) := by decide +kernel
theorem d_Model_flushes_15 : decode prog_13_method_22_code 15 = .ok (.istore_n 2, 1) := by decide +kernel
theorem d_Model_flushes_16 : decode prog_13_method_22_code 16 = .ok (.iconst 0, 1) := by decide +kernel
theorem d_Model_flushes_17 : decode prog_13_method_22_code 17 = .ok (.istore_n 3, 1) := by decide +kernel
theorem d_Model_flushes_18 : decode prog_13_method_22_code 18 = .ok (.iload_n 3, 1) := by decide +kernel
theorem d_Model_flushes_19 : decode prog_13_method_22_code 19 = .ok (.aload_n 0, 1) := by decide +kernel
theorem d_Model_flushes_20 : decode prog_13_method_22_code 20 = .ok (.getfield 193, 3) := by decide +kernel
theorem d_Model_flushes_23 : decode prog_13_method_22_code 23 = .ok (.if_icmp .ge 27, 3) := by decide +kernel
theorem d_Model_flushes_26 : decode prog_13_method_22_code 26 = .ok (.aload_n 0, 1) := by decide +kernel
theorem d_Model_flushes_27 : decode prog_13_method_22_code 27 = .ok (.getfield 50, 3) := by decide +kernel
theorem d_Model_flushes_30 : decode prog_13_method_22_code 30 = .ok (.aload_n 0, 1) := by decide +kernel
theorem d_Model_flushes_31 : decode prog_13_method_22_code 31 = .ok (.getfield 47, 3) := by decide +kernel
theorem d_Model_flushes_34 : decode prog_13_method_22_code 34 = .ok (.iload_n 3, 1) := by decide +kernel
theorem d_Model_flushes_35 : decode prog_13_method_22_code 35 = .ok (.iaload, 1) := by decide +kernel
theorem d_Model_flushes_36 : decode prog_13_method_22_code 36 = .ok (.iaload, 1) := by decide +kernel
theorem d_Model_flushes_37 : decode prog_13_method_22_code 37 = .ok (.iload_n 1, 1) := by decide +kernel
theorem d_Model_flushes_38 : decode prog_13_method_22_code 38 = .ok (.if_icmp .ne 6, 3) := by decide +kernel
theorem d_Model_flushes_41 : decode prog_13_method_22_code 41 = .ok (.iinc 2 1, 3) := by decide +kernel
theorem d_Model_flushes_44 : decode prog_13_method_22_code 44 = .ok (.iinc 3 1, 3) := by decide +kernel
theorem d_Model_flushes_47 : decode prog_13_method_22_code 47 = .ok (.goto (-29), 3) := by decide +kernel
theorem d_Model_flushes_50 : decode prog_13_method_22_code 50 = .ok (.iload_n 2, 1) := by decide +kernel
theorem d_Model_flushes_51 : decode prog_13_method_22_code 51 = .ok (.aload_n 0, 1) := by decide +kernel
theorem d_Model_flushes_52 : decode prog_13_method_22_code 52 = .ok (.getfield 7, 3) := by decide +kernel
theorem d_Model_flushes_55 : decode prog_13_method_22_code 55 = .ok (.if_icmp .le 11, 3) := by decide +kernel
theorem d_Model_flushes_58 : decode prog_13_method_22_code 58 = .ok (.aload_n 0, 1) := by decide +kernel
theorem d_Model_flushes_59 : decode prog_13_method_22_code 59 = .ok (.iload_n 1, 1) := by decide +kernel
theorem d_Model_flushes_60 : decode prog_13_method_22_code 60 = .ok (.iload_n 1, 1) := by decide +kernel
theorem d_Model_flushes_61 : decode prog_13_method_22_code 61 = .ok (.iconst 1, 1) := by decide +kernel
theorem d_Model_flushes_62 : decode prog_13_method_22_code 62 = .ok (.iadd, 1) := by decide +kernel
theorem d_Model_flushes_63 : decode prog_13_method_22_code 63 = .ok (.invokevirtual 196, 3) := by decide +kernel
theorem d_Model_flushes_66 : decode prog_13_method_22_code 66 = .ok (.iinc 1 1, 3) := by decide +kernel
theorem d_Model_flushes_69 : decode prog_13_method_22_code 69 = .ok (.goto (-60), 3) := by decide +kernel
theorem d_Model_flushes_72 : decode prog_13_method_22_code 72 = .ok (.return_, 1) := by decide +kernel
theorem d_Model_gathers_0 : decode prog_13_method_21_code 0 = .ok (.aload_n 0, 1) := by decide +kernel
theorem d_Model_gathers_1 : decode prog_13_method_21_code 1 = .ok (.getfield 187, 3) := by decide +kernel
theorem d_Model_gathers_4 : decode prog_13_method_21_code 4 = .ok (.istore_n 3, 1) := by decide +kernel
theorem d_Model_gathers_5 : decode prog_13_method_21_code 5 = .ok (.iconst 0, 1) := by decide +kernel
theorem d_Model_gathers_6 : decode prog_13_method_21_code 6 = .ok (.istore 4, 2) := by decide +kernel
theorem d_Model_gathers_8 : decode prog_13_method_21_code 8 = .ok (.iconst 0, 1) := by decide +kernel
theorem d_Model_gathers_9 : decode prog_13_method_21_code 9 = .ok (.istore 5, 2) := by decide +kernel
theorem d_Model_gathers_11 : decode prog_13_method_21_code 11 = .ok (.iload 5, 2) := by decide +kernel
theorem d_Model_gathers_13 : decode prog_13_method_21_code 13 = .ok (.aload_n 0, 1) := by decide +kernel
theorem d_Model_gathers_14 : decode prog_13_method_21_code 14 = .ok (.getfield 165, 3) := by decide +kernel
theorem d_Model_gathers_17 : decode prog_13_method_21_code 17 = .ok (.if_icmp .ge 131, 3) := by decide +kernel
theorem d_Model_gathers_20 : decode prog_13_method_21_code 20 = .ok (.iload_n 1, 1) := by decide +kernel
theorem d_Model_gathers_21 : decode prog_13_method_21_code 21 = .ok (.bipush (-2), 2) := by decide +kernel
theorem d_Model_gathers_23 : decode prog_13_method_21_code 23 = .ok (.if_icmp .ne 23, 3) := by decide +kernel
theorem d_Model_gathers_26 : decode prog_13_method_21_code 26 = .ok (.aload_n 0, 1) := by decide +kernel
theorem d_Model_gathers_27 : decode prog_13_method_21_code 27 = .ok (.getfield 41, 3) := by decide +kernel
theorem d_Model_gathers_30 : decode prog_13_method_21_code 30 = .ok (.iload 5, 2) := by decide +kernel
theorem d_Model_gathers_32 : decode prog_13_method_21_code 32 = .ok (.iaload, 1) := by decide +kernel
theorem d_Model_gathers_33 : decode prog_13_method_21_code 33 = .ok (.bipush (-2), 2) := by decide +kernel
theorem d_Model_gathers_35 : decode prog_13_method_21_code 35 = .ok (.if_icmp .ne 7, 3) := by decide +kernel
theorem d_Model_gathers_38 : decode prog_13_method_21_code 38 = .ok (.iconst 1, 1) := by decide +kernel
theorem d_Model_gathers_39 : decode prog_13_method_21_code 39 = .ok (.goto 42, 3) := by decide +kernel
theorem d_Model_gathers_42 : decode prog_13_method_21_code 42 = .ok (.iconst 0, 1) := by decide +kernel
theorem d_Model_gathers_43 : decode prog_13_method_21_code 43 = .ok (.goto 38, 3) := by decide +kernel
theorem d_Model_gathers_46 : decode prog_13_method_21_code 46 = .ok (.aload_n 0, 1) := by decide +kernel
theorem d_Model_gathers_47 : decode prog_13_method_21_code 47 = .ok (.getfield 41, 3) := by decide +kernel
theorem d_Model_gathers_50 : decode prog_13_method_21_code 50 = .ok (.iload 5, 2) := by decide +kernel
theorem d_Model_gathers_52 : decode prog_13_method_21_code 52 = .ok (.iaload, 1) := by decide +kernel
theorem d_Model_gathers_53 : decode prog_13_method_21_code 53 = .ok (.ifCond .lt 27, 3) := by decide +kernel
theorem d_Model_gathers_56 : decode prog_13_method_21_code 56 = .ok (.iload_n 1, 1) := by decide +kernel
theorem d_Model_gathers_57 : decode prog_13_method_21_code 57 = .ok (.ifCond .lt 19, 3) := by decide +kernel
theorem d_Model_gathers_60 : decode prog_13_method_21_code 60 = .ok (.aload_n 0, 1) := by decide +kernel
theorem d_Model_gathers_61 : decode prog_13_method_21_code 61 = .ok (.getfield 50, 3) := by decide +kernel
theorem d_Model_gathers_64 : decode prog_13_method_21_code 64 = .ok (.aload_n 0, 1) := by decide +kernel
theorem d_Model_gathers_65 : decode prog_13_method_21_code 65 = .ok (.getfield 41, 3) := by decide +kernel
theorem d_Model_gathers_68 : decode prog_13_method_21_code 68 = .ok (.iload 5, 2) := by decide +kernel
theorem d_Model_gathers_70 : decode prog_13_method_21_code 70 = .ok (.iaload, 1) := by decide +kernel
theorem d_Model_gathers_71 : decode prog_13_method_21_code 71 = .ok (.iaload, 1) := by decide +kernel
theorem d_Model_gathers_72 : decode prog_13_method_21_code 72 = .ok (.iload_n 1, 1) := by decide +kernel
theorem d_Model_gathers_73 : decode prog_13_method_21_code 73 = .ok (.if_icmp .ne 7, 3) := by decide +kernel
theorem d_Model_gathers_76 : decode prog_13_method_21_code 76 = .ok (.iconst 1, 1) := by decide +kernel
theorem d_Model_gathers_77 : decode prog_13_method_21_code 77 = .ok (.goto 4, 3) := by decide +kernel
theorem d_Model_gathers_80 : decode prog_13_method_21_code 80 = .ok (.iconst 0, 1) := by decide +kernel
theorem d_Model_gathers_81 : decode prog_13_method_21_code 81 = .ok (.istore 6, 2) := by decide +kernel
theorem d_Model_gathers_83 : decode prog_13_method_21_code 83 = .ok (.iload 6, 2) := by decide +kernel
theorem d_Model_gathers_85 : decode prog_13_method_21_code 85 = .ok (.ifCond .ne 6, 3) := by decide +kernel
theorem d_Model_gathers_88 : decode prog_13_method_21_code 88 = .ok (.goto 54, 3) := by decide +kernel
theorem d_Model_gathers_91 : decode prog_13_method_21_code 91 = .ok (.aload_n 0, 1) := by decide +kernel
theorem d_Model_gathers_92 : decode prog_13_method_21_code 92 = .ok (.iload 5, 2) := by decide +kernel
theorem d_Model_gathers_94 : decode prog_13_method_21_code 94 = .ok (.invokevirtual 190, 3) := by decide +kernel
theorem d_Model_gathers_97 : decode prog_13_method_21_code 97 = .ok (.ifCond .eq 17, 3) := by decide +kernel
theorem d_Model_gathers_100 : decode prog_13_method_21_code 100 = .ok (.aload_n 0, 1) := by decide +kernel
theorem d_Model_gathers_101 : decode prog_13_method_21_code 101 = .ok (.getfield 38, 3) := by decide +kernel
theorem d_Model_gathers_104 : decode prog_13_method_21_code 104 = .ok (.iload 5, 2) := by decide +kernel
theorem d_Model_gathers_106 : decode prog_13_method_21_code 106 = .ok (.iaload, 1) := by decide +kernel
theorem d_Model_gathers_107 : decode prog_13_method_21_code 107 = .ok (.ifCond .le 7, 3) := by decide +kernel
theorem d_Model_gathers_110 : decode prog_13_method_21_code 110 = .ok (.iconst 1, 1) := by decide +kernel
theorem d_Model_gathers_111 : decode prog_13_method_21_code 111 = .ok (.goto 4, 3) := by decide +kernel
theorem d_Model_gathers_114 : decode prog_13_method_21_code 114 = .ok (.iconst 0, 1) := by decide +kernel
theorem d_Model_gathers_115 : decode prog_13_method_21_code 115 = .ok (.istore 7, 2) := by decide +kernel
theorem d_Model_gathers_117 : decode prog_13_method_21_code 117 = .ok (.aload_n 0, 1) := by decide +kernel
theorem d_Model_gathers_118 : decode prog_13_method_21_code 118 = .ok (.getfield 41, 3) := by decide +kernel
theorem d_Model_gathers_121 : decode prog_13_method_21_code 121 = .ok (.iload 5, 2) := by decide +kernel
theorem d_Model_gathers_123 : decode prog_13_method_21_code 123 = .ok (.iload 7, 2) := by decide +kernel
theorem d_Model_gathers_125 : decode prog_13_method_21_code 125 = .ok (.ifCond .eq 7, 3) := by decide +kernel
theorem d_Model_gathers_128 : decode prog_13_method_21_code 128 = .ok (.iload_n 3, 1) := by decide +kernel
theorem d_Model_gathers_129 : decode prog_13_method_21_code 129 = .ok (.goto 4, 3) := by decide +kernel
theorem d_Model_gathers_132 : decode prog_13_method_21_code 132 = .ok (.iconst (-1), 1) := by decide +kernel
theorem d_Model_gathers_133 : decode prog_13_method_21_code 133 = .ok (.iastore, 1) := by decide +kernel
theorem d_Model_gathers_134 : decode prog_13_method_21_code 134 = .ok (.iload 7, 2) := by decide +kernel
theorem d_Model_gathers_136 : decode prog_13_method_21_code 136 = .ok (.ifCond .eq 6, 3) := by decide +kernel
theorem d_Model_gathers_139 : decode prog_13_method_21_code 139 = .ok (.iinc 4 1, 3) := by decide +kernel
theorem d_Model_gathers_142 : decode prog_13_method_21_code 142 = .ok (.iinc 5 1, 3) := by decide +kernel
theorem d_Model_gathers_145 : decode prog_13_method_21_code 145 = .ok (.goto (-134), 3) := by decide +kernel
theorem d_Model_gathers_148 : decode prog_13_method_21_code 148 = .ok (.iconst 0, 1) := by decide +kernel
theorem d_Model_gathers_149 : decode prog_13_method_21_code 149 = .ok (.istore 5, 2) := by decide +kernel
theorem d_Model_gathers_151 : decode prog_13_method_21_code 151 = .ok (.iconst 0, 1) := by decide +kernel
theorem d_Model_gathers_152 : decode prog_13_method_21_code 152 = .ok (.istore 6, 2) := by decide +kernel
theorem d_Model_gathers_154 : decode prog_13_method_21_code 154 = .ok (.iload 6, 2) := by decide +kernel
theorem d_Model_gathers_156 : decode prog_13_method_21_code 156 = .ok (.aload_n 0, 1) := by decide +kernel
theorem d_Model_gathers_157 : decode prog_13_method_21_code 157 = .ok (.getfield 193, 3) := by decide +kernel
theorem d_Model_gathers_160 : decode prog_13_method_21_code 160 = .ok (.if_icmp .ge 52, 3) := by decide +kernel
theorem d_Model_gathers_163 : decode prog_13_method_21_code 163 = .ok (.iload_n 1, 1) := by decide +kernel
theorem d_Model_gathers_164 : decode prog_13_method_21_code 164 = .ok (.bipush (-2), 2) := by decide +kernel
theorem d_Model_gathers_166 : decode prog_13_method_21_code 166 = .ok (.if_icmp .eq 23, 3) := by decide +kernel
theorem d_Model_gathers_169 : decode prog_13_method_21_code 169 = .ok (.iload_n 1, 1) := by decide +kernel
theorem d_Model_gathers_170 : decode prog_13_method_21_code 170 = .ok (.ifCond .lt 36, 3) := by decide +kernel
theorem d_Model_gathers_173 : decode prog_13_method_21_code 173 = .ok (.aload_n 0, 1) := by decide +kernel
theorem d_Model_gathers_174 : decode prog_13_method_21_code 174 = .ok (.getfield 50, 3) := by decide +kernel
theorem d_Model_gathers_177 : decode prog_13_method_21_code 177 = .ok (.aload_n 0, 1) := by decide +kernel
theorem d_Model_gathers_178 : decode prog_13_method_21_code 178 = .ok (.getfield 47, 3) := by decide +kernel
theorem d_Model_gathers_181 : decode prog_13_method_21_code 181 = .ok (.iload 6, 2) := by decide +kernel
theorem d_Model_gathers_183 : decode prog_13_method_21_code 183 = .ok (.iaload, 1) := by decide +kernel
theorem d_Model_gathers_184 : decode prog_13_method_21_code 184 = .ok (.iaload, 1) := by decide +kernel
theorem d_Model_gathers_185 : decode prog_13_method_21_code 185 = .ok (.iload_n 1, 1) := by decide +kernel
theorem d_Model_gathers_186 : decode prog_13_method_21_code 186 = .ok (.if_icmp .eq 20, 3) := by decide +kernel
theorem d_Model_gathers_189 : decode prog_13_method_21_code 189 = .ok (.aload_n 0, 1) := by decide +kernel
theorem d_Model_gathers_190 : decode prog_13_method_21_code 190 = .ok (.getfield 47, 3) := by decide +kernel
theorem d_Model_gathers_193 : decode prog_13_method_21_code 193 = .ok (.iload 5, 2) := by decide +kernel
theorem d_Model_gathers_195 : decode prog_13_method_21_code 195 = .ok (.aload_n 0, 1) := by decide +kernel
theorem d_Model_gathers_196 : decode prog_13_method_21_code 196 = .ok (.getfield 47, 3) := by decide +kernel
theorem d_Model_gathers_199 : decode prog_13_method_21_code 199 = .ok (.iload 6, 2) := by decide +kernel
theorem d_Model_gathers_201 : decode prog_13_method_21_code 201 = .ok (.iaload, 1) := by decide +kernel
theorem d_Model_gathers_202 : decode prog_13_method_21_code 202 = .ok (.iastore, 1) := by decide +kernel
theorem d_Model_gathers_203 : decode prog_13_method_21_code 203 = .ok (.iinc 5 1, 3) := by decide +kernel
theorem d_Model_gathers_206 : decode prog_13_method_21_code 206 = .ok (.iinc 6 1, 3) := by decide +kernel
theorem d_Model_gathers_209 : decode prog_13_method_21_code 209 = .ok (.goto (-55), 3) := by decide +kernel
theorem d_Model_gathers_212 : decode prog_13_method_21_code 212 = .ok (.aload_n 0, 1) := by decide +kernel
theorem d_Model_gathers_213 : decode prog_13_method_21_code 213 = .ok (.iload 5, 2) := by decide +kernel
theorem d_Model_gathers_215 : decode prog_13_method_21_code 215 = .ok (.putfield 193, 3) := by decide +kernel
theorem d_Model_gathers_218 : decode prog_13_method_21_code 218 = .ok (.iload 4, 2) := by decide +kernel
theorem d_Model_gathers_220 : decode prog_13_method_21_code 220 = .ok (.ifCond .ne 4, 3) := by decide +kernel
theorem d_Model_gathers_223 : decode prog_13_method_21_code 223 = .ok (.return_, 1) := by decide +kernel
theorem d_Model_gathers_224 : decode prog_13_method_21_code 224 = .ok (.aload_n 0, 1) := by decide +kernel
theorem d_Model_gathers_225 : decode prog_13_method_21_code 225 = .ok (.getfield 50, 3) := by decide +kernel
theorem d_Model_gathers_228 : decode prog_13_method_21_code 228 = .ok (.iload_n 3, 1) := by decide +kernel
theorem d_Model_gathers_229 : decode prog_13_method_21_code 229 = .ok (.iload_n 2, 1) := by decide +kernel
theorem d_Model_gathers_230 : decode prog_13_method_21_code 230 = .ok (.iastore, 1) := by decide +kernel
theorem d_Model_gathers_231 : decode prog_13_method_21_code 231 = .ok (.aload_n 0, 1) := by decide +kernel
theorem d_Model_gathers_232 : decode prog_13_method_21_code 232 = .ok (.getfield 47, 3) := by decide +kernel
theorem d_Model_gathers_235 : decode prog_13_method_21_code 235 = .ok (.aload_n 0, 1) := by decide +kernel
theorem d_Model_gathers_236 : decode prog_13_method_21_code 236 = .ok (.getfield 193, 3) := by decide +kernel
theorem d_Model_gathers_239 : decode prog_13_method_21_code 239 = .ok (.iload_n 3, 1) := by decide +kernel
theorem d_Model_gathers_240 : decode prog_13_method_21_code 240 = .ok (.iastore, 1) := by decide +kernel
theorem d_Model_gathers_241 : decode prog_13_method_21_code 241 = .ok (.aload_n 0, 1) := by decide +kernel
theorem d_Model_gathers_242 : decode prog_13_method_21_code 242 = .ok (.dup, 1) := by decide +kernel
theorem d_Model_gathers_243 : decode prog_13_method_21_code 243 = .ok (.getfield 193, 3) := by decide +kernel
theorem d_Model_gathers_246 : decode prog_13_method_21_code 246 = .ok (.iconst 1, 1) := by decide +kernel
theorem d_Model_gathers_247 : decode prog_13_method_21_code 247 = .ok (.iadd, 1) := by decide +kernel
theorem d_Model_gathers_248 : decode prog_13_method_21_code 248 = .ok (.putfield 193, 3) := by decide +kernel
theorem d_Model_gathers_251 : decode prog_13_method_21_code 251 = .ok (.aload_n 0, 1) := by decide +kernel
theorem d_Model_gathers_252 : decode prog_13_method_21_code 252 = .ok (.dup, 1) := by decide +kernel
theorem d_Model_gathers_253 : decode prog_13_method_21_code 253 = .ok (.getfield 187, 3) := by decide +kernel
theorem d_Model_gathers_256 : decode prog_13_method_21_code 256 = .ok (.iconst 1, 1) := by decide +kernel
theorem d_Model_gathers_257 : decode prog_13_method_21_code 257 = .ok (.iadd, 1) := by decide +kernel
theorem d_Model_gathers_258 : decode prog_13_method_21_code 258 = .ok (.putfield 187, 3) := by decide +kernel
theorem d_Model_gathers_261 : decode prog_13_method_21_code 261 = .ok (.return_, 1) := by decide +kernel
theorem d_Model_isLive_0 : decode prog_13_method_17_code 0 = .ok (.iconst 0, 1) := by decide +kernel
theorem d_Model_isLive_1 : decode prog_13_method_17_code 1 = .ok (.istore_n 2, 1) := by decide +kernel
theorem d_Model_isLive_2 : decode prog_13_method_17_code 2 = .ok (.iload_n 2, 1) := by decide +kernel
theorem d_Model_isLive_3 : decode prog_13_method_17_code 3 = .ok (.bipush 24, 2) := by decide +kernel
theorem d_Model_isLive_5 : decode prog_13_method_17_code 5 = .ok (.if_icmp .ge 21, 3) := by decide +kernel
theorem d_Model_isLive_8 : decode prog_13_method_17_code 8 = .ok (.aload_n 0, 1) := by decide +kernel
theorem d_Model_isLive_9 : decode prog_13_method_17_code 9 = .ok (.getfield 44, 3) := by decide +kernel
theorem d_Model_isLive_12 : decode prog_13_method_17_code 12 = .ok (.iload_n 2, 1) := by decide +kernel
theorem d_Model_isLive_13 : decode prog_13_method_17_code 13 = .ok (.iaload, 1) := by decide +kernel
theorem d_Model_isLive_14 : decode prog_13_method_17_code 14 = .ok (.iload_n 1, 1) := by decide +kernel
theorem d_Model_isLive_15 : decode prog_13_method_17_code 15 = .ok (.if_icmp .ne 5, 3) := by decide +kernel
theorem d_Model_isLive_18 : decode prog_13_method_17_code 18 = .ok (.iconst 1, 1) := by decide +kernel
theorem d_Model_isLive_19 : decode prog_13_method_17_code 19 = .ok (.ireturn, 1) := by decide +kernel
theorem d_Model_isLive_20 : decode prog_13_method_17_code 20 = .ok (.iinc 2 1, 3) := by decide +kernel
theorem d_Model_isLive_23 : decode prog_13_method_17_code 23 = .ok (.goto (-21), 3) := by decide +kernel
theorem d_Model_isLive_26 : decode prog_13_method_17_code 26 = .ok (.iconst 0, 1) := by decide +kernel
theorem d_Model_isLive_27 : decode prog_13_method_17_code 27 = .ok (.ireturn, 1) := by decide +kernel
theorem d_Model_replace_0 : decode prog_13_method_19_code 0 = .ok (.aload_n 0, 1) := by decide +kernel
theorem d_Model_replace_1 : decode prog_13_method_19_code 1 = .ok (.iconst 0, 1) := by decide +kernel
theorem d_Model_replace_2 : decode prog_13_method_19_code 2 = .ok (.putfield 130, 3) := by decide +kernel
theorem d_Model_replace_5 : decode prog_13_method_19_code 5 = .ok (.aload_n 0, 1) := by decide +kernel
theorem d_Model_replace_6 : decode prog_13_method_19_code 6 = .ok (.aload_n 0, 1) := by decide +kernel
theorem d_Model_replace_7 : decode prog_13_method_19_code 7 = .ok (.iload_n 1, 1) := by decide +kernel
theorem d_Model_replace_8 : decode prog_13_method_19_code 8 = .ok (.invokevirtual 181, 3) := by decide +kernel
theorem d_Model_replace_11 : decode prog_13_method_19_code 11 = .ok (.ifCond .ne 7, 3) := by decide +kernel
theorem d_Model_replace_14 : decode prog_13_method_19_code 14 = .ok (.iconst 1, 1) := by decide +kernel
theorem d_Model_replace_15 : decode prog_13_method_19_code 15 = .ok (.goto 4, 3) := by decide +kernel
theorem d_Model_replace_18 : decode prog_13_method_19_code 18 = .ok (.iconst 0, 1) := by decide +kernel
theorem d_Model_replace_19 : decode prog_13_method_19_code 19 = .ok (.iconst 1, 1) := by decide +kernel
theorem d_Model_replace_20 : decode prog_13_method_19_code 20 = .ok (.invokevirtual 139, 3) := by decide +kernel
theorem d_Model_replace_23 : decode prog_13_method_19_code 23 = .ok (.ifCond .eq 7, 3) := by decide +kernel
theorem d_Model_replace_26 : decode prog_13_method_19_code 26 = .ok (.iconst 0, 1) := by decide +kernel
theorem d_Model_replace_27 : decode prog_13_method_19_code 27 = .ok (.goto 10, 3) := by decide +kernel
theorem d_Model_replace_30 : decode prog_13_method_19_code 30 = .ok (.aload_n 0, 1) := by decide +kernel
theorem d_Model_replace_31 : decode prog_13_method_19_code 31 = .ok (.iload_n 1, 1) := by decide +kernel
theorem d_Model_replace_32 : decode prog_13_method_19_code 32 = .ok (.iconst 1, 1) := by decide +kernel
theorem d_Model_replace_33 : decode prog_13_method_19_code 33 = .ok (.isub, 1) := by decide +kernel
theorem d_Model_replace_34 : decode prog_13_method_19_code 34 = .ok (.invokevirtual 178, 3) := by decide +kernel
theorem d_Model_replace_37 : decode prog_13_method_19_code 37 = .ok (.ireturn, 1) := by decide +kernel
theorem d_Model_has_0 : decode prog_13_method_14_code 0 = .ok (.iload_n 1, 1) := by decide +kernel
theorem d_Model_has_1 : decode prog_13_method_14_code 1 = .ok (.iconst 1, 1) := by decide +kernel
theorem d_Model_has_2 : decode prog_13_method_14_code 2 = .ok (.bipush 24, 2) := by decide +kernel
theorem d_Model_has_4 : decode prog_13_method_14_code 4 = .ok (.invokestatic 133, 3) := by decide +kernel
theorem d_Model_has_7 : decode prog_13_method_14_code 7 = .ok (.ifCond .eq 18, 3) := by decide +kernel
theorem d_Model_has_10 : decode prog_13_method_14_code 10 = .ok (.aload_n 0, 1) := by decide +kernel
theorem d_Model_has_11 : decode prog_13_method_14_code 11 = .ok (.getfield 44, 3) := by decide +kernel
theorem d_Model_has_14 : decode prog_13_method_14_code 14 = .ok (.iload_n 1, 1) := by decide +kernel
theorem d_Model_has_15 : decode prog_13_method_14_code 15 = .ok (.iconst 1, 1) := by decide +kernel
theorem d_Model_has_16 : decode prog_13_method_14_code 16 = .ok (.isub, 1) := by decide +kernel
theorem d_Model_has_17 : decode prog_13_method_14_code 17 = .ok (.iaload, 1) := by decide +kernel
theorem d_Model_has_18 : decode prog_13_method_14_code 18 = .ok (.ifCond .lt 7, 3) := by decide +kernel
theorem d_Model_has_21 : decode prog_13_method_14_code 21 = .ok (.iconst 1, 1) := by decide +kernel
theorem d_Model_has_22 : decode prog_13_method_14_code 22 = .ok (.goto 4, 3) := by decide +kernel
theorem d_Model_has_25 : decode prog_13_method_14_code 25 = .ok (.iconst 0, 1) := by decide +kernel
theorem d_Model_has_26 : decode prog_13_method_14_code 26 = .ok (.ireturn, 1) := by decide +kernel
theorem d_Model_delete_0 : decode prog_13_method_20_code 0 = .ok (.aload_n 0, 1) := by decide +kernel
theorem d_Model_delete_1 : decode prog_13_method_20_code 1 = .ok (.iconst 0, 1) := by decide +kernel
theorem d_Model_delete_2 : decode prog_13_method_20_code 2 = .ok (.putfield 130, 3) := by decide +kernel
theorem d_Model_delete_5 : decode prog_13_method_20_code 5 = .ok (.aload_n 0, 1) := by decide +kernel
theorem d_Model_delete_6 : decode prog_13_method_20_code 6 = .ok (.aload_n 0, 1) := by decide +kernel
theorem d_Model_delete_7 : decode prog_13_method_20_code 7 = .ok (.iload_n 1, 1) := by decide +kernel
theorem d_Model_delete_8 : decode prog_13_method_20_code 8 = .ok (.invokevirtual 181, 3) := by decide +kernel
theorem d_Model_delete_11 : decode prog_13_method_20_code 11 = .ok (.ifCond .ne 7, 3) := by decide +kernel
theorem d_Model_delete_14 : decode prog_13_method_20_code 14 = .ok (.iconst 1, 1) := by decide +kernel
theorem d_Model_delete_15 : decode prog_13_method_20_code 15 = .ok (.goto 4, 3) := by decide +kernel
theorem d_Model_delete_18 : decode prog_13_method_20_code 18 = .ok (.iconst 0, 1) := by decide +kernel
theorem d_Model_delete_19 : decode prog_13_method_20_code 19 = .ok (.iconst 1, 1) := by decide +kernel
theorem d_Model_delete_20 : decode prog_13_method_20_code 20 = .ok (.invokevirtual 139, 3) := by decide +kernel
theorem d_Model_delete_23 : decode prog_13_method_20_code 23 = .ok (.ifCond .eq 5, 3) := by decide +kernel
theorem d_Model_delete_26 : decode prog_13_method_20_code 26 = .ok (.iconst 0, 1) := by decide +kernel
theorem d_Model_delete_27 : decode prog_13_method_20_code 27 = .ok (.ireturn, 1) := by decide +kernel
theorem d_Model_delete_28 : decode prog_13_method_20_code 28 = .ok (.aload_n 0, 1) := by decide +kernel
theorem d_Model_delete_29 : decode prog_13_method_20_code 29 = .ok (.iload_n 1, 1) := by decide +kernel
theorem d_Model_delete_30 : decode prog_13_method_20_code 30 = .ok (.iconst 1, 1) := by decide +kernel
theorem d_Model_delete_31 : decode prog_13_method_20_code 31 = .ok (.isub, 1) := by decide +kernel
theorem d_Model_delete_32 : decode prog_13_method_20_code 32 = .ok (.invokevirtual 184, 3) := by decide +kernel
theorem d_Model_delete_35 : decode prog_13_method_20_code 35 = .ok (.istore_n 2, 1) := by decide +kernel
theorem d_Model_delete_36 : decode prog_13_method_20_code 36 = .ok (.aload_n 0, 1) := by decide +kernel
theorem d_Model_delete_37 : decode prog_13_method_20_code 37 = .ok (.getfield 44, 3) := by decide +kernel
theorem d_Model_delete_40 : decode prog_13_method_20_code 40 = .ok (.iload_n 1, 1) := by decide +kernel
theorem d_Model_delete_41 : decode prog_13_method_20_code 41 = .ok (.iconst 1, 1) := by decide +kernel
theorem d_Model_delete_42 : decode prog_13_method_20_code 42 = .ok (.isub, 1) := by decide +kernel
theorem d_Model_delete_43 : decode prog_13_method_20_code 43 = .ok (.iconst (-1), 1) := by decide +kernel
theorem d_Model_delete_44 : decode prog_13_method_20_code 44 = .ok (.iastore, 1) := by decide +kernel
theorem d_Model_delete_45 : decode prog_13_method_20_code 45 = .ok (.iload_n 2, 1) := by decide +kernel
theorem d_Model_delete_46 : decode prog_13_method_20_code 46 = .ok (.ireturn, 1) := by decide +kernel
theorem d_Model_tokensOf_0 : decode prog_13_method_11_code 0 = .ok (.aload_n 0, 1) := by decide +kernel
theorem d_Model_tokensOf_1 : decode prog_13_method_11_code 1 = .ok (.iload_n 1, 1) := by decide +kernel
theorem d_Model_tokensOf_2 : decode prog_13_method_11_code 2 = .ok (.iconst 0, 1) := by decide +kernel
theorem d_Model_tokensOf_3 : decode prog_13_method_11_code 3 = .ok (.invokevirtual 153, 3) := by decide +kernel
theorem d_Model_tokensOf_6 : decode prog_13_method_11_code 6 = .ok (.aload_n 0, 1) := by decide +kernel
theorem d_Model_tokensOf_7 : decode prog_13_method_11_code 7 = .ok (.getfield 150, 3) := by decide +kernel
theorem d_Model_tokensOf_10 : decode prog_13_method_11_code 10 = .ok (.istore_n 2, 1) := by decide +kernel
theorem d_Model_tokensOf_11 : decode prog_13_method_11_code 11 = .ok (.aload_n 0, 1) := by decide +kernel
theorem d_Model_tokensOf_12 : decode prog_13_method_11_code 12 = .ok (.iload_n 1, 1) := by decide +kernel
theorem d_Model_tokensOf_13 : decode prog_13_method_11_code 13 = .ok (.iconst 1, 1) := by decide +kernel
theorem d_Model_tokensOf_14 : decode prog_13_method_11_code 14 = .ok (.invokevirtual 153, 3) := by decide +kernel
theorem d_Model_tokensOf_17 : decode prog_13_method_11_code 17 = .ok (.iload_n 2, 1) := by decide +kernel
theorem d_Model_tokensOf_18 : decode prog_13_method_11_code 18 = .ok (.aload_n 0, 1) := by decide +kernel
theorem d_Model_tokensOf_19 : decode prog_13_method_11_code 19 = .ok (.getfield 150, 3) := by decide +kernel
theorem d_Model_tokensOf_22 : decode prog_13_method_11_code 22 = .ok (.iadd, 1) := by decide +kernel
theorem d_Model_tokensOf_23 : decode prog_13_method_11_code 23 = .ok (.ireturn, 1) := by decide +kernel
theorem d_Model_flush_0 : decode prog_13_method_23_code 0 = .ok (.aload_n 0, 1) := by decide +kernel
theorem d_Model_flush_1 : decode prog_13_method_23_code 1 = .ok (.iconst 0, 1) := by decide +kernel
theorem d_Model_flush_2 : decode prog_13_method_23_code 2 = .ok (.putfield 130, 3) := by decide +kernel
theorem d_Model_flush_5 : decode prog_13_method_23_code 5 = .ok (.aload_n 0, 1) := by decide +kernel
theorem d_Model_flush_6 : decode prog_13_method_23_code 6 = .ok (.invokevirtual 175, 3) := by decide +kernel
theorem d_Model_flush_9 : decode prog_13_method_23_code 9 = .ok (.aload_n 0, 1) := by decide +kernel
theorem d_Model_flush_10 : decode prog_13_method_23_code 10 = .ok (.getfield 193, 3) := by decide +kernel
theorem d_Model_flush_13 : decode prog_13_method_23_code 13 = .ok (.ireturn, 1) := by decide +kernel
theorem d_Model_optimize_0 : decode prog_13_method_24_code 0 = .ok (.aload_n 0, 1) := by decide +kernel
theorem d_Model_optimize_1 : decode prog_13_method_24_code 1 = .ok (.iconst 0, 1) := by decide +kernel
theorem d_Model_optimize_2 : decode prog_13_method_24_code 2 = .ok (.putfield 130, 3) := by decide +kernel
theorem d_Model_optimize_5 : decode prog_13_method_24_code 5 = .ok (.aload_n 0, 1) := by decide +kernel
theorem d_Model_optimize_6 : decode prog_13_method_24_code 6 = .ok (.getfield 193, 3) := by decide +kernel
theorem d_Model_optimize_9 : decode prog_13_method_24_code 9 = .ok (.istore_n 1, 1) := by decide +kernel
theorem d_Model_optimize_10 : decode prog_13_method_24_code 10 = .ok (.iconst 0, 1) := by decide +kernel
theorem d_Model_optimize_11 : decode prog_13_method_24_code 11 = .ok (.istore_n 2, 1) := by decide +kernel
theorem d_Model_optimize_12 : decode prog_13_method_24_code 12 = .ok (.iconst 0, 1) := by decide +kernel
theorem d_Model_optimize_13 : decode prog_13_method_24_code 13 = .ok (.istore_n 3, 1) := by decide +kernel
theorem d_Model_optimize_14 : decode prog_13_method_24_code 14 = .ok (.iload_n 3, 1) := by decide +kernel
theorem d_Model_optimize_15 : decode prog_13_method_24_code 15 = .ok (.aload_n 0, 1) := by decide +kernel
theorem d_Model_optimize_16 : decode prog_13_method_24_code 16 = .ok (.getfield 193, 3) := by decide +kernel
theorem d_Model_optimize_19 : decode prog_13_method_24_code 19 = .ok (.if_icmp .ge 36, 3) := by decide +kernel
theorem d_Model_optimize_22 : decode prog_13_method_24_code 22 = .ok (.aload_n 0, 1) := by decide +kernel
theorem d_Model_optimize_23 : decode prog_13_method_24_code 23 = .ok (.getfield 50, 3) := by decide +kernel
theorem d_Model_optimize_26 : decode prog_13_method_24_code 26 = .ok (.aload_n 0, 1) := by decide +kernel
theorem d_Model_optimize_27 : decode prog_13_method_24_code 27 = .ok (.getfield 47, 3) := by decide +kernel
theorem d_Model_optimize_30 : decode prog_13_method_24_code 30 = .ok (.iload_n 3, 1) := by decide +kernel
theorem d_Model_optimize_31 : decode prog_13_method_24_code 31 = .ok (.iaload, 1) := by decide +kernel
theorem d_Model_optimize_32 : decode prog_13_method_24_code 32 = .ok (.iaload, 1) := by decide +kernel
theorem d_Model_optimize_33 : decode prog_13_method_24_code 33 = .ok (.iload_n 2, 1) := by decide +kernel
theorem d_Model_optimize_34 : decode prog_13_method_24_code 34 = .ok (.if_icmp .le 15, 3) := by decide +kernel
theorem d_Model_optimize_37 : decode prog_13_method_24_code 37 = .ok (.aload_n 0, 1) := by decide +kernel
theorem d_Model_optimize_38 : decode prog_13_method_24_code 38 = .ok (.getfield 50, 3) := by decide +kernel
theorem d_Model_optimize_41 : decode prog_13_method_24_code 41 = .ok (.aload_n 0, 1) := by decide +kernel
theorem d_Model_optimize_42 : decode prog_13_method_24_code 42 = .ok (.getfield 47, 3) := by decide +kernel
theorem d_Model_optimize_45 : decode prog_13_method_24_code 45 = .ok (.iload_n 3, 1) := by decide +kernel
theorem d_Model_optimize_46 : decode prog_13_method_24_code 46 = .ok (.iaload, 1) := by decide +kernel
theorem d_Model_optimize_47 : decode prog_13_method_24_code 47 = .ok (.iaload, 1) := by decide +kernel
theorem d_Model_optimize_48 : decode prog_13_method_24_code 48 = .ok (.istore_n 2, 1) := by decide +kernel
theorem d_Model_optimize_49 : decode prog_13_method_24_code 49 = .ok (.iinc 3 1, 3) := by decide +kernel
theorem d_Model_optimize_52 : decode prog_13_method_24_code 52 = .ok (.goto (-38), 3) := by decide +kernel
theorem d_Model_optimize_55 : decode prog_13_method_24_code 55 = .ok (.iload_n 1, 1) := by decide +kernel
theorem d_Model_optimize_56 : decode prog_13_method_24_code 56 = .ok (.ifCond .le 9, 3) := by decide +kernel
theorem d_Model_optimize_59 : decode prog_13_method_24_code 59 = .ok (.aload_n 0, 1) := by decide +kernel
theorem d_Model_optimize_60 : decode prog_13_method_24_code 60 = .ok (.iconst (-1), 1) := by decide +kernel
theorem d_Model_optimize_61 : decode prog_13_method_24_code 61 = .ok (.iload_n 2, 1) := by decide +kernel
theorem d_Model_optimize_62 : decode prog_13_method_24_code 62 = .ok (.invokevirtual 196, 3) := by decide +kernel
theorem d_Model_optimize_65 : decode prog_13_method_24_code 65 = .ok (.iload_n 1, 1) := by decide +kernel
theorem d_Model_optimize_66 : decode prog_13_method_24_code 66 = .ok (.ireturn, 1) := by decide +kernel
theorem d_Model_begin_0 : decode prog_13_method_25_code 0 = .ok (.aload_n 0, 1) := by decide +kernel
theorem d_Model_begin_1 : decode prog_13_method_25_code 1 = .ok (.iconst 0, 1) := by decide +kernel
theorem d_Model_begin_2 : decode prog_13_method_25_code 2 = .ok (.putfield 130, 3) := by decide +kernel
theorem d_Model_begin_5 : decode prog_13_method_25_code 5 = .ok (.aload_n 0, 1) := by decide +kernel
theorem d_Model_begin_6 : decode prog_13_method_25_code 6 = .ok (.aload_n 0, 1) := by decide +kernel
theorem d_Model_begin_7 : decode prog_13_method_25_code 7 = .ok (.getfield 199, 3) := by decide +kernel
theorem d_Model_begin_10 : decode prog_13_method_25_code 10 = .ok (.iconst 1, 1) := by decide +kernel
theorem d_Model_begin_11 : decode prog_13_method_25_code 11 = .ok (.invokevirtual 139, 3) := by decide +kernel
theorem d_Model_begin_14 : decode prog_13_method_25_code 14 = .ok (.ifCond .eq 4, 3) := by decide +kernel
theorem d_Model_begin_17 : decode prog_13_method_25_code 17 = .ok (.return_, 1) := by decide +kernel
theorem d_Model_begin_18 : decode prog_13_method_25_code 18 = .ok (.aload_n 0, 1) := by decide +kernel
theorem d_Model_begin_19 : decode prog_13_method_25_code 19 = .ok (.iconst 1, 1) := by decide +kernel
theorem d_Model_begin_20 : decode prog_13_method_25_code 20 = .ok (.putfield 199, 3) := by decide +kernel
theorem d_Model_begin_23 : decode prog_13_method_25_code 23 = .ok (.iconst 0, 1) := by decide +kernel
theorem d_Model_begin_24 : decode prog_13_method_25_code 24 = .ok (.istore_n 1, 1) := by decide +kernel
theorem d_Model_begin_25 : decode prog_13_method_25_code 25 = .ok (.iload_n 1, 1) := by decide +kernel
theorem d_Model_begin_26 : decode prog_13_method_25_code 26 = .ok (.sipush 2304, 3) := by decide +kernel
theorem d_Model_begin_29 : decode prog_13_method_25_code 29 = .ok (.if_icmp .ge 21, 3) := by decide +kernel
theorem d_Model_begin_32 : decode prog_13_method_25_code 32 = .ok (.aload_n 0, 1) := by decide +kernel
theorem d_Model_begin_33 : decode prog_13_method_25_code 33 = .ok (.getfield 53, 3) := by decide +kernel
theorem d_Model_begin_36 : decode prog_13_method_25_code 36 = .ok (.iload_n 1, 1) := by decide +kernel
theorem d_Model_begin_37 : decode prog_13_method_25_code 37 = .ok (.aload_n 0, 1) := by decide +kernel
theorem d_Model_begin_38 : decode prog_13_method_25_code 38 = .ok (.getfield 29, 3) := by decide +kernel
theorem d_Model_begin_41 : decode prog_13_method_25_code 41 = .ok (.iload_n 1, 1) := by decide +kernel
theorem d_Model_begin_42 : decode prog_13_method_25_code 42 = .ok (.iaload, 1) := by decide +kernel
theorem d_Model_begin_43 : decode prog_13_method_25_code 43 = .ok (.iastore, 1) := by decide +kernel
theorem d_Model_begin_44 : decode prog_13_method_25_code 44 = .ok (.iinc 1 1, 3) := by decide +kernel
theorem d_Model_begin_47 : decode prog_13_method_25_code 47 = .ok (.goto (-22), 3) := by decide +kernel
theorem d_Model_begin_50 : decode prog_13_method_25_code 50 = .ok (.iconst 0, 1) := by decide +kernel
theorem d_Model_begin_51 : decode prog_13_method_25_code 51 = .ok (.istore_n 1, 1) := by decide +kernel
theorem d_Model_begin_52 : decode prog_13_method_25_code 52 = .ok (.iload_n 1, 1) := by decide +kernel
theorem d_Model_begin_53 : decode prog_13_method_25_code 53 = .ok (.bipush 48, 2) := by decide +kernel
theorem d_Model_begin_55 : decode prog_13_method_25_code 55 = .ok (.if_icmp .ge 21, 3) := by decide +kernel
theorem d_Model_begin_58 : decode prog_13_method_25_code 58 = .ok (.aload_n 0, 1) := by decide +kernel
theorem d_Model_begin_59 : decode prog_13_method_25_code 59 = .ok (.getfield 56, 3) := by decide +kernel
theorem d_Model_begin_62 : decode prog_13_method_25_code 62 = .ok (.iload_n 1, 1) := by decide +kernel
theorem d_Model_begin_63 : decode prog_13_method_25_code 63 = .ok (.aload_n 0, 1) := by decide +kernel
theorem d_Model_begin_64 : decode prog_13_method_25_code 64 = .ok (.getfield 32, 3) := by decide +kernel
theorem d_Model_begin_67 : decode prog_13_method_25_code 67 = .ok (.iload_n 1, 1) := by decide +kernel
theorem d_Model_begin_68 : decode prog_13_method_25_code 68 = .ok (.iaload, 1) := by decide +kernel
theorem d_Model_begin_69 : decode prog_13_method_25_code 69 = .ok (.iastore, 1) := by decide +kernel
theorem d_Model_begin_70 : decode prog_13_method_25_code 70 = .ok (.iinc 1 1, 3) := by decide +kernel
theorem d_Model_begin_73 : decode prog_13_method_25_code 73 = .ok (.goto (-21), 3) := by decide +kernel
theorem d_Model_begin_76 : decode prog_13_method_25_code 76 = .ok (.iconst 0, 1) := by decide +kernel
theorem d_Model_begin_77 : decode prog_13_method_25_code 77 = .ok (.istore_n 1, 1) := by decide +kernel
theorem d_Model_begin_78 : decode prog_13_method_25_code 78 = .ok (.iload_n 1, 1) := by decide +kernel
theorem d_Model_begin_79 : decode prog_13_method_25_code 79 = .ok (.bipush 24, 2) := by decide +kernel
theorem d_Model_begin_81 : decode prog_13_method_25_code 81 = .ok (.if_icmp .ge 21, 3) := by decide +kernel
theorem d_Model_begin_84 : decode prog_13_method_25_code 84 = .ok (.aload_n 0, 1) := by decide +kernel
theorem d_Model_begin_85 : decode prog_13_method_25_code 85 = .ok (.getfield 62, 3) := by decide +kernel
theorem d_Model_begin_88 : decode prog_13_method_25_code 88 = .ok (.iload_n 1, 1) := by decide +kernel
theorem d_Model_begin_89 : decode prog_13_method_25_code 89 = .ok (.aload_n 0, 1) := by decide +kernel
theorem d_Model_begin_90 : decode prog_13_method_25_code 90 = .ok (.getfield 44, 3) := by decide +kernel
theorem d_Model_begin_93 : decode prog_13_method_25_code 93 = .ok (.iload_n 1, 1) := by decide +kernel
theorem d_Model_begin_94 : decode prog_13_method_25_code 94 = .ok (.iaload, 1) := by decide +kernel
theorem d_Model_begin_95 : decode prog_13_method_25_code 95 = .ok (.iastore, 1) := by decide +kernel
theorem d_Model_begin_96 : decode prog_13_method_25_code 96 = .ok (.iinc 1 1, 3) := by decide +kernel
theorem d_Model_begin_99 : decode prog_13_method_25_code 99 = .ok (.goto (-21), 3) := by decide +kernel
theorem d_Model_begin_102 : decode prog_13_method_25_code 102 = .ok (.iconst 0, 1) := by decide +kernel
theorem d_Model_begin_103 : decode prog_13_method_25_code 103 = .ok (.istore_n 1, 1) := by decide +kernel
theorem d_Model_begin_104 : decode prog_13_method_25_code 104 = .ok (.iload_n 1, 1) := by decide +kernel
theorem d_Model_begin_105 : decode prog_13_method_25_code 105 = .ok (.sipush 600, 3) := by decide +kernel
theorem d_Model_begin_108 : decode prog_13_method_25_code 108 = .ok (.if_icmp .ge 33, 3) := by decide +kernel
theorem d_Model_begin_111 : decode prog_13_method_25_code 111 = .ok (.aload_n 0, 1) := by decide +kernel
theorem d_Model_begin_112 : decode prog_13_method_25_code 112 = .ok (.getfield 59, 3) := by decide +kernel
theorem d_Model_begin_115 : decode prog_13_method_25_code 115 = .ok (.iload_n 1, 1) := by decide +kernel
theorem d_Model_begin_116 : decode prog_13_method_25_code 116 = .ok (.aload_n 0, 1) := by decide +kernel
theorem d_Model_begin_117 : decode prog_13_method_25_code 117 = .ok (.getfield 41, 3) := by decide +kernel
theorem d_Model_begin_120 : decode prog_13_method_25_code 120 = .ok (.iload_n 1, 1) := by decide +kernel
theorem d_Model_begin_121 : decode prog_13_method_25_code 121 = .ok (.iaload, 1) := by decide +kernel
theorem d_Model_begin_122 : decode prog_13_method_25_code 122 = .ok (.iastore, 1) := by decide +kernel
theorem d_Model_begin_123 : decode prog_13_method_25_code 123 = .ok (.aload_n 0, 1) := by decide +kernel
theorem d_Model_begin_124 : decode prog_13_method_25_code 124 = .ok (.getfield 65, 3) := by decide +kernel
theorem d_Model_begin_127 : decode prog_13_method_25_code 127 = .ok (.iload_n 1, 1) := by decide +kernel
theorem d_Model_begin_128 : decode prog_13_method_25_code 128 = .ok (.aload_n 0, 1) := by decide +kernel
theorem d_Model_begin_129 : decode prog_13_method_25_code 129 = .ok (.getfield 47, 3) := by decide +kernel
theorem d_Model_begin_132 : decode prog_13_method_25_code 132 = .ok (.iload_n 1, 1) := by decide +kernel
theorem d_Model_begin_133 : decode prog_13_method_25_code 133 = .ok (.iaload, 1) := by decide +kernel
theorem d_Model_begin_134 : decode prog_13_method_25_code 134 = .ok (.iastore, 1) := by decide +kernel
theorem d_Model_begin_135 : decode prog_13_method_25_code 135 = .ok (.iinc 1 1, 3) := by decide +kernel
theorem d_Model_begin_138 : decode prog_13_method_25_code 138 = .ok (.goto (-34), 3) := by decide +kernel
theorem d_Model_begin_141 : decode prog_13_method_25_code 141 = .ok (.aload_n 0, 1) := by decide +kernel
theorem d_Model_begin_142 : decode prog_13_method_25_code 142 = .ok (.aload_n 0, 1) := by decide +kernel
theorem d_Model_begin_143 : decode prog_13_method_25_code 143 = .ok (.getfield 165, 3) := by decide +kernel
theorem d_Model_begin_146 : decode prog_13_method_25_code 146 = .ok (.putfield 203, 3) := by decide +kernel
theorem d_Model_begin_149 : decode prog_13_method_25_code 149 = .ok (.aload_n 0, 1) := by decide +kernel
theorem d_Model_begin_150 : decode prog_13_method_25_code 150 = .ok (.aload_n 0, 1) := by decide +kernel
theorem d_Model_begin_151 : decode prog_13_method_25_code 151 = .ok (.getfield 193, 3) := by decide +kernel
theorem d_Model_begin_154 : decode prog_13_method_25_code 154 = .ok (.putfield 206, 3) := by decide +kernel
theorem d_Model_begin_157 : decode prog_13_method_25_code 157 = .ok (.return_, 1) := by decide +kernel
theorem d_Model_commit_0 : decode prog_13_method_26_code 0 = .ok (.aload_n 0, 1) := by decide +kernel
theorem d_Model_commit_1 : decode prog_13_method_26_code 1 = .ok (.iconst 0, 1) := by decide +kernel
theorem d_Model_commit_2 : decode prog_13_method_26_code 2 = .ok (.putfield 130, 3) := by decide +kernel
theorem d_Model_commit_5 : decode prog_13_method_26_code 5 = .ok (.aload_n 0, 1) := by decide +kernel
theorem d_Model_commit_6 : decode prog_13_method_26_code 6 = .ok (.aload_n 0, 1) := by decide +kernel
theorem d_Model_commit_7 : decode prog_13_method_26_code 7 = .ok (.getfield 199, 3) := by decide +kernel
theorem d_Model_commit_10 : decode prog_13_method_26_code 10 = .ok (.ifCond .ne 7, 3) := by decide +kernel
theorem d_Model_commit_13 : decode prog_13_method_26_code 13 = .ok (.iconst 1, 1) := by decide +kernel
theorem d_Model_commit_14 : decode prog_13_method_26_code 14 = .ok (.goto 4, 3) := by decide +kernel
theorem d_Model_commit_17 : decode prog_13_method_26_code 17 = .ok (.iconst 0, 1) := by decide +kernel
theorem d_Model_commit_18 : decode prog_13_method_26_code 18 = .ok (.iconst 1, 1) := by decide +kernel
theorem d_Model_commit_19 : decode prog_13_method_26_code 19 = .ok (.invokevirtual 139, 3) := by decide +kernel
theorem d_Model_commit_22 : decode prog_13_method_26_code 22 = .ok (.ifCond .eq 5, 3) := by decide +kernel
theorem d_Model_commit_25 : decode prog_13_method_26_code 25 = .ok (.iconst 0, 1) := by decide +kernel
theorem d_Model_commit_26 : decode prog_13_method_26_code 26 = .ok (.ireturn, 1) := by decide +kernel
theorem d_Model_commit_27 : decode prog_13_method_26_code 27 = .ok (.aload_n 0, 1) := by decide +kernel
theorem d_Model_commit_28 : decode prog_13_method_26_code 28 = .ok (.iconst 0, 1) := by decide +kernel
theorem d_Model_commit_29 : decode prog_13_method_26_code 29 = .ok (.putfield 199, 3) := by decide +kernel
theorem d_Model_commit_32 : decode prog_13_method_26_code 32 = .ok (.aload_n 0, 1) := by decide +kernel
theorem d_Model_commit_33 : decode prog_13_method_26_code 33 = .ok (.invokevirtual 175, 3) := by decide +kernel
theorem d_Model_commit_36 : decode prog_13_method_26_code 36 = .ok (.aload_n 0, 1) := by decide +kernel
theorem d_Model_commit_37 : decode prog_13_method_26_code 37 = .ok (.getfield 193, 3) := by decide +kernel
theorem d_Model_commit_40 : decode prog_13_method_26_code 40 = .ok (.ireturn, 1) := by decide +kernel
theorem d_Model_rollback_0 : decode prog_13_method_27_code 0 = .ok (.aload_n 0, 1) := by decide +kernel
theorem d_Model_rollback_1 : decode prog_13_method_27_code 1 = .ok (.iconst 0, 1) := by decide +kernel
theorem d_Model_rollback_2 : decode prog_13_method_27_code 2 = .ok (.putfield 130, 3) := by decide +kernel
theorem d_Model_rollback_5 : decode prog_13_method_27_code 5 = .ok (.aload_n 0, 1) := by decide +kernel
theorem d_Model_rollback_6 : decode prog_13_method_27_code 6 = .ok (.aload_n 0, 1) := by decide +kernel
theorem d_Model_rollback_7 : decode prog_13_method_27_code 7 = .ok (.getfield 199, 3) := by decide +kernel
theorem d_Model_rollback_10 : decode prog_13_method_27_code 10 = .ok (.ifCond .ne 7, 3) := by decide +kernel
theorem d_Model_rollback_13 : decode prog_13_method_27_code 13 = .ok (.iconst 1, 1) := by decide +kernel
theorem d_Model_rollback_14 : decode prog_13_method_27_code 14 = .ok (.goto 4, 3) := by decide +kernel
theorem d_Model_rollback_17 : decode prog_13_method_27_code 17 = .ok (.iconst 0, 1) := by decide +kernel
theorem d_Model_rollback_18 : decode prog_13_method_27_code 18 = .ok (.iconst 1, 1) := by decide +kernel
theorem d_Model_rollback_19 : decode prog_13_method_27_code 19 = .ok (.invokevirtual 139, 3) := by decide +kernel
theorem d_Model_rollback_22 : decode prog_13_method_27_code 22 = .ok (.ifCond .eq 5, 3) := by decide +kernel
theorem d_Model_rollback_25 : decode prog_13_method_27_code 25 = .ok (.iconst 0, 1) := by decide +kernel
theorem d_Model_rollback_26 : decode prog_13_method_27_code 26 = .ok (.ireturn, 1) := by decide +kernel
theorem d_Model_rollback_27 : decode prog_13_method_27_code 27 = .ok (.aload_n 0, 1) := by decide +kernel
theorem d_Model_rollback_28 : decode prog_13_method_27_code 28 = .ok (.iconst 0, 1) := by decide +kernel
theorem d_Model_rollback_29 : decode prog_13_method_27_code 29 = .ok (.putfield 199, 3) := by decide +kernel
theorem d_Model_rollback_32 : decode prog_13_method_27_code 32 = .ok (.iconst 0, 1) := by decide +kernel
theorem d_Model_rollback_33 : decode prog_13_method_27_code 33 = .ok (.istore_n 1, 1) := by decide +kernel
theorem d_Model_rollback_34 : decode prog_13_method_27_code 34 = .ok (.iload_n 1, 1) := by decide +kernel
theorem d_Model_rollback_35 : decode prog_13_method_27_code 35 = .ok (.sipush 2304, 3) := by decide +kernel
theorem d_Model_rollback_38 : decode prog_13_method_27_code 38 = .ok (.if_icmp .ge 21, 3) := by decide +kernel
theorem d_Model_rollback_41 : decode prog_13_method_27_code 41 = .ok (.aload_n 0, 1) := by decide +kernel
theorem d_Model_rollback_42 : decode prog_13_method_27_code 42 = .ok (.getfield 29, 3) := by decide +kernel
theorem d_Model_rollback_45 : decode prog_13_method_27_code 45 = .ok (.iload_n 1, 1) := by decide +kernel
theorem d_Model_rollback_46 : decode prog_13_method_27_code 46 = .ok (.aload_n 0, 1) := by decide +kernel
theorem d_Model_rollback_47 : decode prog_13_method_27_code 47 = .ok (.getfield 53, 3) := by decide +kernel
theorem d_Model_rollback_50 : decode prog_13_method_27_code 50 = .ok (.iload_n 1, 1) := by decide +kernel
theorem d_Model_rollback_51 : decode prog_13_method_27_code 51 = .ok (.iaload, 1) := by decide +kernel
theorem d_Model_rollback_52 : decode prog_13_method_27_code 52 = .ok (.iastore, 1) := by decide +kernel
theorem d_Model_rollback_53 : decode prog_13_method_27_code 53 = .ok (.iinc 1 1, 3) := by decide +kernel
theorem d_Model_rollback_56 : decode prog_13_method_27_code 56 = .ok (.goto (-22), 3) := by decide +kernel
theorem d_Model_rollback_59 : decode prog_13_method_27_code 59 = .ok (.iconst 0, 1) := by decide +kernel
theorem d_Model_rollback_60 : decode prog_13_method_27_code 60 = .ok (.istore_n 1, 1) := by decide +kernel
theorem d_Model_rollback_61 : decode prog_13_method_27_code 61 = .ok (.iload_n 1, 1) := by decide +kernel
theorem d_Model_rollback_62 : decode prog_13_method_27_code 62 = .ok (.bipush 48, 2) := by decide +kernel
theorem d_Model_rollback_64 : decode prog_13_method_27_code 64 = .ok (.if_icmp .ge 21, 3) := by decide +kernel
theorem d_Model_rollback_67 : decode prog_13_method_27_code 67 = .ok (.aload_n 0, 1) := by decide +kernel
theorem d_Model_rollback_68 : decode prog_13_method_27_code 68 = .ok (.getfield 32, 3) := by decide +kernel
theorem d_Model_rollback_71 : decode prog_13_method_27_code 71 = .ok (.iload_n 1, 1) := by decide +kernel
theorem d_Model_rollback_72 : decode prog_13_method_27_code 72 = .ok (.aload_n 0, 1) := by decide +kernel
theorem d_Model_rollback_73 : decode prog_13_method_27_code 73 = .ok (.getfield 56, 3) := by decide +kernel
theorem d_Model_rollback_76 : decode prog_13_method_27_code 76 = .ok (.iload_n 1, 1) := by decide +kernel
theorem d_Model_rollback_77 : decode prog_13_method_27_code 77 = .ok (.iaload, 1) := by decide +kernel
theorem d_Model_rollback_78 : decode prog_13_method_27_code 78 = .ok (.iastore, 1) := by decide +kernel
theorem d_Model_rollback_79 : decode prog_13_method_27_code 79 = .ok (.iinc 1 1, 3) := by decide +kernel
theorem d_Model_rollback_82 : decode prog_13_method_27_code 82 = .ok (.goto (-21), 3) := by decide +kernel
theorem d_Model_rollback_85 : decode prog_13_method_27_code 85 = .ok (.iconst 0, 1) := by decide +kernel
theorem d_Model_rollback_86 : decode prog_13_method_27_code 86 = .ok (.istore_n 1, 1) := by decide +kernel
theorem d_Model_rollback_87 : decode prog_13_method_27_code 87 = .ok (.iload_n 1, 1) := by decide +kernel
theorem d_Model_rollback_88 : decode prog_13_method_27_code 88 = .ok (.bipush 24, 2) := by decide +kernel
theorem d_Model_rollback_90 : decode prog_13_method_27_code 90 = .ok (.if_icmp .ge 21, 3) := by decide +kernel
theorem d_Model_rollback_93 : decode prog_13_method_27_code 93 = .ok (.aload_n 0, 1) := by decide +kernel
theorem d_Model_rollback_94 : decode prog_13_method_27_code 94 = .ok (.getfield 44, 3) := by decide +kernel
theorem d_Model_rollback_97 : decode prog_13_method_27_code 97 = .ok (.iload_n 1, 1) := by decide +kernel
theorem d_Model_rollback_98 : decode prog_13_method_27_code 98 = .ok (.aload_n 0, 1) := by decide +kernel
theorem d_Model_rollback_99 : decode prog_13_method_27_code 99 = .ok (.getfield 62, 3) := by decide +kernel
theorem d_Model_rollback_102 : decode prog_13_method_27_code 102 = .ok (.iload_n 1, 1) := by decide +kernel
theorem d_Model_rollback_103 : decode prog_13_method_27_code 103 = .ok (.iaload, 1) := by decide +kernel
theorem d_Model_rollback_104 : decode prog_13_method_27_code 104 = .ok (.iastore, 1) := by decide +kernel
theorem d_Model_rollback_105 : decode prog_13_method_27_code 105 = .ok (.iinc 1 1, 3) := by decide +kernel
theorem d_Model_rollback_108 : decode prog_13_method_27_code 108 = .ok (.goto (-21), 3) := by decide +kernel
theorem d_Model_rollback_111 : decode prog_13_method_27_code 111 = .ok (.iconst 0, 1) := by decide +kernel
theorem d_Model_rollback_112 : decode prog_13_method_27_code 112 = .ok (.istore_n 1, 1) := by decide +kernel
theorem d_Model_rollback_113 : decode prog_13_method_27_code 113 = .ok (.iload_n 1, 1) := by decide +kernel
theorem d_Model_rollback_114 : decode prog_13_method_27_code 114 = .ok (.sipush 600, 3) := by decide +kernel
theorem d_Model_rollback_117 : decode prog_13_method_27_code 117 = .ok (.if_icmp .ge 45, 3) := by decide +kernel
theorem d_Model_rollback_120 : decode prog_13_method_27_code 120 = .ok (.aload_n 0, 1) := by decide +kernel
theorem d_Model_rollback_121 : decode prog_13_method_27_code 121 = .ok (.getfield 41, 3) := by decide +kernel
theorem d_Model_rollback_124 : decode prog_13_method_27_code 124 = .ok (.iload_n 1, 1) := by decide +kernel
theorem d_Model_rollback_125 : decode prog_13_method_27_code 125 = .ok (.iload_n 1, 1) := by decide +kernel
theorem d_Model_rollback_126 : decode prog_13_method_27_code 126 = .ok (.aload_n 0, 1) := by decide +kernel
theorem d_Model_rollback_127 : decode prog_13_method_27_code 127 = .ok (.getfield 203, 3) := by decide +kernel
theorem d_Model_rollback_130 : decode prog_13_method_27_code 130 = .ok (.if_icmp .ge 12, 3) := by decide +kernel
theorem d_Model_rollback_133 : decode prog_13_method_27_code 133 = .ok (.aload_n 0, 1) := by decide +kernel
theorem d_Model_rollback_134 : decode prog_13_method_27_code 134 = .ok (.getfield 59, 3) := by decide +kernel
theorem d_Model_rollback_137 : decode prog_13_method_27_code 137 = .ok (.iload_n 1, 1) := by decide +kernel
theorem d_Model_rollback_138 : decode prog_13_method_27_code 138 = .ok (.iaload, 1) := by decide +kernel
theorem d_Model_rollback_139 : decode prog_13_method_27_code 139 = .ok (.goto 4, 3) := by decide +kernel
theorem d_Model_rollback_142 : decode prog_13_method_27_code 142 = .ok (.iconst (-1), 1) := by decide +kernel
theorem d_Model_rollback_143 : decode prog_13_method_27_code 143 = .ok (.iastore, 1) := by decide +kernel
theorem d_Model_rollback_144 : decode prog_13_method_27_code 144 = .ok (.aload_n 0, 1) := by decide +kernel
theorem d_Model_rollback_145 : decode prog_13_method_27_code 145 = .ok (.getfield 47, 3) := by decide +kernel
theorem d_Model_rollback_148 : decode prog_13_method_27_code 148 = .ok (.iload_n 1, 1) := by decide +kernel
theorem d_Model_rollback_149 : decode prog_13_method_27_code 149 = .ok (.aload_n 0, 1) := by decide +kernel
theorem d_Model_rollback_150 : decode prog_13_method_27_code 150 = .ok (.getfield 65, 3) := by decide +kernel
theorem d_Model_rollback_153 : decode prog_13_method_27_code 153 = .ok (.iload_n 1, 1) := by decide +kernel
theorem d_Model_rollback_154 : decode prog_13_method_27_code 154 = .ok (.iaload, 1) := by decide +kernel
theorem d_Model_rollback_155 : decode prog_13_method_27_code 155 = .ok (.iastore, 1) := by decide +kernel
theorem d_Model_rollback_156 : decode prog_13_method_27_code 156 = .ok (.iinc 1 1, 3) := by decide +kernel
theorem d_Model_rollback_159 : decode prog_13_method_27_code 159 = .ok (.goto (-46), 3) := by decide +kernel
theorem d_Model_rollback_162 : decode prog_13_method_27_code 162 = .ok (.aload_n 0, 1) := by decide +kernel
theorem d_Model_rollback_163 : decode prog_13_method_27_code 163 = .ok (.aload_n 0, 1) := by decide +kernel
theorem d_Model_rollback_164 : decode prog_13_method_27_code 164 = .ok (.getfield 206, 3) := by decide +kernel
theorem d_Model_rollback_167 : decode prog_13_method_27_code 167 = .ok (.putfield 193, 3) := by decide +kernel
theorem d_Model_rollback_170 : decode prog_13_method_27_code 170 = .ok (.aload_n 0, 1) := by decide +kernel
theorem d_Model_rollback_171 : decode prog_13_method_27_code 171 = .ok (.invokevirtual 209, 3) := by decide +kernel
theorem d_Model_rollback_174 : decode prog_13_method_27_code 174 = .ok (.ireturn, 1) := by decide +kernel
theorem d_Model_rows_0 : decode prog_13_method_28_code 0 = .ok (.iconst 0, 1) := by decide +kernel
theorem d_Model_rows_1 : decode prog_13_method_28_code 1 = .ok (.istore_n 1, 1) := by decide +kernel
theorem d_Model_rows_2 : decode prog_13_method_28_code 2 = .ok (.iconst 0, 1) := by decide +kernel
theorem d_Model_rows_3 : decode prog_13_method_28_code 3 = .ok (.istore_n 2, 1) := by decide +kernel
theorem d_Model_rows_4 : decode prog_13_method_28_code 4 = .ok (.iload_n 2, 1) := by decide +kernel
theorem d_Model_rows_5 : decode prog_13_method_28_code 5 = .ok (.bipush 24, 2) := by decide +kernel
theorem d_Model_rows_7 : decode prog_13_method_28_code 7 = .ok (.if_icmp .ge 21, 3) := by decide +kernel
theorem d_Model_rows_10 : decode prog_13_method_28_code 10 = .ok (.aload_n 0, 1) := by decide +kernel
theorem d_Model_rows_11 : decode prog_13_method_28_code 11 = .ok (.getfield 44, 3) := by decide +kernel
theorem d_Model_rows_14 : decode prog_13_method_28_code 14 = .ok (.iload_n 2, 1) := by decide +kernel
theorem d_Model_rows_15 : decode prog_13_method_28_code 15 = .ok (.iaload, 1) := by decide +kernel
theorem d_Model_rows_16 : decode prog_13_method_28_code 16 = .ok (.ifCond .lt 6, 3) := by decide +kernel
theorem d_Model_rows_19 : decode prog_13_method_28_code 19 = .ok (.iinc 1 1, 3) := by decide +kernel
theorem d_Model_rows_22 : decode prog_13_method_28_code 22 = .ok (.iinc 2 1, 3) := by decide +kernel
theorem d_Model_rows_25 : decode prog_13_method_28_code 25 = .ok (.goto (-21), 3) := by decide +kernel
theorem d_Model_rows_28 : decode prog_13_method_28_code 28 = .ok (.iload_n 1, 1) := by decide +kernel
theorem d_Model_rows_29 : decode prog_13_method_28_code 29 = .ok (.ireturn, 1) := by decide +kernel
theorem d_Model_ways_0 : decode prog_13_method_29_code 0 = .ok (.aload_n 0, 1) := by decide +kernel
theorem d_Model_ways_1 : decode prog_13_method_29_code 1 = .ok (.iconst 0, 1) := by decide +kernel
theorem d_Model_ways_2 : decode prog_13_method_29_code 2 = .ok (.putfield 130, 3) := by decide +kernel
theorem d_Model_ways_5 : decode prog_13_method_29_code 5 = .ok (.aload_n 0, 1) := by decide +kernel
theorem d_Model_ways_6 : decode prog_13_method_29_code 6 = .ok (.iload_n 1, 1) := by decide +kernel
theorem d_Model_ways_7 : decode prog_13_method_29_code 7 = .ok (.iconst 1, 1) := by decide +kernel
theorem d_Model_ways_8 : decode prog_13_method_29_code 8 = .ok (.bipush 9, 2) := by decide +kernel
theorem d_Model_ways_10 : decode prog_13_method_29_code 10 = .ok (.invokestatic 133, 3) := by decide +kernel
theorem d_Model_ways_13 : decode prog_13_method_29_code 13 = .ok (.ifCond .eq 14, 3) := by decide +kernel
theorem d_Model_ways_16 : decode prog_13_method_29_code 16 = .ok (.iload_n 2, 1) := by decide +kernel
theorem d_Model_ways_17 : decode prog_13_method_29_code 17 = .ok (.iconst 0, 1) := by decide +kernel
theorem d_Model_ways_18 : decode prog_13_method_29_code 18 = .ok (.sipush 200, 3) := by decide +kernel
theorem d_Model_ways_21 : decode prog_13_method_29_code 21 = .ok (.invokestatic 133, 3) := by decide +kernel
theorem d_Model_ways_24 : decode prog_13_method_29_code 24 = .ok (.ifCond .ne 7, 3) := by decide +kernel
theorem d_Model_ways_27 : decode prog_13_method_29_code 27 = .ok (.iconst 1, 1) := by decide +kernel
theorem d_Model_ways_28 : decode prog_13_method_29_code 28 = .ok (.goto 4, 3) := by decide +kernel
theorem d_Model_ways_31 : decode prog_13_method_29_code 31 = .ok (.iconst 0, 1) := by decide +kernel
theorem d_Model_ways_32 : decode prog_13_method_29_code 32 = .ok (.iconst 1, 1) := by decide +kernel
theorem d_Model_ways_33 : decode prog_13_method_29_code 33 = .ok (.invokevirtual 139, 3) := by decide +kernel
theorem d_Model_ways_36 : decode prog_13_method_29_code 36 = .ok (.ifCond .eq 4, 3) := by decide +kernel
theorem d_Model_ways_39 : decode prog_13_method_29_code 39 = .ok (.return_, 1) := by decide +kernel
theorem d_Model_ways_40 : decode prog_13_method_29_code 40 = .ok (.aload_n 0, 1) := by decide +kernel
theorem d_Model_ways_41 : decode prog_13_method_29_code 41 = .ok (.iload_n 1, 1) := by decide +kernel
theorem d_Model_ways_42 : decode prog_13_method_29_code 42 = .ok (.putfield 7, 3) := by decide +kernel
theorem d_Model_ways_45 : decode prog_13_method_29_code 45 = .ok (.aload_n 0, 1) := by decide +kernel
theorem d_Model_ways_46 : decode prog_13_method_29_code 46 = .ok (.iload_n 2, 1) := by decide +kernel
theorem d_Model_ways_47 : decode prog_13_method_29_code 47 = .ok (.putfield 13, 3) := by decide +kernel
theorem d_Model_ways_50 : decode prog_13_method_29_code 50 = .ok (.return_, 1) := by decide +kernel
theorem d_Model_weight_0 : decode prog_13_method_30_code 0 = .ok (.aload_n 0, 1) := by decide +kernel
theorem d_Model_weight_1 : decode prog_13_method_30_code 1 = .ok (.iconst 0, 1) := by decide +kernel
theorem d_Model_weight_2 : decode prog_13_method_30_code 2 = .ok (.putfield 130, 3) := by decide +kernel
theorem d_Model_weight_5 : decode prog_13_method_30_code 5 = .ok (.aload_n 0, 1) := by decide +kernel
theorem d_Model_weight_6 : decode prog_13_method_30_code 6 = .ok (.iload_n 1, 1) := by decide +kernel
theorem d_Model_weight_7 : decode prog_13_method_30_code 7 = .ok (.iconst 0, 1) := by decide +kernel
theorem d_Model_weight_8 : decode prog_13_method_30_code 8 = .ok (.iconst 1, 1) := by decide +kernel
theorem d_Model_weight_9 : decode prog_13_method_30_code 9 = .ok (.invokestatic 133, 3) := by decide +kernel
theorem d_Model_weight_12 : decode prog_13_method_30_code 12 = .ok (.ifCond .eq 13, 3) := by decide +kernel
theorem d_Model_weight_15 : decode prog_13_method_30_code 15 = .ok (.iload_n 2, 1) := by decide +kernel
theorem d_Model_weight_16 : decode prog_13_method_30_code 16 = .ok (.iconst 0, 1) := by decide +kernel
theorem d_Model_weight_17 : decode prog_13_method_30_code 17 = .ok (.bipush 9, 2) := by decide +kernel
theorem d_Model_weight_19 : decode prog_13_method_30_code 19 = .ok (.invokestatic 133, 3) := by decide +kernel
theorem d_Model_weight_22 : decode prog_13_method_30_code 22 = .ok (.ifCond .ne 7, 3) := by decide +kernel
theorem d_Model_weight_25 : decode prog_13_method_30_code 25 = .ok (.iconst 1, 1) := by decide +kernel
theorem d_Model_weight_26 : decode prog_13_method_30_code 26 = .ok (.goto 4, 3) := by decide +kernel
theorem d_Model_weight_29 : decode prog_13_method_30_code 29 = .ok (.iconst 0, 1) := by decide +kernel
theorem d_Model_weight_30 : decode prog_13_method_30_code 30 = .ok (.iconst 1, 1) := by decide +kernel
theorem d_Model_weight_31 : decode prog_13_method_30_code 31 = .ok (.invokevirtual 139, 3) := by decide +kernel
theorem d_Model_weight_34 : decode prog_13_method_30_code 34 = .ok (.ifCond .eq 5, 3) := by decide +kernel
theorem d_Model_weight_37 : decode prog_13_method_30_code 37 = .ok (.iconst 0, 1) := by decide +kernel
theorem d_Model_weight_38 : decode prog_13_method_30_code 38 = .ok (.ireturn, 1) := by decide +kernel
theorem d_Model_weight_39 : decode prog_13_method_30_code 39 = .ok (.aload_n 0, 1) := by decide +kernel
theorem d_Model_weight_40 : decode prog_13_method_30_code 40 = .ok (.getfield 35, 3) := by decide +kernel
theorem d_Model_weight_43 : decode prog_13_method_30_code 43 = .ok (.iload_n 1, 1) := by decide +kernel
theorem d_Model_weight_44 : decode prog_13_method_30_code 44 = .ok (.iaload, 1) := by decide +kernel
theorem d_Model_weight_45 : decode prog_13_method_30_code 45 = .ok (.istore_n 3, 1) := by decide +kernel
theorem d_Model_weight_46 : decode prog_13_method_30_code 46 = .ok (.aload_n 0, 1) := by decide +kernel
theorem d_Model_weight_47 : decode prog_13_method_30_code 47 = .ok (.getfield 35, 3) := by decide +kernel
theorem d_Model_weight_50 : decode prog_13_method_30_code 50 = .ok (.iload_n 1, 1) := by decide +kernel
theorem d_Model_weight_51 : decode prog_13_method_30_code 51 = .ok (.iload_n 2, 1) := by decide +kernel
theorem d_Model_weight_52 : decode prog_13_method_30_code 52 = .ok (.iastore, 1) := by decide +kernel
theorem d_Model_weight_53 : decode prog_13_method_30_code 53 = .ok (.iload_n 3, 1) := by decide +kernel
theorem d_Model_weight_54 : decode prog_13_method_30_code 54 = .ok (.ireturn, 1) := by decide +kernel
theorem d_Model_ask_0 : decode prog_13_method_61_code 0 = .ok (.aload_n 0, 1) := by decide +kernel
theorem d_Model_ask_1 : decode prog_13_method_61_code 1 = .ok (.iconst 0, 1) := by decide +kernel
theorem d_Model_ask_2 : decode prog_13_method_61_code 2 = .ok (.putfield 130, 3) := by decide +kernel
theorem d_Model_ask_5 : decode prog_13_method_61_code 5 = .ok (.iconst 0, 1) := by decide +kernel
theorem d_Model_ask_6 : decode prog_13_method_61_code 6 = .ok (.istore_n 1, 1) := by decide +kernel
theorem d_Model_ask_7 : decode prog_13_method_61_code 7 = .ok (.iload_n 1, 1) := by decide +kernel
theorem d_Model_ask_8 : decode prog_13_method_61_code 8 = .ok (.aload_n 0, 1) := by decide +kernel
theorem d_Model_ask_9 : decode prog_13_method_61_code 9 = .ok (.getfield 143, 3) := by decide +kernel
theorem d_Model_ask_12 : decode prog_13_method_61_code 12 = .ok (.if_icmp .ge 21, 3) := by decide +kernel
theorem d_Model_ask_15 : decode prog_13_method_61_code 15 = .ok (.aload_n 0, 1) := by decide +kernel
theorem d_Model_ask_16 : decode prog_13_method_61_code 16 = .ok (.getfield 20, 3) := by decide +kernel
theorem d_Model_ask_19 : decode prog_13_method_61_code 19 = .ok (.iload_n 1, 1) := by decide +kernel
theorem d_Model_ask_20 : decode prog_13_method_61_code 20 = .ok (.aload_n 0, 1) := by decide +kernel
theorem d_Model_ask_21 : decode prog_13_method_61_code 21 = .ok (.getfield 16, 3) := by decide +kernel
theorem d_Model_ask_24 : decode prog_13_method_61_code 24 = .ok (.iload_n 1, 1) := by decide +kernel
theorem d_Model_ask_25 : decode prog_13_method_61_code 25 = .ok (.iaload, 1) := by decide +kernel
theorem d_Model_ask_26 : decode prog_13_method_61_code 26 = .ok (.iastore, 1) := by decide +kernel
theorem d_Model_ask_27 : decode prog_13_method_61_code 27 = .ok (.iinc 1 1, 3) := by decide +kernel
theorem d_Model_ask_30 : decode prog_13_method_61_code 30 = .ok (.goto (-23), 3) := by decide +kernel
theorem d_Model_ask_33 : decode prog_13_method_61_code 33 = .ok (.aload_n 0, 1) := by decide +kernel
theorem d_Model_ask_34 : decode prog_13_method_61_code 34 = .ok (.aload_n 0, 1) := by decide +kernel
theorem d_Model_ask_35 : decode prog_13_method_61_code 35 = .ok (.getfield 143, 3) := by decide +kernel
theorem d_Model_ask_38 : decode prog_13_method_61_code 38 = .ok (.putfield 212, 3) := by decide +kernel
theorem d_Model_ask_41 : decode prog_13_method_61_code 41 = .ok (.aload_n 0, 1) := by decide +kernel
theorem d_Model_ask_42 : decode prog_13_method_61_code 42 = .ok (.iconst 0, 1) := by decide +kernel
theorem d_Model_ask_43 : decode prog_13_method_61_code 43 = .ok (.putfield 143, 3) := by decide +kernel
theorem d_Model_ask_46 : decode prog_13_method_61_code 46 = .ok (.aload_n 0, 1) := by decide +kernel
theorem d_Model_ask_47 : decode prog_13_method_61_code 47 = .ok (.invokevirtual 354, 3) := by decide +kernel
theorem d_Model_ask_50 : decode prog_13_method_61_code 50 = .ok (.aload_n 0, 1) := by decide +kernel
theorem d_Model_ask_51 : decode prog_13_method_61_code 51 = .ok (.aload_n 0, 1) := by decide +kernel
theorem d_Model_ask_52 : decode prog_13_method_61_code 52 = .ok (.getfield 71, 3) := by decide +kernel
theorem d_Model_ask_55 : decode prog_13_method_61_code 55 = .ok (.putfield 68, 3) := by decide +kernel
theorem d_Model_ask_58 : decode prog_13_method_61_code 58 = .ok (.aload_n 0, 1) := by decide +kernel
theorem d_Model_ask_59 : decode prog_13_method_61_code 59 = .ok (.aload_n 0, 1) := by decide +kernel
theorem d_Model_ask_60 : decode prog_13_method_61_code 60 = .ok (.getfield 71, 3) := by decide +kernel
theorem d_Model_ask_63 : decode prog_13_method_61_code 63 = .ok (.ifCond .lt 7, 3) := by decide +kernel
theorem d_Model_ask_66 : decode prog_13_method_61_code 66 = .ok (.iconst 1, 1) := by decide +kernel
theorem d_Model_ask_67 : decode prog_13_method_61_code 67 = .ok (.goto 4, 3) := by decide +kernel
theorem d_Model_ask_70 : decode prog_13_method_61_code 70 = .ok (.iconst 0, 1) := by decide +kernel
theorem d_Model_ask_71 : decode prog_13_method_61_code 71 = .ok (.iconst 1, 1) := by decide +kernel
theorem d_Model_ask_72 : decode prog_13_method_61_code 72 = .ok (.invokevirtual 139, 3) := by decide +kernel
theorem d_Model_ask_75 : decode prog_13_method_61_code 75 = .ok (.ifCond .eq 5, 3) := by decide +kernel
theorem d_Model_ask_78 : decode prog_13_method_61_code 78 = .ok (.iconst 0, 1) := by decide +kernel
theorem d_Model_ask_79 : decode prog_13_method_61_code 79 = .ok (.ireturn, 1) := by decide +kernel
theorem d_Model_ask_80 : decode prog_13_method_61_code 80 = .ok (.aload_n 0, 1) := by decide +kernel
theorem d_Model_ask_81 : decode prog_13_method_61_code 81 = .ok (.aload_n 0, 1) := by decide +kernel
theorem d_Model_ask_82 : decode prog_13_method_61_code 82 = .ok (.getfield 247, 3) := by decide +kernel
theorem d_Model_ask_85 : decode prog_13_method_61_code 85 = .ok (.putfield 357, 3) := by decide +kernel
theorem d_Model_ask_88 : decode prog_13_method_61_code 88 = .ok (.aload_n 0, 1) := by decide +kernel
theorem d_Model_ask_89 : decode prog_13_method_61_code 89 = .ok (.iconst 0, 1) := by decide +kernel
theorem d_Model_ask_90 : decode prog_13_method_61_code 90 = .ok (.putfield 360, 3) := by decide +kernel
theorem d_Model_ask_93 : decode prog_13_method_61_code 93 = .ok (.iconst 0, 1) := by decide +kernel
theorem d_Model_ask_94 : decode prog_13_method_61_code 94 = .ok (.istore_n 1, 1) := by decide +kernel
theorem d_Model_ask_95 : decode prog_13_method_61_code 95 = .ok (.iload_n 1, 1) := by decide +kernel
theorem d_Model_ask_96 : decode prog_13_method_61_code 96 = .ok (.bipush 24, 2) := by decide +kernel
theorem d_Model_ask_98 : decode prog_13_method_61_code 98 = .ok (.if_icmp .ge 127, 3) := by decide +kernel
theorem d_Model_ask_101 : decode prog_13_method_61_code 101 = .ok (.aload_n 0, 1) := by decide +kernel
theorem d_Model_ask_102 : decode prog_13_method_61_code 102 = .ok (.getfield 44, 3) := by decide +kernel
theorem d_Model_ask_105 : decode prog_13_method_61_code 105 = .ok (.iload_n 1, 1) := by decide +kernel
theorem d_Model_ask_106 : decode prog_13_method_61_code 106 = .ok (.iaload, 1) := by decide +kernel
theorem d_Model_ask_107 : decode prog_13_method_61_code 107 = .ok (.ifCond .lt 112, 3) := by decide +kernel
theorem d_Model_ask_110 : decode prog_13_method_61_code 110 = .ok (.aload_n 0, 1) := by decide +kernel
theorem d_Model_ask_111 : decode prog_13_method_61_code 111 = .ok (.iload_n 1, 1) := by decide +kernel
theorem d_Model_ask_112 : decode prog_13_method_61_code 112 = .ok (.invokevirtual 363, 3) := by decide +kernel
theorem d_Model_ask_115 : decode prog_13_method_61_code 115 = .ok (.ifCond .eq 104, 3) := by decide +kernel
theorem d_Model_ask_118 : decode prog_13_method_61_code 118 = .ok (.aload_n 0, 1) := by decide +kernel
theorem d_Model_ask_119 : decode prog_13_method_61_code 119 = .ok (.getfield 120, 3) := by decide +kernel
theorem d_Model_ask_122 : decode prog_13_method_61_code 122 = .ok (.aload_n 0, 1) := by decide +kernel
theorem d_Model_ask_123 : decode prog_13_method_61_code 123 = .ok (.getfield 360, 3) := by decide +kernel
theorem d_Model_ask_126 : decode prog_13_method_61_code 126 = .ok (.iload_n 1, 1) := by decide +kernel
theorem d_Model_ask_127 : decode prog_13_method_61_code 127 = .ok (.iconst 1, 1) := by decide +kernel
theorem d_Model_ask_128 : decode prog_13_method_61_code 128 = .ok (.iadd, 1) := by decide +kernel
theorem d_Model_ask_129 : decode prog_13_method_61_code 129 = .ok (.iastore, 1) := by decide +kernel
theorem d_Model_ask_130 : decode prog_13_method_61_code 130 = .ok (.aload_n 0, 1) := by decide +kernel
theorem d_Model_ask_131 : decode prog_13_method_61_code 131 = .ok (.getfield 126, 3) := by decide +kernel
theorem d_Model_ask_134 : decode prog_13_method_61_code 134 = .ok (.aload_n 0, 1) := by decide +kernel
theorem d_Model_ask_135 : decode prog_13_method_61_code 135 = .ok (.getfield 360, 3) := by decide +kernel
theorem d_Model_ask_138 : decode prog_13_method_61_code 138 = .ok (.aload_n 0, 1) := by decide +kernel
theorem d_Model_ask_139 : decode prog_13_method_61_code 139 = .ok (.iload_n 1, 1) := by decide +kernel
theorem d_Model_ask_140 : decode prog_13_method_61_code 140 = .ok (.invokevirtual 366, 3) := by decide +kernel
theorem d_Model_ask_143 : decode prog_13_method_61_code 143 = .ok (.dastore, 1) := by decide +kernel
theorem d_Model_ask_144 : decode prog_13_method_61_code 144 = .ok (.aload_n 0, 1) := by decide +kernel
theorem d_Model_ask_145 : decode prog_13_method_61_code 145 = .ok (.getfield 360, 3) := by decide +kernel
theorem d_Model_ask_148 : decode prog_13_method_61_code 148 = .ok (.istore_n 2, 1) := by decide +kernel
theorem d_Model_ask_149 : decode prog_13_method_61_code 149 = .ok (.iload_n 2, 1) := by decide +kernel
theorem d_Model_ask_150 : decode prog_13_method_61_code 150 = .ok (.ifCond .le 49, 3) := by decide +kernel
theorem d_Model_ask_153 : decode prog_13_method_61_code 153 = .ok (.aload_n 0, 1) := by decide +kernel
theorem d_Model_ask_154 : decode prog_13_method_61_code 154 = .ok (.getfield 126, 3) := by decide +kernel
theorem d_Model_ask_157 : decode prog_13_method_61_code 157 = .ok (.aload_n 0, 1) := by decide +kernel
theorem d_Model_ask_158 : decode prog_13_method_61_code 158 = .ok (.getfield 123, 3) := by decide +kernel
theorem d_Model_ask_161 : decode prog_13_method_61_code 161 = .ok (.iload_n 2, 1) := by decide +kernel
theorem d_Model_ask_162 : decode prog_13_method_61_code 162 = .ok (.iconst 1, 1) := by decide +kernel
theorem d_Model_ask_163 : decode prog_13_method_61_code 163 = .ok (.isub, 1) := by decide +kernel
theorem d_Model_ask_164 : decode prog_13_method_61_code 164 = .ok (.iaload, 1) := by decide +kernel
theorem d_Model_ask_165 : decode prog_13_method_61_code 165 = .ok (.daload, 1) := by decide +kernel
theorem d_Model_ask_166 : decode prog_13_method_61_code 166 = .ok (.aload_n 0, 1) := by decide +kernel
theorem d_Model_ask_167 : decode prog_13_method_61_code 167 = .ok (.getfield 126, 3) := by decide +kernel
theorem d_Model_ask_170 : decode prog_13_method_61_code 170 = .ok (.aload_n 0, 1) := by decide +kernel
theorem d_Model_ask_171 : decode prog_13_method_61_code 171 = .ok (.getfield 360, 3) := by decide +kernel
theorem d_Model_ask_174 : decode prog_13_method_61_code 174 = .ok (.daload, 1) := by decide +kernel
theorem d_Model_ask_175 : decode prog_13_method_61_code 175 = .ok (.dcmp .g, 1) := by decide +kernel
theorem d_Model_ask_176 : decode prog_13_method_61_code 176 = .ok (.ifCond .ge 23, 3) := by decide +kernel
theorem d_Model_ask_179 : decode prog_13_method_61_code 179 = .ok (.aload_n 0, 1) := by decide +kernel
theorem d_Model_ask_180 : decode prog_13_method_61_code 180 = .ok (.getfield 123, 3) := by decide +kernel
theorem d_Model_ask_183 : decode prog_13_method_61_code 183 = .ok (.iload_n 2, 1) := by decide +kernel
theorem d_Model_ask_184 : decode prog_13_method_61_code 184 = .ok (.aload_n 0, 1) := by decide +kernel
theorem d_Model_ask_185 : decode prog_13_method_61_code 185 = .ok (.getfield 123, 3) := by decide +kernel
theorem d_Model_ask_188 : decode prog_13_method_61_code 188 = .ok (.iload_n 2, 1) := by decide +kernel
theorem d_Model_ask_189 : decode prog_13_method_61_code 189 = .ok (.iconst 1, 1) := by decide +kernel
theorem d_Model_ask_190 : decode prog_13_method_61_code 190 = .ok (.isub, 1) := by decide +kernel
theorem d_Model_ask_191 : decode prog_13_method_61_code 191 = .ok (.iaload, 1) := by decide +kernel
theorem d_Model_ask_192 : decode prog_13_method_61_code 192 = .ok (.iastore, 1) := by decide +kernel
theorem d_Model_ask_193 : decode prog_13_method_61_code 193 = .ok (.iinc 2 (-1), 3) := by decide +kernel
theorem d_Model_ask_196 : decode prog_13_method_61_code 196 = .ok (.goto (-47), 3) := by decide +kernel
theorem d_Model_ask_199 : decode prog_13_method_61_code 199 = .ok (.aload_n 0, 1) := by decide +kernel
theorem d_Model_ask_200 : decode prog_13_method_61_code 200 = .ok (.getfield 123, 3) := by decide +kernel
theorem d_Model_ask_203 : decode prog_13_method_61_code 203 = .ok (.iload_n 2, 1) := by decide +kernel
theorem d_Model_ask_204 : decode prog_13_method_61_code 204 = .ok (.aload_n 0, 1) := by decide +kernel
theorem d_Model_ask_205 : decode prog_13_method_61_code 205 = .ok (.getfield 360, 3) := by decide +kernel
theorem d_Model_ask_208 : decode prog_13_method_61_code 208 = .ok (.iastore, 1) := by decide +kernel
theorem d_Model_ask_209 : decode prog_13_method_61_code 209 = .ok (.aload_n 0, 1) := by decide +kernel
theorem d_Model_ask_210 : decode prog_13_method_61_code 210 = .ok (.dup, 1) := by decide +kernel
theorem d_Model_ask_211 : decode prog_13_method_61_code 211 = .ok (.getfield 360, 3) := by decide +kernel
theorem d_Model_ask_214 : decode prog_13_method_61_code 214 = .ok (.iconst 1, 1) := by decide +kernel
theorem d_Model_ask_215 : decode prog_13_method_61_code 215 = .ok (.iadd, 1) := by decide +kernel
theorem d_Model_ask_216 : decode prog_13_method_61_code 216 = .ok (.putfield 360, 3) := by decide +kernel
theorem d_Model_ask_219 : decode prog_13_method_61_code 219 = .ok (.iinc 1 1, 3) := by decide +kernel
theorem d_Model_ask_222 : decode prog_13_method_61_code 222 = .ok (.goto (-127), 3) := by decide +kernel
theorem d_Model_ask_225 : decode prog_13_method_61_code 225 = .ok (.aload_n 0, 1) := by decide +kernel
theorem d_Model_ask_226 : decode prog_13_method_61_code 226 = .ok (.getfield 360, 3) := by decide +kernel
theorem d_Model_ask_229 : decode prog_13_method_61_code 229 = .ok (.ireturn, 1) := by decide +kernel
theorem d_Model_reads_0 : decode prog_13_method_50_code 0 = .ok (.aload_n 0, 1) := by decide +kernel
theorem d_Model_reads_1 : decode prog_13_method_50_code 1 = .ok (.iconst 0, 1) := by decide +kernel
theorem d_Model_reads_2 : decode prog_13_method_50_code 2 = .ok (.putfield 224, 3) := by decide +kernel
theorem d_Model_reads_5 : decode prog_13_method_50_code 5 = .ok (.aload_n 0, 1) := by decide +kernel
theorem d_Model_reads_6 : decode prog_13_method_50_code 6 = .ok (.iconst (-1), 1) := by decide +kernel
theorem d_Model_reads_7 : decode prog_13_method_50_code 7 = .ok (.putfield 71, 3) := by decide +kernel
theorem d_Model_reads_10 : decode prog_13_method_50_code 10 = .ok (.aload_n 0, 1) := by decide +kernel
theorem d_Model_reads_11 : decode prog_13_method_50_code 11 = .ok (.iconst 0, 1) := by decide +kernel
theorem d_Model_reads_12 : decode prog_13_method_50_code 12 = .ok (.putfield 247, 3) := by decide +kernel
theorem d_Model_reads_15 : decode prog_13_method_50_code 15 = .ok (.aload_n 0, 1) := by decide +kernel
theorem d_Model_reads_16 : decode prog_13_method_50_code 16 = .ok (.iconst 0, 1) := by decide +kernel
theorem d_Model_reads_17 : decode prog_13_method_50_code 17 = .ok (.putfield 241, 3) := by decide +kernel
theorem d_Model_reads_20 : decode prog_13_method_50_code 20 = .ok (.aload_n 0, 1) := by decide +kernel
theorem d_Model_reads_21 : decode prog_13_method_50_code 21 = .ok (.iconst 0, 1) := by decide +kernel
theorem d_Model_reads_22 : decode prog_13_method_50_code 22 = .ok (.putfield 263, 3) := by decide +kernel
theorem d_Model_reads_25 : decode prog_13_method_50_code 25 = .ok (.aload_n 0, 1) := by decide +kernel
theorem d_Model_reads_26 : decode prog_13_method_50_code 26 = .ok (.iconst 0, 1) := by decide +kernel
theorem d_Model_reads_27 : decode prog_13_method_50_code 27 = .ok (.putfield 272, 3) := by decide +kernel
theorem d_Model_reads_30 : decode prog_13_method_50_code 30 = .ok (.aload_n 0, 1) := by decide +kernel
theorem d_Model_reads_31 : decode prog_13_method_50_code 31 = .ok (.iconst 0, 1) := by decide +kernel
theorem d_Model_reads_32 : decode prog_13_method_50_code 32 = .ok (.putfield 278, 3) := by decide +kernel
theorem d_Model_reads_35 : decode prog_13_method_50_code 35 = .ok (.aload_n 0, 1) := by decide +kernel
theorem d_Model_reads_36 : decode prog_13_method_50_code 36 = .ok (.iconst 3, 1) := by decide +kernel
theorem d_Model_reads_37 : decode prog_13_method_50_code 37 = .ok (.putfield 266, 3) := by decide +kernel
theorem d_Model_reads_40 : decode prog_13_method_50_code 40 = .ok (.aload_n 0, 1) := by decide +kernel
theorem d_Model_reads_41 : decode prog_13_method_50_code 41 = .ok (.iconst 0, 1) := by decide +kernel
theorem d_Model_reads_42 : decode prog_13_method_50_code 42 = .ok (.putfield 297, 3) := by decide +kernel
theorem d_Model_reads_45 : decode prog_13_method_50_code 45 = .ok (.aload_n 0, 1) := by decide +kernel
theorem d_Model_reads_46 : decode prog_13_method_50_code 46 = .ok (.invokevirtual 234, 3) := by decide +kernel
theorem d_Model_reads_49 : decode prog_13_method_50_code 49 = .ok (.aload_n 0, 1) := by decide +kernel
theorem d_Model_reads_50 : decode prog_13_method_50_code 50 = .ok (.getfield 71, 3) := by decide +kernel
theorem d_Model_reads_53 : decode prog_13_method_50_code 53 = .ok (.ifCond .ge 38, 3) := by decide +kernel
theorem d_Model_reads_56 : decode prog_13_method_50_code 56 = .ok (.aload_n 0, 1) := by decide +kernel
theorem d_Model_reads_57 : decode prog_13_method_50_code 57 = .ok (.getfield 227, 3) := by decide +kernel
theorem d_Model_reads_60 : decode prog_13_method_50_code 60 = .ok (.ifCond .ne 10, 3) := by decide +kernel
theorem d_Model_reads_63 : decode prog_13_method_50_code 63 = .ok (.aload_n 0, 1) := by decide +kernel
theorem d_Model_reads_64 : decode prog_13_method_50_code 64 = .ok (.getfield 297, 3) := by decide +kernel
theorem d_Model_reads_67 : decode prog_13_method_50_code 67 = .ok (.ifCond .ne 24, 3) := by decide +kernel
theorem d_Model_reads_70 : decode prog_13_method_50_code 70 = .ok (.aload_n 0, 1) := by decide +kernel
theorem d_Model_reads_71 : decode prog_13_method_50_code 71 = .ok (.getfield 297, 3) := by decide +kernel
theorem d_Model_reads_74 : decode prog_13_method_50_code 74 = .ok (.ifCond .eq 10, 3) := by decide +kernel
theorem d_Model_reads_77 : decode prog_13_method_50_code 77 = .ok (.aload_n 0, 1) := by decide +kernel
theorem d_Model_reads_78 : decode prog_13_method_50_code 78 = .ok (.invokevirtual 303, 3) := by decide +kernel
theorem d_Model_reads_81 : decode prog_13_method_50_code 81 = .ok (.goto (-32), 3) := by decide +kernel
theorem d_Model_reads_84 : decode prog_13_method_50_code 84 = .ok (.aload_n 0, 1) := by decide +kernel
theorem d_Model_reads_85 : decode prog_13_method_50_code 85 = .ok (.invokevirtual 306, 3) := by decide +kernel
theorem d_Model_reads_88 : decode prog_13_method_50_code 88 = .ok (.goto (-39), 3) := by decide +kernel
theorem d_Model_reads_91 : decode prog_13_method_50_code 91 = .ok (.aload_n 0, 1) := by decide +kernel
theorem d_Model_reads_92 : decode prog_13_method_50_code 92 = .ok (.iconst 1, 1) := by decide +kernel
theorem d_Model_reads_93 : decode prog_13_method_50_code 93 = .ok (.invokevirtual 281, 3) := by decide +kernel
theorem d_Model_reads_96 : decode prog_13_method_50_code 96 = .ok (.aload_n 0, 1) := by decide +kernel
theorem d_Model_reads_97 : decode prog_13_method_50_code 97 = .ok (.aload_n 0, 1) := by decide +kernel
theorem d_Model_reads_98 : decode prog_13_method_50_code 98 = .ok (.getfield 278, 3) := by decide +kernel
theorem d_Model_reads_101 : decode prog_13_method_50_code 101 = .ok (.ifCond .le 7, 3) := by decide +kernel
theorem d_Model_reads_104 : decode prog_13_method_50_code 104 = .ok (.iconst 1, 1) := by decide +kernel
theorem d_Model_reads_105 : decode prog_13_method_50_code 105 = .ok (.goto 4, 3) := by decide +kernel
theorem d_Model_reads_108 : decode prog_13_method_50_code 108 = .ok (.iconst 0, 1) := by decide +kernel
theorem d_Model_reads_109 : decode prog_13_method_50_code 109 = .ok (.aload_n 0, 1) := by decide +kernel
theorem d_Model_reads_110 : decode prog_13_method_50_code 110 = .ok (.getfield 212, 3) := by decide +kernel
theorem d_Model_reads_113 : decode prog_13_method_50_code 113 = .ok (.invokevirtual 250, 3) := by decide +kernel
theorem d_Model_reads_116 : decode prog_13_method_50_code 116 = .ok (.return_, 1) := by decide +kernel
theorem d_Model_part_0 : decode prog_13_method_33_code 0 = .ok (.aload_n 0, 1) := by decide +kernel
theorem d_Model_part_1 : decode prog_13_method_33_code 1 = .ok (.aload_n 0, 1) := by decide +kernel
theorem d_Model_part_2 : decode prog_13_method_33_code 2 = .ok (.getfield 224, 3) := by decide +kernel
theorem d_Model_part_5 : decode prog_13_method_33_code 5 = .ok (.invokevirtual 221, 3) := by decide +kernel
theorem d_Model_part_8 : decode prog_13_method_33_code 8 = .ok (.bipush 32, 2) := by decide +kernel
theorem d_Model_part_10 : decode prog_13_method_33_code 10 = .ok (.if_icmp .ne 16, 3) := by decide +kernel
theorem d_Model_part_13 : decode prog_13_method_33_code 13 = .ok (.aload_n 0, 1) := by decide +kernel
theorem d_Model_part_14 : decode prog_13_method_33_code 14 = .ok (.dup, 1) := by decide +kernel
theorem d_Model_part_15 : decode prog_13_method_33_code 15 = .ok (.getfield 224, 3) := by decide +kernel
theorem d_Model_part_18 : decode prog_13_method_33_code 18 = .ok (.iconst 1, 1) := by decide +kernel
theorem d_Model_part_19 : decode prog_13_method_33_code 19 = .ok (.iadd, 1) := by decide +kernel
theorem d_Model_part_20 : decode prog_13_method_33_code 20 = .ok (.putfield 224, 3) := by decide +kernel
theorem d_Model_part_23 : decode prog_13_method_33_code 23 = .ok (.goto (-23), 3) := by decide +kernel
theorem d_Model_part_26 : decode prog_13_method_33_code 26 = .ok (.aload_n 0, 1) := by decide +kernel
theorem d_Model_part_27 : decode prog_13_method_33_code 27 = .ok (.aload_n 0, 1) := by decide +kernel
theorem d_Model_part_28 : decode prog_13_method_33_code 28 = .ok (.getfield 224, 3) := by decide +kernel
theorem d_Model_part_31 : decode prog_13_method_33_code 31 = .ok (.putfield 218, 3) := by decide +kernel
theorem d_Model_part_34 : decode prog_13_method_33_code 34 = .ok (.aload_n 0, 1) := by decide +kernel
theorem d_Model_part_35 : decode prog_13_method_33_code 35 = .ok (.aload_n 0, 1) := by decide +kernel
theorem d_Model_part_36 : decode prog_13_method_33_code 36 = .ok (.getfield 224, 3) := by decide +kernel
theorem d_Model_part_39 : decode prog_13_method_33_code 39 = .ok (.iconst 1, 1) := by decide +kernel
theorem d_Model_part_40 : decode prog_13_method_33_code 40 = .ok (.iadd, 1) := by decide +kernel
theorem d_Model_part_41 : decode prog_13_method_33_code 41 = .ok (.putfield 215, 3) := by decide +kernel
theorem d_Model_part_44 : decode prog_13_method_33_code 44 = .ok (.aload_n 0, 1) := by decide +kernel
theorem d_Model_part_45 : decode prog_13_method_33_code 45 = .ok (.aload_n 0, 1) := by decide +kernel
theorem d_Model_part_46 : decode prog_13_method_33_code 46 = .ok (.getfield 224, 3) := by decide +kernel
theorem d_Model_part_49 : decode prog_13_method_33_code 49 = .ok (.invokevirtual 221, 3) := by decide +kernel
theorem d_Model_part_52 : decode prog_13_method_33_code 52 = .ok (.istore_n 1, 1) := by decide +kernel
theorem d_Model_part_53 : decode prog_13_method_33_code 53 = .ok (.aload_n 0, 1) := by decide +kernel
theorem d_Model_part_54 : decode prog_13_method_33_code 54 = .ok (.getfield 224, 3) := by decide +kernel
theorem d_Model_part_57 : decode prog_13_method_33_code 57 = .ok (.aload_n 0, 1) := by decide +kernel
theorem d_Model_part_58 : decode prog_13_method_33_code 58 = .ok (.getfield 212, 3) := by decide +kernel
theorem d_Model_part_61 : decode prog_13_method_33_code 61 = .ok (.if_icmp .lt 19, 3) := by decide +kernel
theorem d_Model_part_64 : decode prog_13_method_33_code 64 = .ok (.aload_n 0, 1) := by decide +kernel
theorem d_Model_part_65 : decode prog_13_method_33_code 65 = .ok (.iconst 0, 1) := by decide +kernel
theorem d_Model_part_66 : decode prog_13_method_33_code 66 = .ok (.putfield 227, 3) := by decide +kernel
theorem d_Model_part_69 : decode prog_13_method_33_code 69 = .ok (.aload_n 0, 1) := by decide +kernel
theorem d_Model_part_70 : decode prog_13_method_33_code 70 = .ok (.aload_n 0, 1) := by decide +kernel
theorem d_Model_part_71 : decode prog_13_method_33_code 71 = .ok (.getfield 224, 3) := by decide +kernel
theorem d_Model_part_74 : decode prog_13_method_33_code 74 = .ok (.putfield 215, 3) := by decide +kernel
theorem d_Model_part_77 : decode prog_13_method_33_code 77 = .ok (.goto 289, 3) := by decide +kernel
theorem d_Model_part_80 : decode prog_13_method_33_code 80 = .ok (.iload_n 1, 1) := by decide +kernel
theorem d_Model_part_81 : decode prog_13_method_33_code 81 = .ok (.invokestatic 146, 3) := by decide +kernel
theorem d_Model_part_84 : decode prog_13_method_33_code 84 = .ok (.ifCond .eq 114, 3) := by decide +kernel
theorem d_Model_part_87 : decode prog_13_method_33_code 87 = .ok (.aload_n 0, 1) := by decide +kernel
theorem d_Model_part_88 : decode prog_13_method_33_code 88 = .ok (.aload_n 0, 1) := by decide +kernel
theorem d_Model_part_89 : decode prog_13_method_33_code 89 = .ok (.getfield 215, 3) := by decide +kernel
theorem d_Model_part_92 : decode prog_13_method_33_code 92 = .ok (.invokevirtual 221, 3) := by decide +kernel
theorem d_Model_part_95 : decode prog_13_method_33_code 95 = .ok (.invokestatic 146, 3) := by decide +kernel
theorem d_Model_part_98 : decode prog_13_method_33_code 98 = .ok (.ifCond .eq 16, 3) := by decide +kernel
theorem d_Model_part_101 : decode prog_13_method_33_code 101 = .ok (.aload_n 0, 1) := by decide +kernel
theorem d_Model_part_102 : decode prog_13_method_33_code 102 = .ok (.dup, 1) := by decide +kernel
theorem d_Model_part_103 : decode prog_13_method_33_code 103 = .ok (.getfield 215, 3) := by decide +kernel
theorem d_Model_part_106 : decode prog_13_method_33_code 106 = .ok (.iconst 1, 1) := by decide +kernel
theorem d_Model_part_107 : decode prog_13_method_33_code 107 = .ok (.iadd, 1) := by decide +kernel
theorem d_Model_part_108 : decode prog_13_method_33_code 108 = .ok (.putfield 215, 3) := by decide +kernel
theorem d_Model_part_111 : decode prog_13_method_33_code 111 = .ok (.goto (-24), 3) := by decide +kernel
theorem d_Model_part_114 : decode prog_13_method_33_code 114 = .ok (.aload_n 0, 1) := by decide +kernel
theorem d_Model_part_115 : decode prog_13_method_33_code 115 = .ok (.aload_n 0, 1) := by decide +kernel
theorem d_Model_part_116 : decode prog_13_method_33_code 116 = .ok (.bipush 65, 2) := by decide +kernel
theorem d_Model_part_118 : decode prog_13_method_33_code 118 = .ok (.bipush 78, 2) := by decide +kernel
theorem d_Model_part_120 : decode prog_13_method_33_code 120 = .ok (.bipush 68, 2) := by decide +kernel
theorem d_Model_part_122 : decode prog_13_method_33_code 122 = .ok (.iconst 0, 1) := by decide +kernel
theorem d_Model_part_123 : decode prog_13_method_33_code 123 = .ok (.invokevirtual 230, 3) := by decide +kernel
theorem d_Model_part_126 : decode prog_13_method_33_code 126 = .ok (.ifCond .eq 8, 3) := by decide +kernel
theorem d_Model_part_129 : decode prog_13_method_33_code 129 = .ok (.bipush 11, 2) := by decide +kernel
theorem d_Model_part_131 : decode prog_13_method_33_code 131 = .ok (.goto 61, 3) := by decide +kernel
theorem d_Model_part_134 : decode prog_13_method_33_code 134 = .ok (.aload_n 0, 1) := by decide +kernel
theorem d_Model_part_135 : decode prog_13_method_33_code 135 = .ok (.bipush 79, 2) := by decide +kernel
theorem d_Model_part_137 : decode prog_13_method_33_code 137 = .ok (.bipush 82, 2) := by decide +kernel
theorem d_Model_part_139 : decode prog_13_method_33_code 139 = .ok (.iconst 0, 1) := by decide +kernel
theorem d_Model_part_140 : decode prog_13_method_33_code 140 = .ok (.iconst 0, 1) := by decide +kernel
theorem d_Model_part_141 : decode prog_13_method_33_code 141 = .ok (.invokevirtual 230, 3) := by decide +kernel
theorem d_Model_part_144 : decode prog_13_method_33_code 144 = .ok (.ifCond .eq 8, 3) := by decide +kernel
theorem d_Model_part_147 : decode prog_13_method_33_code 147 = .ok (.bipush 12, 2) := by decide +kernel
theorem d_Model_part_149 : decode prog_13_method_33_code 149 = .ok (.goto 43, 3) := by decide +kernel
theorem d_Model_part_152 : decode prog_13_method_33_code 152 = .ok (.aload_n 0, 1) := by decide +kernel
theorem d_Model_part_153 : decode prog_13_method_33_code 153 = .ok (.bipush 78, 2) := by decide +kernel
theorem d_Model_part_155 : decode prog_13_method_33_code 155 = .ok (.bipush 79, 2) := by decide +kernel
theorem d_Model_part_157 : decode prog_13_method_33_code 157 = .ok (.bipush 84, 2) := by decide +kernel
theorem d_Model_part_159 : decode prog_13_method_33_code 159 = .ok (.iconst 0, 1) := by decide +kernel
theorem d_Model_part_160 : decode prog_13_method_33_code 160 = .ok (.invokevirtual 230, 3) := by decide +kernel
theorem d_Model_part_163 : decode prog_13_method_33_code 163 = .ok (.ifCond .eq 8, 3) := by decide +kernel
theorem d_Model_part_166 : decode prog_13_method_33_code 166 = .ok (.bipush 13, 2) := by decide +kernel
theorem d_Model_part_168 : decode prog_13_method_33_code 168 = .ok (.goto 24, 3) := by decide +kernel
theorem d_Model_part_171 : decode prog_13_method_33_code 171 = .ok (.aload_n 0, 1) := by decide +kernel
theorem d_Model_part_172 : decode prog_13_method_33_code 172 = .ok (.bipush 78, 2) := by decide +kernel
theorem d_Model_part_174 : decode prog_13_method_33_code 174 = .ok (.bipush 69, 2) := by decide +kernel
theorem d_Model_part_176 : decode prog_13_method_33_code 176 = .ok (.bipush 65, 2) := by decide +kernel
theorem d_Model_part_178 : decode prog_13_method_33_code 178 = .ok (.bipush 82, 2) := by decide +kernel
theorem d_Model_part_180 : decode prog_13_method_33_code 180 = .ok (.invokevirtual 230, 3) := by decide +kernel
theorem d_Model_part_183 : decode prog_13_method_33_code 183 = .ok (.ifCond .eq 8, 3) := by decide +kernel
theorem d_Model_part_186 : decode prog_13_method_33_code 186 = .ok (.bipush 14, 2) := by decide +kernel
theorem d_Model_part_188 : decode prog_13_method_33_code 188 = .ok (.goto 4, 3) := by decide +kernel
theorem d_Model_part_191 : decode prog_13_method_33_code 191 = .ok (.iconst 1, 1) := by decide +kernel
theorem d_Model_part_192 : decode prog_13_method_33_code 192 = .ok (.putfield 227, 3) := by decide +kernel
theorem d_Model_part_195 : decode prog_13_method_33_code 195 = .ok (.goto 171, 3) := by decide +kernel
theorem d_Model_part_198 : decode prog_13_method_33_code 198 = .ok (.iload_n 1, 1) := by decide +kernel
theorem d_Model_part_199 : decode prog_13_method_33_code 199 = .ok (.bipush 34, 2) := by decide +kernel
theorem d_Model_part_201 : decode prog_13_method_33_code 201 = .ok (.if_icmp .ne 74, 3) := by decide +kernel
theorem d_Model_part_204 : decode prog_13_method_33_code 204 = .ok (.aload_n 0, 1) := by decide +kernel
theorem d_Model_part_205 : decode prog_13_method_33_code 205 = .ok (.getfield 215, 3) := by decide +kernel
theorem d_Model_part_208 : decode prog_13_method_33_code 208 = .ok (.aload_n 0, 1) := by decide +kernel
theorem d_Model_part_209 : decode prog_13_method_33_code 209 = .ok (.getfield 212, 3) := by decide +kernel
theorem d_Model_part_212 : decode prog_13_method_33_code 212 = .ok (.if_icmp .ge 29, 3) := by decide +kernel
theorem d_Model_part_215 : decode prog_13_method_33_code 215 = .ok (.aload_n 0, 1) := by decide +kernel
theorem d_Model_part_216 : decode prog_13_method_33_code 216 = .ok (.aload_n 0, 1) := by decide +kernel
theorem d_Model_part_217 : decode prog_13_method_33_code 217 = .ok (.getfield 215, 3) := by decide +kernel
theorem d_Model_part_220 : decode prog_13_method_33_code 220 = .ok (.invokevirtual 221, 3) := by decide +kernel
theorem d_Model_part_223 : decode prog_13_method_33_code 223 = .ok (.bipush 34, 2) := by decide +kernel
theorem d_Model_part_225 : decode prog_13_method_33_code 225 = .ok (.if_icmp .eq 16, 3) := by decide +kernel
theorem d_Model_part_228 : decode prog_13_method_33_code 228 = .ok (.aload_n 0, 1) := by decide +kernel
theorem d_Model_part_229 : decode prog_13_method_33_code 229 = .ok (.dup, 1) := by decide +kernel
theorem d_Model_part_230 : decode prog_13_method_33_code 230 = .ok (.getfield 215, 3) := by decide +kernel
theorem d_Model_part_233 : decode prog_13_method_33_code 233 = .ok (.iconst 1, 1) := by decide +kernel
theorem d_Model_part_234 : decode prog_13_method_33_code 234 = .ok (.iadd, 1) := by decide +kernel
theorem d_Model_part_235 : decode prog_13_method_33_code 235 = .ok (.putfield 215, 3) := by decide +kernel
theorem d_Model_part_238 : decode prog_13_method_33_code 238 = .ok (.goto (-34), 3) := by decide +kernel
theorem d_Model_part_241 : decode prog_13_method_33_code 241 = .ok (.aload_n 0, 1) := by decide +kernel
theorem d_Model_part_242 : decode prog_13_method_33_code 242 = .ok (.aload_n 0, 1) := by decide +kernel
theorem d_Model_part_243 : decode prog_13_method_33_code 243 = .ok (.getfield 215, 3) := by decide +kernel
theorem d_Model_part_246 : decode prog_13_method_33_code 246 = .ok (.aload_n 0, 1) := by decide +kernel
theorem d_Model_part_247 : decode prog_13_method_33_code 247 = .ok (.getfield 212, 3) := by decide +kernel
theorem d_Model_part_250 : decode prog_13_method_33_code 250 = .ok (.if_icmp .ge 7, 3) := by decide +kernel
theorem d_Model_part_253 : decode prog_13_method_33_code 253 = .ok (.iconst 2, 1) := by decide +kernel
theorem d_Model_part_254 : decode prog_13_method_33_code 254 = .ok (.goto 5, 3) := by decide +kernel
theorem d_Model_part_257 : decode prog_13_method_33_code 257 = .ok (.bipush 15, 2) := by decide +kernel
theorem d_Model_part_259 : decode prog_13_method_33_code 259 = .ok (.putfield 227, 3) := by decide +kernel
theorem d_Model_part_262 : decode prog_13_method_33_code 262 = .ok (.aload_n 0, 1) := by decide +kernel
theorem d_Model_part_263 : decode prog_13_method_33_code 263 = .ok (.dup, 1) := by decide +kernel
theorem d_Model_part_264 : decode prog_13_method_33_code 264 = .ok (.getfield 215, 3) := by decide +kernel
theorem d_Model_part_267 : decode prog_13_method_33_code 267 = .ok (.iconst 1, 1) := by decide +kernel
theorem d_Model_part_268 : decode prog_13_method_33_code 268 = .ok (.iadd, 1) := by decide +kernel
theorem d_Model_part_269 : decode prog_13_method_33_code 269 = .ok (.putfield 215, 3) := by decide +kernel
theorem d_Model_part_272 : decode prog_13_method_33_code 272 = .ok (.goto 94, 3) := by decide +kernel
theorem d_Model_part_275 : decode prog_13_method_33_code 275 = .ok (.aload_n 0, 1) := by decide +kernel
theorem d_Model_part_276 : decode prog_13_method_33_code 276 = .ok (.iload_n 1, 1) := by decide +kernel
theorem d_Model_part_277 : decode prog_13_method_33_code 277 = .ok (.bipush 40, 2) := by decide +kernel
theorem d_Model_part_279 : decode prog_13_method_33_code 279 = .ok (.if_icmp .ne 7, 3) := by decide +kernel
theorem d_Model_part_282 : decode prog_13_method_33_code 282 = .ok (.iconst 3, 1) := by decide +kernel
theorem d_Model_part_283 : decode prog_13_method_33_code 283 = .ok (.goto 80, 3) := by decide +kernel
theorem d_Model_part_286 : decode prog_13_method_33_code 286 = .ok (.iload_n 1, 1) := by decide +kernel
theorem d_Model_part_287 : decode prog_13_method_33_code 287 = .ok (.bipush 41, 2) := by decide +kernel
theorem d_Model_part_289 : decode prog_13_method_33_code 289 = .ok (.if_icmp .ne 7, 3) := by decide +kernel
theorem d_Model_part_292 : decode prog_13_method_33_code 292 = .ok (.iconst 4, 1) := by decide +kernel
theorem d_Model_part_293 : decode prog_13_method_33_code 293 = .ok (.goto 70, 3) := by decide +kernel
theorem d_Model_part_296 : decode prog_13_method_33_code 296 = .ok (.iload_n 1, 1) := by decide +kernel
theorem d_Model_part_297 : decode prog_13_method_33_code 297 = .ok (.bipush 58, 2) := by decide +kernel
theorem d_Model_part_299 : decode prog_13_method_33_code 299 = .ok (.if_icmp .ne 7, 3) := by decide +kernel
theorem d_Model_part_302 : decode prog_13_method_33_code 302 = .ok (.iconst 5, 1) := by decide +kernel
theorem d_Model_part_303 : decode prog_13_method_33_code 303 = .ok (.goto 60, 3) := by decide +kernel
theorem d_Model_part_306 : decode prog_13_method_33_code 306 = .ok (.iload_n 1, 1) := by decide +kernel
theorem d_Model_part_307 : decode prog_13_method_33_code 307 = .ok (.bipush 45, 2) := by decide +kernel
theorem d_Model_part_309 : decode prog_13_method_33_code 309 = .ok (.if_icmp .ne 8, 3) := by decide +kernel
theorem d_Model_part_312 : decode prog_13_method_33_code 312 = .ok (.bipush 6, 2) := by decide +kernel
theorem d_Model_part_314 : decode prog_13_method_33_code 314 = .ok (.goto 49, 3) := by decide +kernel
theorem d_Model_part_317 : decode prog_13_method_33_code 317 = .ok (.iload_n 1, 1) := by decide +kernel
theorem d_Model_part_318 : decode prog_13_method_33_code 318 = .ok (.bipush 94, 2) := by decide +kernel
theorem d_Model_part_320 : decode prog_13_method_33_code 320 = .ok (.if_icmp .ne 8, 3) := by decide +kernel
theorem d_Model_part_323 : decode prog_13_method_33_code 323 = .ok (.bipush 7, 2) := by decide +kernel
theorem d_Model_part_325 : decode prog_13_method_33_code 325 = .ok (.goto 38, 3) := by decide +kernel
theorem d_Model_part_328 : decode prog_13_method_33_code 328 = .ok (.iload_n 1, 1) := by decide +kernel
theorem d_Model_part_329 : decode prog_13_method_33_code 329 = .ok (.bipush 43, 2) := by decide +kernel
theorem d_Model_part_331 : decode prog_13_method_33_code 331 = .ok (.if_icmp .ne 8, 3) := by decide +kernel
theorem d_Model_part_334 : decode prog_13_method_33_code 334 = .ok (.bipush 8, 2) := by decide +kernel
theorem d_Model_part_336 : decode prog_13_method_33_code 336 = .ok (.goto 27, 3) := by decide +kernel
theorem d_Model_part_339 : decode prog_13_method_33_code 339 = .ok (.iload_n 1, 1) := by decide +kernel
theorem d_Model_part_340 : decode prog_13_method_33_code 340 = .ok (.bipush 42, 2) := by decide +kernel
theorem d_Model_part_342 : decode prog_13_method_33_code 342 = .ok (.if_icmp .ne 8, 3) := by decide +kernel
theorem d_Model_part_345 : decode prog_13_method_33_code 345 = .ok (.bipush 9, 2) := by decide +kernel
theorem d_Model_part_347 : decode prog_13_method_33_code 347 = .ok (.goto 16, 3) := by decide +kernel
theorem d_Model_part_350 : decode prog_13_method_33_code 350 = .ok (.iload_n 1, 1) := by decide +kernel
theorem d_Model_part_351 : decode prog_13_method_33_code 351 = .ok (.bipush 44, 2) := by decide +kernel
theorem d_Model_part_353 : decode prog_13_method_33_code 353 = .ok (.if_icmp .ne 8, 3) := by decide +kernel
theorem d_Model_part_356 : decode prog_13_method_33_code 356 = .ok (.bipush 10, 2) := by decide +kernel
theorem d_Model_part_358 : decode prog_13_method_33_code 358 = .ok (.goto 5, 3) := by decide +kernel
theorem d_Model_part_361 : decode prog_13_method_33_code 361 = .ok (.bipush 15, 2) := by decide +kernel
theorem d_Model_part_363 : decode prog_13_method_33_code 363 = .ok (.putfield 227, 3) := by decide +kernel
theorem d_Model_part_366 : decode prog_13_method_33_code 366 = .ok (.return_, 1) := by decide +kernel
theorem d_Model_q_0 : decode prog_13_method_31_code 0 = .ok (.iload_n 1, 1) := by decide +kernel
theorem d_Model_q_1 : decode prog_13_method_31_code 1 = .ok (.aload_n 0, 1) := by decide +kernel
theorem d_Model_q_2 : decode prog_13_method_31_code 2 = .ok (.getfield 212, 3) := by decide +kernel
theorem d_Model_q_5 : decode prog_13_method_31_code 5 = .ok (.if_icmp .ge 12, 3) := by decide +kernel
theorem d_Model_q_8 : decode prog_13_method_31_code 8 = .ok (.aload_n 0, 1) := by decide +kernel
theorem d_Model_q_9 : decode prog_13_method_31_code 9 = .ok (.getfield 20, 3) := by decide +kernel
theorem d_Model_q_12 : decode prog_13_method_31_code 12 = .ok (.iload_n 1, 1) := by decide +kernel
theorem d_Model_q_13 : decode prog_13_method_31_code 13 = .ok (.iaload, 1) := by decide +kernel
theorem d_Model_q_14 : decode prog_13_method_31_code 14 = .ok (.goto 4, 3) := by decide +kernel
theorem d_Model_q_17 : decode prog_13_method_31_code 17 = .ok (.iconst 0, 1) := by decide +kernel
theorem d_Model_q_18 : decode prog_13_method_31_code 18 = .ok (.ireturn, 1) := by decide +kernel
theorem d_Model_spells_0 : decode prog_13_method_32_code 0 = .ok (.iload 4, 2) := by decide +kernel
theorem d_Model_spells_2 : decode prog_13_method_32_code 2 = .ok (.ifCond .le 7, 3) := by decide +kernel
theorem d_Model_spells_5 : decode prog_13_method_32_code 5 = .ok (.iconst 4, 1) := by decide +kernel
theorem d_Model_spells_6 : decode prog_13_method_32_code 6 = .ok (.goto 12, 3) := by decide +kernel
theorem d_Model_spells_9 : decode prog_13_method_32_code 9 = .ok (.iload_n 3, 1) := by decide +kernel
theorem d_Model_spells_10 : decode prog_13_method_32_code 10 = .ok (.ifCond .le 7, 3) := by decide +kernel
theorem d_Model_spells_13 : decode prog_13_method_32_code 13 = .ok (.iconst 3, 1) := by decide +kernel
theorem d_Model_spells_14 : decode prog_13_method_32_code 14 = .ok (.goto 4, 3) := by decide +kernel
theorem d_Model_spells_17 : decode prog_13_method_32_code 17 = .ok (.iconst 2, 1) := by decide +kernel
theorem d_Model_spells_18 : decode prog_13_method_32_code 18 = .ok (.istore 5, 2) := by decide +kernel
theorem d_Model_spells_20 : decode prog_13_method_32_code 20 = .ok (.aload_n 0, 1) := by decide +kernel
theorem d_Model_spells_21 : decode prog_13_method_32_code 21 = .ok (.getfield 215, 3) := by decide +kernel
theorem d_Model_spells_24 : decode prog_13_method_32_code 24 = .ok (.aload_n 0, 1) := by decide +kernel
theorem d_Model_spells_25 : decode prog_13_method_32_code 25 = .ok (.getfield 218, 3) := by decide +kernel
theorem d_Model_spells_28 : decode prog_13_method_32_code 28 = .ok (.isub, 1) := by decide +kernel
theorem d_Model_spells_29 : decode prog_13_method_32_code 29 = .ok (.iload 5, 2) := by decide +kernel
theorem d_Model_spells_31 : decode prog_13_method_32_code 31 = .ok (.if_icmp .ne 74, 3) := by decide +kernel
theorem d_Model_spells_34 : decode prog_13_method_32_code 34 = .ok (.aload_n 0, 1) := by decide +kernel
theorem d_Model_spells_35 : decode prog_13_method_32_code 35 = .ok (.aload_n 0, 1) := by decide +kernel
theorem d_Model_spells_36 : decode prog_13_method_32_code 36 = .ok (.getfield 218, 3) := by decide +kernel
theorem d_Model_spells_39 : decode prog_13_method_32_code 39 = .ok (.invokevirtual 221, 3) := by decide +kernel
theorem d_Model_spells_42 : decode prog_13_method_32_code 42 = .ok (.iload_n 1, 1) := by decide +kernel
theorem d_Model_spells_43 : decode prog_13_method_32_code 43 = .ok (.if_icmp .ne 62, 3) := by decide +kernel
theorem d_Model_spells_46 : decode prog_13_method_32_code 46 = .ok (.aload_n 0, 1) := by decide +kernel
theorem d_Model_spells_47 : decode prog_13_method_32_code 47 = .ok (.aload_n 0, 1) := by decide +kernel
theorem d_Model_spells_48 : decode prog_13_method_32_code 48 = .ok (.getfield 218, 3) := by decide +kernel
theorem d_Model_spells_51 : decode prog_13_method_32_code 51 = .ok (.iconst 1, 1) := by decide +kernel
theorem d_Model_spells_52 : decode prog_13_method_32_code 52 = .ok (.iadd, 1) := by decide +kernel
theorem d_Model_spells_53 : decode prog_13_method_32_code 53 = .ok (.invokevirtual 221, 3) := by decide +kernel
theorem d_Model_spells_56 : decode prog_13_method_32_code 56 = .ok (.iload_n 2, 1) := by decide +kernel
theorem d_Model_spells_57 : decode prog_13_method_32_code 57 = .ok (.if_icmp .ne 48, 3) := by decide +kernel
theorem d_Model_spells_60 : decode prog_13_method_32_code 60 = .ok (.iload 5, 2) := by decide +kernel
theorem d_Model_spells_62 : decode prog_13_method_32_code 62 = .ok (.iconst 3, 1) := by decide +kernel
theorem d_Model_spells_63 : decode prog_13_method_32_code 63 = .ok (.if_icmp .lt 17, 3) := by decide +kernel
theorem d_Model_spells_66 : decode prog_13_method_32_code 66 = .ok (.aload_n 0, 1) := by decide +kernel
theorem d_Model_spells_67 : decode prog_13_method_32_code 67 = .ok (.aload_n 0, 1) := by decide +kernel
theorem d_Model_spells_68 : decode prog_13_method_32_code 68 = .ok (.getfield 218, 3) := by decide +kernel
theorem d_Model_spells_71 : decode prog_13_method_32_code 71 = .ok (.iconst 2, 1) := by decide +kernel
theorem d_Model_spells_72 : decode prog_13_method_32_code 72 = .ok (.iadd, 1) := by decide +kernel
theorem d_Model_spells_73 : decode prog_13_method_32_code 73 = .ok (.invokevirtual 221, 3) := by decide +kernel
theorem d_Model_spells_76 : decode prog_13_method_32_code 76 = .ok (.iload_n 3, 1) := by decide +kernel
theorem d_Model_spells_77 : decode prog_13_method_32_code 77 = .ok (.if_icmp .ne 28, 3) := by decide +kernel
theorem d_Model_spells_80 : decode prog_13_method_32_code 80 = .ok (.iload 5, 2) := by decide +kernel
theorem d_Model_spells_82 : decode prog_13_method_32_code 82 = .ok (.iconst 4, 1) := by decide +kernel
theorem d_Model_spells_83 : decode prog_13_method_32_code 83 = .ok (.if_icmp .lt 18, 3) := by decide +kernel
theorem d_Model_spells_86 : decode prog_13_method_32_code 86 = .ok (.aload_n 0, 1) := by decide +kernel
theorem d_Model_spells_87 : decode prog_13_method_32_code 87 = .ok (.aload_n 0, 1) := by decide +kernel
theorem d_Model_spells_88 : decode prog_13_method_32_code 88 = .ok (.getfield 218, 3) := by decide +kernel
theorem d_Model_spells_91 : decode prog_13_method_32_code 91 = .ok (.iconst 3, 1) := by decide +kernel
theorem d_Model_spells_92 : decode prog_13_method_32_code 92 = .ok (.iadd, 1) := by decide +kernel
theorem d_Model_spells_93 : decode prog_13_method_32_code 93 = .ok (.invokevirtual 221, 3) := by decide +kernel
theorem d_Model_spells_96 : decode prog_13_method_32_code 96 = .ok (.iload 4, 2) := by decide +kernel
theorem d_Model_spells_98 : decode prog_13_method_32_code 98 = .ok (.if_icmp .ne 7, 3) := by decide +kernel
theorem d_Model_spells_101 : decode prog_13_method_32_code 101 = .ok (.iconst 1, 1) := by decide +kernel
theorem d_Model_spells_102 : decode prog_13_method_32_code 102 = .ok (.goto 4, 3) := by decide +kernel
theorem d_Model_spells_105 : decode prog_13_method_32_code 105 = .ok (.iconst 0, 1) := by decide +kernel
theorem d_Model_spells_106 : decode prog_13_method_32_code 106 = .ok (.ireturn, 1) := by decide +kernel
theorem d_Model_follows_0 : decode prog_13_method_49_code 0 = .ok (.aload_n 0, 1) := by decide +kernel
theorem d_Model_follows_1 : decode prog_13_method_49_code 1 = .ok (.getfield 227, 3) := by decide +kernel
theorem d_Model_follows_4 : decode prog_13_method_49_code 4 = .ok (.iconst 4, 1) := by decide +kernel
theorem d_Model_follows_5 : decode prog_13_method_49_code 5 = .ok (.if_icmp .ne 68, 3) := by decide +kernel
theorem d_Model_follows_8 : decode prog_13_method_49_code 8 = .ok (.aload_n 0, 1) := by decide +kernel
theorem d_Model_follows_9 : decode prog_13_method_49_code 9 = .ok (.iconst 1, 1) := by decide +kernel
theorem d_Model_follows_10 : decode prog_13_method_49_code 10 = .ok (.invokevirtual 281, 3) := by decide +kernel
theorem d_Model_follows_13 : decode prog_13_method_49_code 13 = .ok (.aload_n 0, 1) := by decide +kernel
theorem d_Model_follows_14 : decode prog_13_method_49_code 14 = .ok (.aload_n 0, 1) := by decide +kernel
theorem d_Model_follows_15 : decode prog_13_method_49_code 15 = .ok (.getfield 278, 3) := by decide +kernel
theorem d_Model_follows_18 : decode prog_13_method_49_code 18 = .ok (.ifCond .ne 7, 3) := by decide +kernel
theorem d_Model_follows_21 : decode prog_13_method_49_code 21 = .ok (.iconst 1, 1) := by decide +kernel
theorem d_Model_follows_22 : decode prog_13_method_49_code 22 = .ok (.goto 4, 3) := by decide +kernel
theorem d_Model_follows_25 : decode prog_13_method_49_code 25 = .ok (.iconst 0, 1) := by decide +kernel
theorem d_Model_follows_26 : decode prog_13_method_49_code 26 = .ok (.aload_n 0, 1) := by decide +kernel
theorem d_Model_follows_27 : decode prog_13_method_49_code 27 = .ok (.getfield 218, 3) := by decide +kernel
theorem d_Model_follows_30 : decode prog_13_method_49_code 30 = .ok (.invokevirtual 250, 3) := by decide +kernel
theorem d_Model_follows_33 : decode prog_13_method_49_code 33 = .ok (.aload_n 0, 1) := by decide +kernel
theorem d_Model_follows_34 : decode prog_13_method_49_code 34 = .ok (.getfield 71, 3) := by decide +kernel
theorem d_Model_follows_37 : decode prog_13_method_49_code 37 = .ok (.ifCond .lt 4, 3) := by decide +kernel
theorem d_Model_follows_40 : decode prog_13_method_49_code 40 = .ok (.return_, 1) := by decide +kernel
theorem d_Model_follows_41 : decode prog_13_method_49_code 41 = .ok (.aload_n 0, 1) := by decide +kernel
theorem d_Model_follows_42 : decode prog_13_method_49_code 42 = .ok (.dup, 1) := by decide +kernel
theorem d_Model_follows_43 : decode prog_13_method_49_code 43 = .ok (.getfield 278, 3) := by decide +kernel
theorem d_Model_follows_46 : decode prog_13_method_49_code 46 = .ok (.iconst 1, 1) := by decide +kernel
theorem d_Model_follows_47 : decode prog_13_method_49_code 47 = .ok (.isub, 1) := by decide +kernel
theorem d_Model_follows_48 : decode prog_13_method_49_code 48 = .ok (.putfield 278, 3) := by decide +kernel
theorem d_Model_follows_51 : decode prog_13_method_49_code 51 = .ok (.aload_n 0, 1) := by decide +kernel
theorem d_Model_follows_52 : decode prog_13_method_49_code 52 = .ok (.aload_n 0, 1) := by decide +kernel
theorem d_Model_follows_53 : decode prog_13_method_49_code 53 = .ok (.getfield 107, 3) := by decide +kernel
theorem d_Model_follows_56 : decode prog_13_method_49_code 56 = .ok (.aload_n 0, 1) := by decide +kernel
theorem d_Model_follows_57 : decode prog_13_method_49_code 57 = .ok (.getfield 278, 3) := by decide +kernel
theorem d_Model_follows_60 : decode prog_13_method_49_code 60 = .ok (.iaload, 1) := by decide +kernel
theorem d_Model_follows_61 : decode prog_13_method_49_code 61 = .ok (.putfield 266, 3) := by decide +kernel
theorem d_Model_follows_64 : decode prog_13_method_49_code 64 = .ok (.aload_n 0, 1) := by decide +kernel
theorem d_Model_follows_65 : decode prog_13_method_49_code 65 = .ok (.invokevirtual 275, 3) := by decide +kernel
theorem d_Model_follows_68 : decode prog_13_method_49_code 68 = .ok (.aload_n 0, 1) := by decide +kernel
theorem d_Model_follows_69 : decode prog_13_method_49_code 69 = .ok (.invokevirtual 257, 3) := by decide +kernel
theorem d_Model_follows_72 : decode prog_13_method_49_code 72 = .ok (.return_, 1) := by decide +kernel
theorem d_Model_follows_73 : decode prog_13_method_49_code 73 = .ok (.aload_n 0, 1) := by decide +kernel
theorem d_Model_follows_74 : decode prog_13_method_49_code 74 = .ok (.getfield 227, 3) := by decide +kernel
theorem d_Model_follows_77 : decode prog_13_method_49_code 77 = .ok (.bipush 12, 2) := by decide +kernel
theorem d_Model_follows_79 : decode prog_13_method_49_code 79 = .ok (.if_icmp .ne 7, 3) := by decide +kernel
theorem d_Model_follows_82 : decode prog_13_method_49_code 82 = .ok (.iconst 1, 1) := by decide +kernel
theorem d_Model_follows_83 : decode prog_13_method_49_code 83 = .ok (.goto 30, 3) := by decide +kernel
theorem d_Model_follows_86 : decode prog_13_method_49_code 86 = .ok (.aload_n 0, 1) := by decide +kernel
theorem d_Model_follows_87 : decode prog_13_method_49_code 87 = .ok (.getfield 227, 3) := by decide +kernel
theorem d_Model_follows_90 : decode prog_13_method_49_code 90 = .ok (.bipush 11, 2) := by decide +kernel
theorem d_Model_follows_92 : decode prog_13_method_49_code 92 = .ok (.if_icmp .ne 7, 3) := by decide +kernel
theorem d_Model_follows_95 : decode prog_13_method_49_code 95 = .ok (.iconst 2, 1) := by decide +kernel
theorem d_Model_follows_96 : decode prog_13_method_49_code 96 = .ok (.goto 17, 3) := by decide +kernel
theorem d_Model_follows_99 : decode prog_13_method_49_code 99 = .ok (.aload_n 0, 1) := by decide +kernel
theorem d_Model_follows_100 : decode prog_13_method_49_code 100 = .ok (.getfield 227, 3) := by decide +kernel
theorem d_Model_follows_103 : decode prog_13_method_49_code 103 = .ok (.bipush 13, 2) := by decide +kernel
theorem d_Model_follows_105 : decode prog_13_method_49_code 105 = .ok (.if_icmp .ne 7, 3) := by decide +kernel
theorem d_Model_follows_108 : decode prog_13_method_49_code 108 = .ok (.iconst 3, 1) := by decide +kernel
theorem d_Model_follows_109 : decode prog_13_method_49_code 109 = .ok (.goto 4, 3) := by decide +kernel
theorem d_Model_follows_112 : decode prog_13_method_49_code 112 = .ok (.iconst 4, 1) := by decide +kernel
theorem d_Model_follows_113 : decode prog_13_method_49_code 113 = .ok (.istore_n 1, 1) := by decide +kernel
theorem d_Model_follows_114 : decode prog_13_method_49_code 114 = .ok (.aload_n 0, 1) := by decide +kernel
theorem d_Model_follows_115 : decode prog_13_method_49_code 115 = .ok (.getfield 227, 3) := by decide +kernel
theorem d_Model_follows_118 : decode prog_13_method_49_code 118 = .ok (.iconst 3, 1) := by decide +kernel
theorem d_Model_follows_119 : decode prog_13_method_49_code 119 = .ok (.if_icmp .eq 46, 3) := by decide +kernel
theorem d_Model_follows_122 : decode prog_13_method_49_code 122 = .ok (.aload_n 0, 1) := by decide +kernel
theorem d_Model_follows_123 : decode prog_13_method_49_code 123 = .ok (.getfield 227, 3) := by decide +kernel
theorem d_Model_follows_126 : decode prog_13_method_49_code 126 = .ok (.bipush 6, 2) := by decide +kernel
theorem d_Model_follows_128 : decode prog_13_method_49_code 128 = .ok (.if_icmp .eq 37, 3) := by decide +kernel
theorem d_Model_follows_131 : decode prog_13_method_49_code 131 = .ok (.aload_n 0, 1) := by decide +kernel
theorem d_Model_follows_132 : decode prog_13_method_49_code 132 = .ok (.getfield 227, 3) := by decide +kernel
theorem d_Model_follows_135 : decode prog_13_method_49_code 135 = .ok (.bipush 7, 2) := by decide +kernel
theorem d_Model_follows_137 : decode prog_13_method_49_code 137 = .ok (.if_icmp .eq 28, 3) := by decide +kernel
theorem d_Model_follows_140 : decode prog_13_method_49_code 140 = .ok (.aload_n 0, 1) := by decide +kernel
theorem d_Model_follows_141 : decode prog_13_method_49_code 141 = .ok (.getfield 227, 3) := by decide +kernel
theorem d_Model_follows_144 : decode prog_13_method_49_code 144 = .ok (.bipush 14, 2) := by decide +kernel
theorem d_Model_follows_146 : decode prog_13_method_49_code 146 = .ok (.if_icmp .eq 19, 3) := by decide +kernel
theorem d_Model_follows_149 : decode prog_13_method_49_code 149 = .ok (.aload_n 0, 1) := by decide +kernel
theorem d_Model_follows_150 : decode prog_13_method_49_code 150 = .ok (.getfield 227, 3) := by decide +kernel
theorem d_Model_follows_153 : decode prog_13_method_49_code 153 = .ok (.iconst 1, 1) := by decide +kernel
theorem d_Model_follows_154 : decode prog_13_method_49_code 154 = .ok (.if_icmp .eq 11, 3) := by decide +kernel
theorem d_Model_follows_157 : decode prog_13_method_49_code 157 = .ok (.aload_n 0, 1) := by decide +kernel
theorem d_Model_follows_158 : decode prog_13_method_49_code 158 = .ok (.getfield 227, 3) := by decide +kernel
theorem d_Model_follows_161 : decode prog_13_method_49_code 161 = .ok (.iconst 2, 1) := by decide +kernel
theorem d_Model_follows_162 : decode prog_13_method_49_code 162 = .ok (.if_icmp .ne 7, 3) := by decide +kernel
theorem d_Model_follows_165 : decode prog_13_method_49_code 165 = .ok (.iconst 1, 1) := by decide +kernel
theorem d_Model_follows_166 : decode prog_13_method_49_code 166 = .ok (.goto 4, 3) := by decide +kernel
theorem d_Model_follows_169 : decode prog_13_method_49_code 169 = .ok (.iconst 0, 1) := by decide +kernel
theorem d_Model_follows_170 : decode prog_13_method_49_code 170 = .ok (.istore_n 2, 1) := by decide +kernel
theorem d_Model_follows_171 : decode prog_13_method_49_code 171 = .ok (.aload_n 0, 1) := by decide +kernel
theorem d_Model_follows_172 : decode prog_13_method_49_code 172 = .ok (.iload_n 1, 1) := by decide +kernel
theorem d_Model_follows_173 : decode prog_13_method_49_code 173 = .ok (.iconst 4, 1) := by decide +kernel
theorem d_Model_follows_174 : decode prog_13_method_49_code 174 = .ok (.if_icmp .ne 11, 3) := by decide +kernel
theorem d_Model_follows_177 : decode prog_13_method_49_code 177 = .ok (.iload_n 2, 1) := by decide +kernel
theorem d_Model_follows_178 : decode prog_13_method_49_code 178 = .ok (.ifCond .ne 7, 3) := by decide +kernel
theorem d_Model_follows_181 : decode prog_13_method_49_code 181 = .ok (.iconst 1, 1) := by decide +kernel
theorem d_Model_follows_182 : decode prog_13_method_49_code 182 = .ok (.goto 4, 3) := by decide +kernel
theorem d_Model_follows_185 : decode prog_13_method_49_code 185 = .ok (.iconst 0, 1) := by decide +kernel
theorem d_Model_follows_186 : decode prog_13_method_49_code 186 = .ok (.aload_n 0, 1) := by decide +kernel
theorem d_Model_follows_187 : decode prog_13_method_49_code 187 = .ok (.getfield 218, 3) := by decide +kernel
theorem d_Model_follows_190 : decode prog_13_method_49_code 190 = .ok (.invokevirtual 250, 3) := by decide +kernel
theorem d_Model_follows_193 : decode prog_13_method_49_code 193 = .ok (.aload_n 0, 1) := by decide +kernel
theorem d_Model_follows_194 : decode prog_13_method_49_code 194 = .ok (.getfield 71, 3) := by decide +kernel
theorem d_Model_follows_197 : decode prog_13_method_49_code 197 = .ok (.ifCond .lt 4, 3) := by decide +kernel
theorem d_Model_follows_200 : decode prog_13_method_49_code 200 = .ok (.return_, 1) := by decide +kernel
theorem d_Model_follows_201 : decode prog_13_method_49_code 201 = .ok (.aload_n 0, 1) := by decide +kernel
theorem d_Model_follows_202 : decode prog_13_method_49_code 202 = .ok (.iload_n 1, 1) := by decide +kernel
theorem d_Model_follows_203 : decode prog_13_method_49_code 203 = .ok (.invokevirtual 300, 3) := by decide +kernel
theorem d_Model_follows_206 : decode prog_13_method_49_code 206 = .ok (.iload_n 1, 1) := by decide +kernel
theorem d_Model_follows_207 : decode prog_13_method_49_code 207 = .ok (.iconst 4, 1) := by decide +kernel
theorem d_Model_follows_208 : decode prog_13_method_49_code 208 = .ok (.if_icmp .eq 7, 3) := by decide +kernel
theorem d_Model_follows_211 : decode prog_13_method_49_code 211 = .ok (.aload_n 0, 1) := by decide +kernel
theorem d_Model_follows_212 : decode prog_13_method_49_code 212 = .ok (.invokevirtual 257, 3) := by decide +kernel
theorem d_Model_follows_215 : decode prog_13_method_49_code 215 = .ok (.aload_n 0, 1) := by decide +kernel
theorem d_Model_follows_216 : decode prog_13_method_49_code 216 = .ok (.iconst 0, 1) := by decide +kernel
theorem d_Model_follows_217 : decode prog_13_method_49_code 217 = .ok (.putfield 297, 3) := by decide +kernel
theorem d_Model_follows_220 : decode prog_13_method_49_code 220 = .ok (.return_, 1) := by decide +kernel
theorem d_Model_reduces_0 : decode prog_13_method_45_code 0 = .ok (.aload_n 0, 1) := by decide +kernel
theorem d_Model_reduces_1 : decode prog_13_method_45_code 1 = .ok (.getfield 278, 3) := by decide +kernel
theorem d_Model_reduces_4 : decode prog_13_method_45_code 4 = .ok (.ifCond .le 75, 3) := by decide +kernel
theorem d_Model_reduces_7 : decode prog_13_method_45_code 7 = .ok (.aload_n 0, 1) := by decide +kernel
theorem d_Model_reduces_8 : decode prog_13_method_45_code 8 = .ok (.getfield 104, 3) := by decide +kernel
theorem d_Model_reduces_11 : decode prog_13_method_45_code 11 = .ok (.aload_n 0, 1) := by decide +kernel
theorem d_Model_reduces_12 : decode prog_13_method_45_code 12 = .ok (.getfield 278, 3) := by decide +kernel
theorem d_Model_reduces_15 : decode prog_13_method_45_code 15 = .ok (.iconst 1, 1) := by decide +kernel
theorem d_Model_reduces_16 : decode prog_13_method_45_code 16 = .ok (.isub, 1) := by decide +kernel
theorem d_Model_reduces_17 : decode prog_13_method_45_code 17 = .ok (.iaload, 1) := by decide +kernel
theorem d_Model_reduces_18 : decode prog_13_method_45_code 18 = .ok (.iconst 5, 1) := by decide +kernel
theorem d_Model_reduces_19 : decode prog_13_method_45_code 19 = .ok (.if_icmp .ge 60, 3) := by decide +kernel
theorem d_Model_reduces_22 : decode prog_13_method_45_code 22 = .ok (.aload_n 0, 1) := by decide +kernel
theorem d_Model_reduces_23 : decode prog_13_method_45_code 23 = .ok (.getfield 104, 3) := by decide +kernel
theorem d_Model_reduces_26 : decode prog_13_method_45_code 26 = .ok (.aload_n 0, 1) := by decide +kernel
theorem d_Model_reduces_27 : decode prog_13_method_45_code 27 = .ok (.getfield 278, 3) := by decide +kernel
theorem d_Model_reduces_30 : decode prog_13_method_45_code 30 = .ok (.iconst 1, 1) := by decide +kernel
theorem d_Model_reduces_31 : decode prog_13_method_45_code 31 = .ok (.isub, 1) := by decide +kernel
theorem d_Model_reduces_32 : decode prog_13_method_45_code 32 = .ok (.iaload, 1) := by decide +kernel
theorem d_Model_reduces_33 : decode prog_13_method_45_code 33 = .ok (.iload_n 1, 1) := by decide +kernel
theorem d_Model_reduces_34 : decode prog_13_method_45_code 34 = .ok (.if_icmp .lt 45, 3) := by decide +kernel
theorem d_Model_reduces_37 : decode prog_13_method_45_code 37 = .ok (.aload_n 0, 1) := by decide +kernel
theorem d_Model_reduces_38 : decode prog_13_method_45_code 38 = .ok (.dup, 1) := by decide +kernel
theorem d_Model_reduces_39 : decode prog_13_method_45_code 39 = .ok (.getfield 278, 3) := by decide +kernel
theorem d_Model_reduces_42 : decode prog_13_method_45_code 42 = .ok (.iconst 1, 1) := by decide +kernel
theorem d_Model_reduces_43 : decode prog_13_method_45_code 43 = .ok (.isub, 1) := by decide +kernel
theorem d_Model_reduces_44 : decode prog_13_method_45_code 44 = .ok (.putfield 278, 3) := by decide +kernel
theorem d_Model_reduces_47 : decode prog_13_method_45_code 47 = .ok (.aload_n 0, 1) := by decide +kernel
theorem d_Model_reduces_48 : decode prog_13_method_45_code 48 = .ok (.getfield 101, 3) := by decide +kernel
theorem d_Model_reduces_51 : decode prog_13_method_45_code 51 = .ok (.aload_n 0, 1) := by decide +kernel
theorem d_Model_reduces_52 : decode prog_13_method_45_code 52 = .ok (.getfield 272, 3) := by decide +kernel
theorem d_Model_reduces_55 : decode prog_13_method_45_code 55 = .ok (.aload_n 0, 1) := by decide +kernel
theorem d_Model_reduces_56 : decode prog_13_method_45_code 56 = .ok (.getfield 104, 3) := by decide +kernel
theorem d_Model_reduces_59 : decode prog_13_method_45_code 59 = .ok (.aload_n 0, 1) := by decide +kernel
theorem d_Model_reduces_60 : decode prog_13_method_45_code 60 = .ok (.getfield 278, 3) := by decide +kernel
theorem d_Model_reduces_63 : decode prog_13_method_45_code 63 = .ok (.iaload, 1) := by decide +kernel
theorem d_Model_reduces_64 : decode prog_13_method_45_code 64 = .ok (.ineg, 1) := by decide +kernel
theorem d_Model_reduces_65 : decode prog_13_method_45_code 65 = .ok (.iastore, 1) := by decide +kernel
theorem d_Model_reduces_66 : decode prog_13_method_45_code 66 = .ok (.aload_n 0, 1) := by decide +kernel
theorem d_Model_reduces_67 : decode prog_13_method_45_code 67 = .ok (.dup, 1) := by decide +kernel
theorem d_Model_reduces_68 : decode prog_13_method_45_code 68 = .ok (.getfield 272, 3) := by decide +kernel
theorem d_Model_reduces_71 : decode prog_13_method_45_code 71 = .ok (.iconst 1, 1) := by decide +kernel
theorem d_Model_reduces_72 : decode prog_13_method_45_code 72 = .ok (.iadd, 1) := by decide +kernel
theorem d_Model_reduces_73 : decode prog_13_method_45_code 73 = .ok (.putfield 272, 3) := by decide +kernel
theorem d_Model_reduces_76 : decode prog_13_method_45_code 76 = .ok (.goto (-76), 3) := by decide +kernel
theorem d_Model_reduces_79 : decode prog_13_method_45_code 79 = .ok (.return_, 1) := by decide +kernel
theorem d_Model_wrongs_0 : decode prog_13_method_35_code 0 = .ok (.iload_n 1, 1) := by decide +kernel
theorem d_Model_wrongs_1 : decode prog_13_method_35_code 1 = .ok (.ifCond .eq 15, 3) := by decide +kernel
theorem d_Model_wrongs_4 : decode prog_13_method_35_code 4 = .ok (.aload_n 0, 1) := by decide +kernel
theorem d_Model_wrongs_5 : decode prog_13_method_35_code 5 = .ok (.getfield 71, 3) := by decide +kernel
theorem d_Model_wrongs_8 : decode prog_13_method_35_code 8 = .ok (.ifCond .ge 8, 3) := by decide +kernel
theorem d_Model_wrongs_11 : decode prog_13_method_35_code 11 = .ok (.aload_n 0, 1) := by decide +kernel
theorem d_Model_wrongs_12 : decode prog_13_method_35_code 12 = .ok (.iload_n 2, 1) := by decide +kernel
theorem d_Model_wrongs_13 : decode prog_13_method_35_code 13 = .ok (.putfield 71, 3) := by decide +kernel
theorem d_Model_wrongs_16 : decode prog_13_method_35_code 16 = .ok (.return_, 1) := by decide +kernel
theorem d_Model_closesFilters_0 : decode prog_13_method_43_code 0 = .ok (.aload_n 0, 1) := by decide +kernel
theorem d_Model_closesFilters_1 : decode prog_13_method_43_code 1 = .ok (.getfield 278, 3) := by decide +kernel
theorem d_Model_closesFilters_4 : decode prog_13_method_43_code 4 = .ok (.ifCond .le 45, 3) := by decide +kernel
theorem d_Model_closesFilters_7 : decode prog_13_method_43_code 7 = .ok (.aload_n 0, 1) := by decide +kernel
theorem d_Model_closesFilters_8 : decode prog_13_method_43_code 8 = .ok (.getfield 104, 3) := by decide +kernel
theorem d_Model_closesFilters_11 : decode prog_13_method_43_code 11 = .ok (.aload_n 0, 1) := by decide +kernel
theorem d_Model_closesFilters_12 : decode prog_13_method_43_code 12 = .ok (.getfield 278, 3) := by decide +kernel
theorem d_Model_closesFilters_15 : decode prog_13_method_43_code 15 = .ok (.iconst 1, 1) := by decide +kernel
theorem d_Model_closesFilters_16 : decode prog_13_method_43_code 16 = .ok (.isub, 1) := by decide +kernel
theorem d_Model_closesFilters_17 : decode prog_13_method_43_code 17 = .ok (.iaload, 1) := by decide +kernel
theorem d_Model_closesFilters_18 : decode prog_13_method_43_code 18 = .ok (.bipush 6, 2) := by decide +kernel
theorem d_Model_closesFilters_20 : decode prog_13_method_43_code 20 = .ok (.if_icmp .ne 29, 3) := by decide +kernel
theorem d_Model_closesFilters_23 : decode prog_13_method_43_code 23 = .ok (.aload_n 0, 1) := by decide +kernel
theorem d_Model_closesFilters_24 : decode prog_13_method_43_code 24 = .ok (.dup, 1) := by decide +kernel
theorem d_Model_closesFilters_25 : decode prog_13_method_43_code 25 = .ok (.getfield 278, 3) := by decide +kernel
theorem d_Model_closesFilters_28 : decode prog_13_method_43_code 28 = .ok (.iconst 1, 1) := by decide +kernel
theorem d_Model_closesFilters_29 : decode prog_13_method_43_code 29 = .ok (.isub, 1) := by decide +kernel
theorem d_Model_closesFilters_30 : decode prog_13_method_43_code 30 = .ok (.putfield 278, 3) := by decide +kernel
theorem d_Model_closesFilters_33 : decode prog_13_method_43_code 33 = .ok (.aload_n 0, 1) := by decide +kernel
theorem d_Model_closesFilters_34 : decode prog_13_method_43_code 34 = .ok (.aload_n 0, 1) := by decide +kernel
theorem d_Model_closesFilters_35 : decode prog_13_method_43_code 35 = .ok (.getfield 107, 3) := by decide +kernel
theorem d_Model_closesFilters_38 : decode prog_13_method_43_code 38 = .ok (.aload_n 0, 1) := by decide +kernel
theorem d_Model_closesFilters_39 : decode prog_13_method_43_code 39 = .ok (.getfield 278, 3) := by decide +kernel
theorem d_Model_closesFilters_42 : decode prog_13_method_43_code 42 = .ok (.iaload, 1) := by decide +kernel
theorem d_Model_closesFilters_43 : decode prog_13_method_43_code 43 = .ok (.putfield 266, 3) := by decide +kernel
theorem d_Model_closesFilters_46 : decode prog_13_method_43_code 46 = .ok (.goto (-46), 3) := by decide +kernel
theorem d_Model_closesFilters_49 : decode prog_13_method_43_code 49 = .ok (.return_, 1) := by decide +kernel
theorem d_Model_next_0 : decode prog_13_method_34_code 0 = .ok (.aload_n 0, 1) := by decide +kernel
theorem d_Model_next_1 : decode prog_13_method_34_code 1 = .ok (.aload_n 0, 1) := by decide +kernel
theorem d_Model_next_2 : decode prog_13_method_34_code 2 = .ok (.getfield 215, 3) := by decide +kernel
theorem d_Model_next_5 : decode prog_13_method_34_code 5 = .ok (.putfield 224, 3) := by decide +kernel
theorem d_Model_next_8 : decode prog_13_method_34_code 8 = .ok (.aload_n 0, 1) := by decide +kernel
theorem d_Model_next_9 : decode prog_13_method_34_code 9 = .ok (.invokevirtual 234, 3) := by decide +kernel
theorem d_Model_next_12 : decode prog_13_method_34_code 12 = .ok (.return_, 1) := by decide +kernel
theorem d_Model_joins_0 : decode prog_13_method_46_code 0 = .ok (.aload_n 0, 1) := by decide +kernel
theorem d_Model_joins_1 : decode prog_13_method_46_code 1 = .ok (.iload_n 1, 1) := by decide +kernel
theorem d_Model_joins_2 : decode prog_13_method_46_code 2 = .ok (.invokevirtual 281, 3) := by decide +kernel
theorem d_Model_joins_5 : decode prog_13_method_46_code 5 = .ok (.aload_n 0, 1) := by decide +kernel
theorem d_Model_joins_6 : decode prog_13_method_46_code 6 = .ok (.iload_n 1, 1) := by decide +kernel
theorem d_Model_joins_7 : decode prog_13_method_46_code 7 = .ok (.invokevirtual 285, 3) := by decide +kernel
theorem d_Model_joins_10 : decode prog_13_method_46_code 10 = .ok (.return_, 1) := by decide +kernel
theorem d_Model_pushes_0 : decode prog_13_method_42_code 0 = .ok (.aload_n 0, 1) := by decide +kernel
theorem d_Model_pushes_1 : decode prog_13_method_42_code 1 = .ok (.getfield 104, 3) := by decide +kernel
theorem d_Model_pushes_4 : decode prog_13_method_42_code 4 = .ok (.aload_n 0, 1) := by decide +kernel
theorem d_Model_pushes_5 : decode prog_13_method_42_code 5 = .ok (.getfield 278, 3) := by decide +kernel
theorem d_Model_pushes_8 : decode prog_13_method_42_code 8 = .ok (.iload_n 1, 1) := by decide +kernel
theorem d_Model_pushes_9 : decode prog_13_method_42_code 9 = .ok (.iastore, 1) := by decide +kernel
theorem d_Model_pushes_10 : decode prog_13_method_42_code 10 = .ok (.aload_n 0, 1) := by decide +kernel
theorem d_Model_pushes_11 : decode prog_13_method_42_code 11 = .ok (.getfield 107, 3) := by decide +kernel
theorem d_Model_pushes_14 : decode prog_13_method_42_code 14 = .ok (.aload_n 0, 1) := by decide +kernel
theorem d_Model_pushes_15 : decode prog_13_method_42_code 15 = .ok (.getfield 278, 3) := by decide +kernel
theorem d_Model_pushes_18 : decode prog_13_method_42_code 18 = .ok (.aload_n 0, 1) := by decide +kernel
theorem d_Model_pushes_19 : decode prog_13_method_42_code 19 = .ok (.getfield 266, 3) := by decide +kernel
theorem d_Model_pushes_22 : decode prog_13_method_42_code 22 = .ok (.iastore, 1) := by decide +kernel
theorem d_Model_pushes_23 : decode prog_13_method_42_code 23 = .ok (.aload_n 0, 1) := by decide +kernel
theorem d_Model_pushes_24 : decode prog_13_method_42_code 24 = .ok (.dup, 1) := by decide +kernel
theorem d_Model_pushes_25 : decode prog_13_method_42_code 25 = .ok (.getfield 278, 3) := by decide +kernel
theorem d_Model_pushes_28 : decode prog_13_method_42_code 28 = .ok (.iconst 1, 1) := by decide +kernel
theorem d_Model_pushes_29 : decode prog_13_method_42_code 29 = .ok (.iadd, 1) := by decide +kernel
theorem d_Model_pushes_30 : decode prog_13_method_42_code 30 = .ok (.putfield 278, 3) := by decide +kernel
theorem d_Model_pushes_33 : decode prog_13_method_42_code 33 = .ok (.return_, 1) := by decide +kernel
theorem d_Model_atom_0 : decode prog_13_method_48_code 0 = .ok (.aload_n 0, 1) := by decide +kernel
theorem d_Model_atom_1 : decode prog_13_method_48_code 1 = .ok (.getfield 227, 3) := by decide +kernel
theorem d_Model_atom_4 : decode prog_13_method_48_code 4 = .ok (.iconst 3, 1) := by decide +kernel
theorem d_Model_atom_5 : decode prog_13_method_48_code 5 = .ok (.if_icmp .ne 37, 3) := by decide +kernel
theorem d_Model_atom_8 : decode prog_13_method_48_code 8 = .ok (.aload_n 0, 1) := by decide +kernel
theorem d_Model_atom_9 : decode prog_13_method_48_code 9 = .ok (.aload_n 0, 1) := by decide +kernel
theorem d_Model_atom_10 : decode prog_13_method_48_code 10 = .ok (.invokevirtual 288, 3) := by decide +kernel
theorem d_Model_atom_13 : decode prog_13_method_48_code 13 = .ok (.bipush 8, 2) := by decide +kernel
theorem d_Model_atom_15 : decode prog_13_method_48_code 15 = .ok (.if_icmp .ne 7, 3) := by decide +kernel
theorem d_Model_atom_18 : decode prog_13_method_48_code 18 = .ok (.iconst 1, 1) := by decide +kernel
theorem d_Model_atom_19 : decode prog_13_method_48_code 19 = .ok (.goto 4, 3) := by decide +kernel
theorem d_Model_atom_22 : decode prog_13_method_48_code 22 = .ok (.iconst 0, 1) := by decide +kernel
theorem d_Model_atom_23 : decode prog_13_method_48_code 23 = .ok (.aload_n 0, 1) := by decide +kernel
theorem d_Model_atom_24 : decode prog_13_method_48_code 24 = .ok (.getfield 218, 3) := by decide +kernel
theorem d_Model_atom_27 : decode prog_13_method_48_code 27 = .ok (.invokevirtual 250, 3) := by decide +kernel
theorem d_Model_atom_30 : decode prog_13_method_48_code 30 = .ok (.aload_n 0, 1) := by decide +kernel
theorem d_Model_atom_31 : decode prog_13_method_48_code 31 = .ok (.iconst 5, 1) := by decide +kernel
theorem d_Model_atom_32 : decode prog_13_method_48_code 32 = .ok (.invokevirtual 285, 3) := by decide +kernel
theorem d_Model_atom_35 : decode prog_13_method_48_code 35 = .ok (.aload_n 0, 1) := by decide +kernel
theorem d_Model_atom_36 : decode prog_13_method_48_code 36 = .ok (.invokevirtual 257, 3) := by decide +kernel
theorem d_Model_atom_39 : decode prog_13_method_48_code 39 = .ok (.goto 72, 3) := by decide +kernel
theorem d_Model_atom_42 : decode prog_13_method_48_code 42 = .ok (.aload_n 0, 1) := by decide +kernel
theorem d_Model_atom_43 : decode prog_13_method_48_code 43 = .ok (.getfield 227, 3) := by decide +kernel
theorem d_Model_atom_46 : decode prog_13_method_48_code 46 = .ok (.bipush 6, 2) := by decide +kernel
theorem d_Model_atom_48 : decode prog_13_method_48_code 48 = .ok (.if_icmp .eq 10, 3) := by decide +kernel
theorem d_Model_atom_51 : decode prog_13_method_48_code 51 = .ok (.aload_n 0, 1) := by decide +kernel
theorem d_Model_atom_52 : decode prog_13_method_48_code 52 = .ok (.invokevirtual 237, 3) := by decide +kernel
theorem d_Model_atom_55 : decode prog_13_method_48_code 55 = .ok (.ifCond .eq 10, 3) := by decide +kernel
theorem d_Model_atom_58 : decode prog_13_method_48_code 58 = .ok (.aload_n 0, 1) := by decide +kernel
theorem d_Model_atom_59 : decode prog_13_method_48_code 59 = .ok (.invokevirtual 291, 3) := by decide +kernel
theorem d_Model_atom_62 : decode prog_13_method_48_code 62 = .ok (.goto 49, 3) := by decide +kernel
theorem d_Model_atom_65 : decode prog_13_method_48_code 65 = .ok (.aload_n 0, 1) := by decide +kernel
theorem d_Model_atom_66 : decode prog_13_method_48_code 66 = .ok (.getfield 227, 3) := by decide +kernel
theorem d_Model_atom_69 : decode prog_13_method_48_code 69 = .ok (.bipush 7, 2) := by decide +kernel
theorem d_Model_atom_71 : decode prog_13_method_48_code 71 = .ok (.if_icmp .eq 19, 3) := by decide +kernel
theorem d_Model_atom_74 : decode prog_13_method_48_code 74 = .ok (.aload_n 0, 1) := by decide +kernel
theorem d_Model_atom_75 : decode prog_13_method_48_code 75 = .ok (.getfield 227, 3) := by decide +kernel
theorem d_Model_atom_78 : decode prog_13_method_48_code 78 = .ok (.bipush 14, 2) := by decide +kernel
theorem d_Model_atom_80 : decode prog_13_method_48_code 80 = .ok (.if_icmp .eq 10, 3) := by decide +kernel
theorem d_Model_atom_83 : decode prog_13_method_48_code 83 = .ok (.aload_n 0, 1) := by decide +kernel
theorem d_Model_atom_84 : decode prog_13_method_48_code 84 = .ok (.invokevirtual 244, 3) := by decide +kernel
theorem d_Model_atom_87 : decode prog_13_method_48_code 87 = .ok (.ifCond .eq 15, 3) := by decide +kernel
theorem d_Model_atom_90 : decode prog_13_method_48_code 90 = .ok (.aload_n 0, 1) := by decide +kernel
theorem d_Model_atom_91 : decode prog_13_method_48_code 91 = .ok (.invokevirtual 294, 3) := by decide +kernel
theorem d_Model_atom_94 : decode prog_13_method_48_code 94 = .ok (.aload_n 0, 1) := by decide +kernel
theorem d_Model_atom_95 : decode prog_13_method_48_code 95 = .ok (.iconst 1, 1) := by decide +kernel
theorem d_Model_atom_96 : decode prog_13_method_48_code 96 = .ok (.putfield 297, 3) := by decide +kernel
theorem d_Model_atom_99 : decode prog_13_method_48_code 99 = .ok (.goto 12, 3) := by decide +kernel
theorem d_Model_atom_102 : decode prog_13_method_48_code 102 = .ok (.aload_n 0, 1) := by decide +kernel
theorem d_Model_atom_103 : decode prog_13_method_48_code 103 = .ok (.iconst 1, 1) := by decide +kernel
theorem d_Model_atom_104 : decode prog_13_method_48_code 104 = .ok (.aload_n 0, 1) := by decide +kernel
theorem d_Model_atom_105 : decode prog_13_method_48_code 105 = .ok (.getfield 218, 3) := by decide +kernel
theorem d_Model_atom_108 : decode prog_13_method_48_code 108 = .ok (.invokevirtual 250, 3) := by decide +kernel
theorem d_Model_atom_111 : decode prog_13_method_48_code 111 = .ok (.return_, 1) := by decide +kernel
theorem d_Model_depth_0 : decode prog_13_method_44_code 0 = .ok (.iconst 0, 1) := by decide +kernel
theorem d_Model_depth_1 : decode prog_13_method_44_code 1 = .ok (.istore_n 1, 1) := by decide +kernel
theorem d_Model_depth_2 : decode prog_13_method_44_code 2 = .ok (.iconst 0, 1) := by decide +kernel
theorem d_Model_depth_3 : decode prog_13_method_44_code 3 = .ok (.istore_n 2, 1) := by decide +kernel
theorem d_Model_depth_4 : decode prog_13_method_44_code 4 = .ok (.iload_n 2, 1) := by decide +kernel
theorem d_Model_depth_5 : decode prog_13_method_44_code 5 = .ok (.aload_n 0, 1) := by decide +kernel
theorem d_Model_depth_6 : decode prog_13_method_44_code 6 = .ok (.getfield 278, 3) := by decide +kernel
theorem d_Model_depth_9 : decode prog_13_method_44_code 9 = .ok (.if_icmp .ge 22, 3) := by decide +kernel
theorem d_Model_depth_12 : decode prog_13_method_44_code 12 = .ok (.aload_n 0, 1) := by decide +kernel
theorem d_Model_depth_13 : decode prog_13_method_44_code 13 = .ok (.getfield 104, 3) := by decide +kernel
theorem d_Model_depth_16 : decode prog_13_method_44_code 16 = .ok (.iload_n 2, 1) := by decide +kernel
theorem d_Model_depth_17 : decode prog_13_method_44_code 17 = .ok (.iaload, 1) := by decide +kernel
theorem d_Model_depth_18 : decode prog_13_method_44_code 18 = .ok (.iconst 5, 1) := by decide +kernel
theorem d_Model_depth_19 : decode prog_13_method_44_code 19 = .ok (.if_icmp .lt 6, 3) := by decide +kernel
theorem d_Model_depth_22 : decode prog_13_method_44_code 22 = .ok (.iinc 1 1, 3) := by decide +kernel
theorem d_Model_depth_25 : decode prog_13_method_44_code 25 = .ok (.iinc 2 1, 3) := by decide +kernel
theorem d_Model_depth_28 : decode prog_13_method_44_code 28 = .ok (.goto (-24), 3) := by decide +kernel
theorem d_Model_depth_31 : decode prog_13_method_44_code 31 = .ok (.iload_n 1, 1) := by decide +kernel
theorem d_Model_depth_32 : decode prog_13_method_44_code 32 = .ok (.ireturn, 1) := by decide +kernel
theorem d_Model_isFilter_0 : decode prog_13_method_36_code 0 = .ok (.aload_n 0, 1) := by decide +kernel
theorem d_Model_isFilter_1 : decode prog_13_method_36_code 1 = .ok (.getfield 227, 3) := by decide +kernel
theorem d_Model_isFilter_4 : decode prog_13_method_36_code 4 = .ok (.iconst 1, 1) := by decide +kernel
theorem d_Model_isFilter_5 : decode prog_13_method_36_code 5 = .ok (.if_icmp .ne 20, 3) := by decide +kernel
theorem d_Model_isFilter_8 : decode prog_13_method_36_code 8 = .ok (.aload_n 0, 1) := by decide +kernel
theorem d_Model_isFilter_9 : decode prog_13_method_36_code 9 = .ok (.aload_n 0, 1) := by decide +kernel
theorem d_Model_isFilter_10 : decode prog_13_method_36_code 10 = .ok (.getfield 215, 3) := by decide +kernel
theorem d_Model_isFilter_13 : decode prog_13_method_36_code 13 = .ok (.invokevirtual 221, 3) := by decide +kernel
theorem d_Model_isFilter_16 : decode prog_13_method_36_code 16 = .ok (.bipush 58, 2) := by decide +kernel
theorem d_Model_isFilter_18 : decode prog_13_method_36_code 18 = .ok (.if_icmp .ne 7, 3) := by decide +kernel
theorem d_Model_isFilter_21 : decode prog_13_method_36_code 21 = .ok (.iconst 1, 1) := by decide +kernel
theorem d_Model_isFilter_22 : decode prog_13_method_36_code 22 = .ok (.goto 4, 3) := by decide +kernel
theorem d_Model_isFilter_25 : decode prog_13_method_36_code 25 = .ok (.iconst 0, 1) := by decide +kernel
theorem d_Model_isFilter_26 : decode prog_13_method_36_code 26 = .ok (.ireturn, 1) := by decide +kernel
theorem d_Model_filter_0 : decode prog_13_method_47_code 0 = .ok (.aload_n 0, 1) := by decide +kernel
theorem d_Model_filter_1 : decode prog_13_method_47_code 1 = .ok (.getfield 218, 3) := by decide +kernel
theorem d_Model_filter_4 : decode prog_13_method_47_code 4 = .ok (.istore_n 1, 1) := by decide +kernel
theorem d_Model_filter_5 : decode prog_13_method_47_code 5 = .ok (.aload_n 0, 1) := by decide +kernel
theorem d_Model_filter_6 : decode prog_13_method_47_code 6 = .ok (.getfield 227, 3) := by decide +kernel
theorem d_Model_filter_9 : decode prog_13_method_47_code 9 = .ok (.bipush 6, 2) := by decide +kernel
theorem d_Model_filter_11 : decode prog_13_method_47_code 11 = .ok (.if_icmp .ne 7, 3) := by decide +kernel
theorem d_Model_filter_14 : decode prog_13_method_47_code 14 = .ok (.iconst 1, 1) := by decide +kernel
theorem d_Model_filter_15 : decode prog_13_method_47_code 15 = .ok (.goto 4, 3) := by decide +kernel
theorem d_Model_filter_18 : decode prog_13_method_47_code 18 = .ok (.iconst 0, 1) := by decide +kernel
theorem d_Model_filter_19 : decode prog_13_method_47_code 19 = .ok (.istore_n 2, 1) := by decide +kernel
theorem d_Model_filter_20 : decode prog_13_method_47_code 20 = .ok (.iload_n 2, 1) := by decide +kernel
theorem d_Model_filter_21 : decode prog_13_method_47_code 21 = .ok (.ifCond .eq 7, 3) := by decide +kernel
theorem d_Model_filter_24 : decode prog_13_method_47_code 24 = .ok (.aload_n 0, 1) := by decide +kernel
theorem d_Model_filter_25 : decode prog_13_method_47_code 25 = .ok (.invokevirtual 257, 3) := by decide +kernel
theorem d_Model_filter_28 : decode prog_13_method_47_code 28 = .ok (.aload_n 0, 1) := by decide +kernel
theorem d_Model_filter_29 : decode prog_13_method_47_code 29 = .ok (.invokevirtual 237, 3) := by decide +kernel
theorem d_Model_filter_32 : decode prog_13_method_47_code 32 = .ok (.ifCond .eq 46, 3) := by decide +kernel
theorem d_Model_filter_35 : decode prog_13_method_47_code 35 = .ok (.aload_n 0, 1) := by decide +kernel
theorem d_Model_filter_36 : decode prog_13_method_47_code 36 = .ok (.getfield 215, 3) := by decide +kernel
theorem d_Model_filter_39 : decode prog_13_method_47_code 39 = .ok (.aload_n 0, 1) := by decide +kernel
theorem d_Model_filter_40 : decode prog_13_method_47_code 40 = .ok (.getfield 218, 3) := by decide +kernel
theorem d_Model_filter_43 : decode prog_13_method_47_code 43 = .ok (.isub, 1) := by decide +kernel
theorem d_Model_filter_44 : decode prog_13_method_47_code 44 = .ok (.iconst 1, 1) := by decide +kernel
theorem d_Model_filter_45 : decode prog_13_method_47_code 45 = .ok (.if_icmp .ne 33, 3) := by decide +kernel
theorem d_Model_filter_48 : decode prog_13_method_47_code 48 = .ok (.aload_n 0, 1) := by decide +kernel
theorem d_Model_filter_49 : decode prog_13_method_47_code 49 = .ok (.aload_n 0, 1) := by decide +kernel
theorem d_Model_filter_50 : decode prog_13_method_47_code 50 = .ok (.getfield 218, 3) := by decide +kernel
theorem d_Model_filter_53 : decode prog_13_method_47_code 53 = .ok (.invokevirtual 221, 3) := by decide +kernel
theorem d_Model_filter_56 : decode prog_13_method_47_code 56 = .ok (.bipush 97, 2) := by decide +kernel
theorem d_Model_filter_58 : decode prog_13_method_47_code 58 = .ok (.if_icmp .eq 16, 3) := by decide +kernel
theorem d_Model_filter_61 : decode prog_13_method_47_code 61 = .ok (.aload_n 0, 1) := by decide +kernel
theorem d_Model_filter_62 : decode prog_13_method_47_code 62 = .ok (.aload_n 0, 1) := by decide +kernel
theorem d_Model_filter_63 : decode prog_13_method_47_code 63 = .ok (.getfield 218, 3) := by decide +kernel
theorem d_Model_filter_66 : decode prog_13_method_47_code 66 = .ok (.invokevirtual 221, 3) := by decide +kernel
theorem d_Model_filter_69 : decode prog_13_method_47_code 69 = .ok (.bipush 98, 2) := by decide +kernel
theorem d_Model_filter_71 : decode prog_13_method_47_code 71 = .ok (.if_icmp .ne 7, 3) := by decide +kernel
theorem d_Model_filter_74 : decode prog_13_method_47_code 74 = .ok (.iconst 1, 1) := by decide +kernel
theorem d_Model_filter_75 : decode prog_13_method_47_code 75 = .ok (.goto 4, 3) := by decide +kernel
theorem d_Model_filter_78 : decode prog_13_method_47_code 78 = .ok (.iconst 0, 1) := by decide +kernel
theorem d_Model_filter_79 : decode prog_13_method_47_code 79 = .ok (.istore_n 3, 1) := by decide +kernel
theorem d_Model_filter_80 : decode prog_13_method_47_code 80 = .ok (.aload_n 0, 1) := by decide +kernel
theorem d_Model_filter_81 : decode prog_13_method_47_code 81 = .ok (.iload_n 3, 1) := by decide +kernel
theorem d_Model_filter_82 : decode prog_13_method_47_code 82 = .ok (.ifCond .ne 7, 3) := by decide +kernel
theorem d_Model_filter_85 : decode prog_13_method_47_code 85 = .ok (.iconst 1, 1) := by decide +kernel
theorem d_Model_filter_86 : decode prog_13_method_47_code 86 = .ok (.goto 4, 3) := by decide +kernel
theorem d_Model_filter_89 : decode prog_13_method_47_code 89 = .ok (.iconst 0, 1) := by decide +kernel
theorem d_Model_filter_90 : decode prog_13_method_47_code 90 = .ok (.aload_n 0, 1) := by decide +kernel
theorem d_Model_filter_91 : decode prog_13_method_47_code 91 = .ok (.getfield 218, 3) := by decide +kernel
theorem d_Model_filter_94 : decode prog_13_method_47_code 94 = .ok (.invokevirtual 250, 3) := by decide +kernel
theorem d_Model_filter_97 : decode prog_13_method_47_code 97 = .ok (.aload_n 0, 1) := by decide +kernel
theorem d_Model_filter_98 : decode prog_13_method_47_code 98 = .ok (.aload_n 0, 1) := by decide +kernel
theorem d_Model_filter_99 : decode prog_13_method_47_code 99 = .ok (.invokevirtual 288, 3) := by decide +kernel
theorem d_Model_filter_102 : decode prog_13_method_47_code 102 = .ok (.bipush 8, 2) := by decide +kernel
theorem d_Model_filter_104 : decode prog_13_method_47_code 104 = .ok (.if_icmp .ne 7, 3) := by decide +kernel
theorem d_Model_filter_107 : decode prog_13_method_47_code 107 = .ok (.iconst 1, 1) := by decide +kernel
theorem d_Model_filter_108 : decode prog_13_method_47_code 108 = .ok (.goto 4, 3) := by decide +kernel
theorem d_Model_filter_111 : decode prog_13_method_47_code 111 = .ok (.iconst 0, 1) := by decide +kernel
theorem d_Model_filter_112 : decode prog_13_method_47_code 112 = .ok (.iload_n 1, 1) := by decide +kernel
theorem d_Model_filter_113 : decode prog_13_method_47_code 113 = .ok (.invokevirtual 250, 3) := by decide +kernel
theorem d_Model_filter_116 : decode prog_13_method_47_code 116 = .ok (.aload_n 0, 1) := by decide +kernel
theorem d_Model_filter_117 : decode prog_13_method_47_code 117 = .ok (.getfield 71, 3) := by decide +kernel
theorem d_Model_filter_120 : decode prog_13_method_47_code 120 = .ok (.ifCond .lt 4, 3) := by decide +kernel
theorem d_Model_filter_123 : decode prog_13_method_47_code 123 = .ok (.return_, 1) := by decide +kernel
theorem d_Model_filter_124 : decode prog_13_method_47_code 124 = .ok (.aload_n 0, 1) := by decide +kernel
theorem d_Model_filter_125 : decode prog_13_method_47_code 125 = .ok (.bipush 6, 2) := by decide +kernel
theorem d_Model_filter_127 : decode prog_13_method_47_code 127 = .ok (.invokevirtual 285, 3) := by decide +kernel
theorem d_Model_filter_130 : decode prog_13_method_47_code 130 = .ok (.aload_n 0, 1) := by decide +kernel
theorem d_Model_filter_131 : decode prog_13_method_47_code 131 = .ok (.dup, 1) := by decide +kernel
theorem d_Model_filter_132 : decode prog_13_method_47_code 132 = .ok (.getfield 266, 3) := by decide +kernel
theorem d_Model_filter_135 : decode prog_13_method_47_code 135 = .ok (.aload_n 0, 1) := by decide +kernel
theorem d_Model_filter_136 : decode prog_13_method_47_code 136 = .ok (.aload_n 0, 1) := by decide +kernel
theorem d_Model_filter_137 : decode prog_13_method_47_code 137 = .ok (.getfield 218, 3) := by decide +kernel
theorem d_Model_filter_140 : decode prog_13_method_47_code 140 = .ok (.invokevirtual 221, 3) := by decide +kernel
theorem d_Model_filter_143 : decode prog_13_method_47_code 143 = .ok (.bipush 97, 2) := by decide +kernel
theorem d_Model_filter_145 : decode prog_13_method_47_code 145 = .ok (.if_icmp .ne 7, 3) := by decide +kernel
theorem d_Model_filter_148 : decode prog_13_method_47_code 148 = .ok (.iconst 1, 1) := by decide +kernel
theorem d_Model_filter_149 : decode prog_13_method_47_code 149 = .ok (.goto 4, 3) := by decide +kernel
theorem d_Model_filter_152 : decode prog_13_method_47_code 152 = .ok (.iconst 0, 1) := by decide +kernel
theorem d_Model_filter_153 : decode prog_13_method_47_code 153 = .ok (.iload_n 2, 1) := by decide +kernel
theorem d_Model_filter_154 : decode prog_13_method_47_code 154 = .ok (.if_icmp .eq 7, 3) := by decide +kernel
theorem d_Model_filter_157 : decode prog_13_method_47_code 157 = .ok (.iconst 1, 1) := by decide +kernel
theorem d_Model_filter_158 : decode prog_13_method_47_code 158 = .ok (.goto 4, 3) := by decide +kernel
theorem d_Model_filter_161 : decode prog_13_method_47_code 161 = .ok (.iconst 2, 1) := by decide +kernel
theorem d_Model_filter_162 : decode prog_13_method_47_code 162 = .ok (.iand, 1) := by decide +kernel
theorem d_Model_filter_163 : decode prog_13_method_47_code 163 = .ok (.putfield 266, 3) := by decide +kernel
theorem d_Model_filter_166 : decode prog_13_method_47_code 166 = .ok (.aload_n 0, 1) := by decide +kernel
theorem d_Model_filter_167 : decode prog_13_method_47_code 167 = .ok (.invokevirtual 257, 3) := by decide +kernel
theorem d_Model_filter_170 : decode prog_13_method_47_code 170 = .ok (.aload_n 0, 1) := by decide +kernel
theorem d_Model_filter_171 : decode prog_13_method_47_code 171 = .ok (.invokevirtual 257, 3) := by decide +kernel
theorem d_Model_filter_174 : decode prog_13_method_47_code 174 = .ok (.return_, 1) := by decide +kernel
theorem d_Model_isString_0 : decode prog_13_method_37_code 0 = .ok (.aload_n 0, 1) := by decide +kernel
theorem d_Model_isString_1 : decode prog_13_method_37_code 1 = .ok (.getfield 227, 3) := by decide +kernel
theorem d_Model_isString_4 : decode prog_13_method_37_code 4 = .ok (.iconst 2, 1) := by decide +kernel
theorem d_Model_isString_5 : decode prog_13_method_37_code 5 = .ok (.if_icmp .eq 18, 3) := by decide +kernel
theorem d_Model_isString_8 : decode prog_13_method_37_code 8 = .ok (.aload_n 0, 1) := by decide +kernel
theorem d_Model_isString_9 : decode prog_13_method_37_code 9 = .ok (.getfield 227, 3) := by decide +kernel
theorem d_Model_isString_12 : decode prog_13_method_37_code 12 = .ok (.iconst 1, 1) := by decide +kernel
theorem d_Model_isString_13 : decode prog_13_method_37_code 13 = .ok (.if_icmp .ne 14, 3) := by decide +kernel
theorem d_Model_isString_16 : decode prog_13_method_37_code 16 = .ok (.aload_n 0, 1) := by decide +kernel
theorem d_Model_isString_17 : decode prog_13_method_37_code 17 = .ok (.invokevirtual 237, 3) := by decide +kernel
theorem d_Model_isString_20 : decode prog_13_method_37_code 20 = .ok (.ifCond .ne 7, 3) := by decide +kernel
theorem d_Model_isString_23 : decode prog_13_method_37_code 23 = .ok (.iconst 1, 1) := by decide +kernel
theorem d_Model_isString_24 : decode prog_13_method_37_code 24 = .ok (.goto 4, 3) := by decide +kernel
theorem d_Model_isString_27 : decode prog_13_method_37_code 27 = .ok (.iconst 0, 1) := by decide +kernel
theorem d_Model_isString_28 : decode prog_13_method_37_code 28 = .ok (.ireturn, 1) := by decide +kernel
theorem d_Model_group_0 : decode prog_13_method_41_code 0 = .ok (.aload_n 0, 1) := by decide +kernel
theorem d_Model_group_1 : decode prog_13_method_41_code 1 = .ok (.getfield 86, 3) := by decide +kernel
theorem d_Model_group_4 : decode prog_13_method_41_code 4 = .ok (.aload_n 0, 1) := by decide +kernel
theorem d_Model_group_5 : decode prog_13_method_41_code 5 = .ok (.getfield 263, 3) := by decide +kernel
theorem d_Model_group_8 : decode prog_13_method_41_code 8 = .ok (.aload_n 0, 1) := by decide +kernel
theorem d_Model_group_9 : decode prog_13_method_41_code 9 = .ok (.getfield 227, 3) := by decide +kernel
theorem d_Model_group_12 : decode prog_13_method_41_code 12 = .ok (.bipush 7, 2) := by decide +kernel
theorem d_Model_group_14 : decode prog_13_method_41_code 14 = .ok (.if_icmp .ne 7, 3) := by decide +kernel
theorem d_Model_group_17 : decode prog_13_method_41_code 17 = .ok (.iconst 1, 1) := by decide +kernel
theorem d_Model_group_18 : decode prog_13_method_41_code 18 = .ok (.goto 17, 3) := by decide +kernel
theorem d_Model_group_21 : decode prog_13_method_41_code 21 = .ok (.aload_n 0, 1) := by decide +kernel
theorem d_Model_group_22 : decode prog_13_method_41_code 22 = .ok (.getfield 227, 3) := by decide +kernel
theorem d_Model_group_25 : decode prog_13_method_41_code 25 = .ok (.bipush 14, 2) := by decide +kernel
theorem d_Model_group_27 : decode prog_13_method_41_code 27 = .ok (.if_icmp .ne 7, 3) := by decide +kernel
theorem d_Model_group_30 : decode prog_13_method_41_code 30 = .ok (.iconst 2, 1) := by decide +kernel
theorem d_Model_group_31 : decode prog_13_method_41_code 31 = .ok (.goto 4, 3) := by decide +kernel
theorem d_Model_group_34 : decode prog_13_method_41_code 34 = .ok (.iconst 0, 1) := by decide +kernel
theorem d_Model_group_35 : decode prog_13_method_41_code 35 = .ok (.iastore, 1) := by decide +kernel
theorem d_Model_group_36 : decode prog_13_method_41_code 36 = .ok (.aload_n 0, 1) := by decide +kernel
theorem d_Model_group_37 : decode prog_13_method_41_code 37 = .ok (.getfield 89, 3) := by decide +kernel
theorem d_Model_group_40 : decode prog_13_method_41_code 40 = .ok (.aload_n 0, 1) := by decide +kernel
theorem d_Model_group_41 : decode prog_13_method_41_code 41 = .ok (.getfield 263, 3) := by decide +kernel
theorem d_Model_group_44 : decode prog_13_method_41_code 44 = .ok (.aload_n 0, 1) := by decide +kernel
theorem d_Model_group_45 : decode prog_13_method_41_code 45 = .ok (.getfield 247, 3) := by decide +kernel
theorem d_Model_group_48 : decode prog_13_method_41_code 48 = .ok (.iastore, 1) := by decide +kernel
theorem d_Model_group_49 : decode prog_13_method_41_code 49 = .ok (.aload_n 0, 1) := by decide +kernel
theorem d_Model_group_50 : decode prog_13_method_41_code 50 = .ok (.getfield 95, 3) := by decide +kernel
theorem d_Model_group_53 : decode prog_13_method_41_code 53 = .ok (.aload_n 0, 1) := by decide +kernel
theorem d_Model_group_54 : decode prog_13_method_41_code 54 = .ok (.getfield 263, 3) := by decide +kernel
theorem d_Model_group_57 : decode prog_13_method_41_code 57 = .ok (.aload_n 0, 1) := by decide +kernel
theorem d_Model_group_58 : decode prog_13_method_41_code 58 = .ok (.getfield 266, 3) := by decide +kernel
theorem d_Model_group_61 : decode prog_13_method_41_code 61 = .ok (.iastore, 1) := by decide +kernel
theorem d_Model_group_62 : decode prog_13_method_41_code 62 = .ok (.aload_n 0, 1) := by decide +kernel
theorem d_Model_group_63 : decode prog_13_method_41_code 63 = .ok (.getfield 98, 3) := by decide +kernel
theorem d_Model_group_66 : decode prog_13_method_41_code 66 = .ok (.aload_n 0, 1) := by decide +kernel
theorem d_Model_group_67 : decode prog_13_method_41_code 67 = .ok (.getfield 263, 3) := by decide +kernel
theorem d_Model_group_70 : decode prog_13_method_41_code 70 = .ok (.bipush 10, 2) := by decide +kernel
theorem d_Model_group_72 : decode prog_13_method_41_code 72 = .ok (.iastore, 1) := by decide +kernel
theorem d_Model_group_73 : decode prog_13_method_41_code 73 = .ok (.aload_n 0, 1) := by decide +kernel
theorem d_Model_group_74 : decode prog_13_method_41_code 74 = .ok (.getfield 227, 3) := by decide +kernel
theorem d_Model_group_77 : decode prog_13_method_41_code 77 = .ok (.bipush 14, 2) := by decide +kernel
theorem d_Model_group_79 : decode prog_13_method_41_code 79 = .ok (.if_icmp .ne 10, 3) := by decide +kernel
theorem d_Model_group_82 : decode prog_13_method_41_code 82 = .ok (.aload_n 0, 1) := by decide +kernel
theorem d_Model_group_83 : decode prog_13_method_41_code 83 = .ok (.invokevirtual 269, 3) := by decide +kernel
theorem d_Model_group_86 : decode prog_13_method_41_code 86 = .ok (.goto 20, 3) := by decide +kernel
theorem d_Model_group_89 : decode prog_13_method_41_code 89 = .ok (.aload_n 0, 1) := by decide +kernel
theorem d_Model_group_90 : decode prog_13_method_41_code 90 = .ok (.getfield 227, 3) := by decide +kernel
theorem d_Model_group_93 : decode prog_13_method_41_code 93 = .ok (.bipush 7, 2) := by decide +kernel
theorem d_Model_group_95 : decode prog_13_method_41_code 95 = .ok (.if_icmp .ne 7, 3) := by decide +kernel
theorem d_Model_group_98 : decode prog_13_method_41_code 98 = .ok (.aload_n 0, 1) := by decide +kernel
theorem d_Model_group_99 : decode prog_13_method_41_code 99 = .ok (.invokevirtual 257, 3) := by decide +kernel
theorem d_Model_group_102 : decode prog_13_method_41_code 102 = .ok (.aload_n 0, 1) := by decide +kernel
theorem d_Model_group_103 : decode prog_13_method_41_code 103 = .ok (.invokevirtual 260, 3) := by decide +kernel
theorem d_Model_group_106 : decode prog_13_method_41_code 106 = .ok (.aload_n 0, 1) := by decide +kernel
theorem d_Model_group_107 : decode prog_13_method_41_code 107 = .ok (.getfield 71, 3) := by decide +kernel
theorem d_Model_group_110 : decode prog_13_method_41_code 110 = .ok (.ifCond .lt 4, 3) := by decide +kernel
theorem d_Model_group_113 : decode prog_13_method_41_code 113 = .ok (.return_, 1) := by decide +kernel
theorem d_Model_group_114 : decode prog_13_method_41_code 114 = .ok (.aload_n 0, 1) := by decide +kernel
theorem d_Model_group_115 : decode prog_13_method_41_code 115 = .ok (.getfield 92, 3) := by decide +kernel
theorem d_Model_group_118 : decode prog_13_method_41_code 118 = .ok (.aload_n 0, 1) := by decide +kernel
theorem d_Model_group_119 : decode prog_13_method_41_code 119 = .ok (.getfield 263, 3) := by decide +kernel
theorem d_Model_group_122 : decode prog_13_method_41_code 122 = .ok (.aload_n 0, 1) := by decide +kernel
theorem d_Model_group_123 : decode prog_13_method_41_code 123 = .ok (.getfield 247, 3) := by decide +kernel
theorem d_Model_group_126 : decode prog_13_method_41_code 126 = .ok (.aload_n 0, 1) := by decide +kernel
theorem d_Model_group_127 : decode prog_13_method_41_code 127 = .ok (.getfield 89, 3) := by decide +kernel
theorem d_Model_group_130 : decode prog_13_method_41_code 130 = .ok (.aload_n 0, 1) := by decide +kernel
theorem d_Model_group_131 : decode prog_13_method_41_code 131 = .ok (.getfield 263, 3) := by decide +kernel
theorem d_Model_group_134 : decode prog_13_method_41_code 134 = .ok (.iaload, 1) := by decide +kernel
theorem d_Model_group_135 : decode prog_13_method_41_code 135 = .ok (.isub, 1) := by decide +kernel
theorem d_Model_group_136 : decode prog_13_method_41_code 136 = .ok (.iastore, 1) := by decide +kernel
theorem d_Model_group_137 : decode prog_13_method_41_code 137 = .ok (.aload_n 0, 1) := by decide +kernel
theorem d_Model_group_138 : decode prog_13_method_41_code 138 = .ok (.getfield 101, 3) := by decide +kernel
theorem d_Model_group_141 : decode prog_13_method_41_code 141 = .ok (.aload_n 0, 1) := by decide +kernel
theorem d_Model_group_142 : decode prog_13_method_41_code 142 = .ok (.getfield 272, 3) := by decide +kernel
theorem d_Model_group_145 : decode prog_13_method_41_code 145 = .ok (.aload_n 0, 1) := by decide +kernel
theorem d_Model_group_146 : decode prog_13_method_41_code 146 = .ok (.getfield 263, 3) := by decide +kernel
theorem d_Model_group_149 : decode prog_13_method_41_code 149 = .ok (.iastore, 1) := by decide +kernel
theorem d_Model_group_150 : decode prog_13_method_41_code 150 = .ok (.aload_n 0, 1) := by decide +kernel
theorem d_Model_group_151 : decode prog_13_method_41_code 151 = .ok (.dup, 1) := by decide +kernel
theorem d_Model_group_152 : decode prog_13_method_41_code 152 = .ok (.getfield 272, 3) := by decide +kernel
theorem d_Model_group_155 : decode prog_13_method_41_code 155 = .ok (.iconst 1, 1) := by decide +kernel
theorem d_Model_group_156 : decode prog_13_method_41_code 156 = .ok (.iadd, 1) := by decide +kernel
theorem d_Model_group_157 : decode prog_13_method_41_code 157 = .ok (.putfield 272, 3) := by decide +kernel
theorem d_Model_group_160 : decode prog_13_method_41_code 160 = .ok (.aload_n 0, 1) := by decide +kernel
theorem d_Model_group_161 : decode prog_13_method_41_code 161 = .ok (.dup, 1) := by decide +kernel
theorem d_Model_group_162 : decode prog_13_method_41_code 162 = .ok (.getfield 263, 3) := by decide +kernel
theorem d_Model_group_165 : decode prog_13_method_41_code 165 = .ok (.iconst 1, 1) := by decide +kernel
theorem d_Model_group_166 : decode prog_13_method_41_code 166 = .ok (.iadd, 1) := by decide +kernel
theorem d_Model_group_167 : decode prog_13_method_41_code 167 = .ok (.putfield 263, 3) := by decide +kernel
theorem d_Model_group_170 : decode prog_13_method_41_code 170 = .ok (.aload_n 0, 1) := by decide +kernel
theorem d_Model_group_171 : decode prog_13_method_41_code 171 = .ok (.invokevirtual 275, 3) := by decide +kernel
theorem d_Model_group_174 : decode prog_13_method_41_code 174 = .ok (.return_, 1) := by decide +kernel
theorem d_Model_near_0 : decode prog_13_method_40_code 0 = .ok (.aload_n 0, 1) := by decide +kernel
theorem d_Model_near_1 : decode prog_13_method_40_code 1 = .ok (.invokevirtual 257, 3) := by decide +kernel
theorem d_Model_near_4 : decode prog_13_method_40_code 4 = .ok (.aload_n 0, 1) := by decide +kernel
theorem d_Model_near_5 : decode prog_13_method_40_code 5 = .ok (.aload_n 0, 1) := by decide +kernel
theorem d_Model_near_6 : decode prog_13_method_40_code 6 = .ok (.getfield 227, 3) := by decide +kernel
theorem d_Model_near_9 : decode prog_13_method_40_code 9 = .ok (.iconst 3, 1) := by decide +kernel
theorem d_Model_near_10 : decode prog_13_method_40_code 10 = .ok (.if_icmp .eq 7, 3) := by decide +kernel
theorem d_Model_near_13 : decode prog_13_method_40_code 13 = .ok (.iconst 1, 1) := by decide +kernel
theorem d_Model_near_14 : decode prog_13_method_40_code 14 = .ok (.goto 4, 3) := by decide +kernel
theorem d_Model_near_17 : decode prog_13_method_40_code 17 = .ok (.iconst 0, 1) := by decide +kernel
theorem d_Model_near_18 : decode prog_13_method_40_code 18 = .ok (.aload_n 0, 1) := by decide +kernel
theorem d_Model_near_19 : decode prog_13_method_40_code 19 = .ok (.getfield 218, 3) := by decide +kernel
theorem d_Model_near_22 : decode prog_13_method_40_code 22 = .ok (.invokevirtual 250, 3) := by decide +kernel
theorem d_Model_near_25 : decode prog_13_method_40_code 25 = .ok (.aload_n 0, 1) := by decide +kernel
theorem d_Model_near_26 : decode prog_13_method_40_code 26 = .ok (.getfield 71, 3) := by decide +kernel
theorem d_Model_near_29 : decode prog_13_method_40_code 29 = .ok (.ifCond .lt 4, 3) := by decide +kernel
theorem d_Model_near_32 : decode prog_13_method_40_code 32 = .ok (.return_, 1) := by decide +kernel
theorem d_Model_near_33 : decode prog_13_method_40_code 33 = .ok (.aload_n 0, 1) := by decide +kernel
theorem d_Model_near_34 : decode prog_13_method_40_code 34 = .ok (.invokevirtual 257, 3) := by decide +kernel
theorem d_Model_near_37 : decode prog_13_method_40_code 37 = .ok (.aload_n 0, 1) := by decide +kernel
theorem d_Model_near_38 : decode prog_13_method_40_code 38 = .ok (.invokevirtual 260, 3) := by decide +kernel
theorem d_Model_near_41 : decode prog_13_method_40_code 41 = .ok (.aload_n 0, 1) := by decide +kernel
theorem d_Model_near_42 : decode prog_13_method_40_code 42 = .ok (.getfield 71, 3) := by decide +kernel
theorem d_Model_near_45 : decode prog_13_method_40_code 45 = .ok (.ifCond .ge 27, 3) := by decide +kernel
theorem d_Model_near_48 : decode prog_13_method_40_code 48 = .ok (.aload_n 0, 1) := by decide +kernel
theorem d_Model_near_49 : decode prog_13_method_40_code 49 = .ok (.getfield 227, 3) := by decide +kernel
theorem d_Model_near_52 : decode prog_13_method_40_code 52 = .ok (.iconst 4, 1) := by decide +kernel
theorem d_Model_near_53 : decode prog_13_method_40_code 53 = .ok (.if_icmp .eq 19, 3) := by decide +kernel
theorem d_Model_near_56 : decode prog_13_method_40_code 56 = .ok (.aload_n 0, 1) := by decide +kernel
theorem d_Model_near_57 : decode prog_13_method_40_code 57 = .ok (.getfield 227, 3) := by decide +kernel
theorem d_Model_near_60 : decode prog_13_method_40_code 60 = .ok (.bipush 10, 2) := by decide +kernel
theorem d_Model_near_62 : decode prog_13_method_40_code 62 = .ok (.if_icmp .eq 10, 3) := by decide +kernel
theorem d_Model_near_65 : decode prog_13_method_40_code 65 = .ok (.aload_n 0, 1) := by decide +kernel
theorem d_Model_near_66 : decode prog_13_method_40_code 66 = .ok (.invokevirtual 260, 3) := by decide +kernel
theorem d_Model_near_69 : decode prog_13_method_40_code 69 = .ok (.goto (-28), 3) := by decide +kernel
theorem d_Model_near_72 : decode prog_13_method_40_code 72 = .ok (.aload_n 0, 1) := by decide +kernel
theorem d_Model_near_73 : decode prog_13_method_40_code 73 = .ok (.getfield 71, 3) := by decide +kernel
theorem d_Model_near_76 : decode prog_13_method_40_code 76 = .ok (.ifCond .lt 4, 3) := by decide +kernel
theorem d_Model_near_79 : decode prog_13_method_40_code 79 = .ok (.return_, 1) := by decide +kernel
theorem d_Model_near_80 : decode prog_13_method_40_code 80 = .ok (.aload_n 0, 1) := by decide +kernel
theorem d_Model_near_81 : decode prog_13_method_40_code 81 = .ok (.getfield 227, 3) := by decide +kernel
theorem d_Model_near_84 : decode prog_13_method_40_code 84 = .ok (.bipush 10, 2) := by decide +kernel
theorem d_Model_near_86 : decode prog_13_method_40_code 86 = .ok (.if_icmp .ne 183, 3) := by decide +kernel
theorem d_Model_near_89 : decode prog_13_method_40_code 89 = .ok (.aload_n 0, 1) := by decide +kernel
theorem d_Model_near_90 : decode prog_13_method_40_code 90 = .ok (.invokevirtual 257, 3) := by decide +kernel
theorem d_Model_near_93 : decode prog_13_method_40_code 93 = .ok (.aload_n 0, 1) := by decide +kernel
theorem d_Model_near_94 : decode prog_13_method_40_code 94 = .ok (.aload_n 0, 1) := by decide +kernel
theorem d_Model_near_95 : decode prog_13_method_40_code 95 = .ok (.getfield 218, 3) := by decide +kernel
theorem d_Model_near_98 : decode prog_13_method_40_code 98 = .ok (.invokevirtual 221, 3) := by decide +kernel
theorem d_Model_near_101 : decode prog_13_method_40_code 101 = .ok (.bipush 48, 2) := by decide +kernel
theorem d_Model_near_103 : decode prog_13_method_40_code 103 = .ok (.isub, 1) := by decide +kernel
theorem d_Model_near_104 : decode prog_13_method_40_code 104 = .ok (.istore_n 1, 1) := by decide +kernel
theorem d_Model_near_105 : decode prog_13_method_40_code 105 = .ok (.aload_n 0, 1) := by decide +kernel
theorem d_Model_near_106 : decode prog_13_method_40_code 106 = .ok (.aload_n 0, 1) := by decide +kernel
theorem d_Model_near_107 : decode prog_13_method_40_code 107 = .ok (.getfield 218, 3) := by decide +kernel
theorem d_Model_near_110 : decode prog_13_method_40_code 110 = .ok (.iconst 1, 1) := by decide +kernel
theorem d_Model_near_111 : decode prog_13_method_40_code 111 = .ok (.iadd, 1) := by decide +kernel
theorem d_Model_near_112 : decode prog_13_method_40_code 112 = .ok (.invokevirtual 221, 3) := by decide +kernel
theorem d_Model_near_115 : decode prog_13_method_40_code 115 = .ok (.bipush 48, 2) := by decide +kernel
theorem d_Model_near_117 : decode prog_13_method_40_code 117 = .ok (.isub, 1) := by decide +kernel
theorem d_Model_near_118 : decode prog_13_method_40_code 118 = .ok (.istore_n 2, 1) := by decide +kernel
theorem d_Model_near_119 : decode prog_13_method_40_code 119 = .ok (.aload_n 0, 1) := by decide +kernel
theorem d_Model_near_120 : decode prog_13_method_40_code 120 = .ok (.getfield 227, 3) := by decide +kernel
theorem d_Model_near_123 : decode prog_13_method_40_code 123 = .ok (.iconst 1, 1) := by decide +kernel
theorem d_Model_near_124 : decode prog_13_method_40_code 124 = .ok (.if_icmp .ne 53, 3) := by decide +kernel
theorem d_Model_near_127 : decode prog_13_method_40_code 127 = .ok (.iload_n 1, 1) := by decide +kernel
theorem d_Model_near_128 : decode prog_13_method_40_code 128 = .ok (.iconst 0, 1) := by decide +kernel
theorem d_Model_near_129 : decode prog_13_method_40_code 129 = .ok (.bipush 9, 2) := by decide +kernel
theorem d_Model_near_131 : decode prog_13_method_40_code 131 = .ok (.invokestatic 133, 3) := by decide +kernel
theorem d_Model_near_134 : decode prog_13_method_40_code 134 = .ok (.ifCond .eq 43, 3) := by decide +kernel
theorem d_Model_near_137 : decode prog_13_method_40_code 137 = .ok (.aload_n 0, 1) := by decide +kernel
theorem d_Model_near_138 : decode prog_13_method_40_code 138 = .ok (.getfield 215, 3) := by decide +kernel
theorem d_Model_near_141 : decode prog_13_method_40_code 141 = .ok (.aload_n 0, 1) := by decide +kernel
theorem d_Model_near_142 : decode prog_13_method_40_code 142 = .ok (.getfield 218, 3) := by decide +kernel
theorem d_Model_near_145 : decode prog_13_method_40_code 145 = .ok (.isub, 1) := by decide +kernel
theorem d_Model_near_146 : decode prog_13_method_40_code 146 = .ok (.iconst 1, 1) := by decide +kernel
theorem d_Model_near_147 : decode prog_13_method_40_code 147 = .ok (.if_icmp .eq 26, 3) := by decide +kernel
theorem d_Model_near_150 : decode prog_13_method_40_code 150 = .ok (.aload_n 0, 1) := by decide +kernel
theorem d_Model_near_151 : decode prog_13_method_40_code 151 = .ok (.getfield 215, 3) := by decide +kernel
theorem d_Model_near_154 : decode prog_13_method_40_code 154 = .ok (.aload_n 0, 1) := by decide +kernel
theorem d_Model_near_155 : decode prog_13_method_40_code 155 = .ok (.getfield 218, 3) := by decide +kernel
theorem d_Model_near_158 : decode prog_13_method_40_code 158 = .ok (.isub, 1) := by decide +kernel
theorem d_Model_near_159 : decode prog_13_method_40_code 159 = .ok (.iconst 2, 1) := by decide +kernel
theorem d_Model_near_160 : decode prog_13_method_40_code 160 = .ok (.if_icmp .ne 17, 3) := by decide +kernel
theorem d_Model_near_163 : decode prog_13_method_40_code 163 = .ok (.iload_n 2, 1) := by decide +kernel
theorem d_Model_near_164 : decode prog_13_method_40_code 164 = .ok (.iconst 0, 1) := by decide +kernel
theorem d_Model_near_165 : decode prog_13_method_40_code 165 = .ok (.bipush 9, 2) := by decide +kernel
theorem d_Model_near_167 : decode prog_13_method_40_code 167 = .ok (.invokestatic 133, 3) := by decide +kernel
theorem d_Model_near_170 : decode prog_13_method_40_code 170 = .ok (.ifCond .eq 7, 3) := by decide +kernel
theorem d_Model_near_173 : decode prog_13_method_40_code 173 = .ok (.iconst 1, 1) := by decide +kernel
theorem d_Model_near_174 : decode prog_13_method_40_code 174 = .ok (.goto 4, 3) := by decide +kernel
theorem d_Model_near_177 : decode prog_13_method_40_code 177 = .ok (.iconst 0, 1) := by decide +kernel
theorem d_Model_near_178 : decode prog_13_method_40_code 178 = .ok (.istore_n 3, 1) := by decide +kernel
theorem d_Model_near_179 : decode prog_13_method_40_code 179 = .ok (.aload_n 0, 1) := by decide +kernel
theorem d_Model_near_180 : decode prog_13_method_40_code 180 = .ok (.iload_n 3, 1) := by decide +kernel
theorem d_Model_near_181 : decode prog_13_method_40_code 181 = .ok (.ifCond .ne 7, 3) := by decide +kernel
theorem d_Model_near_184 : decode prog_13_method_40_code 184 = .ok (.iconst 1, 1) := by decide +kernel
theorem d_Model_near_185 : decode prog_13_method_40_code 185 = .ok (.goto 4, 3) := by decide +kernel
theorem d_Model_near_188 : decode prog_13_method_40_code 188 = .ok (.iconst 0, 1) := by decide +kernel
theorem d_Model_near_189 : decode prog_13_method_40_code 189 = .ok (.aload_n 0, 1) := by decide +kernel
theorem d_Model_near_190 : decode prog_13_method_40_code 190 = .ok (.getfield 218, 3) := by decide +kernel
theorem d_Model_near_193 : decode prog_13_method_40_code 193 = .ok (.invokevirtual 250, 3) := by decide +kernel
theorem d_Model_near_196 : decode prog_13_method_40_code 196 = .ok (.aload_n 0, 1) := by decide +kernel
theorem d_Model_near_197 : decode prog_13_method_40_code 197 = .ok (.getfield 71, 3) := by decide +kernel
theorem d_Model_near_200 : decode prog_13_method_40_code 200 = .ok (.ifCond .lt 4, 3) := by decide +kernel
theorem d_Model_near_203 : decode prog_13_method_40_code 203 = .ok (.return_, 1) := by decide +kernel
theorem d_Model_near_204 : decode prog_13_method_40_code 204 = .ok (.aload_n 0, 1) := by decide +kernel
theorem d_Model_near_205 : decode prog_13_method_40_code 205 = .ok (.getfield 98, 3) := by decide +kernel
theorem d_Model_near_208 : decode prog_13_method_40_code 208 = .ok (.aload_n 0, 1) := by decide +kernel
theorem d_Model_near_209 : decode prog_13_method_40_code 209 = .ok (.getfield 263, 3) := by decide +kernel
theorem d_Model_near_212 : decode prog_13_method_40_code 212 = .ok (.aload_n 0, 1) := by decide +kernel
theorem d_Model_near_213 : decode prog_13_method_40_code 213 = .ok (.getfield 215, 3) := by decide +kernel
theorem d_Model_near_216 : decode prog_13_method_40_code 216 = .ok (.aload_n 0, 1) := by decide +kernel
theorem d_Model_near_217 : decode prog_13_method_40_code 217 = .ok (.getfield 218, 3) := by decide +kernel
theorem d_Model_near_220 : decode prog_13_method_40_code 220 = .ok (.isub, 1) := by decide +kernel
theorem d_Model_near_221 : decode prog_13_method_40_code 221 = .ok (.iconst 1, 1) := by decide +kernel
theorem d_Model_near_222 : decode prog_13_method_40_code 222 = .ok (.if_icmp .ne 7, 3) := by decide +kernel
theorem d_Model_near_225 : decode prog_13_method_40_code 225 = .ok (.iload_n 1, 1) := by decide +kernel
theorem d_Model_near_226 : decode prog_13_method_40_code 226 = .ok (.goto 9, 3) := by decide +kernel
theorem d_Model_near_229 : decode prog_13_method_40_code 229 = .ok (.bipush 10, 2) := by decide +kernel
theorem d_Model_near_231 : decode prog_13_method_40_code 231 = .ok (.iload_n 1, 1) := by decide +kernel
theorem d_Model_near_232 : decode prog_13_method_40_code 232 = .ok (.imul, 1) := by decide +kernel
theorem d_Model_near_233 : decode prog_13_method_40_code 233 = .ok (.iload_n 2, 1) := by decide +kernel
theorem d_Model_near_234 : decode prog_13_method_40_code 234 = .ok (.iadd, 1) := by decide +kernel
theorem d_Model_near_235 : decode prog_13_method_40_code 235 = .ok (.iastore, 1) := by decide +kernel
theorem d_Model_near_236 : decode prog_13_method_40_code 236 = .ok (.aload_n 0, 1) := by decide +kernel
theorem d_Model_near_237 : decode prog_13_method_40_code 237 = .ok (.invokevirtual 257, 3) := by decide +kernel
theorem d_Model_near_240 : decode prog_13_method_40_code 240 = .ok (.aload_n 0, 1) := by decide +kernel
theorem d_Model_near_241 : decode prog_13_method_40_code 241 = .ok (.aload_n 0, 1) := by decide +kernel
theorem d_Model_near_242 : decode prog_13_method_40_code 242 = .ok (.getfield 227, 3) := by decide +kernel
theorem d_Model_near_245 : decode prog_13_method_40_code 245 = .ok (.iconst 4, 1) := by decide +kernel
theorem d_Model_near_246 : decode prog_13_method_40_code 246 = .ok (.if_icmp .eq 7, 3) := by decide +kernel
theorem d_Model_near_249 : decode prog_13_method_40_code 249 = .ok (.iconst 1, 1) := by decide +kernel
theorem d_Model_near_250 : decode prog_13_method_40_code 250 = .ok (.goto 4, 3) := by decide +kernel
theorem d_Model_near_253 : decode prog_13_method_40_code 253 = .ok (.iconst 0, 1) := by decide +kernel
theorem d_Model_near_254 : decode prog_13_method_40_code 254 = .ok (.aload_n 0, 1) := by decide +kernel
theorem d_Model_near_255 : decode prog_13_method_40_code 255 = .ok (.getfield 218, 3) := by decide +kernel
theorem d_Model_near_258 : decode prog_13_method_40_code 258 = .ok (.invokevirtual 250, 3) := by decide +kernel
theorem d_Model_near_261 : decode prog_13_method_40_code 261 = .ok (.aload_n 0, 1) := by decide +kernel
theorem d_Model_near_262 : decode prog_13_method_40_code 262 = .ok (.getfield 71, 3) := by decide +kernel
theorem d_Model_near_265 : decode prog_13_method_40_code 265 = .ok (.ifCond .lt 4, 3) := by decide +kernel
theorem d_Model_near_268 : decode prog_13_method_40_code 268 = .ok (.return_, 1) := by decide +kernel
theorem d_Model_near_269 : decode prog_13_method_40_code 269 = .ok (.aload_n 0, 1) := by decide +kernel
theorem d_Model_near_270 : decode prog_13_method_40_code 270 = .ok (.invokevirtual 257, 3) := by decide +kernel
theorem d_Model_near_273 : decode prog_13_method_40_code 273 = .ok (.return_, 1) := by decide +kernel
theorem d_Model_phrase_0 : decode prog_13_method_39_code 0 = .ok (.aload_n 0, 1) := by decide +kernel
theorem d_Model_phrase_1 : decode prog_13_method_39_code 1 = .ok (.aload_n 0, 1) := by decide +kernel
theorem d_Model_phrase_2 : decode prog_13_method_39_code 2 = .ok (.invokevirtual 244, 3) := by decide +kernel
theorem d_Model_phrase_5 : decode prog_13_method_39_code 5 = .ok (.ifCond .eq 12, 3) := by decide +kernel
theorem d_Model_phrase_8 : decode prog_13_method_39_code 8 = .ok (.aload_n 0, 1) := by decide +kernel
theorem d_Model_phrase_9 : decode prog_13_method_39_code 9 = .ok (.getfield 247, 3) := by decide +kernel
theorem d_Model_phrase_12 : decode prog_13_method_39_code 12 = .ok (.bipush 12, 2) := by decide +kernel
theorem d_Model_phrase_14 : decode prog_13_method_39_code 14 = .ok (.if_icmp .ne 7, 3) := by decide +kernel
theorem d_Model_phrase_17 : decode prog_13_method_39_code 17 = .ok (.iconst 1, 1) := by decide +kernel
theorem d_Model_phrase_18 : decode prog_13_method_39_code 18 = .ok (.goto 4, 3) := by decide +kernel
theorem d_Model_phrase_21 : decode prog_13_method_39_code 21 = .ok (.iconst 0, 1) := by decide +kernel
theorem d_Model_phrase_22 : decode prog_13_method_39_code 22 = .ok (.aload_n 0, 1) := by decide +kernel
theorem d_Model_phrase_23 : decode prog_13_method_39_code 23 = .ok (.getfield 218, 3) := by decide +kernel
theorem d_Model_phrase_26 : decode prog_13_method_39_code 26 = .ok (.invokevirtual 250, 3) := by decide +kernel
theorem d_Model_phrase_29 : decode prog_13_method_39_code 29 = .ok (.aload_n 0, 1) := by decide +kernel
theorem d_Model_phrase_30 : decode prog_13_method_39_code 30 = .ok (.getfield 71, 3) := by decide +kernel
theorem d_Model_phrase_33 : decode prog_13_method_39_code 33 = .ok (.ifCond .lt 4, 3) := by decide +kernel
theorem d_Model_phrase_36 : decode prog_13_method_39_code 36 = .ok (.return_, 1) := by decide +kernel
theorem d_Model_phrase_37 : decode prog_13_method_39_code 37 = .ok (.aload_n 0, 1) := by decide +kernel
theorem d_Model_phrase_38 : decode prog_13_method_39_code 38 = .ok (.getfield 74, 3) := by decide +kernel
theorem d_Model_phrase_41 : decode prog_13_method_39_code 41 = .ok (.aload_n 0, 1) := by decide +kernel
theorem d_Model_phrase_42 : decode prog_13_method_39_code 42 = .ok (.getfield 247, 3) := by decide +kernel
theorem d_Model_phrase_45 : decode prog_13_method_39_code 45 = .ok (.aload_n 0, 1) := by decide +kernel
theorem d_Model_phrase_46 : decode prog_13_method_39_code 46 = .ok (.getfield 241, 3) := by decide +kernel
theorem d_Model_phrase_49 : decode prog_13_method_39_code 49 = .ok (.iastore, 1) := by decide +kernel
theorem d_Model_phrase_50 : decode prog_13_method_39_code 50 = .ok (.aload_n 0, 1) := by decide +kernel
theorem d_Model_phrase_51 : decode prog_13_method_39_code 51 = .ok (.getfield 77, 3) := by decide +kernel
theorem d_Model_phrase_54 : decode prog_13_method_39_code 54 = .ok (.aload_n 0, 1) := by decide +kernel
theorem d_Model_phrase_55 : decode prog_13_method_39_code 55 = .ok (.getfield 247, 3) := by decide +kernel
theorem d_Model_phrase_58 : decode prog_13_method_39_code 58 = .ok (.iconst 0, 1) := by decide +kernel
theorem d_Model_phrase_59 : decode prog_13_method_39_code 59 = .ok (.iastore, 1) := by decide +kernel
theorem d_Model_phrase_60 : decode prog_13_method_39_code 60 = .ok (.aload_n 0, 1) := by decide +kernel
theorem d_Model_phrase_61 : decode prog_13_method_39_code 61 = .ok (.dup, 1) := by decide +kernel
theorem d_Model_phrase_62 : decode prog_13_method_39_code 62 = .ok (.getfield 247, 3) := by decide +kernel
theorem d_Model_phrase_65 : decode prog_13_method_39_code 65 = .ok (.iconst 1, 1) := by decide +kernel
theorem d_Model_phrase_66 : decode prog_13_method_39_code 66 = .ok (.iadd, 1) := by decide +kernel
theorem d_Model_phrase_67 : decode prog_13_method_39_code 67 = .ok (.putfield 247, 3) := by decide +kernel
theorem d_Model_phrase_70 : decode prog_13_method_39_code 70 = .ok (.aload_n 0, 1) := by decide +kernel
theorem d_Model_phrase_71 : decode prog_13_method_39_code 71 = .ok (.invokevirtual 254, 3) := by decide +kernel
theorem d_Model_phrase_74 : decode prog_13_method_39_code 74 = .ok (.aload_n 0, 1) := by decide +kernel
theorem d_Model_phrase_75 : decode prog_13_method_39_code 75 = .ok (.invokevirtual 257, 3) := by decide +kernel
theorem d_Model_phrase_78 : decode prog_13_method_39_code 78 = .ok (.aload_n 0, 1) := by decide +kernel
theorem d_Model_phrase_79 : decode prog_13_method_39_code 79 = .ok (.getfield 227, 3) := by decide +kernel
theorem d_Model_phrase_82 : decode prog_13_method_39_code 82 = .ok (.bipush 8, 2) := by decide +kernel
theorem d_Model_phrase_84 : decode prog_13_method_39_code 84 = .ok (.if_icmp .ne 53, 3) := by decide +kernel
theorem d_Model_phrase_87 : decode prog_13_method_39_code 87 = .ok (.aload_n 0, 1) := by decide +kernel
theorem d_Model_phrase_88 : decode prog_13_method_39_code 88 = .ok (.getfield 71, 3) := by decide +kernel
theorem d_Model_phrase_91 : decode prog_13_method_39_code 91 = .ok (.ifCond .ge 46, 3) := by decide +kernel
theorem d_Model_phrase_94 : decode prog_13_method_39_code 94 = .ok (.aload_n 0, 1) := by decide +kernel
theorem d_Model_phrase_95 : decode prog_13_method_39_code 95 = .ok (.invokevirtual 257, 3) := by decide +kernel
theorem d_Model_phrase_98 : decode prog_13_method_39_code 98 = .ok (.aload_n 0, 1) := by decide +kernel
theorem d_Model_phrase_99 : decode prog_13_method_39_code 99 = .ok (.aload_n 0, 1) := by decide +kernel
theorem d_Model_phrase_100 : decode prog_13_method_39_code 100 = .ok (.invokevirtual 244, 3) := by decide +kernel
theorem d_Model_phrase_103 : decode prog_13_method_39_code 103 = .ok (.ifCond .ne 7, 3) := by decide +kernel
theorem d_Model_phrase_106 : decode prog_13_method_39_code 106 = .ok (.iconst 1, 1) := by decide +kernel
theorem d_Model_phrase_107 : decode prog_13_method_39_code 107 = .ok (.goto 4, 3) := by decide +kernel
theorem d_Model_phrase_110 : decode prog_13_method_39_code 110 = .ok (.iconst 0, 1) := by decide +kernel
theorem d_Model_phrase_111 : decode prog_13_method_39_code 111 = .ok (.aload_n 0, 1) := by decide +kernel
theorem d_Model_phrase_112 : decode prog_13_method_39_code 112 = .ok (.getfield 218, 3) := by decide +kernel
theorem d_Model_phrase_115 : decode prog_13_method_39_code 115 = .ok (.invokevirtual 250, 3) := by decide +kernel
theorem d_Model_phrase_118 : decode prog_13_method_39_code 118 = .ok (.aload_n 0, 1) := by decide +kernel
theorem d_Model_phrase_119 : decode prog_13_method_39_code 119 = .ok (.getfield 71, 3) := by decide +kernel
theorem d_Model_phrase_122 : decode prog_13_method_39_code 122 = .ok (.ifCond .lt 4, 3) := by decide +kernel
theorem d_Model_phrase_125 : decode prog_13_method_39_code 125 = .ok (.return_, 1) := by decide +kernel
theorem d_Model_phrase_126 : decode prog_13_method_39_code 126 = .ok (.aload_n 0, 1) := by decide +kernel
theorem d_Model_phrase_127 : decode prog_13_method_39_code 127 = .ok (.invokevirtual 254, 3) := by decide +kernel
theorem d_Model_phrase_130 : decode prog_13_method_39_code 130 = .ok (.aload_n 0, 1) := by decide +kernel
theorem d_Model_phrase_131 : decode prog_13_method_39_code 131 = .ok (.invokevirtual 257, 3) := by decide +kernel
theorem d_Model_phrase_134 : decode prog_13_method_39_code 134 = .ok (.goto (-56), 3) := by decide +kernel
theorem d_Model_phrase_137 : decode prog_13_method_39_code 137 = .ok (.aload_n 0, 1) := by decide +kernel
theorem d_Model_phrase_138 : decode prog_13_method_39_code 138 = .ok (.getfield 227, 3) := by decide +kernel
theorem d_Model_phrase_141 : decode prog_13_method_39_code 141 = .ok (.bipush 9, 2) := by decide +kernel
theorem d_Model_phrase_143 : decode prog_13_method_39_code 143 = .ok (.if_icmp .ne 19, 3) := by decide +kernel
theorem d_Model_phrase_146 : decode prog_13_method_39_code 146 = .ok (.aload_n 0, 1) := by decide +kernel
theorem d_Model_phrase_147 : decode prog_13_method_39_code 147 = .ok (.getfield 77, 3) := by decide +kernel
theorem d_Model_phrase_150 : decode prog_13_method_39_code 150 = .ok (.aload_n 0, 1) := by decide +kernel
theorem d_Model_phrase_151 : decode prog_13_method_39_code 151 = .ok (.getfield 247, 3) := by decide +kernel
theorem d_Model_phrase_154 : decode prog_13_method_39_code 154 = .ok (.iconst 1, 1) := by decide +kernel
theorem d_Model_phrase_155 : decode prog_13_method_39_code 155 = .ok (.isub, 1) := by decide +kernel
theorem d_Model_phrase_156 : decode prog_13_method_39_code 156 = .ok (.iconst 1, 1) := by decide +kernel
theorem d_Model_phrase_157 : decode prog_13_method_39_code 157 = .ok (.iastore, 1) := by decide +kernel
theorem d_Model_phrase_158 : decode prog_13_method_39_code 158 = .ok (.aload_n 0, 1) := by decide +kernel
theorem d_Model_phrase_159 : decode prog_13_method_39_code 159 = .ok (.invokevirtual 257, 3) := by decide +kernel
theorem d_Model_phrase_162 : decode prog_13_method_39_code 162 = .ok (.aload_n 0, 1) := by decide +kernel
theorem d_Model_phrase_163 : decode prog_13_method_39_code 163 = .ok (.getfield 74, 3) := by decide +kernel
theorem d_Model_phrase_166 : decode prog_13_method_39_code 166 = .ok (.aload_n 0, 1) := by decide +kernel
theorem d_Model_phrase_167 : decode prog_13_method_39_code 167 = .ok (.getfield 247, 3) := by decide +kernel
theorem d_Model_phrase_170 : decode prog_13_method_39_code 170 = .ok (.aload_n 0, 1) := by decide +kernel
theorem d_Model_phrase_171 : decode prog_13_method_39_code 171 = .ok (.getfield 241, 3) := by decide +kernel
theorem d_Model_phrase_174 : decode prog_13_method_39_code 174 = .ok (.iastore, 1) := by decide +kernel
theorem d_Model_phrase_175 : decode prog_13_method_39_code 175 = .ok (.return_, 1) := by decide +kernel
theorem d_Model_takeTokens_0 : decode prog_13_method_38_code 0 = .ok (.aload_n 0, 1) := by decide +kernel
theorem d_Model_takeTokens_1 : decode prog_13_method_38_code 1 = .ok (.getfield 218, 3) := by decide +kernel
theorem d_Model_takeTokens_4 : decode prog_13_method_38_code 4 = .ok (.istore_n 1, 1) := by decide +kernel
theorem d_Model_takeTokens_5 : decode prog_13_method_38_code 5 = .ok (.iload_n 1, 1) := by decide +kernel
theorem d_Model_takeTokens_6 : decode prog_13_method_38_code 6 = .ok (.aload_n 0, 1) := by decide +kernel
theorem d_Model_takeTokens_7 : decode prog_13_method_38_code 7 = .ok (.getfield 215, 3) := by decide +kernel
theorem d_Model_takeTokens_10 : decode prog_13_method_38_code 10 = .ok (.if_icmp .ge 86, 3) := by decide +kernel
theorem d_Model_takeTokens_13 : decode prog_13_method_38_code 13 = .ok (.aload_n 0, 1) := by decide +kernel
theorem d_Model_takeTokens_14 : decode prog_13_method_38_code 14 = .ok (.iload_n 1, 1) := by decide +kernel
theorem d_Model_takeTokens_15 : decode prog_13_method_38_code 15 = .ok (.invokevirtual 221, 3) := by decide +kernel
theorem d_Model_takeTokens_18 : decode prog_13_method_38_code 18 = .ok (.invokestatic 146, 3) := by decide +kernel
theorem d_Model_takeTokens_21 : decode prog_13_method_38_code 21 = .ok (.ifCond .eq 69, 3) := by decide +kernel
theorem d_Model_takeTokens_24 : decode prog_13_method_38_code 24 = .ok (.iload_n 1, 1) := by decide +kernel
theorem d_Model_takeTokens_25 : decode prog_13_method_38_code 25 = .ok (.aload_n 0, 1) := by decide +kernel
theorem d_Model_takeTokens_26 : decode prog_13_method_38_code 26 = .ok (.getfield 218, 3) := by decide +kernel
theorem d_Model_takeTokens_29 : decode prog_13_method_38_code 29 = .ok (.if_icmp .eq 16, 3) := by decide +kernel
theorem d_Model_takeTokens_32 : decode prog_13_method_38_code 32 = .ok (.aload_n 0, 1) := by decide +kernel
theorem d_Model_takeTokens_33 : decode prog_13_method_38_code 33 = .ok (.iload_n 1, 1) := by decide +kernel
theorem d_Model_takeTokens_34 : decode prog_13_method_38_code 34 = .ok (.iconst 1, 1) := by decide +kernel
theorem d_Model_takeTokens_35 : decode prog_13_method_38_code 35 = .ok (.isub, 1) := by decide +kernel
theorem d_Model_takeTokens_36 : decode prog_13_method_38_code 36 = .ok (.invokevirtual 221, 3) := by decide +kernel
theorem d_Model_takeTokens_39 : decode prog_13_method_38_code 39 = .ok (.invokestatic 146, 3) := by decide +kernel
theorem d_Model_takeTokens_42 : decode prog_13_method_38_code 42 = .ok (.ifCond .ne 33, 3) := by decide +kernel
theorem d_Model_takeTokens_45 : decode prog_13_method_38_code 45 = .ok (.aload_n 0, 1) := by decide +kernel
theorem d_Model_takeTokens_46 : decode prog_13_method_38_code 46 = .ok (.getfield 80, 3) := by decide +kernel
theorem d_Model_takeTokens_49 : decode prog_13_method_38_code 49 = .ok (.aload_n 0, 1) := by decide +kernel
theorem d_Model_takeTokens_50 : decode prog_13_method_38_code 50 = .ok (.getfield 241, 3) := by decide +kernel
theorem d_Model_takeTokens_53 : decode prog_13_method_38_code 53 = .ok (.iload_n 1, 1) := by decide +kernel
theorem d_Model_takeTokens_54 : decode prog_13_method_38_code 54 = .ok (.iastore, 1) := by decide +kernel
theorem d_Model_takeTokens_55 : decode prog_13_method_38_code 55 = .ok (.aload_n 0, 1) := by decide +kernel
theorem d_Model_takeTokens_56 : decode prog_13_method_38_code 56 = .ok (.getfield 83, 3) := by decide +kernel
theorem d_Model_takeTokens_59 : decode prog_13_method_38_code 59 = .ok (.aload_n 0, 1) := by decide +kernel
theorem d_Model_takeTokens_60 : decode prog_13_method_38_code 60 = .ok (.getfield 241, 3) := by decide +kernel
theorem d_Model_takeTokens_63 : decode prog_13_method_38_code 63 = .ok (.iconst 0, 1) := by decide +kernel
theorem d_Model_takeTokens_64 : decode prog_13_method_38_code 64 = .ok (.iastore, 1) := by decide +kernel
theorem d_Model_takeTokens_65 : decode prog_13_method_38_code 65 = .ok (.aload_n 0, 1) := by decide +kernel
theorem d_Model_takeTokens_66 : decode prog_13_method_38_code 66 = .ok (.dup, 1) := by decide +kernel
theorem d_Model_takeTokens_67 : decode prog_13_method_38_code 67 = .ok (.getfield 241, 3) := by decide +kernel
theorem d_Model_takeTokens_70 : decode prog_13_method_38_code 70 = .ok (.iconst 1, 1) := by decide +kernel
theorem d_Model_takeTokens_71 : decode prog_13_method_38_code 71 = .ok (.iadd, 1) := by decide +kernel
theorem d_Model_takeTokens_72 : decode prog_13_method_38_code 72 = .ok (.putfield 241, 3) := by decide +kernel
theorem d_Model_takeTokens_75 : decode prog_13_method_38_code 75 = .ok (.aload_n 0, 1) := by decide +kernel
theorem d_Model_takeTokens_76 : decode prog_13_method_38_code 76 = .ok (.getfield 83, 3) := by decide +kernel
theorem d_Model_takeTokens_79 : decode prog_13_method_38_code 79 = .ok (.aload_n 0, 1) := by decide +kernel
theorem d_Model_takeTokens_80 : decode prog_13_method_38_code 80 = .ok (.getfield 241, 3) := by decide +kernel
theorem d_Model_takeTokens_83 : decode prog_13_method_38_code 83 = .ok (.iconst 1, 1) := by decide +kernel
theorem d_Model_takeTokens_84 : decode prog_13_method_38_code 84 = .ok (.isub, 1) := by decide +kernel
theorem d_Model_takeTokens_85 : decode prog_13_method_38_code 85 = .ok (.dup2, 1) := by decide +kernel
theorem d_Model_takeTokens_86 : decode prog_13_method_38_code 86 = .ok (.iaload, 1) := by decide +kernel
theorem d_Model_takeTokens_87 : decode prog_13_method_38_code 87 = .ok (.iconst 1, 1) := by decide +kernel
theorem d_Model_takeTokens_88 : decode prog_13_method_38_code 88 = .ok (.iadd, 1) := by decide +kernel
theorem d_Model_takeTokens_89 : decode prog_13_method_38_code 89 = .ok (.iastore, 1) := by decide +kernel
theorem d_Model_takeTokens_90 : decode prog_13_method_38_code 90 = .ok (.iinc 1 1, 3) := by decide +kernel
theorem d_Model_takeTokens_93 : decode prog_13_method_38_code 93 = .ok (.goto (-88), 3) := by decide +kernel
theorem d_Model_takeTokens_96 : decode prog_13_method_38_code 96 = .ok (.return_, 1) := by decide +kernel
theorem d_Model_finds_0 : decode prog_13_method_57_code 0 = .ok (.iconst 0, 1) := by decide +kernel
theorem d_Model_finds_1 : decode prog_13_method_57_code 1 = .ok (.istore_n 2, 1) := by decide +kernel
theorem d_Model_finds_2 : decode prog_13_method_57_code 2 = .ok (.iconst 0, 1) := by decide +kernel
theorem d_Model_finds_3 : decode prog_13_method_57_code 3 = .ok (.istore_n 3, 1) := by decide +kernel
theorem d_Model_finds_4 : decode prog_13_method_57_code 4 = .ok (.iload_n 3, 1) := by decide +kernel
theorem d_Model_finds_5 : decode prog_13_method_57_code 5 = .ok (.aload_n 0, 1) := by decide +kernel
theorem d_Model_finds_6 : decode prog_13_method_57_code 6 = .ok (.getfield 272, 3) := by decide +kernel
theorem d_Model_finds_9 : decode prog_13_method_57_code 9 = .ok (.if_icmp .ge 142, 3) := by decide +kernel
theorem d_Model_finds_12 : decode prog_13_method_57_code 12 = .ok (.aload_n 0, 1) := by decide +kernel
theorem d_Model_finds_13 : decode prog_13_method_57_code 13 = .ok (.getfield 101, 3) := by decide +kernel
theorem d_Model_finds_16 : decode prog_13_method_57_code 16 = .ok (.iload_n 3, 1) := by decide +kernel
theorem d_Model_finds_17 : decode prog_13_method_57_code 17 = .ok (.iaload, 1) := by decide +kernel
theorem d_Model_finds_18 : decode prog_13_method_57_code 18 = .ok (.ifCond .lt 26, 3) := by decide +kernel
theorem d_Model_finds_21 : decode prog_13_method_57_code 21 = .ok (.aload_n 0, 1) := by decide +kernel
theorem d_Model_finds_22 : decode prog_13_method_57_code 22 = .ok (.getfield 116, 3) := by decide +kernel
theorem d_Model_finds_25 : decode prog_13_method_57_code 25 = .ok (.iload_n 2, 1) := by decide +kernel
theorem d_Model_finds_26 : decode prog_13_method_57_code 26 = .ok (.aload_n 0, 1) := by decide +kernel
theorem d_Model_finds_27 : decode prog_13_method_57_code 27 = .ok (.aload_n 0, 1) := by decide +kernel
theorem d_Model_finds_28 : decode prog_13_method_57_code 28 = .ok (.getfield 101, 3) := by decide +kernel
theorem d_Model_finds_31 : decode prog_13_method_57_code 31 = .ok (.iload_n 3, 1) := by decide +kernel
theorem d_Model_finds_32 : decode prog_13_method_57_code 32 = .ok (.iaload, 1) := by decide +kernel
theorem d_Model_finds_33 : decode prog_13_method_57_code 33 = .ok (.iload_n 1, 1) := by decide +kernel
theorem d_Model_finds_34 : decode prog_13_method_57_code 34 = .ok (.invokevirtual 325, 3) := by decide +kernel
theorem d_Model_finds_37 : decode prog_13_method_57_code 37 = .ok (.bastore, 1) := by decide +kernel
theorem d_Model_finds_38 : decode prog_13_method_57_code 38 = .ok (.iinc 2 1, 3) := by decide +kernel
theorem d_Model_finds_41 : decode prog_13_method_57_code 41 = .ok (.goto 104, 3) := by decide +kernel
theorem d_Model_finds_44 : decode prog_13_method_57_code 44 = .ok (.iinc 2 (-1), 3) := by decide +kernel
theorem d_Model_finds_47 : decode prog_13_method_57_code 47 = .ok (.aload_n 0, 1) := by decide +kernel
theorem d_Model_finds_48 : decode prog_13_method_57_code 48 = .ok (.getfield 116, 3) := by decide +kernel
theorem d_Model_finds_51 : decode prog_13_method_57_code 51 = .ok (.iload_n 2, 1) := by decide +kernel
theorem d_Model_finds_52 : decode prog_13_method_57_code 52 = .ok (.iconst 1, 1) := by decide +kernel
theorem d_Model_finds_53 : decode prog_13_method_57_code 53 = .ok (.isub, 1) := by decide +kernel
theorem d_Model_finds_54 : decode prog_13_method_57_code 54 = .ok (.baload, 1) := by decide +kernel
theorem d_Model_finds_55 : decode prog_13_method_57_code 55 = .ok (.istore 4, 2) := by decide +kernel
theorem d_Model_finds_57 : decode prog_13_method_57_code 57 = .ok (.aload_n 0, 1) := by decide +kernel
theorem d_Model_finds_58 : decode prog_13_method_57_code 58 = .ok (.getfield 116, 3) := by decide +kernel
theorem d_Model_finds_61 : decode prog_13_method_57_code 61 = .ok (.iload_n 2, 1) := by decide +kernel
theorem d_Model_finds_62 : decode prog_13_method_57_code 62 = .ok (.baload, 1) := by decide +kernel
theorem d_Model_finds_63 : decode prog_13_method_57_code 63 = .ok (.istore 5, 2) := by decide +kernel
theorem d_Model_finds_65 : decode prog_13_method_57_code 65 = .ok (.aload_n 0, 1) := by decide +kernel
theorem d_Model_finds_66 : decode prog_13_method_57_code 66 = .ok (.getfield 116, 3) := by decide +kernel
theorem d_Model_finds_69 : decode prog_13_method_57_code 69 = .ok (.iload_n 2, 1) := by decide +kernel
theorem d_Model_finds_70 : decode prog_13_method_57_code 70 = .ok (.iconst 1, 1) := by decide +kernel
theorem d_Model_finds_71 : decode prog_13_method_57_code 71 = .ok (.isub, 1) := by decide +kernel
theorem d_Model_finds_72 : decode prog_13_method_57_code 72 = .ok (.aload_n 0, 1) := by decide +kernel
theorem d_Model_finds_73 : decode prog_13_method_57_code 73 = .ok (.getfield 101, 3) := by decide +kernel
theorem d_Model_finds_76 : decode prog_13_method_57_code 76 = .ok (.iload_n 3, 1) := by decide +kernel
theorem d_Model_finds_77 : decode prog_13_method_57_code 77 = .ok (.iaload, 1) := by decide +kernel
theorem d_Model_finds_78 : decode prog_13_method_57_code 78 = .ok (.iconst (-1), 1) := by decide +kernel
theorem d_Model_finds_79 : decode prog_13_method_57_code 79 = .ok (.if_icmp .ne 21, 3) := by decide +kernel
theorem d_Model_finds_82 : decode prog_13_method_57_code 82 = .ok (.iload 4, 2) := by decide +kernel
theorem d_Model_finds_84 : decode prog_13_method_57_code 84 = .ok (.ifCond .ne 8, 3) := by decide +kernel
theorem d_Model_finds_87 : decode prog_13_method_57_code 87 = .ok (.iload 5, 2) := by decide +kernel
theorem d_Model_finds_89 : decode prog_13_method_57_code 89 = .ok (.ifCond .eq 7, 3) := by decide +kernel
theorem d_Model_finds_92 : decode prog_13_method_57_code 92 = .ok (.iconst 1, 1) := by decide +kernel
theorem d_Model_finds_93 : decode prog_13_method_57_code 93 = .ok (.goto 51, 3) := by decide +kernel
theorem d_Model_finds_96 : decode prog_13_method_57_code 96 = .ok (.iconst 0, 1) := by decide +kernel
theorem d_Model_finds_97 : decode prog_13_method_57_code 97 = .ok (.goto 47, 3) := by decide +kernel
theorem d_Model_finds_100 : decode prog_13_method_57_code 100 = .ok (.aload_n 0, 1) := by decide +kernel
theorem d_Model_finds_101 : decode prog_13_method_57_code 101 = .ok (.getfield 101, 3) := by decide +kernel
theorem d_Model_finds_104 : decode prog_13_method_57_code 104 = .ok (.iload_n 3, 1) := by decide +kernel
theorem d_Model_finds_105 : decode prog_13_method_57_code 105 = .ok (.iaload, 1) := by decide +kernel
theorem d_Model_finds_106 : decode prog_13_method_57_code 106 = .ok (.bipush (-3), 2) := by decide +kernel
theorem d_Model_finds_108 : decode prog_13_method_57_code 108 = .ok (.if_icmp .ne 21, 3) := by decide +kernel
theorem d_Model_finds_111 : decode prog_13_method_57_code 111 = .ok (.iload 4, 2) := by decide +kernel
theorem d_Model_finds_113 : decode prog_13_method_57_code 113 = .ok (.ifCond .eq 12, 3) := by decide +kernel
theorem d_Model_finds_116 : decode prog_13_method_57_code 116 = .ok (.iload 5, 2) := by decide +kernel
theorem d_Model_finds_118 : decode prog_13_method_57_code 118 = .ok (.ifCond .ne 7, 3) := by decide +kernel
theorem d_Model_finds_121 : decode prog_13_method_57_code 121 = .ok (.iconst 1, 1) := by decide +kernel
theorem d_Model_finds_122 : decode prog_13_method_57_code 122 = .ok (.goto 22, 3) := by decide +kernel
theorem d_Model_finds_125 : decode prog_13_method_57_code 125 = .ok (.iconst 0, 1) := by decide +kernel
theorem d_Model_finds_126 : decode prog_13_method_57_code 126 = .ok (.goto 18, 3) := by decide +kernel
theorem d_Model_finds_129 : decode prog_13_method_57_code 129 = .ok (.iload 4, 2) := by decide +kernel
theorem d_Model_finds_131 : decode prog_13_method_57_code 131 = .ok (.ifCond .eq 12, 3) := by decide +kernel
theorem d_Model_finds_134 : decode prog_13_method_57_code 134 = .ok (.iload 5, 2) := by decide +kernel
theorem d_Model_finds_136 : decode prog_13_method_57_code 136 = .ok (.ifCond .eq 7, 3) := by decide +kernel
theorem d_Model_finds_139 : decode prog_13_method_57_code 139 = .ok (.iconst 1, 1) := by decide +kernel
theorem d_Model_finds_140 : decode prog_13_method_57_code 140 = .ok (.goto 4, 3) := by decide +kernel
theorem d_Model_finds_143 : decode prog_13_method_57_code 143 = .ok (.iconst 0, 1) := by decide +kernel
theorem d_Model_finds_144 : decode prog_13_method_57_code 144 = .ok (.bastore, 1) := by decide +kernel
theorem d_Model_finds_145 : decode prog_13_method_57_code 145 = .ok (.iinc 3 1, 3) := by decide +kernel
theorem d_Model_finds_148 : decode prog_13_method_57_code 148 = .ok (.goto (-144), 3) := by decide +kernel
theorem d_Model_finds_151 : decode prog_13_method_57_code 151 = .ok (.aload_n 0, 1) := by decide +kernel
theorem d_Model_finds_152 : decode prog_13_method_57_code 152 = .ok (.getfield 116, 3) := by decide +kernel
theorem d_Model_finds_155 : decode prog_13_method_57_code 155 = .ok (.iconst 0, 1) := by decide +kernel
theorem d_Model_finds_156 : decode prog_13_method_57_code 156 = .ok (.baload, 1) := by decide +kernel
theorem d_Model_finds_157 : decode prog_13_method_57_code 157 = .ok (.ireturn, 1) := by decide +kernel
theorem d_Model_holds_0 : decode prog_13_method_56_code 0 = .ok (.iconst 0, 1) := by decide +kernel
theorem d_Model_holds_1 : decode prog_13_method_56_code 1 = .ok (.istore_n 3, 1) := by decide +kernel
theorem d_Model_holds_2 : decode prog_13_method_56_code 2 = .ok (.iload_n 3, 1) := by decide +kernel
theorem d_Model_holds_3 : decode prog_13_method_56_code 3 = .ok (.iconst 2, 1) := by decide +kernel
theorem d_Model_holds_4 : decode prog_13_method_56_code 4 = .ok (.if_icmp .ge 39, 3) := by decide +kernel
theorem d_Model_holds_7 : decode prog_13_method_56_code 7 = .ok (.aload_n 0, 1) := by decide +kernel
theorem d_Model_holds_8 : decode prog_13_method_56_code 8 = .ok (.getfield 95, 3) := by decide +kernel
theorem d_Model_holds_11 : decode prog_13_method_56_code 11 = .ok (.iload_n 1, 1) := by decide +kernel
theorem d_Model_holds_12 : decode prog_13_method_56_code 12 = .ok (.iaload, 1) := by decide +kernel
theorem d_Model_holds_13 : decode prog_13_method_56_code 13 = .ok (.iload_n 3, 1) := by decide +kernel
theorem d_Model_holds_14 : decode prog_13_method_56_code 14 = .ok (.ishr, 1) := by decide +kernel
theorem d_Model_holds_15 : decode prog_13_method_56_code 15 = .ok (.iconst 1, 1) := by decide +kernel
theorem d_Model_holds_16 : decode prog_13_method_56_code 16 = .ok (.iand, 1) := by decide +kernel
theorem d_Model_holds_17 : decode prog_13_method_56_code 17 = .ok (.iconst 1, 1) := by decide +kernel
theorem d_Model_holds_18 : decode prog_13_method_56_code 18 = .ok (.if_icmp .ne 19, 3) := by decide +kernel
theorem d_Model_holds_21 : decode prog_13_method_56_code 21 = .ok (.aload_n 0, 1) := by decide +kernel
theorem d_Model_holds_22 : decode prog_13_method_56_code 22 = .ok (.iload_n 2, 1) := by decide +kernel
theorem d_Model_holds_23 : decode prog_13_method_56_code 23 = .ok (.iload_n 3, 1) := by decide +kernel
theorem d_Model_holds_24 : decode prog_13_method_56_code 24 = .ok (.invokevirtual 153, 3) := by decide +kernel
theorem d_Model_holds_27 : decode prog_13_method_56_code 27 = .ok (.aload_n 0, 1) := by decide +kernel
theorem d_Model_holds_28 : decode prog_13_method_56_code 28 = .ok (.iload_n 1, 1) := by decide +kernel
theorem d_Model_holds_29 : decode prog_13_method_56_code 29 = .ok (.invokevirtual 322, 3) := by decide +kernel
theorem d_Model_holds_32 : decode prog_13_method_56_code 32 = .ok (.ifCond .eq 5, 3) := by decide +kernel
theorem d_Model_holds_35 : decode prog_13_method_56_code 35 = .ok (.iconst 1, 1) := by decide +kernel
theorem d_Model_holds_36 : decode prog_13_method_56_code 36 = .ok (.ireturn, 1) := by decide +kernel
theorem d_Model_holds_37 : decode prog_13_method_56_code 37 = .ok (.iinc 3 1, 3) := by decide +kernel
theorem d_Model_holds_40 : decode prog_13_method_56_code 40 = .ok (.goto (-38), 3) := by decide +kernel
theorem d_Model_holds_43 : decode prog_13_method_56_code 43 = .ok (.iconst 0, 1) := by decide +kernel
theorem d_Model_holds_44 : decode prog_13_method_56_code 44 = .ok (.ireturn, 1) := by decide +kernel
theorem d_Model_holdsHere_0 : decode prog_13_method_55_code 0 = .ok (.aload_n 0, 1) := by decide +kernel
theorem d_Model_holdsHere_1 : decode prog_13_method_55_code 1 = .ok (.getfield 89, 3) := by decide +kernel
theorem d_Model_holdsHere_4 : decode prog_13_method_55_code 4 = .ok (.iload_n 1, 1) := by decide +kernel
theorem d_Model_holdsHere_5 : decode prog_13_method_55_code 5 = .ok (.iaload, 1) := by decide +kernel
theorem d_Model_holdsHere_6 : decode prog_13_method_55_code 6 = .ok (.istore_n 2, 1) := by decide +kernel
theorem d_Model_holdsHere_7 : decode prog_13_method_55_code 7 = .ok (.aload_n 0, 1) := by decide +kernel
theorem d_Model_holdsHere_8 : decode prog_13_method_55_code 8 = .ok (.getfield 86, 3) := by decide +kernel
theorem d_Model_holdsHere_11 : decode prog_13_method_55_code 11 = .ok (.iload_n 1, 1) := by decide +kernel
theorem d_Model_holdsHere_12 : decode prog_13_method_55_code 12 = .ok (.iaload, 1) := by decide +kernel
theorem d_Model_holdsHere_13 : decode prog_13_method_55_code 13 = .ok (.iconst 1, 1) := by decide +kernel
theorem d_Model_holdsHere_14 : decode prog_13_method_55_code 14 = .ok (.if_icmp .ne 10, 3) := by decide +kernel
theorem d_Model_holdsHere_17 : decode prog_13_method_55_code 17 = .ok (.aload_n 0, 1) := by decide +kernel
theorem d_Model_holdsHere_18 : decode prog_13_method_55_code 18 = .ok (.iload_n 2, 1) := by decide +kernel
theorem d_Model_holdsHere_19 : decode prog_13_method_55_code 19 = .ok (.iconst 0, 1) := by decide +kernel
theorem d_Model_holdsHere_20 : decode prog_13_method_55_code 20 = .ok (.invokevirtual 316, 3) := by decide +kernel
theorem d_Model_holdsHere_23 : decode prog_13_method_55_code 23 = .ok (.ireturn, 1) := by decide +kernel
theorem d_Model_holdsHere_24 : decode prog_13_method_55_code 24 = .ok (.aload_n 0, 1) := by decide +kernel
theorem d_Model_holdsHere_25 : decode prog_13_method_55_code 25 = .ok (.getfield 86, 3) := by decide +kernel
theorem d_Model_holdsHere_28 : decode prog_13_method_55_code 28 = .ok (.iload_n 1, 1) := by decide +kernel
theorem d_Model_holdsHere_29 : decode prog_13_method_55_code 29 = .ok (.iaload, 1) := by decide +kernel
theorem d_Model_holdsHere_30 : decode prog_13_method_55_code 30 = .ok (.ifCond .ne 12, 3) := by decide +kernel
theorem d_Model_holdsHere_33 : decode prog_13_method_55_code 33 = .ok (.aload_n 0, 1) := by decide +kernel
theorem d_Model_holdsHere_34 : decode prog_13_method_55_code 34 = .ok (.iload_n 2, 1) := by decide +kernel
theorem d_Model_holdsHere_35 : decode prog_13_method_55_code 35 = .ok (.iconst 0, 1) := by decide +kernel
theorem d_Model_holdsHere_36 : decode prog_13_method_55_code 36 = .ok (.bipush 48, 2) := by decide +kernel
theorem d_Model_holdsHere_38 : decode prog_13_method_55_code 38 = .ok (.invokevirtual 319, 3) := by decide +kernel
theorem d_Model_holdsHere_41 : decode prog_13_method_55_code 41 = .ok (.ireturn, 1) := by decide +kernel
theorem d_Model_holdsHere_42 : decode prog_13_method_55_code 42 = .ok (.iconst 0, 1) := by decide +kernel
theorem d_Model_holdsHere_43 : decode prog_13_method_55_code 43 = .ok (.istore_n 3, 1) := by decide +kernel
theorem d_Model_holdsHere_44 : decode prog_13_method_55_code 44 = .ok (.iload_n 3, 1) := by decide +kernel
theorem d_Model_holdsHere_45 : decode prog_13_method_55_code 45 = .ok (.aload_n 0, 1) := by decide +kernel
theorem d_Model_holdsHere_46 : decode prog_13_method_55_code 46 = .ok (.getfield 150, 3) := by decide +kernel
theorem d_Model_holdsHere_49 : decode prog_13_method_55_code 49 = .ok (.if_icmp .gt 61, 3) := by decide +kernel
theorem d_Model_holdsHere_52 : decode prog_13_method_55_code 52 = .ok (.iconst 1, 1) := by decide +kernel
theorem d_Model_holdsHere_53 : decode prog_13_method_55_code 53 = .ok (.istore 4, 2) := by decide +kernel
theorem d_Model_holdsHere_55 : decode prog_13_method_55_code 55 = .ok (.iconst 0, 1) := by decide +kernel
theorem d_Model_holdsHere_56 : decode prog_13_method_55_code 56 = .ok (.istore 5, 2) := by decide +kernel
theorem d_Model_holdsHere_58 : decode prog_13_method_55_code 58 = .ok (.iload 5, 2) := by decide +kernel
theorem d_Model_holdsHere_60 : decode prog_13_method_55_code 60 = .ok (.aload_n 0, 1) := by decide +kernel
theorem d_Model_holdsHere_61 : decode prog_13_method_55_code 61 = .ok (.getfield 92, 3) := by decide +kernel
theorem d_Model_holdsHere_64 : decode prog_13_method_55_code 64 = .ok (.iload_n 1, 1) := by decide +kernel
theorem d_Model_holdsHere_65 : decode prog_13_method_55_code 65 = .ok (.iaload, 1) := by decide +kernel
theorem d_Model_holdsHere_66 : decode prog_13_method_55_code 66 = .ok (.if_icmp .ge 31, 3) := by decide +kernel
theorem d_Model_holdsHere_69 : decode prog_13_method_55_code 69 = .ok (.iload 4, 2) := by decide +kernel
theorem d_Model_holdsHere_71 : decode prog_13_method_55_code 71 = .ok (.aload_n 0, 1) := by decide +kernel
theorem d_Model_holdsHere_72 : decode prog_13_method_55_code 72 = .ok (.iload_n 2, 1) := by decide +kernel
theorem d_Model_holdsHere_73 : decode prog_13_method_55_code 73 = .ok (.iload 5, 2) := by decide +kernel
theorem d_Model_holdsHere_75 : decode prog_13_method_55_code 75 = .ok (.iadd, 1) := by decide +kernel
theorem d_Model_holdsHere_76 : decode prog_13_method_55_code 76 = .ok (.iload_n 3, 1) := by decide +kernel
theorem d_Model_holdsHere_77 : decode prog_13_method_55_code 77 = .ok (.iload_n 3, 1) := by decide +kernel
theorem d_Model_holdsHere_78 : decode prog_13_method_55_code 78 = .ok (.aload_n 0, 1) := by decide +kernel
theorem d_Model_holdsHere_79 : decode prog_13_method_55_code 79 = .ok (.getfield 98, 3) := by decide +kernel
theorem d_Model_holdsHere_82 : decode prog_13_method_55_code 82 = .ok (.iload_n 1, 1) := by decide +kernel
theorem d_Model_holdsHere_83 : decode prog_13_method_55_code 83 = .ok (.iaload, 1) := by decide +kernel
theorem d_Model_holdsHere_84 : decode prog_13_method_55_code 84 = .ok (.iadd, 1) := by decide +kernel
theorem d_Model_holdsHere_85 : decode prog_13_method_55_code 85 = .ok (.invokevirtual 319, 3) := by decide +kernel
theorem d_Model_holdsHere_88 : decode prog_13_method_55_code 88 = .ok (.iand, 1) := by decide +kernel
theorem d_Model_holdsHere_89 : decode prog_13_method_55_code 89 = .ok (.istore 4, 2) := by decide +kernel
theorem d_Model_holdsHere_91 : decode prog_13_method_55_code 91 = .ok (.iinc 5 1, 3) := by decide +kernel
theorem d_Model_holdsHere_94 : decode prog_13_method_55_code 94 = .ok (.goto (-36), 3) := by decide +kernel
theorem d_Model_holdsHere_97 : decode prog_13_method_55_code 97 = .ok (.iload 4, 2) := by decide +kernel
theorem d_Model_holdsHere_99 : decode prog_13_method_55_code 99 = .ok (.ifCond .eq 5, 3) := by decide +kernel
theorem d_Model_holdsHere_102 : decode prog_13_method_55_code 102 = .ok (.iconst 1, 1) := by decide +kernel
theorem d_Model_holdsHere_103 : decode prog_13_method_55_code 103 = .ok (.ireturn, 1) := by decide +kernel
theorem d_Model_holdsHere_104 : decode prog_13_method_55_code 104 = .ok (.iinc 3 1, 3) := by decide +kernel
theorem d_Model_holdsHere_107 : decode prog_13_method_55_code 107 = .ok (.goto (-63), 3) := by decide +kernel
theorem d_Model_holdsHere_110 : decode prog_13_method_55_code 110 = .ok (.iconst 0, 1) := by decide +kernel
theorem d_Model_holdsHere_111 : decode prog_13_method_55_code 111 = .ok (.ireturn, 1) := by decide +kernel
theorem d_Model_stands_0 : decode prog_13_method_53_code 0 = .ok (.aload_n 0, 1) := by decide +kernel
theorem d_Model_stands_1 : decode prog_13_method_53_code 1 = .ok (.iload_n 1, 1) := by decide +kernel
theorem d_Model_stands_2 : decode prog_13_method_53_code 2 = .ok (.invokevirtual 309, 3) := by decide +kernel
theorem d_Model_stands_5 : decode prog_13_method_53_code 5 = .ok (.istore_n 3, 1) := by decide +kernel
theorem d_Model_stands_6 : decode prog_13_method_53_code 6 = .ok (.iload_n 3, 1) := by decide +kernel
theorem d_Model_stands_7 : decode prog_13_method_53_code 7 = .ok (.ifCond .eq 13, 3) := by decide +kernel
theorem d_Model_stands_10 : decode prog_13_method_53_code 10 = .ok (.iload_n 2, 1) := by decide +kernel
theorem d_Model_stands_11 : decode prog_13_method_53_code 11 = .ok (.iload_n 3, 1) := by decide +kernel
theorem d_Model_stands_12 : decode prog_13_method_53_code 12 = .ok (.iadd, 1) := by decide +kernel
theorem d_Model_stands_13 : decode prog_13_method_53_code 13 = .ok (.aload_n 0, 1) := by decide +kernel
theorem d_Model_stands_14 : decode prog_13_method_53_code 14 = .ok (.getfield 150, 3) := by decide +kernel
theorem d_Model_stands_17 : decode prog_13_method_53_code 17 = .ok (.if_icmp .le 5, 3) := by decide +kernel
theorem d_Model_stands_20 : decode prog_13_method_53_code 20 = .ok (.iconst 0, 1) := by decide +kernel
theorem d_Model_stands_21 : decode prog_13_method_53_code 21 = .ok (.ireturn, 1) := by decide +kernel
theorem d_Model_stands_22 : decode prog_13_method_53_code 22 = .ok (.iconst 0, 1) := by decide +kernel
theorem d_Model_stands_23 : decode prog_13_method_53_code 23 = .ok (.istore 4, 2) := by decide +kernel
theorem d_Model_stands_25 : decode prog_13_method_53_code 25 = .ok (.iload 4, 2) := by decide +kernel
theorem d_Model_stands_27 : decode prog_13_method_53_code 27 = .ok (.iload_n 3, 1) := by decide +kernel
theorem d_Model_stands_28 : decode prog_13_method_53_code 28 = .ok (.if_icmp .ge 58, 3) := by decide +kernel
theorem d_Model_stands_31 : decode prog_13_method_53_code 31 = .ok (.aload_n 0, 1) := by decide +kernel
theorem d_Model_stands_32 : decode prog_13_method_53_code 32 = .ok (.iload_n 2, 1) := by decide +kernel
theorem d_Model_stands_33 : decode prog_13_method_53_code 33 = .ok (.iload 4, 2) := by decide +kernel
theorem d_Model_stands_35 : decode prog_13_method_53_code 35 = .ok (.iadd, 1) := by decide +kernel
theorem d_Model_stands_36 : decode prog_13_method_53_code 36 = .ok (.aload_n 0, 1) := by decide +kernel
theorem d_Model_stands_37 : decode prog_13_method_53_code 37 = .ok (.getfield 74, 3) := by decide +kernel
theorem d_Model_stands_40 : decode prog_13_method_53_code 40 = .ok (.iload_n 1, 1) := by decide +kernel
theorem d_Model_stands_41 : decode prog_13_method_53_code 41 = .ok (.iaload, 1) := by decide +kernel
theorem d_Model_stands_42 : decode prog_13_method_53_code 42 = .ok (.iload 4, 2) := by decide +kernel
theorem d_Model_stands_44 : decode prog_13_method_53_code 44 = .ok (.iadd, 1) := by decide +kernel
theorem d_Model_stands_45 : decode prog_13_method_53_code 45 = .ok (.aload_n 0, 1) := by decide +kernel
theorem d_Model_stands_46 : decode prog_13_method_53_code 46 = .ok (.getfield 77, 3) := by decide +kernel
theorem d_Model_stands_49 : decode prog_13_method_53_code 49 = .ok (.iload_n 1, 1) := by decide +kernel
theorem d_Model_stands_50 : decode prog_13_method_53_code 50 = .ok (.iaload, 1) := by decide +kernel
theorem d_Model_stands_51 : decode prog_13_method_53_code 51 = .ok (.iconst 1, 1) := by decide +kernel
theorem d_Model_stands_52 : decode prog_13_method_53_code 52 = .ok (.if_icmp .ne 15, 3) := by decide +kernel
theorem d_Model_stands_55 : decode prog_13_method_53_code 55 = .ok (.iload 4, 2) := by decide +kernel
theorem d_Model_stands_57 : decode prog_13_method_53_code 57 = .ok (.iload_n 3, 1) := by decide +kernel
theorem d_Model_stands_58 : decode prog_13_method_53_code 58 = .ok (.iconst 1, 1) := by decide +kernel
theorem d_Model_stands_59 : decode prog_13_method_53_code 59 = .ok (.isub, 1) := by decide +kernel
theorem d_Model_stands_60 : decode prog_13_method_53_code 60 = .ok (.if_icmp .ne 7, 3) := by decide +kernel
theorem d_Model_stands_63 : decode prog_13_method_53_code 63 = .ok (.iconst 1, 1) := by decide +kernel
theorem d_Model_stands_64 : decode prog_13_method_53_code 64 = .ok (.goto 4, 3) := by decide +kernel
theorem d_Model_stands_67 : decode prog_13_method_53_code 67 = .ok (.iconst 0, 1) := by decide +kernel
theorem d_Model_stands_68 : decode prog_13_method_53_code 68 = .ok (.invokevirtual 312, 3) := by decide +kernel
theorem d_Model_stands_71 : decode prog_13_method_53_code 71 = .ok (.istore 5, 2) := by decide +kernel
theorem d_Model_stands_73 : decode prog_13_method_53_code 73 = .ok (.iload 5, 2) := by decide +kernel
theorem d_Model_stands_75 : decode prog_13_method_53_code 75 = .ok (.ifCond .ne 5, 3) := by decide +kernel
theorem d_Model_stands_78 : decode prog_13_method_53_code 78 = .ok (.iconst 0, 1) := by decide +kernel
theorem d_Model_stands_79 : decode prog_13_method_53_code 79 = .ok (.ireturn, 1) := by decide +kernel
theorem d_Model_stands_80 : decode prog_13_method_53_code 80 = .ok (.iinc 4 1, 3) := by decide +kernel
theorem d_Model_stands_83 : decode prog_13_method_53_code 83 = .ok (.goto (-58), 3) := by decide +kernel
theorem d_Model_stands_86 : decode prog_13_method_53_code 86 = .ok (.iconst 1, 1) := by decide +kernel
theorem d_Model_stands_87 : decode prog_13_method_53_code 87 = .ok (.ireturn, 1) := by decide +kernel
theorem d_Model_length_0 : decode prog_13_method_52_code 0 = .ok (.aload_n 0, 1) := by decide +kernel
theorem d_Model_length_1 : decode prog_13_method_52_code 1 = .ok (.getfield 74, 3) := by decide +kernel
theorem d_Model_length_4 : decode prog_13_method_52_code 4 = .ok (.iload_n 1, 1) := by decide +kernel
theorem d_Model_length_5 : decode prog_13_method_52_code 5 = .ok (.iconst 1, 1) := by decide +kernel
theorem d_Model_length_6 : decode prog_13_method_52_code 6 = .ok (.iadd, 1) := by decide +kernel
theorem d_Model_length_7 : decode prog_13_method_52_code 7 = .ok (.iaload, 1) := by decide +kernel
theorem d_Model_length_8 : decode prog_13_method_52_code 8 = .ok (.aload_n 0, 1) := by decide +kernel
theorem d_Model_length_9 : decode prog_13_method_52_code 9 = .ok (.getfield 74, 3) := by decide +kernel
theorem d_Model_length_12 : decode prog_13_method_52_code 12 = .ok (.iload_n 1, 1) := by decide +kernel
theorem d_Model_length_13 : decode prog_13_method_52_code 13 = .ok (.iaload, 1) := by decide +kernel
theorem d_Model_length_14 : decode prog_13_method_52_code 14 = .ok (.isub, 1) := by decide +kernel
theorem d_Model_length_15 : decode prog_13_method_52_code 15 = .ok (.ireturn, 1) := by decide +kernel
theorem d_Model_matches_0 : decode prog_13_method_51_code 0 = .ok (.aload_n 0, 1) := by decide +kernel
theorem d_Model_matches_1 : decode prog_13_method_51_code 1 = .ok (.getfield 113, 3) := by decide +kernel
theorem d_Model_matches_4 : decode prog_13_method_51_code 4 = .ok (.iload_n 1, 1) := by decide +kernel
theorem d_Model_matches_5 : decode prog_13_method_51_code 5 = .ok (.iaload, 1) := by decide +kernel
theorem d_Model_matches_6 : decode prog_13_method_51_code 6 = .ok (.aload_n 0, 1) := by decide +kernel
theorem d_Model_matches_7 : decode prog_13_method_51_code 7 = .ok (.getfield 110, 3) := by decide +kernel
theorem d_Model_matches_10 : decode prog_13_method_51_code 10 = .ok (.iload_n 1, 1) := by decide +kernel
theorem d_Model_matches_11 : decode prog_13_method_51_code 11 = .ok (.iaload, 1) := by decide +kernel
theorem d_Model_matches_12 : decode prog_13_method_51_code 12 = .ok (.isub, 1) := by decide +kernel
theorem d_Model_matches_13 : decode prog_13_method_51_code 13 = .ok (.istore 4, 2) := by decide +kernel
theorem d_Model_matches_15 : decode prog_13_method_51_code 15 = .ok (.iload_n 3, 1) := by decide +kernel
theorem d_Model_matches_16 : decode prog_13_method_51_code 16 = .ok (.ifCond .eq 17, 3) := by decide +kernel
theorem d_Model_matches_19 : decode prog_13_method_51_code 19 = .ok (.aload_n 0, 1) := by decide +kernel
theorem d_Model_matches_20 : decode prog_13_method_51_code 20 = .ok (.getfield 83, 3) := by decide +kernel
theorem d_Model_matches_23 : decode prog_13_method_51_code 23 = .ok (.iload_n 2, 1) := by decide +kernel
theorem d_Model_matches_24 : decode prog_13_method_51_code 24 = .ok (.iaload, 1) := by decide +kernel
theorem d_Model_matches_25 : decode prog_13_method_51_code 25 = .ok (.iload 4, 2) := by decide +kernel
theorem d_Model_matches_27 : decode prog_13_method_51_code 27 = .ok (.if_icmp .le 19, 3) := by decide +kernel
theorem d_Model_matches_30 : decode prog_13_method_51_code 30 = .ok (.goto 14, 3) := by decide +kernel
theorem d_Model_matches_33 : decode prog_13_method_51_code 33 = .ok (.aload_n 0, 1) := by decide +kernel
theorem d_Model_matches_34 : decode prog_13_method_51_code 34 = .ok (.getfield 83, 3) := by decide +kernel
theorem d_Model_matches_37 : decode prog_13_method_51_code 37 = .ok (.iload_n 2, 1) := by decide +kernel
theorem d_Model_matches_38 : decode prog_13_method_51_code 38 = .ok (.iaload, 1) := by decide +kernel
theorem d_Model_matches_39 : decode prog_13_method_51_code 39 = .ok (.iload 4, 2) := by decide +kernel
theorem d_Model_matches_41 : decode prog_13_method_51_code 41 = .ok (.if_icmp .eq 5, 3) := by decide +kernel
theorem d_Model_matches_44 : decode prog_13_method_51_code 44 = .ok (.iconst 0, 1) := by decide +kernel
theorem d_Model_matches_45 : decode prog_13_method_51_code 45 = .ok (.ireturn, 1) := by decide +kernel
theorem d_Model_matches_46 : decode prog_13_method_51_code 46 = .ok (.iconst 0, 1) := by decide +kernel
theorem d_Model_matches_47 : decode prog_13_method_51_code 47 = .ok (.istore 5, 2) := by decide +kernel
theorem d_Model_matches_49 : decode prog_13_method_51_code 49 = .ok (.iload 5, 2) := by decide +kernel
theorem d_Model_matches_51 : decode prog_13_method_51_code 51 = .ok (.aload_n 0, 1) := by decide +kernel
theorem d_Model_matches_52 : decode prog_13_method_51_code 52 = .ok (.getfield 83, 3) := by decide +kernel
theorem d_Model_matches_55 : decode prog_13_method_51_code 55 = .ok (.iload_n 2, 1) := by decide +kernel
theorem d_Model_matches_56 : decode prog_13_method_51_code 56 = .ok (.iaload, 1) := by decide +kernel
theorem d_Model_matches_57 : decode prog_13_method_51_code 57 = .ok (.if_icmp .ge 48, 3) := by decide +kernel
theorem d_Model_matches_60 : decode prog_13_method_51_code 60 = .ok (.aload_n 0, 1) := by decide +kernel
theorem d_Model_matches_61 : decode prog_13_method_51_code 61 = .ok (.getfield 29, 3) := by decide +kernel
theorem d_Model_matches_64 : decode prog_13_method_51_code 64 = .ok (.aload_n 0, 1) := by decide +kernel
theorem d_Model_matches_65 : decode prog_13_method_51_code 65 = .ok (.getfield 110, 3) := by decide +kernel
theorem d_Model_matches_68 : decode prog_13_method_51_code 68 = .ok (.iload_n 1, 1) := by decide +kernel
theorem d_Model_matches_69 : decode prog_13_method_51_code 69 = .ok (.iaload, 1) := by decide +kernel
theorem d_Model_matches_70 : decode prog_13_method_51_code 70 = .ok (.iload 5, 2) := by decide +kernel
theorem d_Model_matches_72 : decode prog_13_method_51_code 72 = .ok (.iadd, 1) := by decide +kernel
theorem d_Model_matches_73 : decode prog_13_method_51_code 73 = .ok (.iaload, 1) := by decide +kernel
theorem d_Model_matches_74 : decode prog_13_method_51_code 74 = .ok (.invokestatic 157, 3) := by decide +kernel
theorem d_Model_matches_77 : decode prog_13_method_51_code 77 = .ok (.aload_n 0, 1) := by decide +kernel
theorem d_Model_matches_78 : decode prog_13_method_51_code 78 = .ok (.getfield 20, 3) := by decide +kernel
theorem d_Model_matches_81 : decode prog_13_method_51_code 81 = .ok (.aload_n 0, 1) := by decide +kernel
theorem d_Model_matches_82 : decode prog_13_method_51_code 82 = .ok (.getfield 80, 3) := by decide +kernel
theorem d_Model_matches_85 : decode prog_13_method_51_code 85 = .ok (.iload_n 2, 1) := by decide +kernel
theorem d_Model_matches_86 : decode prog_13_method_51_code 86 = .ok (.iaload, 1) := by decide +kernel
theorem d_Model_matches_87 : decode prog_13_method_51_code 87 = .ok (.iload 5, 2) := by decide +kernel
theorem d_Model_matches_89 : decode prog_13_method_51_code 89 = .ok (.iadd, 1) := by decide +kernel
theorem d_Model_matches_90 : decode prog_13_method_51_code 90 = .ok (.iaload, 1) := by decide +kernel
theorem d_Model_matches_91 : decode prog_13_method_51_code 91 = .ok (.invokestatic 157, 3) := by decide +kernel
theorem d_Model_matches_94 : decode prog_13_method_51_code 94 = .ok (.if_icmp .eq 5, 3) := by decide +kernel
theorem d_Model_matches_97 : decode prog_13_method_51_code 97 = .ok (.iconst 0, 1) := by decide +kernel
theorem d_Model_matches_98 : decode prog_13_method_51_code 98 = .ok (.ireturn, 1) := by decide +kernel
theorem d_Model_matches_99 : decode prog_13_method_51_code 99 = .ok (.iinc 5 1, 3) := by decide +kernel
theorem d_Model_matches_102 : decode prog_13_method_51_code 102 = .ok (.goto (-53), 3) := by decide +kernel
theorem d_Model_matches_105 : decode prog_13_method_51_code 105 = .ok (.iconst 1, 1) := by decide +kernel
theorem d_Model_matches_106 : decode prog_13_method_51_code 106 = .ok (.ireturn, 1) := by decide +kernel
theorem d_Model_standsBetween_0 : decode prog_13_method_54_code 0 = .ok (.iconst 0, 1) := by decide +kernel
theorem d_Model_standsBetween_1 : decode prog_13_method_54_code 1 = .ok (.istore 4, 2) := by decide +kernel
theorem d_Model_standsBetween_3 : decode prog_13_method_54_code 3 = .ok (.iload 4, 2) := by decide +kernel
theorem d_Model_standsBetween_5 : decode prog_13_method_54_code 5 = .ok (.aload_n 0, 1) := by decide +kernel
theorem d_Model_standsBetween_6 : decode prog_13_method_54_code 6 = .ok (.getfield 150, 3) := by decide +kernel
theorem d_Model_standsBetween_9 : decode prog_13_method_54_code 9 = .ok (.if_icmp .ge 39, 3) := by decide +kernel
theorem d_Model_standsBetween_12 : decode prog_13_method_54_code 12 = .ok (.iload 4, 2) := by decide +kernel
theorem d_Model_standsBetween_14 : decode prog_13_method_54_code 14 = .ok (.iload_n 3, 1) := by decide +kernel
theorem d_Model_standsBetween_15 : decode prog_13_method_54_code 15 = .ok (.if_icmp .gt 33, 3) := by decide +kernel
theorem d_Model_standsBetween_18 : decode prog_13_method_54_code 18 = .ok (.iload 4, 2) := by decide +kernel
theorem d_Model_standsBetween_20 : decode prog_13_method_54_code 20 = .ok (.aload_n 0, 1) := by decide +kernel
theorem d_Model_standsBetween_21 : decode prog_13_method_54_code 21 = .ok (.iload_n 1, 1) := by decide +kernel
theorem d_Model_standsBetween_22 : decode prog_13_method_54_code 22 = .ok (.invokevirtual 309, 3) := by decide +kernel
theorem d_Model_standsBetween_25 : decode prog_13_method_54_code 25 = .ok (.iadd, 1) := by decide +kernel
theorem d_Model_standsBetween_26 : decode prog_13_method_54_code 26 = .ok (.iload_n 2, 1) := by decide +kernel
theorem d_Model_standsBetween_27 : decode prog_13_method_54_code 27 = .ok (.if_icmp .lt 15, 3) := by decide +kernel
theorem d_Model_standsBetween_30 : decode prog_13_method_54_code 30 = .ok (.aload_n 0, 1) := by decide +kernel
theorem d_Model_standsBetween_31 : decode prog_13_method_54_code 31 = .ok (.iload_n 1, 1) := by decide +kernel
theorem d_Model_standsBetween_32 : decode prog_13_method_54_code 32 = .ok (.iload 4, 2) := by decide +kernel
theorem d_Model_standsBetween_34 : decode prog_13_method_54_code 34 = .ok (.invokevirtual 316, 3) := by decide +kernel
theorem d_Model_standsBetween_37 : decode prog_13_method_54_code 37 = .ok (.ifCond .eq 5, 3) := by decide +kernel
theorem d_Model_standsBetween_40 : decode prog_13_method_54_code 40 = .ok (.iconst 1, 1) := by decide +kernel
theorem d_Model_standsBetween_41 : decode prog_13_method_54_code 41 = .ok (.ireturn, 1) := by decide +kernel
theorem d_Model_standsBetween_42 : decode prog_13_method_54_code 42 = .ok (.iinc 4 1, 3) := by decide +kernel
theorem d_Model_standsBetween_45 : decode prog_13_method_54_code 45 = .ok (.goto (-42), 3) := by decide +kernel
theorem d_Model_standsBetween_48 : decode prog_13_method_54_code 48 = .ok (.iconst 0, 1) := by decide +kernel
theorem d_Model_standsBetween_49 : decode prog_13_method_54_code 49 = .ok (.ireturn, 1) := by decide +kernel
theorem d_Model_scoreOf_0 : decode prog_13_method_60_code 0 = .ok (.dconst 0, 1) := by decide +kernel
theorem d_Model_scoreOf_1 : decode prog_13_method_60_code 1 = .ok (.dstore_n 2, 1) := by decide +kernel
theorem d_Model_scoreOf_2 : decode prog_13_method_60_code 2 = .ok (.iconst 0, 1) := by decide +kernel
theorem d_Model_scoreOf_3 : decode prog_13_method_60_code 3 = .ok (.istore 4, 2) := by decide +kernel
theorem d_Model_scoreOf_5 : decode prog_13_method_60_code 5 = .ok (.aload_n 0, 1) := by decide +kernel
theorem d_Model_scoreOf_6 : decode prog_13_method_60_code 6 = .ok (.invokevirtual 209, 3) := by decide +kernel
theorem d_Model_scoreOf_9 : decode prog_13_method_60_code 9 = .ok (.istore 5, 2) := by decide +kernel
theorem d_Model_scoreOf_11 : decode prog_13_method_60_code 11 = .ok (.iconst 0, 1) := by decide +kernel
theorem d_Model_scoreOf_12 : decode prog_13_method_60_code 12 = .ok (.istore 6, 2) := by decide +kernel
theorem d_Model_scoreOf_14 : decode prog_13_method_60_code 14 = .ok (.iload 6, 2) := by decide +kernel
theorem d_Model_scoreOf_16 : decode prog_13_method_60_code 16 = .ok (.bipush 24, 2) := by decide +kernel
theorem d_Model_scoreOf_18 : decode prog_13_method_60_code 18 = .ok (.if_icmp .ge 30, 3) := by decide +kernel
theorem d_Model_scoreOf_21 : decode prog_13_method_60_code 21 = .ok (.aload_n 0, 1) := by decide +kernel
theorem d_Model_scoreOf_22 : decode prog_13_method_60_code 22 = .ok (.getfield 44, 3) := by decide +kernel
theorem d_Model_scoreOf_25 : decode prog_13_method_60_code 25 = .ok (.iload 6, 2) := by decide +kernel
theorem d_Model_scoreOf_27 : decode prog_13_method_60_code 27 = .ok (.iaload, 1) := by decide +kernel
theorem d_Model_scoreOf_28 : decode prog_13_method_60_code 28 = .ok (.ifCond .lt 14, 3) := by decide +kernel
theorem d_Model_scoreOf_31 : decode prog_13_method_60_code 31 = .ok (.iload 4, 2) := by decide +kernel
theorem d_Model_scoreOf_33 : decode prog_13_method_60_code 33 = .ok (.aload_n 0, 1) := by decide +kernel
theorem d_Model_scoreOf_34 : decode prog_13_method_60_code 34 = .ok (.iload 6, 2) := by decide +kernel
theorem d_Model_scoreOf_36 : decode prog_13_method_60_code 36 = .ok (.invokevirtual 184, 3) := by decide +kernel
theorem d_Model_scoreOf_39 : decode prog_13_method_60_code 39 = .ok (.iadd, 1) := by decide +kernel
theorem d_Model_scoreOf_40 : decode prog_13_method_60_code 40 = .ok (.istore 4, 2) := by decide +kernel
theorem d_Model_scoreOf_42 : decode prog_13_method_60_code 42 = .ok (.iinc 6 1, 3) := by decide +kernel
theorem d_Model_scoreOf_45 : decode prog_13_method_60_code 45 = .ok (.goto (-31), 3) := by decide +kernel
theorem d_Model_scoreOf_48 : decode prog_13_method_60_code 48 = .ok (.iconst 0, 1) := by decide +kernel
theorem d_Model_scoreOf_49 : decode prog_13_method_60_code 49 = .ok (.istore 6, 2) := by decide +kernel
theorem d_Model_scoreOf_51 : decode prog_13_method_60_code 51 = .ok (.iload 6, 2) := by decide +kernel
theorem d_Model_scoreOf_53 : decode prog_13_method_60_code 53 = .ok (.aload_n 0, 1) := by decide +kernel
theorem d_Model_scoreOf_54 : decode prog_13_method_60_code 54 = .ok (.getfield 247, 3) := by decide +kernel
theorem d_Model_scoreOf_57 : decode prog_13_method_60_code 57 = .ok (.if_icmp .ge 192, 3) := by decide +kernel
theorem d_Model_scoreOf_60 : decode prog_13_method_60_code 60 = .ok (.iconst 0, 1) := by decide +kernel
theorem d_Model_scoreOf_61 : decode prog_13_method_60_code 61 = .ok (.istore 7, 2) := by decide +kernel
theorem d_Model_scoreOf_63 : decode prog_13_method_60_code 63 = .ok (.iconst 0, 1) := by decide +kernel
theorem d_Model_scoreOf_64 : decode prog_13_method_60_code 64 = .ok (.istore 8, 2) := by decide +kernel
theorem d_Model_scoreOf_66 : decode prog_13_method_60_code 66 = .ok (.iload 8, 2) := by decide +kernel
theorem d_Model_scoreOf_68 : decode prog_13_method_60_code 68 = .ok (.bipush 24, 2) := by decide +kernel
theorem d_Model_scoreOf_70 : decode prog_13_method_60_code 70 = .ok (.if_icmp .ge 44, 3) := by decide +kernel
theorem d_Model_scoreOf_73 : decode prog_13_method_60_code 73 = .ok (.aload_n 0, 1) := by decide +kernel
theorem d_Model_scoreOf_74 : decode prog_13_method_60_code 74 = .ok (.getfield 44, 3) := by decide +kernel
theorem d_Model_scoreOf_77 : decode prog_13_method_60_code 77 = .ok (.iload 8, 2) := by decide +kernel
theorem d_Model_scoreOf_79 : decode prog_13_method_60_code 79 = .ok (.iaload, 1) := by decide +kernel
theorem d_Model_scoreOf_80 : decode prog_13_method_60_code 80 = .ok (.ifCond .lt 28, 3) := by decide +kernel
theorem d_Model_scoreOf_83 : decode prog_13_method_60_code 83 = .ok (.aload_n 0, 1) := by decide +kernel
theorem d_Model_scoreOf_84 : decode prog_13_method_60_code 84 = .ok (.iload 6, 2) := by decide +kernel
theorem d_Model_scoreOf_86 : decode prog_13_method_60_code 86 = .ok (.iload 8, 2) := by decide +kernel
theorem d_Model_scoreOf_88 : decode prog_13_method_60_code 88 = .ok (.iconst 0, 1) := by decide +kernel
theorem d_Model_scoreOf_89 : decode prog_13_method_60_code 89 = .ok (.invokevirtual 336, 3) := by decide +kernel
theorem d_Model_scoreOf_92 : decode prog_13_method_60_code 92 = .ok (.aload_n 0, 1) := by decide +kernel
theorem d_Model_scoreOf_93 : decode prog_13_method_60_code 93 = .ok (.iload 6, 2) := by decide +kernel
theorem d_Model_scoreOf_95 : decode prog_13_method_60_code 95 = .ok (.iload 8, 2) := by decide +kernel
theorem d_Model_scoreOf_97 : decode prog_13_method_60_code 97 = .ok (.iconst 1, 1) := by decide +kernel
theorem d_Model_scoreOf_98 : decode prog_13_method_60_code 98 = .ok (.invokevirtual 336, 3) := by decide +kernel
theorem d_Model_scoreOf_101 : decode prog_13_method_60_code 101 = .ok (.iadd, 1) := by decide +kernel
theorem d_Model_scoreOf_102 : decode prog_13_method_60_code 102 = .ok (.ifCond .le 6, 3) := by decide +kernel
theorem d_Model_scoreOf_105 : decode prog_13_method_60_code 105 = .ok (.iinc 7 1, 3) := by decide +kernel
theorem d_Model_scoreOf_108 : decode prog_13_method_60_code 108 = .ok (.iinc 8 1, 3) := by decide +kernel
theorem d_Model_scoreOf_111 : decode prog_13_method_60_code 111 = .ok (.goto (-45), 3) := by decide +kernel
theorem d_Model_scoreOf_114 : decode prog_13_method_60_code 114 = .ok (.aload_n 0, 1) := by decide +kernel
theorem d_Model_scoreOf_115 : decode prog_13_method_60_code 115 = .ok (.getfield 35, 3) := by decide +kernel
theorem d_Model_scoreOf_118 : decode prog_13_method_60_code 118 = .ok (.iconst 0, 1) := by decide +kernel
theorem d_Model_scoreOf_119 : decode prog_13_method_60_code 119 = .ok (.iaload, 1) := by decide +kernel
theorem d_Model_scoreOf_120 : decode prog_13_method_60_code 120 = .ok (.aload_n 0, 1) := by decide +kernel
theorem d_Model_scoreOf_121 : decode prog_13_method_60_code 121 = .ok (.iload 6, 2) := by decide +kernel
theorem d_Model_scoreOf_123 : decode prog_13_method_60_code 123 = .ok (.iload_n 1, 1) := by decide +kernel
theorem d_Model_scoreOf_124 : decode prog_13_method_60_code 124 = .ok (.iconst 0, 1) := by decide +kernel
theorem d_Model_scoreOf_125 : decode prog_13_method_60_code 125 = .ok (.invokevirtual 336, 3) := by decide +kernel
theorem d_Model_scoreOf_128 : decode prog_13_method_60_code 128 = .ok (.imul, 1) := by decide +kernel
theorem d_Model_scoreOf_129 : decode prog_13_method_60_code 129 = .ok (.aload_n 0, 1) := by decide +kernel
theorem d_Model_scoreOf_130 : decode prog_13_method_60_code 130 = .ok (.getfield 35, 3) := by decide +kernel
theorem d_Model_scoreOf_133 : decode prog_13_method_60_code 133 = .ok (.iconst 1, 1) := by decide +kernel
theorem d_Model_scoreOf_134 : decode prog_13_method_60_code 134 = .ok (.iaload, 1) := by decide +kernel
theorem d_Model_scoreOf_135 : decode prog_13_method_60_code 135 = .ok (.aload_n 0, 1) := by decide +kernel
theorem d_Model_scoreOf_136 : decode prog_13_method_60_code 136 = .ok (.iload 6, 2) := by decide +kernel
theorem d_Model_scoreOf_138 : decode prog_13_method_60_code 138 = .ok (.iload_n 1, 1) := by decide +kernel
theorem d_Model_scoreOf_139 : decode prog_13_method_60_code 139 = .ok (.iconst 1, 1) := by decide +kernel
theorem d_Model_scoreOf_140 : decode prog_13_method_60_code 140 = .ok (.invokevirtual 336, 3) := by decide +kernel
theorem d_Model_scoreOf_143 : decode prog_13_method_60_code 143 = .ok (.imul, 1) := by decide +kernel
theorem d_Model_scoreOf_144 : decode prog_13_method_60_code 144 = .ok (.iadd, 1) := by decide +kernel
theorem d_Model_scoreOf_145 : decode prog_13_method_60_code 145 = .ok (.i2d, 1) := by decide +kernel
theorem d_Model_scoreOf_146 : decode prog_13_method_60_code 146 = .ok (.dstore 8, 2) := by decide +kernel
theorem d_Model_scoreOf_148 : decode prog_13_method_60_code 148 = .ok (.aload_n 0, 1) := by decide +kernel
theorem d_Model_scoreOf_149 : decode prog_13_method_60_code 149 = .ok (.iload_n 1, 1) := by decide +kernel
theorem d_Model_scoreOf_150 : decode prog_13_method_60_code 150 = .ok (.invokevirtual 184, 3) := by decide +kernel
theorem d_Model_scoreOf_153 : decode prog_13_method_60_code 153 = .ok (.i2d, 1) := by decide +kernel
theorem d_Model_scoreOf_154 : decode prog_13_method_60_code 154 = .ok (.dstore 10, 2) := by decide +kernel
theorem d_Model_scoreOf_156 : decode prog_13_method_60_code 156 = .ok (.iload 4, 2) := by decide +kernel
theorem d_Model_scoreOf_158 : decode prog_13_method_60_code 158 = .ok (.i2d, 1) := by decide +kernel
theorem d_Model_scoreOf_159 : decode prog_13_method_60_code 159 = .ok (.iload 5, 2) := by decide +kernel
theorem d_Model_scoreOf_161 : decode prog_13_method_60_code 161 = .ok (.i2d, 1) := by decide +kernel
theorem d_Model_scoreOf_162 : decode prog_13_method_60_code 162 = .ok (.ddiv, 1) := by decide +kernel
theorem d_Model_scoreOf_163 : decode prog_13_method_60_code 163 = .ok (.dstore 12, 2) := by decide +kernel
theorem d_Model_scoreOf_165 : decode prog_13_method_60_code 165 = .ok (.dload 8, 2) := by decide +kernel
theorem d_Model_scoreOf_167 : decode prog_13_method_60_code 167 = .ok (.dconst 0, 1) := by decide +kernel
theorem d_Model_scoreOf_168 : decode prog_13_method_60_code 168 = .ok (.dcmp .l, 1) := by decide +kernel
theorem d_Model_scoreOf_169 : decode prog_13_method_60_code 169 = .ok (.ifCond .ne 6, 3) := by decide +kernel
theorem d_Model_scoreOf_172 : decode prog_13_method_60_code 172 = .ok (.goto 71, 3) := by decide +kernel
theorem d_Model_scoreOf_175 : decode prog_13_method_60_code 175 = .ok (.iload 5, 2) := by decide +kernel
theorem d_Model_scoreOf_177 : decode prog_13_method_60_code 177 = .ok (.iload 7, 2) := by decide +kernel
theorem d_Model_scoreOf_179 : decode prog_13_method_60_code 179 = .ok (.isub, 1) := by decide +kernel
theorem d_Model_scoreOf_180 : decode prog_13_method_60_code 180 = .ok (.i2d, 1) := by decide +kernel
theorem d_Model_scoreOf_181 : decode prog_13_method_60_code 181 = .ok (.ldc2_w 340, 3) := by decide +kernel
theorem d_Model_scoreOf_184 : decode prog_13_method_60_code 184 = .ok (.dadd, 1) := by decide +kernel
theorem d_Model_scoreOf_185 : decode prog_13_method_60_code 185 = .ok (.iload 7, 2) := by decide +kernel
theorem d_Model_scoreOf_187 : decode prog_13_method_60_code 187 = .ok (.i2d, 1) := by decide +kernel
theorem d_Model_scoreOf_188 : decode prog_13_method_60_code 188 = .ok (.ldc2_w 340, 3) := by decide +kernel
theorem d_Model_scoreOf_191 : decode prog_13_method_60_code 191 = .ok (.dadd, 1) := by decide +kernel
theorem d_Model_scoreOf_192 : decode prog_13_method_60_code 192 = .ok (.ddiv, 1) := by decide +kernel
theorem d_Model_scoreOf_193 : decode prog_13_method_60_code 193 = .ok (.invokestatic 342, 3) := by decide +kernel
theorem d_Model_scoreOf_196 : decode prog_13_method_60_code 196 = .ok (.dstore 14, 2) := by decide +kernel
theorem d_Model_scoreOf_198 : decode prog_13_method_60_code 198 = .ok (.dload 14, 2) := by decide +kernel
theorem d_Model_scoreOf_200 : decode prog_13_method_60_code 200 = .ok (.dconst 0, 1) := by decide +kernel
theorem d_Model_scoreOf_201 : decode prog_13_method_60_code 201 = .ok (.dcmp .l, 1) := by decide +kernel
theorem d_Model_scoreOf_202 : decode prog_13_method_60_code 202 = .ok (.ifCond .gt 8, 3) := by decide +kernel
theorem d_Model_scoreOf_205 : decode prog_13_method_60_code 205 = .ok (.ldc2_w 346, 3) := by decide +kernel
theorem d_Model_scoreOf_208 : decode prog_13_method_60_code 208 = .ok (.dstore 14, 2) := by decide +kernel
theorem d_Model_scoreOf_210 : decode prog_13_method_60_code 210 = .ok (.dload_n 2, 1) := by decide +kernel
theorem d_Model_scoreOf_211 : decode prog_13_method_60_code 211 = .ok (.dload 14, 2) := by decide +kernel
theorem d_Model_scoreOf_213 : decode prog_13_method_60_code 213 = .ok (.dload 8, 2) := by decide +kernel
theorem d_Model_scoreOf_215 : decode prog_13_method_60_code 215 = .ok (.ldc2_w 348, 3) := by decide +kernel
theorem d_Model_scoreOf_218 : decode prog_13_method_60_code 218 = .ok (.dmul, 1) := by decide +kernel
theorem d_Model_scoreOf_219 : decode prog_13_method_60_code 219 = .ok (.dmul, 1) := by decide +kernel
theorem d_Model_scoreOf_220 : decode prog_13_method_60_code 220 = .ok (.dload 8, 2) := by decide +kernel
theorem d_Model_scoreOf_222 : decode prog_13_method_60_code 222 = .ok (.ldc2_w 350, 3) := by decide +kernel
theorem d_Model_scoreOf_225 : decode prog_13_method_60_code 225 = .ok (.ldc2_w 352, 3) := by decide +kernel
theorem d_Model_scoreOf_228 : decode prog_13_method_60_code 228 = .ok (.ldc2_w 332, 3) := by decide +kernel
theorem d_Model_scoreOf_231 : decode prog_13_method_60_code 231 = .ok (.dload 10, 2) := by decide +kernel
theorem d_Model_scoreOf_233 : decode prog_13_method_60_code 233 = .ok (.dmul, 1) := by decide +kernel
theorem d_Model_scoreOf_234 : decode prog_13_method_60_code 234 = .ok (.dload 12, 2) := by decide +kernel
theorem d_Model_scoreOf_236 : decode prog_13_method_60_code 236 = .ok (.ddiv, 1) := by decide +kernel
theorem d_Model_scoreOf_237 : decode prog_13_method_60_code 237 = .ok (.dadd, 1) := by decide +kernel
theorem d_Model_scoreOf_238 : decode prog_13_method_60_code 238 = .ok (.dmul, 1) := by decide +kernel
theorem d_Model_scoreOf_239 : decode prog_13_method_60_code 239 = .ok (.dadd, 1) := by decide +kernel
theorem d_Model_scoreOf_240 : decode prog_13_method_60_code 240 = .ok (.ddiv, 1) := by decide +kernel
theorem d_Model_scoreOf_241 : decode prog_13_method_60_code 241 = .ok (.dadd, 1) := by decide +kernel
theorem d_Model_scoreOf_242 : decode prog_13_method_60_code 242 = .ok (.dstore_n 2, 1) := by decide +kernel
theorem d_Model_scoreOf_243 : decode prog_13_method_60_code 243 = .ok (.iinc 6 1, 3) := by decide +kernel
theorem d_Model_scoreOf_246 : decode prog_13_method_60_code 246 = .ok (.goto (-195), 3) := by decide +kernel
theorem d_Model_scoreOf_249 : decode prog_13_method_60_code 249 = .ok (.dload_n 2, 1) := by decide +kernel
theorem d_Model_scoreOf_250 : decode prog_13_method_60_code 250 = .ok (.dreturn, 1) := by decide +kernel
theorem d_Model_countIn_0 : decode prog_13_method_58_code 0 = .ok (.aload_n 0, 1) := by decide +kernel
theorem d_Model_countIn_1 : decode prog_13_method_58_code 1 = .ok (.iload_n 2, 1) := by decide +kernel
theorem d_Model_countIn_2 : decode prog_13_method_58_code 2 = .ok (.iload_n 3, 1) := by decide +kernel
theorem d_Model_countIn_3 : decode prog_13_method_58_code 3 = .ok (.invokevirtual 153, 3) := by decide +kernel
theorem d_Model_countIn_6 : decode prog_13_method_58_code 6 = .ok (.iconst 0, 1) := by decide +kernel
theorem d_Model_countIn_7 : decode prog_13_method_58_code 7 = .ok (.istore 4, 2) := by decide +kernel
theorem d_Model_countIn_9 : decode prog_13_method_58_code 9 = .ok (.iconst 0, 1) := by decide +kernel
theorem d_Model_countIn_10 : decode prog_13_method_58_code 10 = .ok (.istore 5, 2) := by decide +kernel
theorem d_Model_countIn_12 : decode prog_13_method_58_code 12 = .ok (.iload 5, 2) := by decide +kernel
theorem d_Model_countIn_14 : decode prog_13_method_58_code 14 = .ok (.aload_n 0, 1) := by decide +kernel
theorem d_Model_countIn_15 : decode prog_13_method_58_code 15 = .ok (.getfield 150, 3) := by decide +kernel
theorem d_Model_countIn_18 : decode prog_13_method_58_code 18 = .ok (.if_icmp .ge 22, 3) := by decide +kernel
theorem d_Model_countIn_21 : decode prog_13_method_58_code 21 = .ok (.aload_n 0, 1) := by decide +kernel
theorem d_Model_countIn_22 : decode prog_13_method_58_code 22 = .ok (.iload_n 1, 1) := by decide +kernel
theorem d_Model_countIn_23 : decode prog_13_method_58_code 23 = .ok (.iload 5, 2) := by decide +kernel
theorem d_Model_countIn_25 : decode prog_13_method_58_code 25 = .ok (.invokevirtual 316, 3) := by decide +kernel
theorem d_Model_countIn_28 : decode prog_13_method_58_code 28 = .ok (.ifCond .eq 6, 3) := by decide +kernel
theorem d_Model_countIn_31 : decode prog_13_method_58_code 31 = .ok (.iinc 4 1, 3) := by decide +kernel
theorem d_Model_countIn_34 : decode prog_13_method_58_code 34 = .ok (.iinc 5 1, 3) := by decide +kernel
theorem d_Model_countIn_37 : decode prog_13_method_58_code 37 = .ok (.goto (-25), 3) := by decide +kernel
theorem d_Model_countIn_40 : decode prog_13_method_58_code 40 = .ok (.iload 4, 2) := by decide +kernel
theorem d_Model_countIn_42 : decode prog_13_method_58_code 42 = .ok (.ireturn, 1) := by decide +kernel
theorem d_Model_logarithm_0 : decode prog_13_method_59_code 0 = .ok (.dload_n 0, 1) := by decide +kernel
theorem d_Model_logarithm_1 : decode prog_13_method_59_code 1 = .ok (.dstore_n 2, 1) := by decide +kernel
theorem d_Model_logarithm_2 : decode prog_13_method_59_code 2 = .ok (.iconst 0, 1) := by decide +kernel
theorem d_Model_logarithm_3 : decode prog_13_method_59_code 3 = .ok (.istore 4, 2) := by decide +kernel
theorem d_Model_logarithm_5 : decode prog_13_method_59_code 5 = .ok (.dload_n 2, 1) := by decide +kernel
theorem d_Model_logarithm_6 : decode prog_13_method_59_code 6 = .ok (.ldc2_w 328, 3) := by decide +kernel
theorem d_Model_logarithm_9 : decode prog_13_method_59_code 9 = .ok (.dcmp .l, 1) := by decide +kernel
theorem d_Model_logarithm_10 : decode prog_13_method_59_code 10 = .ok (.ifCond .lt 15, 3) := by decide +kernel
theorem d_Model_logarithm_13 : decode prog_13_method_59_code 13 = .ok (.dload_n 2, 1) := by decide +kernel
theorem d_Model_logarithm_14 : decode prog_13_method_59_code 14 = .ok (.ldc2_w 330, 3) := by decide +kernel
theorem d_Model_logarithm_17 : decode prog_13_method_59_code 17 = .ok (.ddiv, 1) := by decide +kernel
theorem d_Model_logarithm_18 : decode prog_13_method_59_code 18 = .ok (.dstore_n 2, 1) := by decide +kernel
theorem d_Model_logarithm_19 : decode prog_13_method_59_code 19 = .ok (.iinc 4 1, 3) := by decide +kernel
theorem d_Model_logarithm_22 : decode prog_13_method_59_code 22 = .ok (.goto (-17), 3) := by decide +kernel
theorem d_Model_logarithm_25 : decode prog_13_method_59_code 25 = .ok (.dload_n 2, 1) := by decide +kernel
theorem d_Model_logarithm_26 : decode prog_13_method_59_code 26 = .ok (.ldc2_w 332, 3) := by decide +kernel
theorem d_Model_logarithm_29 : decode prog_13_method_59_code 29 = .ok (.dcmp .g, 1) := by decide +kernel
theorem d_Model_logarithm_30 : decode prog_13_method_59_code 30 = .ok (.ifCond .ge 15, 3) := by decide +kernel
theorem d_Model_logarithm_33 : decode prog_13_method_59_code 33 = .ok (.dload_n 2, 1) := by decide +kernel
theorem d_Model_logarithm_34 : decode prog_13_method_59_code 34 = .ok (.ldc2_w 330, 3) := by decide +kernel
theorem d_Model_logarithm_37 : decode prog_13_method_59_code 37 = .ok (.dmul, 1) := by decide +kernel
theorem d_Model_logarithm_38 : decode prog_13_method_59_code 38 = .ok (.dstore_n 2, 1) := by decide +kernel
theorem d_Model_logarithm_39 : decode prog_13_method_59_code 39 = .ok (.iinc 4 (-1), 3) := by decide +kernel
theorem d_Model_logarithm_42 : decode prog_13_method_59_code 42 = .ok (.goto (-17), 3) := by decide +kernel
theorem d_Model_logarithm_45 : decode prog_13_method_59_code 45 = .ok (.dload_n 2, 1) := by decide +kernel
theorem d_Model_logarithm_46 : decode prog_13_method_59_code 46 = .ok (.dconst 1, 1) := by decide +kernel
theorem d_Model_logarithm_47 : decode prog_13_method_59_code 47 = .ok (.dsub, 1) := by decide +kernel
theorem d_Model_logarithm_48 : decode prog_13_method_59_code 48 = .ok (.dload_n 2, 1) := by decide +kernel
theorem d_Model_logarithm_49 : decode prog_13_method_59_code 49 = .ok (.dconst 1, 1) := by decide +kernel
theorem d_Model_logarithm_50 : decode prog_13_method_59_code 50 = .ok (.dadd, 1) := by decide +kernel
theorem d_Model_logarithm_51 : decode prog_13_method_59_code 51 = .ok (.ddiv, 1) := by decide +kernel
theorem d_Model_logarithm_52 : decode prog_13_method_59_code 52 = .ok (.dstore 5, 2) := by decide +kernel
theorem d_Model_logarithm_54 : decode prog_13_method_59_code 54 = .ok (.dload 5, 2) := by decide +kernel
theorem d_Model_logarithm_56 : decode prog_13_method_59_code 56 = .ok (.dload 5, 2) := by decide +kernel
theorem d_Model_logarithm_58 : decode prog_13_method_59_code 58 = .ok (.dmul, 1) := by decide +kernel
theorem d_Model_logarithm_59 : decode prog_13_method_59_code 59 = .ok (.dstore 7, 2) := by decide +kernel
theorem d_Model_logarithm_61 : decode prog_13_method_59_code 61 = .ok (.dconst 0, 1) := by decide +kernel
theorem d_Model_logarithm_62 : decode prog_13_method_59_code 62 = .ok (.dstore 9, 2) := by decide +kernel
theorem d_Model_logarithm_64 : decode prog_13_method_59_code 64 = .ok (.bipush 19, 2) := by decide +kernel
theorem d_Model_logarithm_66 : decode prog_13_method_59_code 66 = .ok (.istore 11, 2) := by decide +kernel
theorem d_Model_logarithm_68 : decode prog_13_method_59_code 68 = .ok (.iload 11, 2) := by decide +kernel
theorem d_Model_logarithm_70 : decode prog_13_method_59_code 70 = .ok (.ifCond .le 22, 3) := by decide +kernel
theorem d_Model_logarithm_73 : decode prog_13_method_59_code 73 = .ok (.dload 9, 2) := by decide +kernel
theorem d_Model_logarithm_75 : decode prog_13_method_59_code 75 = .ok (.dload 7, 2) := by decide +kernel
theorem d_Model_logarithm_77 : decode prog_13_method_59_code 77 = .ok (.dmul, 1) := by decide +kernel
theorem d_Model_logarithm_78 : decode prog_13_method_59_code 78 = .ok (.dconst 1, 1) := by decide +kernel
theorem d_Model_logarithm_79 : decode prog_13_method_59_code 79 = .ok (.iload 11, 2) := by decide +kernel
theorem d_Model_logarithm_81 : decode prog_13_method_59_code 81 = .ok (.i2d, 1) := by decide +kernel
theorem d_Model_logarithm_82 : decode prog_13_method_59_code 82 = .ok (.ddiv, 1) := by decide +kernel
theorem d_Model_logarithm_83 : decode prog_13_method_59_code 83 = .ok (.dadd, 1) := by decide +kernel
theorem d_Model_logarithm_84 : decode prog_13_method_59_code 84 = .ok (.dstore 9, 2) := by decide +kernel
theorem d_Model_logarithm_86 : decode prog_13_method_59_code 86 = .ok (.iinc 11 (-2), 3) := by decide +kernel
theorem d_Model_logarithm_89 : decode prog_13_method_59_code 89 = .ok (.goto (-21), 3) := by decide +kernel
theorem d_Model_logarithm_92 : decode prog_13_method_59_code 92 = .ok (.ldc2_w 330, 3) := by decide +kernel
theorem d_Model_logarithm_95 : decode prog_13_method_59_code 95 = .ok (.dload 5, 2) := by decide +kernel
theorem d_Model_logarithm_97 : decode prog_13_method_59_code 97 = .ok (.dmul, 1) := by decide +kernel
theorem d_Model_logarithm_98 : decode prog_13_method_59_code 98 = .ok (.dload 9, 2) := by decide +kernel
theorem d_Model_logarithm_100 : decode prog_13_method_59_code 100 = .ok (.dmul, 1) := by decide +kernel
theorem d_Model_logarithm_101 : decode prog_13_method_59_code 101 = .ok (.iload 4, 2) := by decide +kernel
theorem d_Model_logarithm_103 : decode prog_13_method_59_code 103 = .ok (.i2d, 1) := by decide +kernel
theorem d_Model_logarithm_104 : decode prog_13_method_59_code 104 = .ok (.ldc2_w 334, 3) := by decide +kernel
theorem d_Model_logarithm_107 : decode prog_13_method_59_code 107 = .ok (.dmul, 1) := by decide +kernel
theorem d_Model_logarithm_108 : decode prog_13_method_59_code 108 = .ok (.dadd, 1) := by decide +kernel
theorem d_Model_logarithm_109 : decode prog_13_method_59_code 109 = .ok (.dreturn, 1) := by decide +kernel
theorem d_Model_wrong_0 : decode prog_13_method_62_code 0 = .ok (.aload_n 0, 1) := by decide +kernel
theorem d_Model_wrong_1 : decode prog_13_method_62_code 1 = .ok (.aload_n 0, 1) := by decide +kernel
theorem d_Model_wrong_2 : decode prog_13_method_62_code 2 = .ok (.getfield 68, 3) := by decide +kernel
theorem d_Model_wrong_5 : decode prog_13_method_62_code 5 = .ok (.invokevirtual 370, 3) := by decide +kernel
theorem d_Model_wrong_8 : decode prog_13_method_62_code 8 = .ok (.ireturn, 1) := by decide +kernel
theorem d_Model_clean_0 : decode prog_13_method_63_code 0 = .ok (.aload_n 0, 1) := by decide +kernel
theorem d_Model_clean_1 : decode prog_13_method_63_code 1 = .ok (.iconst 0, 1) := by decide +kernel
theorem d_Model_clean_2 : decode prog_13_method_63_code 2 = .ok (.putfield 130, 3) := by decide +kernel
theorem d_Model_clean_5 : decode prog_13_method_63_code 5 = .ok (.iload_n 1, 1) := by decide +kernel
theorem d_Model_clean_6 : decode prog_13_method_63_code 6 = .ok (.ireturn, 1) := by decide +kernel
theorem d_Model_answer_0 : decode prog_13_method_64_code 0 = .ok (.aload_n 0, 1) := by decide +kernel
theorem d_Model_answer_1 : decode prog_13_method_64_code 1 = .ok (.iconst 0, 1) := by decide +kernel
theorem d_Model_answer_2 : decode prog_13_method_64_code 2 = .ok (.putfield 130, 3) := by decide +kernel
theorem d_Model_answer_5 : decode prog_13_method_64_code 5 = .ok (.aload_n 0, 1) := by decide +kernel
theorem d_Model_answer_6 : decode prog_13_method_64_code 6 = .ok (.iload_n 1, 1) := by decide +kernel
theorem d_Model_answer_7 : decode prog_13_method_64_code 7 = .ok (.iconst 0, 1) := by decide +kernel
theorem d_Model_answer_8 : decode prog_13_method_64_code 8 = .ok (.aload_n 0, 1) := by decide +kernel
theorem d_Model_answer_9 : decode prog_13_method_64_code 9 = .ok (.getfield 360, 3) := by decide +kernel
theorem d_Model_answer_12 : decode prog_13_method_64_code 12 = .ok (.iconst 1, 1) := by decide +kernel
theorem d_Model_answer_13 : decode prog_13_method_64_code 13 = .ok (.isub, 1) := by decide +kernel
theorem d_Model_answer_14 : decode prog_13_method_64_code 14 = .ok (.invokestatic 133, 3) := by decide +kernel
theorem d_Model_answer_17 : decode prog_13_method_64_code 17 = .ok (.ifCond .ne 7, 3) := by decide +kernel
theorem d_Model_answer_20 : decode prog_13_method_64_code 20 = .ok (.iconst 1, 1) := by decide +kernel
theorem d_Model_answer_21 : decode prog_13_method_64_code 21 = .ok (.goto 4, 3) := by decide +kernel
theorem d_Model_answer_24 : decode prog_13_method_64_code 24 = .ok (.iconst 0, 1) := by decide +kernel
theorem d_Model_answer_25 : decode prog_13_method_64_code 25 = .ok (.iconst 1, 1) := by decide +kernel
theorem d_Model_answer_26 : decode prog_13_method_64_code 26 = .ok (.invokevirtual 139, 3) := by decide +kernel
theorem d_Model_answer_29 : decode prog_13_method_64_code 29 = .ok (.ifCond .eq 5, 3) := by decide +kernel
theorem d_Model_answer_32 : decode prog_13_method_64_code 32 = .ok (.iconst 0, 1) := by decide +kernel
theorem d_Model_answer_33 : decode prog_13_method_64_code 33 = .ok (.ireturn, 1) := by decide +kernel
theorem d_Model_answer_34 : decode prog_13_method_64_code 34 = .ok (.aload_n 0, 1) := by decide +kernel
theorem d_Model_answer_35 : decode prog_13_method_64_code 35 = .ok (.getfield 120, 3) := by decide +kernel
theorem d_Model_answer_38 : decode prog_13_method_64_code 38 = .ok (.iload_n 2, 1) := by decide +kernel
theorem d_Model_answer_39 : decode prog_13_method_64_code 39 = .ok (.ifCond .eq 12, 3) := by decide +kernel
theorem d_Model_answer_42 : decode prog_13_method_64_code 42 = .ok (.aload_n 0, 1) := by decide +kernel
theorem d_Model_answer_43 : decode prog_13_method_64_code 43 = .ok (.getfield 123, 3) := by decide +kernel
theorem d_Model_answer_46 : decode prog_13_method_64_code 46 = .ok (.iload_n 1, 1) := by decide +kernel
theorem d_Model_answer_47 : decode prog_13_method_64_code 47 = .ok (.iaload, 1) := by decide +kernel
theorem d_Model_answer_48 : decode prog_13_method_64_code 48 = .ok (.goto 4, 3) := by decide +kernel
theorem d_Model_answer_51 : decode prog_13_method_64_code 51 = .ok (.iload_n 1, 1) := by decide +kernel
theorem d_Model_answer_52 : decode prog_13_method_64_code 52 = .ok (.iaload, 1) := by decide +kernel
theorem d_Model_answer_53 : decode prog_13_method_64_code 53 = .ok (.ireturn, 1) := by decide +kernel
theorem d_Model_score_0 : decode prog_13_method_65_code 0 = .ok (.aload_n 0, 1) := by decide +kernel
theorem d_Model_score_1 : decode prog_13_method_65_code 1 = .ok (.iconst 0, 1) := by decide +kernel
theorem d_Model_score_2 : decode prog_13_method_65_code 2 = .ok (.putfield 130, 3) := by decide +kernel
theorem d_Model_score_5 : decode prog_13_method_65_code 5 = .ok (.aload_n 0, 1) := by decide +kernel
theorem d_Model_score_6 : decode prog_13_method_65_code 6 = .ok (.iload_n 1, 1) := by decide +kernel
theorem d_Model_score_7 : decode prog_13_method_65_code 7 = .ok (.iconst 0, 1) := by decide +kernel
theorem d_Model_score_8 : decode prog_13_method_65_code 8 = .ok (.aload_n 0, 1) := by decide +kernel
theorem d_Model_score_9 : decode prog_13_method_65_code 9 = .ok (.getfield 360, 3) := by decide +kernel
theorem d_Model_score_12 : decode prog_13_method_65_code 12 = .ok (.iconst 1, 1) := by decide +kernel
theorem d_Model_score_13 : decode prog_13_method_65_code 13 = .ok (.isub, 1) := by decide +kernel
theorem d_Model_score_14 : decode prog_13_method_65_code 14 = .ok (.invokestatic 133, 3) := by decide +kernel
theorem d_Model_score_17 : decode prog_13_method_65_code 17 = .ok (.ifCond .ne 7, 3) := by decide +kernel
theorem d_Model_score_20 : decode prog_13_method_65_code 20 = .ok (.iconst 1, 1) := by decide +kernel
theorem d_Model_score_21 : decode prog_13_method_65_code 21 = .ok (.goto 4, 3) := by decide +kernel
theorem d_Model_score_24 : decode prog_13_method_65_code 24 = .ok (.iconst 0, 1) := by decide +kernel
theorem d_Model_score_25 : decode prog_13_method_65_code 25 = .ok (.iconst 1, 1) := by decide +kernel
theorem d_Model_score_26 : decode prog_13_method_65_code 26 = .ok (.invokevirtual 139, 3) := by decide +kernel
theorem d_Model_score_29 : decode prog_13_method_65_code 29 = .ok (.ifCond .eq 5, 3) := by decide +kernel
theorem d_Model_score_32 : decode prog_13_method_65_code 32 = .ok (.dconst 0, 1) := by decide +kernel
theorem d_Model_score_33 : decode prog_13_method_65_code 33 = .ok (.dreturn, 1) := by decide +kernel
theorem d_Model_score_34 : decode prog_13_method_65_code 34 = .ok (.aload_n 0, 1) := by decide +kernel
theorem d_Model_score_35 : decode prog_13_method_65_code 35 = .ok (.getfield 126, 3) := by decide +kernel
theorem d_Model_score_38 : decode prog_13_method_65_code 38 = .ok (.iload_n 2, 1) := by decide +kernel
theorem d_Model_score_39 : decode prog_13_method_65_code 39 = .ok (.ifCond .eq 12, 3) := by decide +kernel
theorem d_Model_score_42 : decode prog_13_method_65_code 42 = .ok (.aload_n 0, 1) := by decide +kernel
theorem d_Model_score_43 : decode prog_13_method_65_code 43 = .ok (.getfield 123, 3) := by decide +kernel
theorem d_Model_score_46 : decode prog_13_method_65_code 46 = .ok (.iload_n 1, 1) := by decide +kernel
theorem d_Model_score_47 : decode prog_13_method_65_code 47 = .ok (.iaload, 1) := by decide +kernel
theorem d_Model_score_48 : decode prog_13_method_65_code 48 = .ok (.goto 4, 3) := by decide +kernel
theorem d_Model_score_51 : decode prog_13_method_65_code 51 = .ok (.iload_n 1, 1) := by decide +kernel
theorem d_Model_score_52 : decode prog_13_method_65_code 52 = .ok (.daload, 1) := by decide +kernel
theorem d_Model_score_53 : decode prog_13_method_65_code 53 = .ok (.dreturn, 1) := by decide +kernel
theorem d_Model_look_0 : decode prog_13_method_66_code 0 = .ok (.aload_n 0, 1) := by decide +kernel
theorem d_Model_look_1 : decode prog_13_method_66_code 1 = .ok (.iconst 0, 1) := by decide +kernel
theorem d_Model_look_2 : decode prog_13_method_66_code 2 = .ok (.putfield 130, 3) := by decide +kernel
theorem d_Model_look_5 : decode prog_13_method_66_code 5 = .ok (.aload_n 0, 1) := by decide +kernel
theorem d_Model_look_6 : decode prog_13_method_66_code 6 = .ok (.aload_n 0, 1) := by decide +kernel
theorem d_Model_look_7 : decode prog_13_method_66_code 7 = .ok (.iload_n 1, 1) := by decide +kernel
theorem d_Model_look_8 : decode prog_13_method_66_code 8 = .ok (.invokevirtual 181, 3) := by decide +kernel
theorem d_Model_look_11 : decode prog_13_method_66_code 11 = .ok (.ifCond .ne 7, 3) := by decide +kernel
theorem d_Model_look_14 : decode prog_13_method_66_code 14 = .ok (.iconst 1, 1) := by decide +kernel
theorem d_Model_look_15 : decode prog_13_method_66_code 15 = .ok (.goto 4, 3) := by decide +kernel
theorem d_Model_look_18 : decode prog_13_method_66_code 18 = .ok (.iconst 0, 1) := by decide +kernel
theorem d_Model_look_19 : decode prog_13_method_66_code 19 = .ok (.iconst 1, 1) := by decide +kernel
theorem d_Model_look_20 : decode prog_13_method_66_code 20 = .ok (.invokevirtual 139, 3) := by decide +kernel
theorem d_Model_look_23 : decode prog_13_method_66_code 23 = .ok (.ifCond .ne 25, 3) := by decide +kernel
theorem d_Model_look_26 : decode prog_13_method_66_code 26 = .ok (.aload_n 0, 1) := by decide +kernel
theorem d_Model_look_27 : decode prog_13_method_66_code 27 = .ok (.iload_n 2, 1) := by decide +kernel
theorem d_Model_look_28 : decode prog_13_method_66_code 28 = .ok (.iconst 0, 1) := by decide +kernel
theorem d_Model_look_29 : decode prog_13_method_66_code 29 = .ok (.iconst 2, 1) := by decide +kernel
theorem d_Model_look_30 : decode prog_13_method_66_code 30 = .ok (.invokestatic 133, 3) := by decide +kernel
theorem d_Model_look_33 : decode prog_13_method_66_code 33 = .ok (.ifCond .ne 7, 3) := by decide +kernel
theorem d_Model_look_36 : decode prog_13_method_66_code 36 = .ok (.iconst 1, 1) := by decide +kernel
theorem d_Model_look_37 : decode prog_13_method_66_code 37 = .ok (.goto 4, 3) := by decide +kernel
theorem d_Model_look_40 : decode prog_13_method_66_code 40 = .ok (.iconst 0, 1) := by decide +kernel
theorem d_Model_look_41 : decode prog_13_method_66_code 41 = .ok (.iconst 2, 1) := by decide +kernel
theorem d_Model_look_42 : decode prog_13_method_66_code 42 = .ok (.invokevirtual 139, 3) := by decide +kernel
theorem d_Model_look_45 : decode prog_13_method_66_code 45 = .ok (.ifCond .eq 5, 3) := by decide +kernel
theorem d_Model_look_48 : decode prog_13_method_66_code 48 = .ok (.iconst 0, 1) := by decide +kernel
theorem d_Model_look_49 : decode prog_13_method_66_code 49 = .ok (.ireturn, 1) := by decide +kernel
theorem d_Model_look_50 : decode prog_13_method_66_code 50 = .ok (.iload_n 2, 1) := by decide +kernel
theorem d_Model_look_51 : decode prog_13_method_66_code 51 = .ok (.iconst 2, 1) := by decide +kernel
theorem d_Model_look_52 : decode prog_13_method_66_code 52 = .ok (.if_icmp .ne 17, 3) := by decide +kernel
theorem d_Model_look_55 : decode prog_13_method_66_code 55 = .ok (.aload_n 0, 1) := by decide +kernel
theorem d_Model_look_56 : decode prog_13_method_66_code 56 = .ok (.getfield 38, 3) := by decide +kernel
theorem d_Model_look_59 : decode prog_13_method_66_code 59 = .ok (.aload_n 0, 1) := by decide +kernel
theorem d_Model_look_60 : decode prog_13_method_66_code 60 = .ok (.getfield 44, 3) := by decide +kernel
theorem d_Model_look_63 : decode prog_13_method_66_code 63 = .ok (.iload_n 1, 1) := by decide +kernel
theorem d_Model_look_64 : decode prog_13_method_66_code 64 = .ok (.iconst 1, 1) := by decide +kernel
theorem d_Model_look_65 : decode prog_13_method_66_code 65 = .ok (.isub, 1) := by decide +kernel
theorem d_Model_look_66 : decode prog_13_method_66_code 66 = .ok (.iaload, 1) := by decide +kernel
theorem d_Model_look_67 : decode prog_13_method_66_code 67 = .ok (.iaload, 1) := by decide +kernel
theorem d_Model_look_68 : decode prog_13_method_66_code 68 = .ok (.ireturn, 1) := by decide +kernel
theorem d_Model_look_69 : decode prog_13_method_66_code 69 = .ok (.aload_n 0, 1) := by decide +kernel
theorem d_Model_look_70 : decode prog_13_method_66_code 70 = .ok (.iload_n 1, 1) := by decide +kernel
theorem d_Model_look_71 : decode prog_13_method_66_code 71 = .ok (.iconst 1, 1) := by decide +kernel
theorem d_Model_look_72 : decode prog_13_method_66_code 72 = .ok (.isub, 1) := by decide +kernel
theorem d_Model_look_73 : decode prog_13_method_66_code 73 = .ok (.iload_n 2, 1) := by decide +kernel
theorem d_Model_look_74 : decode prog_13_method_66_code 74 = .ok (.invokevirtual 153, 3) := by decide +kernel
theorem d_Model_look_77 : decode prog_13_method_66_code 77 = .ok (.aload_n 0, 1) := by decide +kernel
theorem d_Model_look_78 : decode prog_13_method_66_code 78 = .ok (.getfield 150, 3) := by decide +kernel
theorem d_Model_look_81 : decode prog_13_method_66_code 81 = .ok (.ireturn, 1) := by decide +kernel
theorem d_Model_segment_0 : decode prog_13_method_67_code 0 = .ok (.aload_n 0, 1) := by decide +kernel
theorem d_Model_segment_1 : decode prog_13_method_67_code 1 = .ok (.iconst 0, 1) := by decide +kernel
theorem d_Model_segment_2 : decode prog_13_method_67_code 2 = .ok (.putfield 130, 3) := by decide +kernel
theorem d_Model_segment_5 : decode prog_13_method_67_code 5 = .ok (.aload_n 0, 1) := by decide +kernel
theorem d_Model_segment_6 : decode prog_13_method_67_code 6 = .ok (.iload_n 1, 1) := by decide +kernel
theorem d_Model_segment_7 : decode prog_13_method_67_code 7 = .ok (.iconst 0, 1) := by decide +kernel
theorem d_Model_segment_8 : decode prog_13_method_67_code 8 = .ok (.aload_n 0, 1) := by decide +kernel
theorem d_Model_segment_9 : decode prog_13_method_67_code 9 = .ok (.getfield 193, 3) := by decide +kernel
theorem d_Model_segment_12 : decode prog_13_method_67_code 12 = .ok (.iconst 1, 1) := by decide +kernel
theorem d_Model_segment_13 : decode prog_13_method_67_code 13 = .ok (.isub, 1) := by decide +kernel
theorem d_Model_segment_14 : decode prog_13_method_67_code 14 = .ok (.invokestatic 133, 3) := by decide +kernel
theorem d_Model_segment_17 : decode prog_13_method_67_code 17 = .ok (.ifCond .ne 7, 3) := by decide +kernel
theorem d_Model_segment_20 : decode prog_13_method_67_code 20 = .ok (.iconst 1, 1) := by decide +kernel
theorem d_Model_segment_21 : decode prog_13_method_67_code 21 = .ok (.goto 4, 3) := by decide +kernel
theorem d_Model_segment_24 : decode prog_13_method_67_code 24 = .ok (.iconst 0, 1) := by decide +kernel
theorem d_Model_segment_25 : decode prog_13_method_67_code 25 = .ok (.iconst 1, 1) := by decide +kernel
theorem d_Model_segment_26 : decode prog_13_method_67_code 26 = .ok (.invokevirtual 139, 3) := by decide +kernel
theorem d_Model_segment_29 : decode prog_13_method_67_code 29 = .ok (.ifCond .ne 25, 3) := by decide +kernel
theorem d_Model_segment_32 : decode prog_13_method_67_code 32 = .ok (.aload_n 0, 1) := by decide +kernel
theorem d_Model_segment_33 : decode prog_13_method_67_code 33 = .ok (.iload_n 2, 1) := by decide +kernel
theorem d_Model_segment_34 : decode prog_13_method_67_code 34 = .ok (.iconst 0, 1) := by decide +kernel
theorem d_Model_segment_35 : decode prog_13_method_67_code 35 = .ok (.iconst 2, 1) := by decide +kernel
theorem d_Model_segment_36 : decode prog_13_method_67_code 36 = .ok (.invokestatic 133, 3) := by decide +kernel
theorem d_Model_segment_39 : decode prog_13_method_67_code 39 = .ok (.ifCond .ne 7, 3) := by decide +kernel
theorem d_Model_segment_42 : decode prog_13_method_67_code 42 = .ok (.iconst 1, 1) := by decide +kernel
theorem d_Model_segment_43 : decode prog_13_method_67_code 43 = .ok (.goto 4, 3) := by decide +kernel
theorem d_Model_segment_46 : decode prog_13_method_67_code 46 = .ok (.iconst 0, 1) := by decide +kernel
theorem d_Model_segment_47 : decode prog_13_method_67_code 47 = .ok (.iconst 2, 1) := by decide +kernel
theorem d_Model_segment_48 : decode prog_13_method_67_code 48 = .ok (.invokevirtual 139, 3) := by decide +kernel
theorem d_Model_segment_51 : decode prog_13_method_67_code 51 = .ok (.ifCond .eq 5, 3) := by decide +kernel
theorem d_Model_segment_54 : decode prog_13_method_67_code 54 = .ok (.iconst 0, 1) := by decide +kernel
theorem d_Model_segment_55 : decode prog_13_method_67_code 55 = .ok (.ireturn, 1) := by decide +kernel
theorem d_Model_segment_56 : decode prog_13_method_67_code 56 = .ok (.iload_n 2, 1) := by decide +kernel
theorem d_Model_segment_57 : decode prog_13_method_67_code 57 = .ok (.ifCond .ne 15, 3) := by decide +kernel
theorem d_Model_segment_60 : decode prog_13_method_67_code 60 = .ok (.aload_n 0, 1) := by decide +kernel
theorem d_Model_segment_61 : decode prog_13_method_67_code 61 = .ok (.getfield 50, 3) := by decide +kernel
theorem d_Model_segment_64 : decode prog_13_method_67_code 64 = .ok (.aload_n 0, 1) := by decide +kernel
theorem d_Model_segment_65 : decode prog_13_method_67_code 65 = .ok (.getfield 47, 3) := by decide +kernel
theorem d_Model_segment_68 : decode prog_13_method_67_code 68 = .ok (.iload_n 1, 1) := by decide +kernel
theorem d_Model_segment_69 : decode prog_13_method_67_code 69 = .ok (.iaload, 1) := by decide +kernel
theorem d_Model_segment_70 : decode prog_13_method_67_code 70 = .ok (.iaload, 1) := by decide +kernel
theorem d_Model_segment_71 : decode prog_13_method_67_code 71 = .ok (.ireturn, 1) := by decide +kernel
theorem d_Model_segment_72 : decode prog_13_method_67_code 72 = .ok (.iconst 0, 1) := by decide +kernel
theorem d_Model_segment_73 : decode prog_13_method_67_code 73 = .ok (.istore_n 3, 1) := by decide +kernel
theorem d_Model_segment_74 : decode prog_13_method_67_code 74 = .ok (.iconst 0, 1) := by decide +kernel
theorem d_Model_segment_75 : decode prog_13_method_67_code 75 = .ok (.istore 4, 2) := by decide +kernel
theorem d_Model_segment_77 : decode prog_13_method_67_code 77 = .ok (.iload 4, 2) := by decide +kernel
theorem d_Model_segment_79 : decode prog_13_method_67_code 79 = .ok (.aload_n 0, 1) := by decide +kernel
theorem d_Model_segment_80 : decode prog_13_method_67_code 80 = .ok (.getfield 165, 3) := by decide +kernel
theorem d_Model_segment_83 : decode prog_13_method_67_code 83 = .ok (.if_icmp .ge 44, 3) := by decide +kernel
theorem d_Model_segment_86 : decode prog_13_method_67_code 86 = .ok (.aload_n 0, 1) := by decide +kernel
theorem d_Model_segment_87 : decode prog_13_method_67_code 87 = .ok (.getfield 41, 3) := by decide +kernel
theorem d_Model_segment_90 : decode prog_13_method_67_code 90 = .ok (.iload 4, 2) := by decide +kernel
theorem d_Model_segment_92 : decode prog_13_method_67_code 92 = .ok (.iaload, 1) := by decide +kernel
theorem d_Model_segment_93 : decode prog_13_method_67_code 93 = .ok (.aload_n 0, 1) := by decide +kernel
theorem d_Model_segment_94 : decode prog_13_method_67_code 94 = .ok (.getfield 47, 3) := by decide +kernel
theorem d_Model_segment_97 : decode prog_13_method_67_code 97 = .ok (.iload_n 1, 1) := by decide +kernel
theorem d_Model_segment_98 : decode prog_13_method_67_code 98 = .ok (.iaload, 1) := by decide +kernel
theorem d_Model_segment_99 : decode prog_13_method_67_code 99 = .ok (.if_icmp .ne 22, 3) := by decide +kernel
theorem d_Model_segment_102 : decode prog_13_method_67_code 102 = .ok (.iload_n 3, 1) := by decide +kernel
theorem d_Model_segment_103 : decode prog_13_method_67_code 103 = .ok (.iload_n 2, 1) := by decide +kernel
theorem d_Model_segment_104 : decode prog_13_method_67_code 104 = .ok (.iconst 1, 1) := by decide +kernel
theorem d_Model_segment_105 : decode prog_13_method_67_code 105 = .ok (.if_icmp .ne 7, 3) := by decide +kernel
theorem d_Model_segment_108 : decode prog_13_method_67_code 108 = .ok (.iconst 1, 1) := by decide +kernel
theorem d_Model_segment_109 : decode prog_13_method_67_code 109 = .ok (.goto 10, 3) := by decide +kernel
theorem d_Model_segment_112 : decode prog_13_method_67_code 112 = .ok (.aload_n 0, 1) := by decide +kernel
theorem d_Model_segment_113 : decode prog_13_method_67_code 113 = .ok (.getfield 38, 3) := by decide +kernel
theorem d_Model_segment_116 : decode prog_13_method_67_code 116 = .ok (.iload 4, 2) := by decide +kernel
theorem d_Model_segment_118 : decode prog_13_method_67_code 118 = .ok (.iaload, 1) := by decide +kernel
theorem d_Model_segment_119 : decode prog_13_method_67_code 119 = .ok (.iadd, 1) := by decide +kernel
theorem d_Model_segment_120 : decode prog_13_method_67_code 120 = .ok (.istore_n 3, 1) := by decide +kernel
theorem d_Model_segment_121 : decode prog_13_method_67_code 121 = .ok (.iinc 4 1, 3) := by decide +kernel
theorem d_Model_segment_124 : decode prog_13_method_67_code 124 = .ok (.goto (-47), 3) := by decide +kernel
theorem d_Model_segment_127 : decode prog_13_method_67_code 127 = .ok (.iload_n 3, 1) := by decide +kernel
theorem d_Model_segment_128 : decode prog_13_method_67_code 128 = .ok (.ireturn, 1) := by decide +kernel
theorem d_Model_count_0 : decode prog_13_method_68_code 0 = .ok (.aload_n 0, 1) := by decide +kernel
theorem d_Model_count_1 : decode prog_13_method_68_code 1 = .ok (.iconst 0, 1) := by decide +kernel
theorem d_Model_count_2 : decode prog_13_method_68_code 2 = .ok (.putfield 130, 3) := by decide +kernel
theorem d_Model_count_5 : decode prog_13_method_68_code 5 = .ok (.aload_n 0, 1) := by decide +kernel
theorem d_Model_count_6 : decode prog_13_method_68_code 6 = .ok (.iload_n 1, 1) := by decide +kernel
theorem d_Model_count_7 : decode prog_13_method_68_code 7 = .ok (.iconst 0, 1) := by decide +kernel
theorem d_Model_count_8 : decode prog_13_method_68_code 8 = .ok (.bipush 8, 2) := by decide +kernel
theorem d_Model_count_10 : decode prog_13_method_68_code 10 = .ok (.invokestatic 133, 3) := by decide +kernel
theorem d_Model_count_13 : decode prog_13_method_68_code 13 = .ok (.ifCond .ne 7, 3) := by decide +kernel
theorem d_Model_count_16 : decode prog_13_method_68_code 16 = .ok (.iconst 1, 1) := by decide +kernel
theorem d_Model_count_17 : decode prog_13_method_68_code 17 = .ok (.goto 4, 3) := by decide +kernel
theorem d_Model_count_20 : decode prog_13_method_68_code 20 = .ok (.iconst 0, 1) := by decide +kernel
theorem d_Model_count_21 : decode prog_13_method_68_code 21 = .ok (.iconst 1, 1) := by decide +kernel
theorem d_Model_count_22 : decode prog_13_method_68_code 22 = .ok (.invokevirtual 139, 3) := by decide +kernel
theorem d_Model_count_25 : decode prog_13_method_68_code 25 = .ok (.ifCond .eq 5, 3) := by decide +kernel
theorem d_Model_count_28 : decode prog_13_method_68_code 28 = .ok (.iconst 0, 1) := by decide +kernel
theorem d_Model_count_29 : decode prog_13_method_68_code 29 = .ok (.ireturn, 1) := by decide +kernel
theorem d_Model_count_30 : decode prog_13_method_68_code 30 = .ok (.iload_n 1, 1) := by decide +kernel
theorem d_Model_count_31 : decode prog_13_method_68_code 31 = .ok (.tableswitch 93 0 7 #[45, 50, 55, 60, 65, 70, 75, 80], 45) := by decide +kernel
theorem d_Model_count_76 : decode prog_13_method_68_code 76 = .ok (.aload_n 0, 1) := by decide +kernel
theorem d_Model_count_77 : decode prog_13_method_68_code 77 = .ok (.invokevirtual 209, 3) := by decide +kernel
theorem d_Model_count_80 : decode prog_13_method_68_code 80 = .ok (.ireturn, 1) := by decide +kernel
theorem d_Model_count_81 : decode prog_13_method_68_code 81 = .ok (.aload_n 0, 1) := by decide +kernel
theorem d_Model_count_82 : decode prog_13_method_68_code 82 = .ok (.getfield 193, 3) := by decide +kernel
theorem d_Model_count_85 : decode prog_13_method_68_code 85 = .ok (.ireturn, 1) := by decide +kernel
theorem d_Model_count_86 : decode prog_13_method_68_code 86 = .ok (.aload_n 0, 1) := by decide +kernel
theorem d_Model_count_87 : decode prog_13_method_68_code 87 = .ok (.invokevirtual 171, 3) := by decide +kernel
theorem d_Model_count_90 : decode prog_13_method_68_code 90 = .ok (.ireturn, 1) := by decide +kernel
theorem d_Model_count_91 : decode prog_13_method_68_code 91 = .ok (.aload_n 0, 1) := by decide +kernel
theorem d_Model_count_92 : decode prog_13_method_68_code 92 = .ok (.getfield 165, 3) := by decide +kernel
theorem d_Model_count_95 : decode prog_13_method_68_code 95 = .ok (.ireturn, 1) := by decide +kernel
theorem d_Model_count_96 : decode prog_13_method_68_code 96 = .ok (.aload_n 0, 1) := by decide +kernel
theorem d_Model_count_97 : decode prog_13_method_68_code 97 = .ok (.getfield 187, 3) := by decide +kernel
theorem d_Model_count_100 : decode prog_13_method_68_code 100 = .ok (.ireturn, 1) := by decide +kernel
theorem d_Model_count_101 : decode prog_13_method_68_code 101 = .ok (.aload_n 0, 1) := by decide +kernel
theorem d_Model_count_102 : decode prog_13_method_68_code 102 = .ok (.getfield 360, 3) := by decide +kernel
theorem d_Model_count_105 : decode prog_13_method_68_code 105 = .ok (.ireturn, 1) := by decide +kernel
theorem d_Model_count_106 : decode prog_13_method_68_code 106 = .ok (.aload_n 0, 1) := by decide +kernel
theorem d_Model_count_107 : decode prog_13_method_68_code 107 = .ok (.getfield 357, 3) := by decide +kernel
theorem d_Model_count_110 : decode prog_13_method_68_code 110 = .ok (.ireturn, 1) := by decide +kernel
theorem d_Model_count_111 : decode prog_13_method_68_code 111 = .ok (.aload_n 0, 1) := by decide +kernel
theorem d_Model_count_112 : decode prog_13_method_68_code 112 = .ok (.getfield 199, 3) := by decide +kernel
theorem d_Model_count_115 : decode prog_13_method_68_code 115 = .ok (.ifCond .eq 7, 3) := by decide +kernel
theorem d_Model_count_118 : decode prog_13_method_68_code 118 = .ok (.iconst 1, 1) := by decide +kernel
theorem d_Model_count_119 : decode prog_13_method_68_code 119 = .ok (.goto 4, 3) := by decide +kernel
theorem d_Model_count_122 : decode prog_13_method_68_code 122 = .ok (.iconst 0, 1) := by decide +kernel
theorem d_Model_count_123 : decode prog_13_method_68_code 123 = .ok (.ireturn, 1) := by decide +kernel
theorem d_Model_count_124 : decode prog_13_method_68_code 124 = .ok (.aload_n 0, 1) := by decide +kernel
theorem d_Model_count_125 : decode prog_13_method_68_code 125 = .ok (.getfield 143, 3) := by decide +kernel
theorem d_Model_count_128 : decode prog_13_method_68_code 128 = .ok (.ireturn, 1) := by decide +kernel
end
