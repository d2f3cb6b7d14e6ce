abbrev jI : Type := String × MethodName × ByteArray × Nat × Option FieldType × Nat × Nat × Nat
def jI_0 : List jI := [("HundredWords", ⟨"HundredWords", "<init>", "()V"⟩, prog_1_method_1_code, 1, none, 11, 2, 0),
  ("HundredWords$Tape", ⟨"HundredWords$Tape", "<init>", "()V"⟩, prog_8_method_1_code, 1, none, 6, 2, 0),
  ("HundredWords$TongueReader", ⟨"HundredWords$TongueReader", "<init>", "(LHundredWords$Tape;)V"⟩, prog_11_method_1_code, 2, none, 9, 2, 1),
  ("HundredWords$Tape", ⟨"HundredWords$Tape", "pack", "(Ljava/lang/String;)[I"⟩, prog_8_method_14_code, 5, some (.array .int), 6, 1, 1),
  ("java/lang/String", ⟨"java/lang/String", "length", "()I"⟩, prog_17_method_54_code, 1, some .int, 99, 0, 0),
  ("java/lang/String", ⟨"java/lang/String", "coder", "()B"⟩, prog_17_method_152_code, 1, some .byte, 99, 0, 0),
  ("java/lang/String", ⟨"java/lang/String", "charAt", "(I)C"⟩, prog_17_method_56_code, 2, some .char, 99, 0, 1),
  ("java/lang/String", ⟨"java/lang/String", "isLatin1", "()Z"⟩, prog_17_method_154_code, 1, some .boolean, 99, 0, 0),
  ("java/lang/StringLatin1", ⟨"java/lang/StringLatin1", "charAt", "([BI)C"⟩, prog_18_method_2_code, 2, some .char, 98, 1, 2),
  ("java/lang/String", ⟨"java/lang/String", "checkIndex", "(II)V"⟩, prog_17_method_155_code, 2, none, 99, 1, 2),
  ("jdk/internal/util/Preconditions", ⟨"jdk/internal/util/Preconditions", "checkIndex", "(IILjava/util/function/BiFunction;)I"⟩, prog_22_method_11_code, 3, some .int, 98, 1, 3),
  ("java/lang/StringUTF16", ⟨"java/lang/StringUTF16", "charAt", "([BI)C"⟩, prog_19_method_83_code, 2, some .char, 98, 1, 2),
  ("java/lang/StringUTF16", ⟨"java/lang/StringUTF16", "checkIndex", "(I[B)V"⟩, prog_19_method_91_code, 2, none, 98, 1, 2),
  ("java/lang/StringUTF16", ⟨"java/lang/StringUTF16", "length", "([B)I"⟩, prog_19_method_6_code, 1, some .int, 98, 1, 1),
  ("java/lang/StringUTF16", ⟨"java/lang/StringUTF16", "getChar", "([BI)C"⟩, prog_19_method_5_code, 2, some .char, 98, 1, 2),
  ("HundredWords$LawReader", ⟨"HundredWords$LawReader", "<init>", "(LHundredWords$Tape;)V"⟩, prog_4_method_1_code, 2, none, 2, 2, 1),
  ("HundredWords$Question", ⟨"HundredWords$Question", "<init>", "(LHundredWords$Tape;)V"⟩, prog_5_method_1_code, 2, none, 3, 2, 1),
  ("HundredWords$Tongue", ⟨"HundredWords$Tongue", "<init>", "()V"⟩, prog_10_method_1_code, 1, none, 8, 2, 0),
  ("HundredWords$Told", ⟨"HundredWords$Told", "<init>", "(I)V"⟩, prog_9_method_1_code, 2, none, 7, 2, 1),
  ("HundredWords$Row", ⟨"HundredWords$Row", "<init>", "()V"⟩, prog_6_method_1_code, 1, none, 4, 2, 0)]
def jI_1 : List jI := [("HundredWords$Acts", ⟨"HundredWords$Acts", "<init>", "()V"⟩, prog_2_method_1_code, 1, none, 0, 2, 0),
  ("HundredWords$Shorts", ⟨"HundredWords$Shorts", "<init>", "()V"⟩, prog_7_method_1_code, 1, none, 5, 2, 0),
  ("HundredWords$Way", ⟨"HundredWords$Way", "<init>", "()V"⟩, prog_12_method_1_code, 2, none, 10, 2, 0),
  ("HundredWords$Image", ⟨"HundredWords$Image", "<init>", "()V"⟩, prog_3_method_1_code, 1, none, 1, 2, 0),
  ("HundredWords", ⟨"HundredWords", "feed", "(IIIII)I"⟩, prog_1_method_2_code, 6, some .int, 11, 0, 5),
  ("HundredWords", ⟨"HundredWords", "refuse", "(I)I"⟩, prog_1_method_39_code, 2, some .int, 11, 0, 1),
  ("HundredWords$Tape", ⟨"HundredWords$Tape", "append", "(I)V"⟩, prog_8_method_2_code, 3, none, 6, 0, 1),
  ("HundredWords", ⟨"HundredWords", "end", "(I)Z"⟩, prog_1_method_3_code, 2, some .boolean, 11, 0, 1),
  ("HundredWords", ⟨"HundredWords", "tongue", "()I"⟩, prog_1_method_4_code, 3, some .int, 11, 0, 0),
  ("HundredWords$TongueReader", ⟨"HundredWords$TongueReader", "read", "(LHundredWords$Tongue;)I"⟩, prog_11_method_2_code, 4, some .int, 9, 0, 1),
  ("HundredWords$Tongue", ⟨"HundredWords$Tongue", "clear", "()V"⟩, prog_10_method_2_code, 1, none, 8, 0, 0),
  ("java/util/Arrays", ⟨"java/util/Arrays", "fill", "([II)V"⟩, prog_21_method_103_code, 4, none, 98, 1, 2),
  ("java/util/Arrays", ⟨"java/util/Arrays", "fill", "([JJ)V"⟩, prog_21_method_101_code, 5, none, 98, 1, 2),
  ("HundredWords$Told", ⟨"HundredWords$Told", "clear", "()V"⟩, prog_9_method_3_code, 1, none, 7, 0, 0),
  ("HundredWords$Tape", ⟨"HundredWords$Tape", "begin", "()V"⟩, prog_8_method_4_code, 1, none, 6, 0, 0),
  ("HundredWords$Tape", ⟨"HundredWords$Tape", "look", "()I"⟩, prog_8_method_6_code, 1, some .int, 6, 0, 0),
  ("HundredWords$TongueReader", ⟨"HundredWords$TongueReader", "takesKind", "(LHundredWords$Tongue;)I"⟩, prog_11_method_3_code, 3, some .int, 9, 0, 1),
  ("HundredWords$Tape", ⟨"HundredWords$Tape", "seesWord", "()Z"⟩, prog_8_method_7_code, 2, some .boolean, 6, 0, 0),
  ("HundredWords$Tape", ⟨"HundredWords$Tape", "isLetter", "(I)Z"⟩, prog_8_method_15_code, 1, some .boolean, 6, 1, 1),
  ("HundredWords$Tape", ⟨"HundredWords$Tape", "octetAt", "(I)I"⟩, prog_8_method_3_code, 2, some .int, 6, 0, 1)]
def jI_2 : List jI := [("HundredWords$Tape", ⟨"HundredWords$Tape", "isDigit", "(I)Z"⟩, prog_8_method_16_code, 1, some .boolean, 6, 1, 1),
  ("HundredWords$Tape", ⟨"HundredWords$Tape", "rankIn", "([I)I"⟩, prog_8_method_9_code, 3, some .int, 6, 0, 1),
  ("HundredWords$Tape", ⟨"HundredWords$Tape", "blame", "(II)Z"⟩, prog_8_method_5_code, 3, some .boolean, 6, 0, 2),
  ("HundredWords$Tongue", ⟨"HundredWords$Tongue", "isFull", "(I)Z"⟩, prog_10_method_4_code, 2, some .boolean, 8, 0, 1),
  ("HundredWords$Told", ⟨"HundredWords$Told", "isFull", "()Z"⟩, prog_9_method_2_code, 1, some .boolean, 7, 0, 0),
  ("HundredWords$Tape", ⟨"HundredWords$Tape", "pass", "()V"⟩, prog_8_method_8_code, 1, none, 6, 0, 0),
  ("HundredWords$TongueReader", ⟨"HundredWords$TongueReader", "takesRest", "(LHundredWords$Tongue;I)Z"⟩, prog_11_method_4_code, 3, some .boolean, 9, 0, 2),
  ("HundredWords$TongueReader", ⟨"HundredWords$TongueReader", "takesLike", "(LHundredWords$Tongue;)Z"⟩, prog_11_method_7_code, 4, some .boolean, 9, 0, 1),
  ("HundredWords$TongueReader", ⟨"HundredWords$TongueReader", "takesNewWord", "(LHundredWords$Tongue;)Z"⟩, prog_11_method_5_code, 2, some .boolean, 9, 0, 1),
  ("HundredWords$Tape", ⟨"HundredWords$Tape", "takesFreeWord", "([I)Z"⟩, prog_8_method_12_code, 2, some .boolean, 6, 0, 1),
  ("HundredWords$Tongue", ⟨"HundredWords$Tongue", "find", "(I)I"⟩, prog_10_method_5_code, 3, some .int, 8, 0, 1),
  ("HundredWords$Tongue", ⟨"HundredWords$Tongue", "isParty", "(I)Z"⟩, prog_10_method_6_code, 2, some .boolean, 8, 0, 1),
  ("HundredWords$Tongue", ⟨"HundredWords$Tongue", "addLike", "(II)V"⟩, prog_10_method_8_code, 3, none, 8, 0, 2),
  ("HundredWords$TongueReader", ⟨"HundredWords$TongueReader", "takesLimit", "(LHundredWords$Tongue;)Z"⟩, prog_11_method_8_code, 2, some .boolean, 9, 0, 1),
  ("HundredWords$Tape", ⟨"HundredWords$Tape", "takesNumber", "(II)Z"⟩, prog_8_method_13_code, 3, some .boolean, 6, 0, 2),
  ("HundredWords$TongueReader", ⟨"HundredWords$TongueReader", "takesParty", "(LHundredWords$Tongue;)Z"⟩, prog_11_method_9_code, 3, some .boolean, 9, 0, 1),
  ("HundredWords$Tape", ⟨"HundredWords$Tape", "takesWordOf", "([II)Z"⟩, prog_8_method_11_code, 3, some .boolean, 6, 0, 2),
  ("HundredWords$Tongue", ⟨"HundredWords$Tongue", "addParty", "(II)V"⟩, prog_10_method_9_code, 3, none, 8, 0, 2),
  ("HundredWords$TongueReader", ⟨"HundredWords$TongueReader", "takesWisher", "(LHundredWords$Tongue;)Z"⟩, prog_11_method_10_code, 3, some .boolean, 9, 0, 1),
  ("HundredWords$Told", ⟨"HundredWords$Told", "setParty", "(I)V"⟩, prog_9_method_4_code, 2, none, 7, 0, 1)]
def jI_3 : List jI := [("HundredWords$TongueReader", ⟨"HundredWords$TongueReader", "takesCases", "(LHundredWords$Tongue;LHundredWords$Told;)Z"⟩, prog_11_method_12_code, 5, some .boolean, 9, 0, 2),
  ("HundredWords$Told", ⟨"HundredWords$Told", "setHow", "(Z)V"⟩, prog_9_method_5_code, 2, none, 7, 0, 1),
  ("HundredWords$TongueReader", ⟨"HundredWords$TongueReader", "takesOne", "(LHundredWords$Tongue;LHundredWords$Told;I)Z"⟩, prog_11_method_13_code, 6, some .boolean, 9, 0, 3),
  ("HundredWords$Told", ⟨"HundredWords$Told", "setOne", "(II)V"⟩, prog_9_method_6_code, 4, none, 7, 0, 2),
  ("HundredWords$TongueReader", ⟨"HundredWords$TongueReader", "takesWorth", "(LHundredWords$Told;)Z"⟩, prog_11_method_11_code, 2, some .boolean, 9, 0, 1),
  ("HundredWords$Told", ⟨"HundredWords$Told", "close", "(I)Z"⟩, prog_9_method_7_code, 2, some .boolean, 7, 0, 1),
  ("HundredWords$TongueReader", ⟨"HundredWords$TongueReader", "takesWordOfSort", "(LHundredWords$Tongue;I)Z"⟩, prog_11_method_6_code, 3, some .boolean, 9, 0, 2),
  ("HundredWords$Tongue", ⟨"HundredWords$Tongue", "addWord", "(II)V"⟩, prog_10_method_7_code, 3, none, 8, 0, 2),
  ("HundredWords$Tape", ⟨"HundredWords$Tape", "takes", "(I)Z"⟩, prog_8_method_10_code, 2, some .boolean, 6, 0, 1),
  ("HundredWords$Tongue", ⟨"HundredWords$Tongue", "settle", "()V"⟩, prog_10_method_10_code, 6, none, 8, 0, 0),
  ("HundredWords$Told", ⟨"HundredWords$Told", "settle", "(J[J)V"⟩, prog_9_method_8_code, 7, none, 7, 0, 2),
  ("HundredWords$Row", ⟨"HundredWords$Row", "clear", "()V"⟩, prog_6_method_3_code, 1, none, 4, 0, 0),
  ("HundredWords$Acts", ⟨"HundredWords$Acts", "forget", "()V"⟩, prog_2_method_2_code, 1, none, 0, 0, 0),
  ("HundredWords$Shorts", ⟨"HundredWords$Shorts", "forget", "()V"⟩, prog_7_method_2_code, 1, none, 5, 0, 0),
  ("HundredWords", ⟨"HundredWords", "law", "(Z)I"⟩, prog_1_method_5_code, 3, some .int, 11, 0, 1),
  ("HundredWords$LawReader", ⟨"HundredWords$LawReader", "read", "(LHundredWords$Tongue;LHundredWords$Row;)Z"⟩, prog_4_method_2_code, 7, some .boolean, 2, 0, 2),
  ("HundredWords$LawReader", ⟨"HundredWords$LawReader", "hasRoom", "(LHundredWords$Tongue;LHundredWords$Row;I)Z"⟩, prog_4_method_3_code, 4, some .boolean, 2, 0, 3),
  ("HundredWords$LawReader", ⟨"HundredWords$LawReader", "takesStop", "(I)I"⟩, prog_4_method_4_code, 2, some .int, 2, 0, 1),
  ("HundredWords$Row", ⟨"HundredWords$Row", "next", "(II)I"⟩, prog_6_method_2_code, 4, some .int, 4, 1, 2),
  ("HundredWords$LawReader", ⟨"HundredWords$LawReader", "takesWord", "(LHundredWords$Tongue;I)I"⟩, prog_4_method_5_code, 5, some .int, 2, 0, 2)]
def jI_4 : List jI := [("HundredWords$Row", ⟨"HundredWords$Row", "add", "(I)V"⟩, prog_6_method_4_code, 2, none, 4, 0, 1),
  ("HundredWords$Row", ⟨"HundredWords$Row", "weight", "(I)I"⟩, prog_6_method_20_code, 1, some .int, 4, 1, 1),
  ("HundredWords$Row", ⟨"HundredWords$Row", "weigh", "(LHundredWords$Tongue;)V"⟩, prog_6_method_9_code, 4, none, 4, 0, 1),
  ("HundredWords$Row", ⟨"HundredWords$Row", "weighSentence", "(LHundredWords$Tongue;)J"⟩, prog_6_method_10_code, 12, some .long, 4, 0, 1),
  ("HundredWords$Row", ⟨"HundredWords$Row", "copy", "(LHundredWords$Row;)V"⟩, prog_6_method_5_code, 2, none, 4, 0, 1),
  ("HundredWords$Tongue", ⟨"HundredWords$Tongue", "keepsPeace", "(J)Z"⟩, prog_10_method_14_code, 3, some .boolean, 8, 0, 1),
  ("HundredWords$Told", ⟨"HundredWords$Told", "areAllKept", "(J)Z"⟩, prog_9_method_9_code, 3, some .boolean, 7, 0, 1),
  ("HundredWords", ⟨"HundredWords", "enactTrial", "()I"⟩, prog_1_method_40_code, 1, some .int, 11, 0, 0),
  ("HundredWords$Acts", ⟨"HundredWords$Acts", "keep", "(LHundredWords$Row;)V"⟩, prog_2_method_3_code, 2, none, 0, 0, 1),
  ("HundredWords", ⟨"HundredWords", "fault", "(I)I"⟩, prog_1_method_6_code, 2, some .int, 11, 0, 1),
  ("HundredWords", ⟨"HundredWords", "has", "(I)I"⟩, prog_1_method_7_code, 2, some .int, 11, 0, 1),
  ("HundredWords$Tongue", ⟨"HundredWords$Tongue", "number", "(I)I"⟩, prog_10_method_3_code, 2, some .int, 8, 0, 1),
  ("HundredWords", ⟨"HundredWords", "letter", "(II)I"⟩, prog_1_method_8_code, 3, some .int, 11, 0, 2),
  ("HundredWords$Tongue", ⟨"HundredWords$Tongue", "letterOf", "(II)I"⟩, prog_10_method_11_code, 3, some .int, 8, 0, 2),
  ("HundredWords", ⟨"HundredWords", "sign", "(ZI)I"⟩, prog_1_method_9_code, 4, some .int, 11, 0, 2),
  ("HundredWords", ⟨"HundredWords", "size", "(ZI)I"⟩, prog_1_method_10_code, 4, some .int, 11, 0, 2),
  ("java/lang/Long", ⟨"java/lang/Long", "bitCount", "(J)I"⟩, prog_15_method_50_code, 2, some .int, 98, 1, 1),
  ("HundredWords$Row", ⟨"HundredWords$Row", "idleSentences", "()I"⟩, prog_6_method_11_code, 6, some .int, 4, 0, 0),
  ("HundredWords", ⟨"HundredWords", "truth", "(Z)I"⟩, prog_1_method_48_code, 1, some .int, 11, 1, 1),
  ("HundredWords", ⟨"HundredWords", "forbids", "(ZI)I"⟩, prog_1_method_11_code, 4, some .int, 11, 0, 2)]
def jI_5 : List jI := [("HundredWords$Tongue", ⟨"HundredWords$Tongue", "isCase", "(I)Z"⟩, prog_10_method_13_code, 2, some .boolean, 8, 0, 1),
  ("HundredWords", ⟨"HundredWords", "isIn", "(JI)Z"⟩, prog_1_method_49_code, 3, some .boolean, 11, 1, 2),
  ("HundredWords", ⟨"HundredWords", "borne", "(II)I"⟩, prog_1_method_12_code, 3, some .int, 11, 0, 2),
  ("HundredWords$Row", ⟨"HundredWords$Row", "bearer", "(II)I"⟩, prog_6_method_12_code, 5, some .int, 4, 0, 2),
  ("HundredWords", ⟨"HundredWords", "led", "(II)I"⟩, prog_1_method_13_code, 5, some .int, 11, 0, 2),
  ("HundredWords$Row", ⟨"HundredWords$Row", "follows", "(LHundredWords$Tongue;LHundredWords$Row;I)Z"⟩, prog_6_method_13_code, 4, some .boolean, 4, 0, 3),
  ("HundredWords$Row", ⟨"HundredWords$Row", "canTurn", "(LHundredWords$Tongue;I)Z"⟩, prog_6_method_15_code, 9, some .boolean, 4, 0, 2),
  ("HundredWords$Row", ⟨"HundredWords$Row", "givenBy", "(I)I"⟩, prog_6_method_14_code, 1, some .int, 4, 1, 1),
  ("HundredWords$Tongue", ⟨"HundredWords$Tongue", "hasSign", "(I)Z"⟩, prog_10_method_12_code, 2, some .boolean, 8, 0, 1),
  ("HundredWords$Row", ⟨"HundredWords$Row", "goesOn", "(II)Z"⟩, prog_6_method_16_code, 5, some .boolean, 4, 0, 2),
  ("HundredWords$Row", ⟨"HundredWords$Row", "turn", "(LHundredWords$Row;I)V"⟩, prog_6_method_17_code, 8, none, 4, 0, 2),
  ("HundredWords$Row", ⟨"HundredWords$Row", "weighBeside", "(LHundredWords$Tongue;LHundredWords$Row;I)V"⟩, prog_6_method_18_code, 8, none, 4, 0, 3),
  ("HundredWords$Row", ⟨"HundredWords$Row", "sentenceAt", "(I)I"⟩, prog_6_method_19_code, 3, some .int, 4, 0, 1),
  ("HundredWords", ⟨"HundredWords", "price", "(I)I"⟩, prog_1_method_14_code, 2, some .int, 11, 0, 1),
  ("HundredWords", ⟨"HundredWords", "put", "(II)I"⟩, prog_1_method_15_code, 3, some .int, 11, 0, 2),
  ("HundredWords", ⟨"HundredWords", "isSpot", "(II)Z"⟩, prog_1_method_41_code, 3, some .boolean, 11, 0, 2),
  ("HundredWords", ⟨"HundredWords", "change", "(I)I"⟩, prog_1_method_42_code, 2, some .int, 11, 0, 1),
  ("HundredWords", ⟨"HundredWords", "isChange", "(I)Z"⟩, prog_1_method_43_code, 2, some .boolean, 11, 0, 1),
  ("HundredWords", ⟨"HundredWords", "strike", "(I)I"⟩, prog_1_method_16_code, 2, some .int, 11, 0, 1),
  ("HundredWords", ⟨"HundredWords", "swap", "(II)I"⟩, prog_1_method_17_code, 3, some .int, 11, 0, 2)]
def jI_6 : List jI := [("HundredWords", ⟨"HundredWords", "undo", "()Z"⟩, prog_1_method_18_code, 1, some .boolean, 11, 0, 0),
  ("HundredWords$Acts", ⟨"HundredWords$Acts", "takeBack", "(LHundredWords$Row;)V"⟩, prog_2_method_4_code, 2, none, 0, 0, 1),
  ("HundredWords", ⟨"HundredWords", "changes", "(I)I"⟩, prog_1_method_19_code, 2, some .int, 11, 0, 1),
  ("HundredWords", ⟨"HundredWords", "countChanges", "(II)I"⟩, prog_1_method_44_code, 6, some .int, 11, 0, 2),
  ("HundredWords", ⟨"HundredWords", "fewest", "(ZI)I"⟩, prog_1_method_20_code, 4, some .int, 11, 0, 2),
  ("HundredWords$Shorts", ⟨"HundredWords$Shorts", "fewestFor", "(LHundredWords$Tongue;JII)I"⟩, prog_7_method_6_code, 7, some .int, 5, 0, 4),
  ("HundredWords$Shorts", ⟨"HundredWords$Shorts", "prepare", "(LHundredWords$Tongue;)V"⟩, prog_7_method_7_code, 2, none, 5, 0, 1),
  ("HundredWords$Shorts", ⟨"HundredWords$Shorts", "listLiterals", "(LHundredWords$Tongue;)V"⟩, prog_7_method_8_code, 3, none, 5, 0, 1),
  ("HundredWords$Shorts", ⟨"HundredWords$Shorts", "listSentences", "()V"⟩, prog_7_method_9_code, 3, none, 5, 0, 0),
  ("HundredWords$Shorts", ⟨"HundredWords$Shorts", "chooseSentences", "()V"⟩, prog_7_method_10_code, 4, none, 5, 0, 0),
  ("HundredWords$Shorts", ⟨"HundredWords$Shorts", "slotOf", "(J)I"⟩, prog_7_method_12_code, 6, some .int, 5, 0, 1),
  ("HundredWords$Shorts", ⟨"HundredWords$Shorts", "wordsOf", "(I)I"⟩, prog_7_method_13_code, 3, some .int, 5, 0, 1),
  ("HundredWords$Shorts", ⟨"HundredWords$Shorts", "gatherFitting", "(LHundredWords$Tongue;)V"⟩, prog_7_method_11_code, 3, none, 5, 0, 1),
  ("HundredWords$Shorts", ⟨"HundredWords$Shorts", "seek", "(JI)V"⟩, prog_7_method_14_code, 5, none, 5, 0, 2),
  ("HundredWords$Shorts", ⟨"HundredWords$Shorts", "note", "(IIIII)V"⟩, prog_7_method_15_code, 6, none, 5, 0, 5),
  ("HundredWords$Shorts", ⟨"HundredWords$Shorts", "seekPairs", "(JI)V"⟩, prog_7_method_16_code, 11, none, 5, 0, 2),
  ("HundredWords$Shorts", ⟨"HundredWords$Shorts", "gatherWithin", "(J)I"⟩, prog_7_method_17_code, 7, some .int, 5, 0, 1),
  ("HundredWords$Shorts", ⟨"HundredWords$Shorts", "weighPair", "(III)V"⟩, prog_7_method_18_code, 8, none, 5, 0, 3),
  ("java/lang/Math", ⟨"java/lang/Math", "min", "(II)I"⟩, prog_16_method_69_code, 2, some .int, 98, 1, 2),
  ("java/lang/Math", ⟨"java/lang/Math", "max", "(II)I"⟩, prog_16_method_65_code, 2, some .int, 98, 1, 2)]
def jI_7 : List jI := [("HundredWords", ⟨"HundredWords", "shorts", "()I"⟩, prog_1_method_21_code, 1, some .int, 11, 0, 0),
  ("HundredWords$Shorts", ⟨"HundredWords$Shorts", "total", "(LHundredWords$Tongue;)I"⟩, prog_7_method_3_code, 2, some .int, 5, 0, 1),
  ("HundredWords", ⟨"HundredWords", "brief", "(II)I"⟩, prog_1_method_22_code, 3, some .int, 11, 0, 2),
  ("HundredWords$Shorts", ⟨"HundredWords$Shorts", "tell", "(LHundredWords$Tongue;II)I"⟩, prog_7_method_4_code, 4, some .int, 5, 0, 3),
  ("HundredWords", ⟨"HundredWords", "way", "()I"⟩, prog_1_method_23_code, 1, some .int, 11, 0, 0),
  ("HundredWords$Way", ⟨"HundredWords$Way", "measure", "(LHundredWords$Tongue;LHundredWords$Row;LHundredWords$Row;)I"⟩, prog_12_method_2_code, 5, some .int, 10, 0, 3),
  ("HundredWords$Row", ⟨"HundredWords$Row", "isSame", "(LHundredWords$Row;)Z"⟩, prog_6_method_8_code, 4, some .boolean, 4, 0, 1),
  ("HundredWords$Way", ⟨"HundredWords$Way", "isNear", "(LHundredWords$Row;ILHundredWords$Row;II)Z"⟩, prog_12_method_5_code, 9, some .boolean, 10, 1, 5),
  ("java/lang/Math", ⟨"java/lang/Math", "abs", "(I)I"⟩, prog_16_method_59_code, 1, some .int, 98, 1, 1),
  ("HundredWords$Way", ⟨"HundredWords$Way", "leads", "(LHundredWords$Tongue;LHundredWords$Row;LHundredWords$Row;I)Z"⟩, prog_12_method_3_code, 9, some .boolean, 10, 0, 4),
  ("HundredWords$Way", ⟨"HundredWords$Way", "isOnTheWay", "(LHundredWords$Row;II)Z"⟩, prog_12_method_4_code, 6, some .boolean, 10, 1, 3),
  ("HundredWords", ⟨"HundredWords", "hole", "(ZI)I"⟩, prog_1_method_24_code, 5, some .int, 11, 0, 2),
  ("HundredWords", ⟨"HundredWords", "nthCase", "(JI)I"⟩, prog_1_method_50_code, 5, some .int, 11, 1, 2),
  ("HundredWords", ⟨"HundredWords", "parts", "()I"⟩, prog_1_method_25_code, 1, some .int, 11, 0, 0),
  ("HundredWords", ⟨"HundredWords", "worth", "(ZI)I"⟩, prog_1_method_26_code, 4, some .int, 11, 0, 2),
  ("HundredWords$Tongue", ⟨"HundredWords$Tongue", "worthFor", "(IJ)I"⟩, prog_10_method_15_code, 6, some .int, 8, 0, 2),
  ("HundredWords$Told", ⟨"HundredWords$Told", "worthOf", "(IJ)I"⟩, prog_9_method_11_code, 6, some .int, 7, 0, 2),
  ("HundredWords", ⟨"HundredWords", "votes", "(Z)I"⟩, prog_1_method_27_code, 2, some .int, 11, 0, 1),
  ("HundredWords$Tongue", ⟨"HundredWords$Tongue", "votesOn", "(JJZ)I"⟩, prog_10_method_16_code, 8, some .int, 8, 0, 3),
  ("HundredWords$Tongue", ⟨"HundredWords$Tongue", "weighGains", "(JJ)V"⟩, prog_10_method_18_code, 7, none, 8, 0, 2)]
def jI_8 : List jI := [("HundredWords", ⟨"HundredWords", "rest", "()I"⟩, prog_1_method_28_code, 1, some .int, 11, 0, 0),
  ("HundredWords", ⟨"HundredWords", "findsVoted", "()Z"⟩, prog_1_method_45_code, 3, some .boolean, 11, 0, 0),
  ("HundredWords$Tongue", ⟨"HundredWords$Tongue", "isVoted", "(JJ)Z"⟩, prog_10_method_17_code, 7, some .boolean, 8, 0, 2),
  ("HundredWords", ⟨"HundredWords", "spring", "(I)I"⟩, prog_1_method_29_code, 3, some .int, 11, 0, 1),
  ("HundredWords", ⟨"HundredWords", "fitting", "(I)I"⟩, prog_1_method_30_code, 2, some .int, 11, 0, 1),
  ("HundredWords$Shorts", ⟨"HundredWords$Shorts", "fittingOnes", "(LHundredWords$Tongue;I)I"⟩, prog_7_method_5_code, 3, some .int, 5, 0, 2),
  ("HundredWords", ⟨"HundredWords", "judged", "()I"⟩, prog_1_method_31_code, 1, some .int, 11, 0, 0),
  ("HundredWords$Told", ⟨"HundredWords$Told", "firstBroken", "(J)I"⟩, prog_9_method_10_code, 6, some .int, 7, 0, 1),
  ("HundredWords", ⟨"HundredWords", "seed", "(I)Z"⟩, prog_1_method_32_code, 2, some .boolean, 11, 0, 1),
  ("HundredWords", ⟨"HundredWords", "stroke", "()I"⟩, prog_1_method_33_code, 2, some .int, 11, 0, 0),
  ("HundredWords", ⟨"HundredWords", "draw", "(I)I"⟩, prog_1_method_46_code, 2, some .int, 11, 0, 1),
  ("HundredWords", ⟨"HundredWords", "ask", "()J"⟩, prog_1_method_34_code, 2, some .long, 11, 0, 0),
  ("HundredWords$Question", ⟨"HundredWords$Question", "read", "()Z"⟩, prog_5_method_2_code, 1, some .boolean, 3, 0, 0),
  ("HundredWords$Question", ⟨"HundredWords$Question", "takesTest", "()Z"⟩, prog_5_method_6_code, 2, some .boolean, 3, 0, 0),
  ("HundredWords$Question", ⟨"HundredWords$Question", "takesBoth", "()Z"⟩, prog_5_method_7_code, 2, some .boolean, 3, 0, 0),
  ("HundredWords$Question", ⟨"HundredWords$Question", "takesFact", "()Z"⟩, prog_5_method_8_code, 1, some .boolean, 3, 0, 0),
  ("HundredWords$Question", ⟨"HundredWords$Question", "takesBracket", "()Z"⟩, prog_5_method_9_code, 1, some .boolean, 3, 0, 0),
  ("HundredWords$Question", ⟨"HundredWords$Question", "opens", "()Z"⟩, prog_5_method_5_code, 1, some .boolean, 3, 0, 0),
  ("HundredWords$Question", ⟨"HundredWords$Question", "sees", "(I)Z"⟩, prog_5_method_3_code, 2, some .boolean, 3, 0, 1),
  ("HundredWords$Question", ⟨"HundredWords$Question", "takesDenied", "()Z"⟩, prog_5_method_10_code, 1, some .boolean, 3, 0, 0)]
def jI_9 : List jI := [("HundredWords$Question", ⟨"HundredWords$Question", "then", "(I)V"⟩, prog_5_method_4_code, 2, none, 3, 0, 1),
  ("HundredWords$Question", ⟨"HundredWords$Question", "takesComparison", "()Z"⟩, prog_5_method_11_code, 2, some .boolean, 3, 0, 0),
  ("HundredWords$Question", ⟨"HundredWords$Question", "takesSum", "()Z"⟩, prog_5_method_12_code, 3, some .boolean, 3, 0, 0),
  ("HundredWords$Question", ⟨"HundredWords$Question", "takesProduct", "()Z"⟩, prog_5_method_13_code, 3, some .boolean, 3, 0, 0),
  ("HundredWords$Question", ⟨"HundredWords$Question", "takesPart", "()Z"⟩, prog_5_method_14_code, 3, some .boolean, 3, 0, 0),
  ("HundredWords$Question", ⟨"HundredWords$Question", "takesNumber", "()Z"⟩, prog_5_method_15_code, 1, some .boolean, 3, 0, 0),
  ("HundredWords$Question", ⟨"HundredWords$Question", "takesHeld", "(I)Z"⟩, prog_5_method_17_code, 2, some .boolean, 3, 0, 1),
  ("HundredWords$Question", ⟨"HundredWords$Question", "takesBorne", "()Z"⟩, prog_5_method_16_code, 1, some .boolean, 3, 0, 0),
  ("HundredWords$Question", ⟨"HundredWords$Question", "answer", "(LHundredWords$Tongue;LHundredWords$Row;LHundredWords$Row;)J"⟩, prog_5_method_18_code, 9, some .long, 3, 0, 3),
  ("HundredWords$Question", ⟨"HundredWords$Question", "valueIn", "(I)J"⟩, prog_5_method_20_code, 6, some .long, 3, 0, 1),
  ("HundredWords$Question", ⟨"HundredWords$Question", "push", "(J)V"⟩, prog_5_method_21_code, 3, none, 3, 0, 1),
  ("HundredWords$Question", ⟨"HundredWords$Question", "plain", "(II)J"⟩, prog_5_method_23_code, 5, some .long, 3, 0, 2),
  ("HundredWords$Question", ⟨"HundredWords$Question", "pop", "()J"⟩, prog_5_method_22_code, 1, some .long, 3, 0, 0),
  ("HundredWords$Question", ⟨"HundredWords$Question", "bornePart", "(JI)J"⟩, prog_5_method_24_code, 4, some .long, 3, 0, 2),
  ("HundredWords$Question", ⟨"HundredWords$Question", "joint", "(IJJ)J"⟩, prog_5_method_25_code, 5, some .long, 3, 1, 3),
  ("HundredWords$Question", ⟨"HundredWords$Question", "held", "(J)J"⟩, prog_5_method_26_code, 2, some .long, 3, 1, 1),
  ("java/lang/Math", ⟨"java/lang/Math", "min", "(JJ)J"⟩, prog_16_method_70_code, 4, some .long, 98, 1, 2),
  ("java/lang/Math", ⟨"java/lang/Math", "max", "(JJ)J"⟩, prog_16_method_66_code, 4, some .long, 98, 1, 2),
  ("java/lang/Math", ⟨"java/lang/Math", "floorDiv", "(JJ)J"⟩, prog_16_method_49_code, 6, some .long, 98, 1, 2),
  ("HundredWords$Question", ⟨"HundredWords$Question", "joined", "(JJI)J"⟩, prog_5_method_19_code, 6, some .long, 3, 0, 3)]
def jI_10 : List jI := [("HundredWords", ⟨"HundredWords", "image", "()I"⟩, prog_1_method_35_code, 1, some .int, 11, 0, 0),
  ("HundredWords$Image", ⟨"HundredWords$Image", "write", "(LHundredWords$Row;LHundredWords$Row;)V"⟩, prog_3_method_2_code, 3, none, 1, 0, 2),
  ("HundredWords$Image", ⟨"HundredWords$Image", "tell", "(LHundredWords$Row;)V"⟩, prog_3_method_3_code, 3, none, 1, 0, 1),
  ("HundredWords$Image", ⟨"HundredWords$Image", "add", "(I)V"⟩, prog_3_method_4_code, 2, none, 1, 0, 1),
  ("HundredWords$Image", ⟨"HundredWords$Image", "seal", "([II)I"⟩, prog_3_method_5_code, 4, some .int, 1, 1, 2),
  ("HundredWords", ⟨"HundredWords", "octet", "(I)I"⟩, prog_1_method_36_code, 2, some .int, 11, 0, 1),
  ("HundredWords", ⟨"HundredWords", "restore", "()Z"⟩, prog_1_method_37_code, 2, some .boolean, 11, 0, 0),
  ("HundredWords", ⟨"HundredWords", "isImage", "()Z"⟩, prog_1_method_47_code, 3, some .boolean, 11, 0, 0),
  ("HundredWords$Row", ⟨"HundredWords$Row", "load", "(LHundredWords$Tape;I)I"⟩, prog_6_method_6_code, 5, some .int, 4, 0, 2),
  ("HundredWords$Row", ⟨"HundredWords$Row", "isLawful", "(LHundredWords$Tongue;)Z"⟩, prog_6_method_7_code, 4, some .boolean, 4, 0, 1),
  ("HundredWords", ⟨"HundredWords", "status", "(I)I"⟩, prog_1_method_38_code, 2, some .int, 11, 0, 1),
  ("HundredWordsModel", ⟨"HundredWordsModel", "<init>", "()V"⟩, prog_14_method_1_code, 1, none, 12, 2, 0),
  ("HundredWordsModel", ⟨"HundredWordsModel", "feed", "(IIIII)I"⟩, prog_14_method_3_code, 8, some .int, 12, 0, 5),
  ("HundredWordsModel", ⟨"HundredWordsModel", "end", "(I)Z"⟩, prog_14_method_4_code, 2, some .boolean, 12, 0, 1),
  ("HundredWordsModel", ⟨"HundredWordsModel", "tongue", "()I"⟩, prog_14_method_30_code, 2, some .int, 12, 0, 0),
  ("HundredWordsModel", ⟨"HundredWordsModel", "begins", "()V"⟩, prog_14_method_28_code, 1, none, 12, 0, 0),
  ("HundredWordsModel", ⟨"HundredWordsModel", "look", "()I"⟩, prog_14_method_8_code, 1, some .int, 12, 0, 0),
  ("HundredWordsModel", ⟨"HundredWordsModel", "statementTold", "()V"⟩, prog_14_method_27_code, 2, none, 12, 0, 0),
  ("HundredWordsModel", ⟨"HundredWordsModel", "fail", "(II)V"⟩, prog_14_method_5_code, 3, none, 12, 0, 2),
  ("HundredWordsModel", ⟨"HundredWordsModel", "takes", "([C)Z"⟩, prog_14_method_10_code, 2, some .boolean, 12, 0, 1)]
def jI_11 : List jI := [("HundredWordsModel", ⟨"HundredWordsModel", "isHere", "([C)Z"⟩, prog_14_method_9_code, 4, some .boolean, 12, 0, 1),
  ("HundredWordsModel", ⟨"HundredWordsModel", "isLetter", "(I)Z"⟩, prog_14_method_6_code, 1, some .boolean, 12, 1, 1),
  ("HundredWordsModel", ⟨"HundredWordsModel", "newWord", "(II)V"⟩, prog_14_method_21_code, 6, none, 12, 0, 2),
  ("HundredWordsModel", ⟨"HundredWordsModel", "freeFrom", "(II)I"⟩, prog_14_method_20_code, 4, some .int, 12, 0, 2),
  ("HundredWordsModel", ⟨"HundredWordsModel", "newSpelt", "()J"⟩, prog_14_method_19_code, 3, some .long, 12, 0, 0),
  ("HundredWordsModel", ⟨"HundredWordsModel", "spelt", "()J"⟩, prog_14_method_16_code, 3, some .long, 12, 0, 0),
  ("HundredWordsModel", ⟨"HundredWordsModel", "isOwnHere", "()Z"⟩, prog_14_method_15_code, 2, some .boolean, 12, 0, 0),
  ("HundredWordsModel", ⟨"HundredWordsModel", "signOf", "(J)I"⟩, prog_14_method_17_code, 4, some .int, 12, 0, 1),
  ("HundredWordsModel", ⟨"HundredWordsModel", "partyOf", "(J)I"⟩, prog_14_method_18_code, 4, some .int, 12, 0, 1),
  ("HundredWordsModel", ⟨"HundredWordsModel", "newLike", "(I)V"⟩, prog_14_method_22_code, 8, none, 12, 0, 1),
  ("HundredWordsModel", ⟨"HundredWordsModel", "number", "(II)I"⟩, prog_14_method_14_code, 5, some .int, 12, 0, 2),
  ("HundredWordsModel", ⟨"HundredWordsModel", "isDigit", "(I)Z"⟩, prog_14_method_7_code, 1, some .boolean, 12, 1, 1),
  ("HundredWordsModel", ⟨"HundredWordsModel", "isIn", "(JJJ)Z"⟩, prog_14_method_2_code, 6, some .boolean, 12, 1, 3),
  ("HundredWordsModel", ⟨"HundredWordsModel", "newParty", "(I)V"⟩, prog_14_method_23_code, 5, none, 12, 0, 1),
  ("HundredWordsModel", ⟨"HundredWordsModel", "asks", "([C)V"⟩, prog_14_method_11_code, 2, none, 12, 0, 1),
  ("HundredWordsModel", ⟨"HundredWordsModel", "newRuled", "(III)V"⟩, prog_14_method_26_code, 11, none, 12, 0, 3),
  ("HundredWordsModel", ⟨"HundredWordsModel", "ruledAt", "(I)I"⟩, prog_14_method_25_code, 1, some .int, 12, 1, 1),
  ("HundredWordsModel", ⟨"HundredWordsModel", "oneOf", "(I)I"⟩, prog_14_method_24_code, 6, some .int, 12, 0, 1),
  ("HundredWordsModel", ⟨"HundredWordsModel", "asksSign", "(I)V"⟩, prog_14_method_13_code, 2, none, 12, 0, 1),
  ("HundredWordsModel", ⟨"HundredWordsModel", "takesSign", "(I)Z"⟩, prog_14_method_12_code, 2, some .boolean, 12, 0, 1)]
def jI_12 : List jI := [("HundredWordsModel", ⟨"HundredWordsModel", "hasEnded", "()Z"⟩, prog_14_method_29_code, 1, some .boolean, 12, 0, 0),
  ("HundredWordsModel", ⟨"HundredWordsModel", "stands", "()V"⟩, prog_14_method_31_code, 2, none, 12, 0, 0),
  ("HundredWordsModel", ⟨"HundredWordsModel", "sets", "()V"⟩, prog_14_method_35_code, 3, none, 12, 0, 0),
  ("HundredWordsModel", ⟨"HundredWordsModel", "casesMany", "()I"⟩, prog_14_method_33_code, 1, some .int, 12, 0, 0),
  ("HundredWordsModel", ⟨"HundredWordsModel", "many", "(I)I"⟩, prog_14_method_32_code, 4, some .int, 12, 0, 1),
  ("HundredWordsModel", ⟨"HundredWordsModel", "partOf", "(II)I"⟩, prog_14_method_34_code, 3, some .int, 12, 0, 2),
  ("HundredWordsModel", ⟨"HundredWordsModel", "isOfRuled", "(II)Z"⟩, prog_14_method_36_code, 4, some .boolean, 12, 0, 2),
  ("HundredWordsModel", ⟨"HundredWordsModel", "shortsTold", "()V"⟩, prog_14_method_83_code, 4, none, 12, 0, 0),
  ("HundredWordsModel", ⟨"HundredWordsModel", "literalSet", "(I)J"⟩, prog_14_method_80_code, 4, some .long, 12, 0, 1),
  ("HundredWordsModel", ⟨"HundredWordsModel", "literalWords", "(I)I"⟩, prog_14_method_81_code, 2, some .int, 12, 0, 1),
  ("HundredWordsModel", ⟨"HundredWordsModel", "shortIs", "(JI)V"⟩, prog_14_method_82_code, 4, none, 12, 0, 2),
  ("HundredWordsModel", ⟨"HundredWordsModel", "law", "(Z)I"⟩, prog_14_method_42_code, 2, some .int, 12, 0, 1),
  ("HundredWordsModel", ⟨"HundredWordsModel", "isRoom", "()Z"⟩, prog_14_method_38_code, 2, some .boolean, 12, 0, 0),
  ("HundredWordsModel", ⟨"HundredWordsModel", "sentenceTold", "()V"⟩, prog_14_method_41_code, 3, none, 12, 0, 0),
  ("HundredWordsModel", ⟨"HundredWordsModel", "termTold", "()V"⟩, prog_14_method_39_code, 4, none, 12, 0, 0),
  ("HundredWordsModel", ⟨"HundredWordsModel", "reads", "(I)V"⟩, prog_14_method_37_code, 2, none, 12, 0, 1),
  ("HundredWordsModel", ⟨"HundredWordsModel", "standing", "(J)I"⟩, prog_14_method_40_code, 4, some .int, 12, 0, 1),
  ("HundredWordsModel", ⟨"HundredWordsModel", "triesRead", "()V"⟩, prog_14_method_44_code, 2, none, 12, 0, 0),
  ("HundredWordsModel", ⟨"HundredWordsModel", "keepsPeace", "()Z"⟩, prog_14_method_55_code, 6, some .boolean, 12, 0, 0),
  ("HundredWordsModel", ⟨"HundredWordsModel", "forbidden", "()J"⟩, prog_14_method_53_code, 4, some .long, 12, 0, 0)]
def jI_13 : List jI := [("HundredWordsModel", ⟨"HundredWordsModel", "setOf", "(I)J"⟩, prog_14_method_52_code, 13, some .long, 12, 0, 1),
  ("HundredWordsModel", ⟨"HundredWordsModel", "behind", "(I)I"⟩, prog_14_method_51_code, 3, some .int, 12, 0, 1),
  ("HundredWordsModel", ⟨"HundredWordsModel", "keeps", "()V"⟩, prog_14_method_72_code, 2, none, 12, 0, 0),
  ("HundredWordsModel", ⟨"HundredWordsModel", "laysTried", "(I)V"⟩, prog_14_method_46_code, 3, none, 12, 0, 1),
  ("HundredWordsModel", ⟨"HundredWordsModel", "fault", "(I)I"⟩, prog_14_method_43_code, 2, some .int, 12, 0, 1),
  ("HundredWordsModel", ⟨"HundredWordsModel", "has", "(I)I"⟩, prog_14_method_59_code, 4, some .int, 12, 0, 1),
  ("HundredWordsModel", ⟨"HundredWordsModel", "letter", "(II)I"⟩, prog_14_method_61_code, 8, some .int, 12, 0, 2),
  ("HundredWordsModel", ⟨"HundredWordsModel", "nameOf", "(I)J"⟩, prog_14_method_60_code, 2, some .long, 12, 0, 1),
  ("HundredWordsModel", ⟨"HundredWordsModel", "sign", "(ZI)I"⟩, prog_14_method_63_code, 4, some .int, 12, 0, 2),
  ("HundredWordsModel", ⟨"HundredWordsModel", "which", "(Z)I"⟩, prog_14_method_62_code, 1, some .int, 12, 1, 1),
  ("HundredWordsModel", ⟨"HundredWordsModel", "size", "(ZI)I"⟩, prog_14_method_66_code, 3, some .int, 12, 0, 2),
  ("HundredWordsModel", ⟨"HundredWordsModel", "triesLaw", "(I)V"⟩, prog_14_method_45_code, 3, none, 12, 0, 1),
  ("HundredWordsModel", ⟨"HundredWordsModel", "wordsTried", "()I"⟩, prog_14_method_64_code, 3, some .int, 12, 0, 0),
  ("HundredWordsModel", ⟨"HundredWordsModel", "bits", "(J)I"⟩, prog_14_method_57_code, 5, some .int, 12, 1, 1),
  ("HundredWordsModel", ⟨"HundredWordsModel", "needless", "()I"⟩, prog_14_method_65_code, 8, some .int, 12, 0, 0),
  ("HundredWordsModel", ⟨"HundredWordsModel", "forbids", "(ZI)I"⟩, prog_14_method_67_code, 3, some .int, 12, 0, 2),
  ("HundredWordsModel", ⟨"HundredWordsModel", "isCase", "(I)Z"⟩, prog_14_method_58_code, 2, some .boolean, 12, 0, 1),
  ("HundredWordsModel", ⟨"HundredWordsModel", "forbiddenBy", "(I)J"⟩, prog_14_method_54_code, 2, some .long, 12, 0, 1),
  ("HundredWordsModel", ⟨"HundredWordsModel", "borne", "(II)I"⟩, prog_14_method_68_code, 6, some .int, 12, 0, 2),
  ("HundredWordsModel", ⟨"HundredWordsModel", "led", "(II)I"⟩, prog_14_method_70_code, 5, some .int, 12, 0, 2)]
def jI_14 : List jI := [("HundredWordsModel", ⟨"HundredWordsModel", "bears", "(II)Z"⟩, prog_14_method_69_code, 3, some .boolean, 12, 0, 2),
  ("HundredWordsModel", ⟨"HundredWordsModel", "strikes", "(I)V"⟩, prog_14_method_48_code, 3, none, 12, 0, 1),
  ("HundredWordsModel", ⟨"HundredWordsModel", "isLawful", "()Z"⟩, prog_14_method_50_code, 7, some .boolean, 12, 0, 0),
  ("HundredWordsModel", ⟨"HundredWordsModel", "isWordSign", "(I)Z"⟩, prog_14_method_49_code, 2, some .boolean, 12, 0, 1),
  ("HundredWordsModel", ⟨"HundredWordsModel", "price", "(I)I"⟩, prog_14_method_71_code, 4, some .int, 12, 0, 1),
  ("HundredWordsModel", ⟨"HundredWordsModel", "undo", "()Z"⟩, prog_14_method_73_code, 2, some .boolean, 12, 0, 0),
  ("HundredWordsModel", ⟨"HundredWordsModel", "put", "(II)I"⟩, prog_14_method_76_code, 3, some .int, 12, 0, 2),
  ("HundredWordsModel", ⟨"HundredWordsModel", "makes", "(III)I"⟩, prog_14_method_75_code, 4, some .int, 12, 0, 3),
  ("HundredWordsModel", ⟨"HundredWordsModel", "triesOther", "(IIII)Z"⟩, prog_14_method_74_code, 5, some .boolean, 12, 0, 4),
  ("HundredWordsModel", ⟨"HundredWordsModel", "putsIn", "(II)V"⟩, prog_14_method_47_code, 4, none, 12, 0, 2),
  ("HundredWordsModel", ⟨"HundredWordsModel", "isChange", "()Z"⟩, prog_14_method_56_code, 1, some .boolean, 12, 0, 0),
  ("HundredWordsModel", ⟨"HundredWordsModel", "strike", "(I)I"⟩, prog_14_method_77_code, 2, some .int, 12, 0, 1),
  ("HundredWordsModel", ⟨"HundredWordsModel", "swap", "(II)I"⟩, prog_14_method_78_code, 3, some .int, 12, 0, 2),
  ("HundredWordsModel", ⟨"HundredWordsModel", "changes", "(I)I"⟩, prog_14_method_79_code, 5, some .int, 12, 0, 1),
  ("HundredWordsModel", ⟨"HundredWordsModel", "fewest", "(ZI)I"⟩, prog_14_method_86_code, 3, some .int, 12, 0, 2),
  ("HundredWordsModel", ⟨"HundredWordsModel", "finds", "(J)V"⟩, prog_14_method_85_code, 5, none, 12, 0, 1),
  ("HundredWordsModel", ⟨"HundredWordsModel", "isFewer", "(III)V"⟩, prog_14_method_84_code, 4, none, 12, 0, 3),
  ("HundredWordsModel", ⟨"HundredWordsModel", "shorts", "()I"⟩, prog_14_method_87_code, 1, some .int, 12, 0, 0),
  ("HundredWordsModel", ⟨"HundredWordsModel", "brief", "(II)I"⟩, prog_14_method_90_code, 3, some .int, 12, 0, 2),
  ("HundredWordsModel", ⟨"HundredWordsModel", "isFitting", "(I)Z"⟩, prog_14_method_89_code, 2, some .boolean, 12, 0, 1)]
def jI_15 : List jI := [("HundredWordsModel", ⟨"HundredWordsModel", "judgedSet", "(I)J"⟩, prog_14_method_88_code, 5, some .long, 12, 0, 1),
  ("HundredWordsModel", ⟨"HundredWordsModel", "way", "()I"⟩, prog_14_method_97_code, 5, some .int, 12, 0, 0),
  ("HundredWordsModel", ⟨"HundredWordsModel", "putsAside", "()V"⟩, prog_14_method_91_code, 2, none, 12, 0, 0),
  ("HundredWordsModel", ⟨"HundredWordsModel", "apart", "()I"⟩, prog_14_method_92_code, 5, some .int, 12, 0, 0),
  ("HundredWordsModel", ⟨"HundredWordsModel", "changesOther", "()V"⟩, prog_14_method_95_code, 4, none, 12, 0, 0),
  ("HundredWordsModel", ⟨"HundredWordsModel", "coded", "(III)I"⟩, prog_14_method_93_code, 3, some .int, 12, 1, 3),
  ("HundredWordsModel", ⟨"HundredWordsModel", "triesCoded", "(II)Z"⟩, prog_14_method_94_code, 3, some .boolean, 12, 0, 2),
  ("HundredWordsModel", ⟨"HundredWordsModel", "isNearOther", "()Z"⟩, prog_14_method_96_code, 2, some .boolean, 12, 0, 0),
  ("HundredWordsModel", ⟨"HundredWordsModel", "hole", "(ZI)I"⟩, prog_14_method_99_code, 7, some .int, 12, 0, 2),
  ("HundredWordsModel", ⟨"HundredWordsModel", "bitAt", "(JI)I"⟩, prog_14_method_98_code, 5, some .int, 12, 1, 2),
  ("HundredWordsModel", ⟨"HundredWordsModel", "parts", "()I"⟩, prog_14_method_100_code, 1, some .int, 12, 0, 0),
  ("HundredWordsModel", ⟨"HundredWordsModel", "worth", "(ZI)I"⟩, prog_14_method_103_code, 3, some .int, 12, 0, 2),
  ("HundredWordsModel", ⟨"HundredWordsModel", "isParty", "(I)Z"⟩, prog_14_method_102_code, 2, some .boolean, 12, 0, 1),
  ("HundredWordsModel", ⟨"HundredWordsModel", "worthOf", "(JI)I"⟩, prog_14_method_101_code, 7, some .int, 12, 0, 2),
  ("HundredWordsModel", ⟨"HundredWordsModel", "votes", "(Z)I"⟩, prog_14_method_105_code, 6, some .int, 12, 0, 1),
  ("HundredWordsModel", ⟨"HundredWordsModel", "votesFor", "(JJ)I"⟩, prog_14_method_104_code, 7, some .int, 12, 0, 2),
  ("HundredWordsModel", ⟨"HundredWordsModel", "rest", "()I"⟩, prog_14_method_108_code, 1, some .int, 12, 0, 0),
  ("HundredWordsModel", ⟨"HundredWordsModel", "triesVoted", "()Z"⟩, prog_14_method_107_code, 5, some .boolean, 12, 0, 0),
  ("HundredWordsModel", ⟨"HundredWordsModel", "isVoted", "(J)Z"⟩, prog_14_method_106_code, 5, some .boolean, 12, 0, 1),
  ("HundredWordsModel", ⟨"HundredWordsModel", "spring", "(I)I"⟩, prog_14_method_109_code, 3, some .int, 12, 0, 1)]
def jI_16 : List jI := [("HundredWordsModel", ⟨"HundredWordsModel", "fitting", "(I)I"⟩, prog_14_method_110_code, 8, some .int, 12, 0, 1),
  ("HundredWordsModel", ⟨"HundredWordsModel", "judged", "()I"⟩, prog_14_method_111_code, 4, some .int, 12, 0, 0),
  ("HundredWordsModel", ⟨"HundredWordsModel", "seed", "(I)Z"⟩, prog_14_method_112_code, 2, some .boolean, 12, 0, 1),
  ("HundredWordsModel", ⟨"HundredWordsModel", "stroke", "()I"⟩, prog_14_method_113_code, 2, some .int, 12, 0, 0),
  ("HundredWordsModel", ⟨"HundredWordsModel", "ask", "()J"⟩, prog_14_method_142_code, 3, some .long, 12, 0, 0),
  ("HundredWordsModel", ⟨"HundredWordsModel", "qKind", "()I"⟩, prog_14_method_140_code, 2, some .int, 12, 0, 0),
  ("HundredWordsModel", ⟨"HundredWordsModel", "qTest", "()V"⟩, prog_14_method_131_code, 3, none, 12, 0, 0),
  ("HundredWordsModel", ⟨"HundredWordsModel", "qOpens", "(II)V"⟩, prog_14_method_115_code, 3, none, 12, 0, 2),
  ("HundredWordsModel", ⟨"HundredWordsModel", "qFact", "()V"⟩, prog_14_method_128_code, 2, none, 12, 0, 0),
  ("HundredWordsModel", ⟨"HundredWordsModel", "qCode", "(I)V"⟩, prog_14_method_114_code, 2, none, 12, 0, 1),
  ("HundredWordsModel", ⟨"HundredWordsModel", "qSums", "()V"⟩, prog_14_method_127_code, 3, none, 12, 0, 0),
  ("HundredWordsModel", ⟨"HundredWordsModel", "qPartTold", "()V"⟩, prog_14_method_125_code, 6, none, 12, 0, 0),
  ("HundredWordsModel", ⟨"HundredWordsModel", "qWordOf", "(II)I"⟩, prog_14_method_122_code, 4, some .int, 12, 0, 2),
  ("HundredWordsModel", ⟨"HundredWordsModel", "qWordHere", "()I"⟩, prog_14_method_121_code, 1, some .int, 12, 0, 0),
  ("HundredWordsModel", ⟨"HundredWordsModel", "qAsksWord", "(I)V"⟩, prog_14_method_123_code, 2, none, 12, 0, 1),
  ("HundredWordsModel", ⟨"HundredWordsModel", "qEndsPart", "()V"⟩, prog_14_method_124_code, 1, none, 12, 0, 0),
  ("HundredWordsModel", ⟨"HundredWordsModel", "qDrops", "()V"⟩, prog_14_method_117_code, 1, none, 12, 0, 0),
  ("HundredWordsModel", ⟨"HundredWordsModel", "qGoesOn", "()Z"⟩, prog_14_method_126_code, 2, some .boolean, 12, 0, 0),
  ("HundredWordsModel", ⟨"HundredWordsModel", "qBracket", "()I"⟩, prog_14_method_119_code, 2, some .int, 12, 0, 0),
  ("HundredWordsModel", ⟨"HundredWordsModel", "qIsBracket", "(I)Z"⟩, prog_14_method_118_code, 1, some .boolean, 12, 1, 1)]
def jI_17 : List jI := [("HundredWordsModel", ⟨"HundredWordsModel", "qDropsToBracket", "()V"⟩, prog_14_method_120_code, 1, none, 12, 0, 0),
  ("HundredWordsModel", ⟨"HundredWordsModel", "qIsOn", "(I)Z"⟩, prog_14_method_116_code, 2, some .boolean, 12, 0, 1),
  ("HundredWordsModel", ⟨"HundredWordsModel", "qDropsNots", "()V"⟩, prog_14_method_130_code, 1, none, 12, 0, 0),
  ("HundredWordsModel", ⟨"HundredWordsModel", "qGoesOnTest", "()Z"⟩, prog_14_method_132_code, 1, some .boolean, 12, 0, 0),
  ("HundredWordsModel", ⟨"HundredWordsModel", "qHasSquare", "()Z"⟩, prog_14_method_129_code, 2, some .boolean, 12, 0, 0),
  ("HundredWordsModel", ⟨"HundredWordsModel", "qTold", "(I)J"⟩, prog_14_method_139_code, 4, some .long, 12, 0, 1),
  ("HundredWordsModel", ⟨"HundredWordsModel", "qPuts", "(J)V"⟩, prog_14_method_135_code, 3, none, 12, 0, 1),
  ("HundredWordsModel", ⟨"HundredWordsModel", "qOf", "(IJI)J"⟩, prog_14_method_138_code, 5, some .long, 12, 0, 3),
  ("HundredWordsModel", ⟨"HundredWordsModel", "qBorne", "(JI)J"⟩, prog_14_method_143_code, 6, some .long, 12, 0, 2),
  ("HundredWordsModel", ⟨"HundredWordsModel", "qClip", "(J)J"⟩, prog_14_method_133_code, 2, some .long, 12, 1, 1),
  ("HundredWordsModel", ⟨"HundredWordsModel", "qPartOf", "(II)J"⟩, prog_14_method_137_code, 3, some .long, 12, 0, 2),
  ("HundredWordsModel", ⟨"HundredWordsModel", "qJoins", "(I)V"⟩, prog_14_method_136_code, 6, none, 12, 0, 1),
  ("HundredWordsModel", ⟨"HundredWordsModel", "qFloor", "(JJ)J"⟩, prog_14_method_134_code, 6, some .long, 12, 1, 2),
  ("HundredWordsModel", ⟨"HundredWordsModel", "qTakes", "(IJI)V"⟩, prog_14_method_141_code, 6, none, 12, 0, 3),
  ("HundredWordsModel", ⟨"HundredWordsModel", "image", "()I"⟩, prog_14_method_145_code, 3, some .int, 12, 0, 0),
  ("HundredWordsModel", ⟨"HundredWordsModel", "checked", "([II)I"⟩, prog_14_method_144_code, 4, some .int, 12, 1, 2),
  ("HundredWordsModel", ⟨"HundredWordsModel", "octet", "(I)I"⟩, prog_14_method_146_code, 2, some .int, 12, 0, 1),
  ("HundredWordsModel", ⟨"HundredWordsModel", "restore", "()Z"⟩, prog_14_method_148_code, 4, some .boolean, 12, 0, 0),
  ("HundredWordsModel", ⟨"HundredWordsModel", "isTold", "(II)Z"⟩, prog_14_method_147_code, 4, some .boolean, 12, 0, 2),
  ("HundredWordsModel", ⟨"HundredWordsModel", "status", "(I)I"⟩, prog_14_method_149_code, 2, some .int, 12, 0, 1)]
def jI_18 : List jI := [("HundredWordsLaw", ⟨"HundredWordsLaw", "law", "([I)Z"⟩, code, 4, some .boolean, 98, 3, 1)]
def jIs : List (List jI) := [jI_0, jI_1, jI_2, jI_3, jI_4, jI_5, jI_6, jI_7, jI_8, jI_9, jI_10, jI_11, jI_12, jI_13, jI_14, jI_15, jI_16, jI_17, jI_18]
noncomputable def j_mi (k : Nat) : jI := match j_nth jIs (k / 20) with
  | some l => (match j_nth l (k % 20) with | some x => x | none => ("", ⟨"", "", ""⟩, ⟨#[]⟩, 0, none, 98, 9, 0))
  | none => ("", ⟨"", "", ""⟩, ⟨#[]⟩, 0, none, 98, 9, 0)
noncomputable def j_own (k : Nat) : String := (j_mi k).1
noncomputable def j_yn (k : Nat) : MethodName := (j_mi k).2.1
noncomputable def j_bt (k : Nat) : ByteArray := (j_mi k).2.2.1
noncomputable def j_mx (k : Nat) : Nat := (j_mi k).2.2.2.1
noncomputable def j_rt (k : Nat) : Option FieldType := (j_mi k).2.2.2.2.1
noncomputable def j_rc (k : Nat) : Nat := (j_mi k).2.2.2.2.2.1
noncomputable def j_kn (k : Nat) : Nat := (j_mi k).2.2.2.2.2.2.1
noncomputable def j_np (k : Nat) : Nat := (j_mi k).2.2.2.2.2.2.2
/-- what is said of a method that is called: kind 0 of an object, 1 without one, 2 a constructor -/
def j_mf (k : Nat) : Prop := j_kn k = 3 ∨ (j_cal j_yn j_bt j_rt j_mx j_own j_TW k ∧ (parseMethodDescriptor (j_yn k).desc).map (fun d => d.parameters.length) = some (j_np k) ∧
  (j_kn k = 0 → Cond.instanceMethod (j_yn k) ∈ j_TW ∧ Cond.selects (j_yn k).cls (j_yn k) (j_yn k) ∈ j_TW ∧ ((j_rc k = 99 ∧ (j_yn k).cls = "java/lang/String") ∨ (¬ j_rc k = 99 ∧ ∃ r : vw_C, vwCl[j_rc k]? = some r ∧ r.1 = (j_yn k).cls))) ∧
  (j_kn k = 1 → Cond.static (j_yn k) ∈ j_TW) ∧ (j_kn k = 2 → Cond.instanceMethod (j_yn k) ∈ j_TW ∧ (j_yn k).name = "<init>" ∧ j_rt k = none))
noncomputable def j_mchk (k : Nat) (c1 o1 c2 o2 c3 o3 : Nat) : Bool :=
  j_has c1 o1 (.initialized (j_yn k).cls) && plainFor (j_yn k) && decide ((j_yn k).cls ≠ "java/lang/invoke/MethodHandle") && decide ((j_yn k).cls ≠ "java/lang/invoke/VarHandle") && decide (j_own k = (j_yn k).cls) && decide ((parseMethodDescriptor (j_yn k).desc).map (fun d => d.parameters.length) = some (j_np k)) &&
  (match j_kn k with
    | 0 => j_has c2 o2 (.instanceMethod (j_yn k)) && j_has c3 o3 (.selects (j_yn k).cls (j_yn k) (j_yn k)) && (cond (Nat.beq (j_rc k) 99) (decide ((j_yn k).cls = "java/lang/String")) (match vwCl[j_rc k]? with | some r => decide (r.1 = (j_yn k).cls) | none => false))
    | 1 => j_has c2 o2 (.static (j_yn k))
    | 2 => j_has c2 o2 (.instanceMethod (j_yn k)) && decide ((j_yn k).name = "<init>") && decide (j_rt k = none)
    | _ => false)
theorem j_mchk_ok {k c1 o1 c2 o2 c3 o3 c4 o4 : Nat} (h : j_mchk k c1 o1 c2 o2 c3 o3 = true) (hc : j_wd c4 o4 = some (.code (j_yn k) (j_bt k) (j_mx k) (j_rt k))) : j_mf k := by
  unfold j_mchk at h
  simp only [Bool.and_eq_true, decide_eq_true_eq] at h
  obtain ⟨⟨⟨⟨⟨⟨h1, h2⟩, h3⟩, h4⟩, h5⟩, h6⟩, h7⟩ := h
  refine Or.inr ⟨⟨j_wd_in hc rfl, j_has_in h1, h2, ⟨h3, h4⟩, h5⟩, h6, fun e => ?_, fun e => ?_, fun e => ?_⟩
  · rw [e] at h7
    simp only [Bool.and_eq_true] at h7
    refine ⟨j_has_in h7.1.1, j_has_in h7.1.2, ?_⟩
    have h8 := h7.2
    cases hb : Nat.beq (j_rc k) 99 with
    | true =>
      rw [hb] at h8
      exact Or.inl ⟨Nat.eq_of_beq_eq_true hb, of_decide_eq_true h8⟩
    | false =>
      rw [hb] at h8
      refine Or.inr ⟨(fun z => by rw [z] at hb; cases hb), ?_⟩
      simp only [cond_false] at h8
      split at h8
      · rename_i r hr
        exact ⟨r, hr, of_decide_eq_true h8⟩
      · cases h8
  · rw [e] at h7
    exact j_has_in h7
  · rw [e] at h7
    simp only [Bool.and_eq_true, decide_eq_true_eq] at h7
    exact ⟨j_has_in h7.1.1, h7.1.2, h7.2⟩
/-- of all places from one on -/
def j_from {α : Type} (P : Nat → α → Prop) (i : Nat) (l : List α) : Prop := ∀ (j : Nat) (x : α), l[j]? = some x → P (i + j) x
theorem j_from_nil {α : Type} {P : Nat → α → Prop} {i : Nat} : j_from P i [] := fun j x h => by simp at h
theorem j_from_cons {α : Type} {P : Nat → α → Prop} {i : Nat} {a : α} {l : List α} (h1 : P i a) (h2 : j_from P (i + 1) l) : j_from P i (a :: l) := fun j x h => by
  cases j with
  | zero => cases h; exact h1
  | succ j =>
    have := h2 j x h
    rw [show i + (j + 1) = i + 1 + j by omega]
    exact this
theorem jmf_0 : j_mf 0 := j_mchk_ok (c1 := 1) (o1 := 1) (c2 := 1) (o2 := 25) (c3 := 0) (o3 := 0) (c4 := 1) (o4 := 26) (by decide +kernel) rfl
theorem jmf_1 : j_mf 1 := j_mchk_ok (c1 := 1) (o1 := 2) (c2 := 1) (o2 := 33) (c3 := 0) (o3 := 0) (c4 := 1) (o4 := 34) (by decide +kernel) rfl
theorem jmf_2 : j_mf 2 := j_mchk_ok (c1 := 1) (o1 := 3) (c2 := 1) (o2 := 83) (c3 := 0) (o3 := 0) (c4 := 1) (o4 := 84) (by decide +kernel) rfl
theorem jmf_3 : j_mf 3 := j_mchk_ok (c1 := 1) (o1 := 2) (c2 := 1) (o2 := 88) (c3 := 0) (o3 := 0) (c4 := 1) (o4 := 89) (by decide +kernel) rfl
theorem jmf_4 : j_mf 4 := j_mchk_ok (c1 := 1) (o1 := 4) (c2 := 1) (o2 := 91) (c3 := 1) (o3 := 92) (c4 := 1) (o4 := 93) (by decide +kernel) rfl
theorem jmf_5 : j_mf 5 := j_mchk_ok (c1 := 1) (o1 := 4) (c2 := 1) (o2 := 95) (c3 := 1) (o3 := 96) (c4 := 1) (o4 := 97) (by decide +kernel) rfl
theorem jmf_6 : j_mf 6 := j_mchk_ok (c1 := 1) (o1 := 4) (c2 := 1) (o2 := 101) (c3 := 1) (o3 := 102) (c4 := 1) (o4 := 103) (by decide +kernel) rfl
theorem jmf_7 : j_mf 7 := j_mchk_ok (c1 := 1) (o1 := 4) (c2 := 1) (o2 := 105) (c3 := 1) (o3 := 106) (c4 := 1) (o4 := 107) (by decide +kernel) rfl
theorem jmf_8 : j_mf 8 := j_mchk_ok (c1 := 1) (o1 := 5) (c2 := 1) (o2 := 109) (c3 := 0) (o3 := 0) (c4 := 1) (o4 := 110) (by decide +kernel) rfl
theorem jmf_9 : j_mf 9 := j_mchk_ok (c1 := 1) (o1 := 4) (c2 := 1) (o2 := 112) (c3 := 0) (o3 := 0) (c4 := 1) (o4 := 113) (by decide +kernel) rfl
theorem jmf_10 : j_mf 10 := j_mchk_ok (c1 := 1) (o1 := 6) (c2 := 1) (o2 := 117) (c3 := 0) (o3 := 0) (c4 := 1) (o4 := 118) (by decide +kernel) rfl
theorem jmf_11 : j_mf 11 := j_mchk_ok (c1 := 1) (o1 := 7) (c2 := 1) (o2 := 120) (c3 := 0) (o3 := 0) (c4 := 1) (o4 := 121) (by decide +kernel) rfl
theorem jmf_12 : j_mf 12 := j_mchk_ok (c1 := 1) (o1 := 7) (c2 := 1) (o2 := 123) (c3 := 0) (o3 := 0) (c4 := 1) (o4 := 124) (by decide +kernel) rfl
theorem jmf_13 : j_mf 13 := j_mchk_ok (c1 := 1) (o1 := 7) (c2 := 1) (o2 := 126) (c3 := 0) (o3 := 0) (c4 := 1) (o4 := 127) (by decide +kernel) rfl
theorem jmf_14 : j_mf 14 := j_mchk_ok (c1 := 1) (o1 := 7) (c2 := 1) (o2 := 130) (c3 := 0) (o3 := 0) (c4 := 1) (o4 := 131) (by decide +kernel) rfl
theorem jmf_15 : j_mf 15 := j_mchk_ok (c1 := 1) (o1 := 8) (c2 := 1) (o2 := 149) (c3 := 0) (o3 := 0) (c4 := 1) (o4 := 150) (by decide +kernel) rfl
theorem jmf_16 : j_mf 16 := j_mchk_ok (c1 := 1) (o1 := 9) (c2 := 1) (o2 := 164) (c3 := 0) (o3 := 0) (c4 := 1) (o4 := 165) (by decide +kernel) rfl
theorem jmf_17 : j_mf 17 := j_mchk_ok (c1 := 1) (o1 := 10) (c2 := 1) (o2 := 207) (c3 := 0) (o3 := 0) (c4 := 1) (o4 := 208) (by decide +kernel) rfl
theorem jmf_18 : j_mf 18 := j_mchk_ok (c1 := 1) (o1 := 11) (c2 := 1) (o2 := 213) (c3 := 0) (o3 := 0) (c4 := 1) (o4 := 214) (by decide +kernel) rfl
theorem jmf_19 : j_mf 19 := j_mchk_ok (c1 := 1) (o1 := 12) (c2 := 2) (o2 := 63) (c3 := 0) (o3 := 0) (c4 := 2) (o4 := 64) (by decide +kernel) rfl
theorem jmf_20 : j_mf 20 := j_mchk_ok (c1 := 1) (o1 := 13) (c2 := 2) (o2 := 114) (c3 := 0) (o3 := 0) (c4 := 2) (o4 := 115) (by decide +kernel) rfl
theorem jmf_21 : j_mf 21 := j_mchk_ok (c1 := 1) (o1 := 14) (c2 := 2) (o2 := 134) (c3 := 0) (o3 := 0) (c4 := 2) (o4 := 135) (by decide +kernel) rfl
theorem jmf_22 : j_mf 22 := j_mchk_ok (c1 := 1) (o1 := 15) (c2 := 2) (o2 := 186) (c3 := 0) (o3 := 0) (c4 := 2) (o4 := 187) (by decide +kernel) rfl
theorem jmf_23 : j_mf 23 := j_mchk_ok (c1 := 1) (o1 := 16) (c2 := 2) (o2 := 199) (c3 := 0) (o3 := 0) (c4 := 2) (o4 := 200) (by decide +kernel) rfl
theorem jmf_24 : j_mf 24 := j_mchk_ok (c1 := 1) (o1 := 1) (c2 := 3) (o2 := 21) (c3 := 3) (o3 := 22) (c4 := 3) (o4 := 23) (by decide +kernel) rfl
theorem jmf_25 : j_mf 25 := j_mchk_ok (c1 := 1) (o1 := 1) (c2 := 3) (o2 := 26) (c3 := 0) (o3 := 0) (c4 := 3) (o4 := 27) (by decide +kernel) rfl
theorem jmf_26 : j_mf 26 := j_mchk_ok (c1 := 1) (o1 := 2) (c2 := 3) (o2 := 29) (c3 := 3) (o3 := 30) (c4 := 3) (o4 := 31) (by decide +kernel) rfl
theorem jmf_27 : j_mf 27 := j_mchk_ok (c1 := 1) (o1 := 1) (c2 := 3) (o2 := 33) (c3 := 3) (o3 := 34) (c4 := 3) (o4 := 35) (by decide +kernel) rfl
theorem jmf_28 : j_mf 28 := j_mchk_ok (c1 := 1) (o1 := 1) (c2 := 3) (o2 := 37) (c3 := 3) (o3 := 38) (c4 := 3) (o4 := 39) (by decide +kernel) rfl
theorem jmf_29 : j_mf 29 := j_mchk_ok (c1 := 1) (o1 := 3) (c2 := 3) (o2 := 41) (c3 := 3) (o3 := 42) (c4 := 3) (o4 := 43) (by decide +kernel) rfl
theorem jmf_30 : j_mf 30 := j_mchk_ok (c1 := 1) (o1 := 10) (c2 := 3) (o2 := 45) (c3 := 3) (o3 := 46) (c4 := 3) (o4 := 47) (by decide +kernel) rfl
theorem jmf_31 : j_mf 31 := j_mchk_ok (c1 := 1) (o1 := 18) (c2 := 3) (o2 := 49) (c3 := 0) (o3 := 0) (c4 := 3) (o4 := 50) (by decide +kernel) rfl
theorem jmf_32 : j_mf 32 := j_mchk_ok (c1 := 1) (o1 := 18) (c2 := 3) (o2 := 52) (c3 := 0) (o3 := 0) (c4 := 3) (o4 := 53) (by decide +kernel) rfl
theorem jmf_33 : j_mf 33 := j_mchk_ok (c1 := 1) (o1 := 11) (c2 := 3) (o2 := 55) (c3 := 3) (o3 := 56) (c4 := 3) (o4 := 57) (by decide +kernel) rfl
theorem jmf_34 : j_mf 34 := j_mchk_ok (c1 := 1) (o1 := 2) (c2 := 3) (o2 := 59) (c3 := 3) (o3 := 60) (c4 := 3) (o4 := 61) (by decide +kernel) rfl
theorem jmf_35 : j_mf 35 := j_mchk_ok (c1 := 1) (o1 := 2) (c2 := 3) (o2 := 63) (c3 := 3) (o3 := 64) (c4 := 3) (o4 := 65) (by decide +kernel) rfl
theorem jmf_36 : j_mf 36 := j_mchk_ok (c1 := 1) (o1 := 3) (c2 := 3) (o2 := 68) (c3 := 0) (o3 := 1) (c4 := 3) (o4 := 69) (by decide +kernel) rfl
theorem jmf_37 : j_mf 37 := j_mchk_ok (c1 := 1) (o1 := 2) (c2 := 3) (o2 := 71) (c3 := 3) (o3 := 72) (c4 := 3) (o4 := 73) (by decide +kernel) rfl
theorem jmf_38 : j_mf 38 := j_mchk_ok (c1 := 1) (o1 := 2) (c2 := 3) (o2 := 76) (c3 := 0) (o3 := 0) (c4 := 3) (o4 := 77) (by decide +kernel) rfl
theorem jmf_39 : j_mf 39 := j_mchk_ok (c1 := 1) (o1 := 2) (c2 := 3) (o2 := 79) (c3 := 3) (o3 := 80) (c4 := 3) (o4 := 81) (by decide +kernel) rfl
theorem jmf_40 : j_mf 40 := j_mchk_ok (c1 := 1) (o1 := 2) (c2 := 3) (o2 := 83) (c3 := 0) (o3 := 0) (c4 := 3) (o4 := 84) (by decide +kernel) rfl
theorem jmf_41 : j_mf 41 := j_mchk_ok (c1 := 1) (o1 := 2) (c2 := 3) (o2 := 86) (c3 := 3) (o3 := 87) (c4 := 3) (o4 := 88) (by decide +kernel) rfl
theorem jmf_42 : j_mf 42 := j_mchk_ok (c1 := 1) (o1 := 2) (c2 := 3) (o2 := 90) (c3 := 3) (o3 := 91) (c4 := 3) (o4 := 92) (by decide +kernel) rfl
theorem jmf_43 : j_mf 43 := j_mchk_ok (c1 := 1) (o1 := 10) (c2 := 3) (o2 := 94) (c3 := 3) (o3 := 95) (c4 := 3) (o4 := 96) (by decide +kernel) rfl
theorem jmf_44 : j_mf 44 := j_mchk_ok (c1 := 1) (o1 := 11) (c2 := 3) (o2 := 98) (c3 := 3) (o3 := 99) (c4 := 3) (o4 := 100) (by decide +kernel) rfl
theorem jmf_45 : j_mf 45 := j_mchk_ok (c1 := 1) (o1 := 2) (c2 := 3) (o2 := 102) (c3 := 3) (o3 := 103) (c4 := 3) (o4 := 104) (by decide +kernel) rfl
theorem jmf_46 : j_mf 46 := j_mchk_ok (c1 := 1) (o1 := 3) (c2 := 3) (o2 := 107) (c3 := 0) (o3 := 2) (c4 := 3) (o4 := 108) (by decide +kernel) rfl
theorem jmf_47 : j_mf 47 := j_mchk_ok (c1 := 1) (o1 := 3) (c2 := 3) (o2 := 111) (c3 := 0) (o3 := 3) (c4 := 3) (o4 := 112) (by decide +kernel) rfl
theorem jmf_48 : j_mf 48 := j_mchk_ok (c1 := 1) (o1 := 3) (c2 := 3) (o2 := 115) (c3 := 0) (o3 := 4) (c4 := 3) (o4 := 116) (by decide +kernel) rfl
theorem jmf_49 : j_mf 49 := j_mchk_ok (c1 := 1) (o1 := 2) (c2 := 3) (o2 := 118) (c3 := 3) (o3 := 119) (c4 := 3) (o4 := 120) (by decide +kernel) rfl
theorem jmf_50 : j_mf 50 := j_mchk_ok (c1 := 1) (o1 := 10) (c2 := 3) (o2 := 126) (c3 := 3) (o3 := 127) (c4 := 3) (o4 := 128) (by decide +kernel) rfl
theorem jmf_51 : j_mf 51 := j_mchk_ok (c1 := 1) (o1 := 10) (c2 := 3) (o2 := 130) (c3 := 3) (o3 := 131) (c4 := 3) (o4 := 132) (by decide +kernel) rfl
theorem jmf_52 : j_mf 52 := j_mchk_ok (c1 := 1) (o1 := 10) (c2 := 3) (o2 := 134) (c3 := 3) (o3 := 135) (c4 := 3) (o4 := 136) (by decide +kernel) rfl
theorem jmf_53 : j_mf 53 := j_mchk_ok (c1 := 1) (o1 := 3) (c2 := 3) (o2 := 139) (c3 := 0) (o3 := 5) (c4 := 3) (o4 := 140) (by decide +kernel) rfl
theorem jmf_54 : j_mf 54 := j_mchk_ok (c1 := 1) (o1 := 2) (c2 := 3) (o2 := 142) (c3 := 3) (o3 := 143) (c4 := 3) (o4 := 144) (by decide +kernel) rfl
theorem jmf_55 : j_mf 55 := j_mchk_ok (c1 := 1) (o1 := 3) (c2 := 3) (o2 := 147) (c3 := 0) (o3 := 6) (c4 := 3) (o4 := 148) (by decide +kernel) rfl
theorem jmf_56 : j_mf 56 := j_mchk_ok (c1 := 1) (o1 := 2) (c2 := 3) (o2 := 150) (c3 := 3) (o3 := 151) (c4 := 3) (o4 := 152) (by decide +kernel) rfl
theorem jmf_57 : j_mf 57 := j_mchk_ok (c1 := 1) (o1 := 10) (c2 := 3) (o2 := 154) (c3 := 3) (o3 := 155) (c4 := 3) (o4 := 156) (by decide +kernel) rfl
theorem jmf_58 : j_mf 58 := j_mchk_ok (c1 := 1) (o1 := 3) (c2 := 3) (o2 := 159) (c3 := 0) (o3 := 7) (c4 := 3) (o4 := 160) (by decide +kernel) rfl
theorem jmf_59 : j_mf 59 := j_mchk_ok (c1 := 1) (o1 := 11) (c2 := 3) (o2 := 162) (c3 := 3) (o3 := 163) (c4 := 3) (o4 := 164) (by decide +kernel) rfl
theorem jmf_60 : j_mf 60 := j_mchk_ok (c1 := 1) (o1 := 3) (c2 := 3) (o2 := 168) (c3 := 0) (o3 := 8) (c4 := 3) (o4 := 169) (by decide +kernel) rfl
theorem jmf_61 : j_mf 61 := j_mchk_ok (c1 := 1) (o1 := 11) (c2 := 3) (o2 := 171) (c3 := 3) (o3 := 172) (c4 := 3) (o4 := 173) (by decide +kernel) rfl
theorem jmf_62 : j_mf 62 := j_mchk_ok (c1 := 1) (o1 := 3) (c2 := 3) (o2 := 176) (c3 := 0) (o3 := 9) (c4 := 3) (o4 := 177) (by decide +kernel) rfl
theorem jmf_63 : j_mf 63 := j_mchk_ok (c1 := 1) (o1 := 11) (c2 := 3) (o2 := 179) (c3 := 3) (o3 := 180) (c4 := 3) (o4 := 181) (by decide +kernel) rfl
theorem jmf_64 : j_mf 64 := j_mchk_ok (c1 := 1) (o1 := 3) (c2 := 3) (o2 := 184) (c3 := 0) (o3 := 10) (c4 := 3) (o4 := 185) (by decide +kernel) rfl
theorem jmf_65 : j_mf 65 := j_mchk_ok (c1 := 1) (o1 := 11) (c2 := 3) (o2 := 187) (c3 := 3) (o3 := 188) (c4 := 3) (o4 := 189) (by decide +kernel) rfl
theorem jmf_66 : j_mf 66 := j_mchk_ok (c1 := 1) (o1 := 3) (c2 := 3) (o2 := 192) (c3 := 0) (o3 := 11) (c4 := 3) (o4 := 193) (by decide +kernel) rfl
theorem jmf_67 : j_mf 67 := j_mchk_ok (c1 := 1) (o1 := 10) (c2 := 3) (o2 := 195) (c3 := 3) (o3 := 196) (c4 := 3) (o4 := 197) (by decide +kernel) rfl
theorem jmf_68 : j_mf 68 := j_mchk_ok (c1 := 1) (o1 := 2) (c2 := 3) (o2 := 200) (c3 := 3) (o3 := 201) (c4 := 3) (o4 := 202) (by decide +kernel) rfl
theorem jmf_69 : j_mf 69 := j_mchk_ok (c1 := 1) (o1 := 10) (c2 := 3) (o2 := 204) (c3 := 3) (o3 := 205) (c4 := 3) (o4 := 206) (by decide +kernel) rfl
theorem jmf_70 : j_mf 70 := j_mchk_ok (c1 := 1) (o1 := 11) (c2 := 3) (o2 := 208) (c3 := 3) (o3 := 209) (c4 := 3) (o4 := 210) (by decide +kernel) rfl
theorem jmf_71 : j_mf 71 := j_mchk_ok (c1 := 1) (o1 := 12) (c2 := 3) (o2 := 212) (c3 := 3) (o3 := 213) (c4 := 3) (o4 := 214) (by decide +kernel) rfl
theorem jmf_72 : j_mf 72 := j_mchk_ok (c1 := 1) (o1 := 13) (c2 := 3) (o2 := 216) (c3 := 3) (o3 := 217) (c4 := 3) (o4 := 218) (by decide +kernel) rfl
theorem jmf_73 : j_mf 73 := j_mchk_ok (c1 := 1) (o1 := 14) (c2 := 3) (o2 := 220) (c3 := 3) (o3 := 221) (c4 := 3) (o4 := 222) (by decide +kernel) rfl
theorem jmf_74 : j_mf 74 := j_mchk_ok (c1 := 1) (o1 := 1) (c2 := 3) (o2 := 224) (c3 := 3) (o3 := 225) (c4 := 3) (o4 := 226) (by decide +kernel) rfl
theorem jmf_75 : j_mf 75 := j_mchk_ok (c1 := 1) (o1 := 8) (c2 := 3) (o2 := 228) (c3 := 3) (o3 := 229) (c4 := 3) (o4 := 230) (by decide +kernel) rfl
theorem jmf_76 : j_mf 76 := j_mchk_ok (c1 := 1) (o1 := 8) (c2 := 3) (o2 := 237) (c3 := 0) (o3 := 12) (c4 := 3) (o4 := 238) (by decide +kernel) rfl
theorem jmf_77 : j_mf 77 := j_mchk_ok (c1 := 1) (o1 := 8) (c2 := 4) (o2 := 2) (c3 := 0) (o3 := 13) (c4 := 4) (o4 := 3) (by decide +kernel) rfl
theorem jmf_78 : j_mf 78 := j_mchk_ok (c1 := 1) (o1 := 12) (c2 := 4) (o2 := 5) (c3 := 0) (o3 := 0) (c4 := 4) (o4 := 6) (by decide +kernel) rfl
theorem jmf_79 : j_mf 79 := j_mchk_ok (c1 := 1) (o1 := 8) (c2 := 4) (o2 := 11) (c3 := 0) (o3 := 14) (c4 := 4) (o4 := 12) (by decide +kernel) rfl
theorem jmf_80 : j_mf 80 := j_mchk_ok (c1 := 1) (o1 := 12) (c2 := 4) (o2 := 19) (c3 := 4) (o3 := 20) (c4 := 4) (o4 := 21) (by decide +kernel) rfl
theorem jmf_81 : j_mf 81 := j_mchk_ok (c1 := 1) (o1 := 12) (c2 := 4) (o2 := 23) (c3 := 0) (o3 := 0) (c4 := 4) (o4 := 24) (by decide +kernel) rfl
theorem jmf_82 : j_mf 82 := j_mchk_ok (c1 := 1) (o1 := 12) (c2 := 4) (o2 := 26) (c3 := 4) (o3 := 27) (c4 := 4) (o4 := 28) (by decide +kernel) rfl
theorem jmf_83 : j_mf 83 := j_mchk_ok (c1 := 1) (o1 := 12) (c2 := 4) (o2 := 32) (c3 := 0) (o3 := 15) (c4 := 4) (o4 := 33) (by decide +kernel) rfl
theorem jmf_84 : j_mf 84 := j_mchk_ok (c1 := 1) (o1 := 12) (c2 := 4) (o2 := 36) (c3 := 4) (o3 := 37) (c4 := 4) (o4 := 38) (by decide +kernel) rfl
theorem jmf_85 : j_mf 85 := j_mchk_ok (c1 := 1) (o1 := 10) (c2 := 4) (o2 := 43) (c3 := 4) (o3 := 44) (c4 := 4) (o4 := 45) (by decide +kernel) rfl
theorem jmf_86 : j_mf 86 := j_mchk_ok (c1 := 1) (o1 := 11) (c2 := 4) (o2 := 47) (c3 := 4) (o3 := 48) (c4 := 4) (o4 := 49) (by decide +kernel) rfl
theorem jmf_87 : j_mf 87 := j_mchk_ok (c1 := 1) (o1 := 1) (c2 := 4) (o2 := 53) (c3 := 0) (o3 := 16) (c4 := 4) (o4 := 54) (by decide +kernel) rfl
theorem jmf_88 : j_mf 88 := j_mchk_ok (c1 := 1) (o1 := 13) (c2 := 4) (o2 := 56) (c3 := 4) (o3 := 57) (c4 := 4) (o4 := 58) (by decide +kernel) rfl
theorem jmf_89 : j_mf 89 := j_mchk_ok (c1 := 1) (o1 := 1) (c2 := 4) (o2 := 61) (c3 := 4) (o3 := 62) (c4 := 4) (o4 := 63) (by decide +kernel) rfl
theorem jmf_90 : j_mf 90 := j_mchk_ok (c1 := 1) (o1 := 1) (c2 := 4) (o2 := 65) (c3 := 4) (o3 := 66) (c4 := 4) (o4 := 67) (by decide +kernel) rfl
theorem jmf_91 : j_mf 91 := j_mchk_ok (c1 := 1) (o1 := 10) (c2 := 4) (o2 := 69) (c3 := 4) (o3 := 70) (c4 := 4) (o4 := 71) (by decide +kernel) rfl
theorem jmf_92 : j_mf 92 := j_mchk_ok (c1 := 1) (o1 := 1) (c2 := 4) (o2 := 73) (c3 := 4) (o3 := 74) (c4 := 4) (o4 := 75) (by decide +kernel) rfl
theorem jmf_93 : j_mf 93 := j_mchk_ok (c1 := 1) (o1 := 10) (c2 := 4) (o2 := 77) (c3 := 4) (o3 := 78) (c4 := 4) (o4 := 79) (by decide +kernel) rfl
theorem jmf_94 : j_mf 94 := j_mchk_ok (c1 := 1) (o1 := 1) (c2 := 4) (o2 := 81) (c3 := 4) (o3 := 82) (c4 := 4) (o4 := 83) (by decide +kernel) rfl
theorem jmf_95 : j_mf 95 := j_mchk_ok (c1 := 1) (o1 := 1) (c2 := 4) (o2 := 85) (c3 := 4) (o3 := 86) (c4 := 4) (o4 := 87) (by decide +kernel) rfl
theorem jmf_96 : j_mf 96 := j_mchk_ok (c1 := 1) (o1 := 20) (c2 := 4) (o2 := 89) (c3 := 0) (o3 := 0) (c4 := 4) (o4 := 90) (by decide +kernel) rfl
theorem jmf_97 : j_mf 97 := j_mchk_ok (c1 := 1) (o1 := 12) (c2 := 4) (o2 := 95) (c3 := 4) (o3 := 96) (c4 := 4) (o4 := 97) (by decide +kernel) rfl
theorem jmf_98 : j_mf 98 := j_mchk_ok (c1 := 1) (o1 := 1) (c2 := 4) (o2 := 99) (c3 := 0) (o3 := 0) (c4 := 4) (o4 := 100) (by decide +kernel) rfl
theorem jmf_99 : j_mf 99 := j_mchk_ok (c1 := 1) (o1 := 1) (c2 := 4) (o2 := 103) (c3 := 4) (o3 := 104) (c4 := 4) (o4 := 105) (by decide +kernel) rfl
theorem jmf_100 : j_mf 100 := j_mchk_ok (c1 := 1) (o1 := 10) (c2 := 4) (o2 := 107) (c3 := 4) (o3 := 108) (c4 := 4) (o4 := 109) (by decide +kernel) rfl
theorem jmf_101 : j_mf 101 := j_mchk_ok (c1 := 1) (o1 := 1) (c2 := 4) (o2 := 111) (c3 := 0) (o3 := 0) (c4 := 4) (o4 := 112) (by decide +kernel) rfl
theorem jmf_102 : j_mf 102 := j_mchk_ok (c1 := 1) (o1 := 1) (c2 := 4) (o2 := 114) (c3 := 4) (o3 := 115) (c4 := 4) (o4 := 116) (by decide +kernel) rfl
theorem jmf_103 : j_mf 103 := j_mchk_ok (c1 := 1) (o1 := 12) (c2 := 4) (o2 := 118) (c3 := 4) (o3 := 119) (c4 := 4) (o4 := 120) (by decide +kernel) rfl
theorem jmf_104 : j_mf 104 := j_mchk_ok (c1 := 1) (o1 := 1) (c2 := 4) (o2 := 123) (c3 := 4) (o3 := 124) (c4 := 4) (o4 := 125) (by decide +kernel) rfl
theorem jmf_105 : j_mf 105 := j_mchk_ok (c1 := 1) (o1 := 12) (c2 := 4) (o2 := 127) (c3 := 4) (o3 := 128) (c4 := 4) (o4 := 129) (by decide +kernel) rfl
theorem jmf_106 : j_mf 106 := j_mchk_ok (c1 := 1) (o1 := 12) (c2 := 4) (o2 := 132) (c3 := 0) (o3 := 17) (c4 := 4) (o4 := 133) (by decide +kernel) rfl
theorem jmf_107 : j_mf 107 := j_mchk_ok (c1 := 1) (o1 := 12) (c2 := 4) (o2 := 135) (c3 := 0) (o3 := 0) (c4 := 4) (o4 := 136) (by decide +kernel) rfl
theorem jmf_108 : j_mf 108 := j_mchk_ok (c1 := 1) (o1 := 10) (c2 := 4) (o2 := 138) (c3 := 4) (o3 := 139) (c4 := 4) (o4 := 140) (by decide +kernel) rfl
theorem jmf_109 : j_mf 109 := j_mchk_ok (c1 := 1) (o1 := 12) (c2 := 4) (o2 := 143) (c3 := 0) (o3 := 18) (c4 := 4) (o4 := 144) (by decide +kernel) rfl
theorem jmf_110 : j_mf 110 := j_mchk_ok (c1 := 1) (o1 := 12) (c2 := 4) (o2 := 147) (c3 := 0) (o3 := 19) (c4 := 4) (o4 := 148) (by decide +kernel) rfl
theorem jmf_111 : j_mf 111 := j_mchk_ok (c1 := 1) (o1 := 12) (c2 := 4) (o2 := 151) (c3 := 0) (o3 := 20) (c4 := 4) (o4 := 152) (by decide +kernel) rfl
theorem jmf_112 : j_mf 112 := j_mchk_ok (c1 := 1) (o1 := 12) (c2 := 4) (o2 := 155) (c3 := 0) (o3 := 21) (c4 := 4) (o4 := 156) (by decide +kernel) rfl
theorem jmf_113 : j_mf 113 := j_mchk_ok (c1 := 1) (o1 := 1) (c2 := 4) (o2 := 158) (c3 := 4) (o3 := 159) (c4 := 4) (o4 := 160) (by decide +kernel) rfl
theorem jmf_114 : j_mf 114 := j_mchk_ok (c1 := 1) (o1 := 1) (c2 := 4) (o2 := 162) (c3 := 4) (o3 := 163) (c4 := 4) (o4 := 164) (by decide +kernel) rfl
theorem jmf_115 : j_mf 115 := j_mchk_ok (c1 := 1) (o1 := 1) (c2 := 4) (o2 := 167) (c3 := 0) (o3 := 22) (c4 := 4) (o4 := 168) (by decide +kernel) rfl
theorem jmf_116 : j_mf 116 := j_mchk_ok (c1 := 1) (o1 := 1) (c2 := 4) (o2 := 171) (c3 := 0) (o3 := 23) (c4 := 4) (o4 := 172) (by decide +kernel) rfl
theorem jmf_117 : j_mf 117 := j_mchk_ok (c1 := 1) (o1 := 1) (c2 := 4) (o2 := 175) (c3 := 0) (o3 := 24) (c4 := 4) (o4 := 176) (by decide +kernel) rfl
theorem jmf_118 : j_mf 118 := j_mchk_ok (c1 := 1) (o1 := 1) (c2 := 4) (o2 := 178) (c3 := 4) (o3 := 179) (c4 := 4) (o4 := 180) (by decide +kernel) rfl
theorem jmf_119 : j_mf 119 := j_mchk_ok (c1 := 1) (o1 := 1) (c2 := 4) (o2 := 182) (c3 := 4) (o3 := 183) (c4 := 4) (o4 := 184) (by decide +kernel) rfl
theorem jmf_120 : j_mf 120 := j_mchk_ok (c1 := 1) (o1 := 1) (c2 := 4) (o2 := 186) (c3 := 4) (o3 := 187) (c4 := 4) (o4 := 188) (by decide +kernel) rfl
theorem jmf_121 : j_mf 121 := j_mchk_ok (c1 := 1) (o1 := 13) (c2 := 4) (o2 := 190) (c3 := 4) (o3 := 191) (c4 := 4) (o4 := 192) (by decide +kernel) rfl
theorem jmf_122 : j_mf 122 := j_mchk_ok (c1 := 1) (o1 := 1) (c2 := 4) (o2 := 194) (c3 := 4) (o3 := 195) (c4 := 4) (o4 := 196) (by decide +kernel) rfl
theorem jmf_123 : j_mf 123 := j_mchk_ok (c1 := 1) (o1 := 1) (c2 := 4) (o2 := 199) (c3 := 0) (o3 := 25) (c4 := 4) (o4 := 200) (by decide +kernel) rfl
theorem jmf_124 : j_mf 124 := j_mchk_ok (c1 := 1) (o1 := 1) (c2 := 4) (o2 := 202) (c3 := 4) (o3 := 203) (c4 := 4) (o4 := 204) (by decide +kernel) rfl
theorem jmf_125 : j_mf 125 := j_mchk_ok (c1 := 1) (o1 := 14) (c2 := 4) (o2 := 206) (c3 := 4) (o3 := 207) (c4 := 4) (o4 := 208) (by decide +kernel) rfl
theorem jmf_126 : j_mf 126 := j_mchk_ok (c1 := 1) (o1 := 14) (c2 := 4) (o2 := 211) (c3 := 0) (o3 := 26) (c4 := 4) (o4 := 212) (by decide +kernel) rfl
theorem jmf_127 : j_mf 127 := j_mchk_ok (c1 := 1) (o1 := 14) (c2 := 4) (o2 := 215) (c3 := 0) (o3 := 27) (c4 := 4) (o4 := 216) (by decide +kernel) rfl
theorem jmf_128 : j_mf 128 := j_mchk_ok (c1 := 1) (o1 := 14) (c2 := 4) (o2 := 221) (c3 := 0) (o3 := 28) (c4 := 4) (o4 := 222) (by decide +kernel) rfl
theorem jmf_129 : j_mf 129 := j_mchk_ok (c1 := 1) (o1 := 14) (c2 := 4) (o2 := 225) (c3 := 0) (o3 := 29) (c4 := 4) (o4 := 226) (by decide +kernel) rfl
theorem jmf_130 : j_mf 130 := j_mchk_ok (c1 := 1) (o1 := 14) (c2 := 4) (o2 := 230) (c3 := 0) (o3 := 30) (c4 := 4) (o4 := 231) (by decide +kernel) rfl
theorem jmf_131 : j_mf 131 := j_mchk_ok (c1 := 1) (o1 := 14) (c2 := 4) (o2 := 235) (c3 := 0) (o3 := 31) (c4 := 4) (o4 := 236) (by decide +kernel) rfl
theorem jmf_132 : j_mf 132 := j_mchk_ok (c1 := 1) (o1 := 14) (c2 := 4) (o2 := 239) (c3 := 0) (o3 := 32) (c4 := 5) (o4 := 0) (by decide +kernel) rfl
theorem jmf_133 : j_mf 133 := j_mchk_ok (c1 := 1) (o1 := 14) (c2 := 5) (o2 := 4) (c3 := 0) (o3 := 33) (c4 := 5) (o4 := 5) (by decide +kernel) rfl
theorem jmf_134 : j_mf 134 := j_mchk_ok (c1 := 1) (o1 := 14) (c2 := 5) (o2 := 8) (c3 := 0) (o3 := 34) (c4 := 5) (o4 := 9) (by decide +kernel) rfl
theorem jmf_135 : j_mf 135 := j_mchk_ok (c1 := 1) (o1 := 14) (c2 := 5) (o2 := 12) (c3 := 0) (o3 := 35) (c4 := 5) (o4 := 13) (by decide +kernel) rfl
theorem jmf_136 : j_mf 136 := j_mchk_ok (c1 := 1) (o1 := 14) (c2 := 5) (o2 := 16) (c3 := 0) (o3 := 36) (c4 := 5) (o4 := 17) (by decide +kernel) rfl
theorem jmf_137 : j_mf 137 := j_mchk_ok (c1 := 1) (o1 := 14) (c2 := 5) (o2 := 20) (c3 := 0) (o3 := 37) (c4 := 5) (o4 := 21) (by decide +kernel) rfl
theorem jmf_138 : j_mf 138 := j_mchk_ok (c1 := 1) (o1 := 21) (c2 := 5) (o2 := 23) (c3 := 0) (o3 := 0) (c4 := 5) (o4 := 24) (by decide +kernel) rfl
theorem jmf_139 : j_mf 139 := j_mchk_ok (c1 := 1) (o1 := 21) (c2 := 5) (o2 := 26) (c3 := 0) (o3 := 0) (c4 := 5) (o4 := 27) (by decide +kernel) rfl
theorem jmf_140 : j_mf 140 := j_mchk_ok (c1 := 1) (o1 := 1) (c2 := 5) (o2 := 29) (c3 := 5) (o3 := 30) (c4 := 5) (o4 := 31) (by decide +kernel) rfl
theorem jmf_141 : j_mf 141 := j_mchk_ok (c1 := 1) (o1 := 14) (c2 := 5) (o2 := 33) (c3 := 5) (o3 := 34) (c4 := 5) (o4 := 35) (by decide +kernel) rfl
theorem jmf_142 : j_mf 142 := j_mchk_ok (c1 := 1) (o1 := 1) (c2 := 5) (o2 := 37) (c3 := 5) (o3 := 38) (c4 := 5) (o4 := 39) (by decide +kernel) rfl
theorem jmf_143 : j_mf 143 := j_mchk_ok (c1 := 1) (o1 := 14) (c2 := 5) (o2 := 41) (c3 := 5) (o3 := 42) (c4 := 5) (o4 := 43) (by decide +kernel) rfl
theorem jmf_144 : j_mf 144 := j_mchk_ok (c1 := 1) (o1 := 1) (c2 := 5) (o2 := 47) (c3 := 5) (o3 := 48) (c4 := 5) (o4 := 49) (by decide +kernel) rfl
theorem jmf_145 : j_mf 145 := j_mchk_ok (c1 := 1) (o1 := 15) (c2 := 5) (o2 := 51) (c3 := 5) (o3 := 52) (c4 := 5) (o4 := 53) (by decide +kernel) rfl
theorem jmf_146 : j_mf 146 := j_mchk_ok (c1 := 1) (o1 := 12) (c2 := 5) (o2 := 55) (c3 := 5) (o3 := 56) (c4 := 5) (o4 := 57) (by decide +kernel) rfl
theorem jmf_147 : j_mf 147 := j_mchk_ok (c1 := 1) (o1 := 15) (c2 := 5) (o2 := 60) (c3 := 0) (o3 := 0) (c4 := 5) (o4 := 61) (by decide +kernel) rfl
theorem jmf_148 : j_mf 148 := j_mchk_ok (c1 := 1) (o1 := 21) (c2 := 5) (o2 := 64) (c3 := 0) (o3 := 0) (c4 := 5) (o4 := 65) (by decide +kernel) rfl
theorem jmf_149 : j_mf 149 := j_mchk_ok (c1 := 1) (o1 := 15) (c2 := 5) (o2 := 68) (c3 := 0) (o3 := 38) (c4 := 5) (o4 := 69) (by decide +kernel) rfl
theorem jmf_150 : j_mf 150 := j_mchk_ok (c1 := 1) (o1 := 15) (c2 := 5) (o2 := 71) (c3 := 0) (o3 := 0) (c4 := 5) (o4 := 72) (by decide +kernel) rfl
theorem jmf_151 : j_mf 151 := j_mchk_ok (c1 := 1) (o1 := 1) (c2 := 5) (o2 := 77) (c3 := 5) (o3 := 78) (c4 := 5) (o4 := 79) (by decide +kernel) rfl
theorem jmf_152 : j_mf 152 := j_mchk_ok (c1 := 1) (o1 := 1) (c2 := 5) (o2 := 82) (c3 := 0) (o3 := 0) (c4 := 5) (o4 := 83) (by decide +kernel) rfl
theorem jmf_153 : j_mf 153 := j_mchk_ok (c1 := 1) (o1 := 1) (c2 := 5) (o2 := 85) (c3 := 5) (o3 := 86) (c4 := 5) (o4 := 87) (by decide +kernel) rfl
theorem jmf_154 : j_mf 154 := j_mchk_ok (c1 := 1) (o1 := 1) (c2 := 5) (o2 := 89) (c3 := 5) (o3 := 90) (c4 := 5) (o4 := 91) (by decide +kernel) rfl
theorem jmf_155 : j_mf 155 := j_mchk_ok (c1 := 1) (o1 := 10) (c2 := 5) (o2 := 93) (c3 := 5) (o3 := 94) (c4 := 5) (o4 := 95) (by decide +kernel) rfl
theorem jmf_156 : j_mf 156 := j_mchk_ok (c1 := 1) (o1 := 11) (c2 := 5) (o2 := 97) (c3 := 5) (o3 := 98) (c4 := 5) (o4 := 99) (by decide +kernel) rfl
theorem jmf_157 : j_mf 157 := j_mchk_ok (c1 := 1) (o1 := 1) (c2 := 5) (o2 := 102) (c3 := 5) (o3 := 103) (c4 := 5) (o4 := 104) (by decide +kernel) rfl
theorem jmf_158 : j_mf 158 := j_mchk_ok (c1 := 1) (o1 := 10) (c2 := 5) (o2 := 106) (c3 := 5) (o3 := 107) (c4 := 5) (o4 := 108) (by decide +kernel) rfl
theorem jmf_159 : j_mf 159 := j_mchk_ok (c1 := 1) (o1 := 10) (c2 := 5) (o2 := 111) (c3 := 0) (o3 := 39) (c4 := 5) (o4 := 112) (by decide +kernel) rfl
theorem jmf_160 : j_mf 160 := j_mchk_ok (c1 := 1) (o1 := 1) (c2 := 5) (o2 := 114) (c3 := 5) (o3 := 115) (c4 := 5) (o4 := 116) (by decide +kernel) rfl
theorem jmf_161 : j_mf 161 := j_mchk_ok (c1 := 1) (o1 := 1) (c2 := 5) (o2 := 119) (c3 := 0) (o3 := 40) (c4 := 5) (o4 := 120) (by decide +kernel) rfl
theorem jmf_162 : j_mf 162 := j_mchk_ok (c1 := 1) (o1 := 10) (c2 := 5) (o2 := 122) (c3 := 5) (o3 := 123) (c4 := 5) (o4 := 124) (by decide +kernel) rfl
theorem jmf_163 : j_mf 163 := j_mchk_ok (c1 := 1) (o1 := 1) (c2 := 5) (o2 := 126) (c3 := 5) (o3 := 127) (c4 := 5) (o4 := 128) (by decide +kernel) rfl
theorem jmf_164 : j_mf 164 := j_mchk_ok (c1 := 1) (o1 := 1) (c2 := 5) (o2 := 130) (c3 := 5) (o3 := 131) (c4 := 5) (o4 := 132) (by decide +kernel) rfl
theorem jmf_165 : j_mf 165 := j_mchk_ok (c1 := 1) (o1 := 14) (c2 := 5) (o2 := 134) (c3 := 5) (o3 := 135) (c4 := 5) (o4 := 136) (by decide +kernel) rfl
theorem jmf_166 : j_mf 166 := j_mchk_ok (c1 := 1) (o1 := 1) (c2 := 5) (o2 := 138) (c3 := 5) (o3 := 139) (c4 := 5) (o4 := 140) (by decide +kernel) rfl
theorem jmf_167 : j_mf 167 := j_mchk_ok (c1 := 1) (o1 := 11) (c2 := 5) (o2 := 142) (c3 := 5) (o3 := 143) (c4 := 5) (o4 := 144) (by decide +kernel) rfl
theorem jmf_168 : j_mf 168 := j_mchk_ok (c1 := 1) (o1 := 1) (c2 := 5) (o2 := 146) (c3 := 5) (o3 := 147) (c4 := 5) (o4 := 148) (by decide +kernel) rfl
theorem jmf_169 : j_mf 169 := j_mchk_ok (c1 := 1) (o1 := 1) (c2 := 5) (o2 := 150) (c3 := 5) (o3 := 151) (c4 := 5) (o4 := 152) (by decide +kernel) rfl
theorem jmf_170 : j_mf 170 := j_mchk_ok (c1 := 1) (o1 := 1) (c2 := 5) (o2 := 155) (c3 := 0) (o3 := 41) (c4 := 5) (o4 := 156) (by decide +kernel) rfl
theorem jmf_171 : j_mf 171 := j_mchk_ok (c1 := 1) (o1 := 1) (c2 := 5) (o2 := 162) (c3 := 5) (o3 := 163) (c4 := 5) (o4 := 164) (by decide +kernel) rfl
theorem jmf_172 : j_mf 172 := j_mchk_ok (c1 := 1) (o1 := 9) (c2 := 5) (o2 := 166) (c3 := 5) (o3 := 167) (c4 := 5) (o4 := 168) (by decide +kernel) rfl
theorem jmf_173 : j_mf 173 := j_mchk_ok (c1 := 1) (o1 := 9) (c2 := 5) (o2 := 176) (c3 := 0) (o3 := 42) (c4 := 5) (o4 := 177) (by decide +kernel) rfl
theorem jmf_174 : j_mf 174 := j_mchk_ok (c1 := 1) (o1 := 9) (c2 := 5) (o2 := 180) (c3 := 0) (o3 := 43) (c4 := 5) (o4 := 181) (by decide +kernel) rfl
theorem jmf_175 : j_mf 175 := j_mchk_ok (c1 := 1) (o1 := 9) (c2 := 5) (o2 := 184) (c3 := 0) (o3 := 44) (c4 := 5) (o4 := 185) (by decide +kernel) rfl
theorem jmf_176 : j_mf 176 := j_mchk_ok (c1 := 1) (o1 := 9) (c2 := 5) (o2 := 189) (c3 := 0) (o3 := 45) (c4 := 5) (o4 := 190) (by decide +kernel) rfl
theorem jmf_177 : j_mf 177 := j_mchk_ok (c1 := 1) (o1 := 9) (c2 := 5) (o2 := 193) (c3 := 0) (o3 := 46) (c4 := 5) (o4 := 194) (by decide +kernel) rfl
theorem jmf_178 : j_mf 178 := j_mchk_ok (c1 := 1) (o1 := 9) (c2 := 5) (o2 := 198) (c3 := 0) (o3 := 47) (c4 := 5) (o4 := 199) (by decide +kernel) rfl
theorem jmf_179 : j_mf 179 := j_mchk_ok (c1 := 1) (o1 := 9) (c2 := 5) (o2 := 202) (c3 := 0) (o3 := 48) (c4 := 5) (o4 := 203) (by decide +kernel) rfl
theorem jmf_180 : j_mf 180 := j_mchk_ok (c1 := 1) (o1 := 9) (c2 := 5) (o2 := 206) (c3 := 0) (o3 := 49) (c4 := 5) (o4 := 207) (by decide +kernel) rfl
theorem jmf_181 : j_mf 181 := j_mchk_ok (c1 := 1) (o1 := 9) (c2 := 5) (o2 := 210) (c3 := 0) (o3 := 50) (c4 := 5) (o4 := 211) (by decide +kernel) rfl
theorem jmf_182 : j_mf 182 := j_mchk_ok (c1 := 1) (o1 := 9) (c2 := 5) (o2 := 214) (c3 := 0) (o3 := 51) (c4 := 5) (o4 := 215) (by decide +kernel) rfl
theorem jmf_183 : j_mf 183 := j_mchk_ok (c1 := 1) (o1 := 9) (c2 := 5) (o2 := 218) (c3 := 0) (o3 := 52) (c4 := 5) (o4 := 219) (by decide +kernel) rfl
theorem jmf_184 : j_mf 184 := j_mchk_ok (c1 := 1) (o1 := 9) (c2 := 5) (o2 := 222) (c3 := 0) (o3 := 53) (c4 := 5) (o4 := 223) (by decide +kernel) rfl
theorem jmf_185 : j_mf 185 := j_mchk_ok (c1 := 1) (o1 := 9) (c2 := 5) (o2 := 226) (c3 := 0) (o3 := 54) (c4 := 5) (o4 := 227) (by decide +kernel) rfl
theorem jmf_186 : j_mf 186 := j_mchk_ok (c1 := 1) (o1 := 9) (c2 := 5) (o2 := 231) (c3 := 0) (o3 := 55) (c4 := 5) (o4 := 232) (by decide +kernel) rfl
theorem jmf_187 : j_mf 187 := j_mchk_ok (c1 := 1) (o1 := 9) (c2 := 5) (o2 := 235) (c3 := 0) (o3 := 56) (c4 := 5) (o4 := 236) (by decide +kernel) rfl
theorem jmf_188 : j_mf 188 := j_mchk_ok (c1 := 1) (o1 := 9) (c2 := 5) (o2 := 238) (c3 := 5) (o3 := 239) (c4 := 6) (o4 := 0) (by decide +kernel) rfl
theorem jmf_189 : j_mf 189 := j_mchk_ok (c1 := 1) (o1 := 9) (c2 := 6) (o2 := 4) (c3 := 0) (o3 := 57) (c4 := 6) (o4 := 5) (by decide +kernel) rfl
theorem jmf_190 : j_mf 190 := j_mchk_ok (c1 := 1) (o1 := 9) (c2 := 6) (o2 := 8) (c3 := 0) (o3 := 58) (c4 := 6) (o4 := 9) (by decide +kernel) rfl
theorem jmf_191 : j_mf 191 := j_mchk_ok (c1 := 1) (o1 := 9) (c2 := 6) (o2 := 12) (c3 := 0) (o3 := 59) (c4 := 6) (o4 := 13) (by decide +kernel) rfl
theorem jmf_192 : j_mf 192 := j_mchk_ok (c1 := 1) (o1 := 9) (c2 := 6) (o2 := 19) (c3 := 0) (o3 := 60) (c4 := 6) (o4 := 20) (by decide +kernel) rfl
theorem jmf_193 : j_mf 193 := j_mchk_ok (c1 := 1) (o1 := 9) (c2 := 6) (o2 := 23) (c3 := 0) (o3 := 61) (c4 := 6) (o4 := 24) (by decide +kernel) rfl
theorem jmf_194 : j_mf 194 := j_mchk_ok (c1 := 1) (o1 := 9) (c2 := 6) (o2 := 26) (c3 := 0) (o3 := 0) (c4 := 6) (o4 := 27) (by decide +kernel) rfl
theorem jmf_195 : j_mf 195 := j_mchk_ok (c1 := 1) (o1 := 9) (c2 := 6) (o2 := 29) (c3 := 0) (o3 := 0) (c4 := 6) (o4 := 30) (by decide +kernel) rfl
theorem jmf_196 : j_mf 196 := j_mchk_ok (c1 := 1) (o1 := 21) (c2 := 6) (o2 := 34) (c3 := 0) (o3 := 0) (c4 := 6) (o4 := 35) (by decide +kernel) rfl
theorem jmf_197 : j_mf 197 := j_mchk_ok (c1 := 1) (o1 := 21) (c2 := 6) (o2 := 37) (c3 := 0) (o3 := 0) (c4 := 6) (o4 := 38) (by decide +kernel) rfl
theorem jmf_198 : j_mf 198 := j_mchk_ok (c1 := 1) (o1 := 21) (c2 := 6) (o2 := 40) (c3 := 0) (o3 := 0) (c4 := 6) (o4 := 41) (by decide +kernel) rfl
theorem jmf_199 : j_mf 199 := j_mchk_ok (c1 := 1) (o1 := 9) (c2 := 6) (o2 := 44) (c3 := 0) (o3 := 62) (c4 := 6) (o4 := 45) (by decide +kernel) rfl
theorem jmf_200 : j_mf 200 := j_mchk_ok (c1 := 1) (o1 := 1) (c2 := 6) (o2 := 48) (c3 := 6) (o3 := 49) (c4 := 6) (o4 := 50) (by decide +kernel) rfl
theorem jmf_201 : j_mf 201 := j_mchk_ok (c1 := 1) (o1 := 16) (c2 := 6) (o2 := 52) (c3 := 6) (o3 := 53) (c4 := 6) (o4 := 54) (by decide +kernel) rfl
theorem jmf_202 : j_mf 202 := j_mchk_ok (c1 := 1) (o1 := 16) (c2 := 6) (o2 := 57) (c3 := 0) (o3 := 63) (c4 := 6) (o4 := 58) (by decide +kernel) rfl
theorem jmf_203 : j_mf 203 := j_mchk_ok (c1 := 1) (o1 := 16) (c2 := 6) (o2 := 61) (c3 := 0) (o3 := 64) (c4 := 6) (o4 := 62) (by decide +kernel) rfl
theorem jmf_204 : j_mf 204 := j_mchk_ok (c1 := 1) (o1 := 16) (c2 := 6) (o2 := 64) (c3 := 0) (o3 := 0) (c4 := 6) (o4 := 65) (by decide +kernel) rfl
theorem jmf_205 : j_mf 205 := j_mchk_ok (c1 := 1) (o1 := 1) (c2 := 6) (o2 := 67) (c3 := 6) (o3 := 68) (c4 := 6) (o4 := 69) (by decide +kernel) rfl
theorem jmf_206 : j_mf 206 := j_mchk_ok (c1 := 1) (o1 := 1) (c2 := 6) (o2 := 71) (c3 := 6) (o3 := 72) (c4 := 6) (o4 := 73) (by decide +kernel) rfl
theorem jmf_207 : j_mf 207 := j_mchk_ok (c1 := 1) (o1 := 1) (c2 := 6) (o2 := 76) (c3 := 0) (o3 := 65) (c4 := 6) (o4 := 77) (by decide +kernel) rfl
theorem jmf_208 : j_mf 208 := j_mchk_ok (c1 := 1) (o1 := 12) (c2 := 6) (o2 := 79) (c3 := 6) (o3 := 80) (c4 := 6) (o4 := 81) (by decide +kernel) rfl
theorem jmf_209 : j_mf 209 := j_mchk_ok (c1 := 1) (o1 := 12) (c2 := 6) (o2 := 88) (c3 := 6) (o3 := 89) (c4 := 6) (o4 := 90) (by decide +kernel) rfl
theorem jmf_210 : j_mf 210 := j_mchk_ok (c1 := 1) (o1 := 1) (c2 := 6) (o2 := 92) (c3 := 6) (o3 := 93) (c4 := 6) (o4 := 94) (by decide +kernel) rfl
theorem jmf_211 : j_mf 211 := j_mchk_ok (c1 := 1) (o1 := 17) (c2 := 6) (o2 := 98) (c3 := 0) (o3 := 0) (c4 := 6) (o4 := 99) (by decide +kernel) rfl
theorem jmf_212 : j_mf 212 := j_mchk_ok (c1 := 1) (o1 := 17) (c2 := 7) (o2 := 158) (c3 := 7) (o3 := 159) (c4 := 7) (o4 := 160) (by decide +kernel) rfl
theorem jmf_213 : j_mf 213 := j_mchk_ok (c1 := 1) (o1 := 17) (c2 := 7) (o2 := 162) (c3 := 7) (o3 := 163) (c4 := 7) (o4 := 164) (by decide +kernel) rfl
theorem jmf_214 : j_mf 214 := j_mchk_ok (c1 := 1) (o1 := 17) (c2 := 7) (o2 := 166) (c3 := 7) (o3 := 167) (c4 := 7) (o4 := 168) (by decide +kernel) rfl
theorem jmf_215 : j_mf 215 := j_mchk_ok (c1 := 1) (o1 := 17) (c2 := 7) (o2 := 171) (c3 := 0) (o3 := 66) (c4 := 7) (o4 := 172) (by decide +kernel) rfl
theorem jmf_216 : j_mf 216 := j_mchk_ok (c1 := 1) (o1 := 17) (c2 := 7) (o2 := 175) (c3 := 0) (o3 := 67) (c4 := 7) (o4 := 176) (by decide +kernel) rfl
theorem jmf_217 : j_mf 217 := j_mchk_ok (c1 := 1) (o1 := 17) (c2 := 7) (o2 := 179) (c3 := 0) (o3 := 68) (c4 := 7) (o4 := 180) (by decide +kernel) rfl
theorem jmf_218 : j_mf 218 := j_mchk_ok (c1 := 1) (o1 := 17) (c2 := 7) (o2 := 183) (c3 := 0) (o3 := 69) (c4 := 7) (o4 := 184) (by decide +kernel) rfl
theorem jmf_219 : j_mf 219 := j_mchk_ok (c1 := 1) (o1 := 17) (c2 := 7) (o2 := 187) (c3 := 0) (o3 := 70) (c4 := 7) (o4 := 188) (by decide +kernel) rfl
theorem jmf_220 : j_mf 220 := j_mchk_ok (c1 := 1) (o1 := 17) (c2 := 7) (o2 := 191) (c3 := 0) (o3 := 71) (c4 := 7) (o4 := 192) (by decide +kernel) rfl
theorem jmf_221 : j_mf 221 := j_mchk_ok (c1 := 1) (o1 := 17) (c2 := 7) (o2 := 194) (c3 := 0) (o3 := 0) (c4 := 7) (o4 := 195) (by decide +kernel) rfl
theorem jmf_222 : j_mf 222 := j_mchk_ok (c1 := 1) (o1 := 17) (c2 := 7) (o2 := 198) (c3 := 0) (o3 := 72) (c4 := 7) (o4 := 199) (by decide +kernel) rfl
theorem jmf_223 : j_mf 223 := j_mchk_ok (c1 := 1) (o1 := 17) (c2 := 7) (o2 := 202) (c3 := 0) (o3 := 73) (c4 := 7) (o4 := 203) (by decide +kernel) rfl
theorem jmf_224 : j_mf 224 := j_mchk_ok (c1 := 1) (o1 := 17) (c2 := 7) (o2 := 206) (c3 := 0) (o3 := 74) (c4 := 7) (o4 := 207) (by decide +kernel) rfl
theorem jmf_225 : j_mf 225 := j_mchk_ok (c1 := 1) (o1 := 17) (c2 := 7) (o2 := 210) (c3 := 0) (o3 := 75) (c4 := 7) (o4 := 211) (by decide +kernel) rfl
theorem jmf_226 : j_mf 226 := j_mchk_ok (c1 := 1) (o1 := 17) (c2 := 7) (o2 := 214) (c3 := 0) (o3 := 76) (c4 := 7) (o4 := 215) (by decide +kernel) rfl
theorem jmf_227 : j_mf 227 := j_mchk_ok (c1 := 1) (o1 := 17) (c2 := 7) (o2 := 220) (c3 := 0) (o3 := 77) (c4 := 7) (o4 := 221) (by decide +kernel) rfl
theorem jmf_228 : j_mf 228 := j_mchk_ok (c1 := 1) (o1 := 17) (c2 := 7) (o2 := 224) (c3 := 0) (o3 := 78) (c4 := 7) (o4 := 225) (by decide +kernel) rfl
theorem jmf_229 : j_mf 229 := j_mchk_ok (c1 := 1) (o1 := 17) (c2 := 7) (o2 := 228) (c3 := 0) (o3 := 79) (c4 := 7) (o4 := 229) (by decide +kernel) rfl
theorem jmf_230 : j_mf 230 := j_mchk_ok (c1 := 1) (o1 := 17) (c2 := 7) (o2 := 232) (c3 := 0) (o3 := 80) (c4 := 7) (o4 := 233) (by decide +kernel) rfl
theorem jmf_231 : j_mf 231 := j_mchk_ok (c1 := 1) (o1 := 17) (c2 := 7) (o2 := 235) (c3 := 0) (o3 := 0) (c4 := 7) (o4 := 236) (by decide +kernel) rfl
theorem jmf_232 : j_mf 232 := j_mchk_ok (c1 := 1) (o1 := 17) (c2 := 7) (o2 := 238) (c3 := 0) (o3 := 0) (c4 := 7) (o4 := 239) (by decide +kernel) rfl
theorem jmf_233 : j_mf 233 := j_mchk_ok (c1 := 1) (o1 := 17) (c2 := 8) (o2 := 2) (c3 := 0) (o3 := 81) (c4 := 8) (o4 := 3) (by decide +kernel) rfl
theorem jmf_234 : j_mf 234 := j_mchk_ok (c1 := 1) (o1 := 17) (c2 := 8) (o2 := 6) (c3 := 0) (o3 := 82) (c4 := 8) (o4 := 7) (by decide +kernel) rfl
theorem jmf_235 : j_mf 235 := j_mchk_ok (c1 := 1) (o1 := 17) (c2 := 8) (o2 := 10) (c3 := 0) (o3 := 83) (c4 := 8) (o4 := 11) (by decide +kernel) rfl
theorem jmf_236 : j_mf 236 := j_mchk_ok (c1 := 1) (o1 := 17) (c2 := 8) (o2 := 13) (c3 := 0) (o3 := 0) (c4 := 8) (o4 := 14) (by decide +kernel) rfl
theorem jmf_237 : j_mf 237 := j_mchk_ok (c1 := 1) (o1 := 17) (c2 := 8) (o2 := 17) (c3 := 0) (o3 := 84) (c4 := 8) (o4 := 18) (by decide +kernel) rfl
theorem jmf_238 : j_mf 238 := j_mchk_ok (c1 := 1) (o1 := 17) (c2 := 8) (o2 := 21) (c3 := 0) (o3 := 85) (c4 := 8) (o4 := 22) (by decide +kernel) rfl
theorem jmf_239 : j_mf 239 := j_mchk_ok (c1 := 1) (o1 := 17) (c2 := 8) (o2 := 25) (c3 := 0) (o3 := 86) (c4 := 8) (o4 := 26) (by decide +kernel) rfl
theorem jmf_240 : j_mf 240 := j_mchk_ok (c1 := 1) (o1 := 17) (c2 := 8) (o2 := 29) (c3 := 0) (o3 := 87) (c4 := 8) (o4 := 30) (by decide +kernel) rfl
theorem jmf_241 : j_mf 241 := j_mchk_ok (c1 := 1) (o1 := 17) (c2 := 8) (o2 := 33) (c3 := 0) (o3 := 88) (c4 := 8) (o4 := 34) (by decide +kernel) rfl
theorem jmf_242 : j_mf 242 := j_mchk_ok (c1 := 1) (o1 := 17) (c2 := 8) (o2 := 37) (c3 := 0) (o3 := 89) (c4 := 8) (o4 := 38) (by decide +kernel) rfl
theorem jmf_243 : j_mf 243 := j_mchk_ok (c1 := 1) (o1 := 17) (c2 := 8) (o2 := 41) (c3 := 0) (o3 := 90) (c4 := 8) (o4 := 42) (by decide +kernel) rfl
theorem jmf_244 : j_mf 244 := j_mchk_ok (c1 := 1) (o1 := 17) (c2 := 8) (o2 := 45) (c3 := 0) (o3 := 91) (c4 := 8) (o4 := 46) (by decide +kernel) rfl
theorem jmf_245 : j_mf 245 := j_mchk_ok (c1 := 1) (o1 := 17) (c2 := 8) (o2 := 49) (c3 := 0) (o3 := 92) (c4 := 8) (o4 := 50) (by decide +kernel) rfl
theorem jmf_246 : j_mf 246 := j_mchk_ok (c1 := 1) (o1 := 17) (c2 := 8) (o2 := 53) (c3 := 0) (o3 := 93) (c4 := 8) (o4 := 54) (by decide +kernel) rfl
theorem jmf_247 : j_mf 247 := j_mchk_ok (c1 := 1) (o1 := 17) (c2 := 8) (o2 := 57) (c3 := 0) (o3 := 94) (c4 := 8) (o4 := 58) (by decide +kernel) rfl
theorem jmf_248 : j_mf 248 := j_mchk_ok (c1 := 1) (o1 := 17) (c2 := 8) (o2 := 61) (c3 := 0) (o3 := 95) (c4 := 8) (o4 := 62) (by decide +kernel) rfl
theorem jmf_249 : j_mf 249 := j_mchk_ok (c1 := 1) (o1 := 17) (c2 := 8) (o2 := 66) (c3 := 0) (o3 := 96) (c4 := 8) (o4 := 67) (by decide +kernel) rfl
theorem jmf_250 : j_mf 250 := j_mchk_ok (c1 := 1) (o1 := 17) (c2 := 8) (o2 := 70) (c3 := 0) (o3 := 97) (c4 := 8) (o4 := 71) (by decide +kernel) rfl
theorem jmf_251 : j_mf 251 := j_mchk_ok (c1 := 1) (o1 := 17) (c2 := 8) (o2 := 73) (c3 := 8) (o3 := 74) (c4 := 8) (o4 := 75) (by decide +kernel) rfl
theorem jmf_252 : j_mf 252 := j_mchk_ok (c1 := 1) (o1 := 17) (c2 := 8) (o2 := 78) (c3 := 0) (o3 := 98) (c4 := 8) (o4 := 79) (by decide +kernel) rfl
theorem jmf_253 : j_mf 253 := j_mchk_ok (c1 := 1) (o1 := 17) (c2 := 8) (o2 := 82) (c3 := 0) (o3 := 99) (c4 := 8) (o4 := 83) (by decide +kernel) rfl
theorem jmf_254 : j_mf 254 := j_mchk_ok (c1 := 1) (o1 := 17) (c2 := 8) (o2 := 86) (c3 := 0) (o3 := 100) (c4 := 8) (o4 := 87) (by decide +kernel) rfl
theorem jmf_255 : j_mf 255 := j_mchk_ok (c1 := 1) (o1 := 17) (c2 := 8) (o2 := 90) (c3 := 0) (o3 := 101) (c4 := 8) (o4 := 91) (by decide +kernel) rfl
theorem jmf_256 : j_mf 256 := j_mchk_ok (c1 := 1) (o1 := 17) (c2 := 8) (o2 := 94) (c3 := 0) (o3 := 102) (c4 := 8) (o4 := 95) (by decide +kernel) rfl
theorem jmf_257 : j_mf 257 := j_mchk_ok (c1 := 1) (o1 := 17) (c2 := 8) (o2 := 98) (c3 := 0) (o3 := 103) (c4 := 8) (o4 := 99) (by decide +kernel) rfl
theorem jmf_258 : j_mf 258 := j_mchk_ok (c1 := 1) (o1 := 17) (c2 := 8) (o2 := 102) (c3 := 0) (o3 := 104) (c4 := 8) (o4 := 103) (by decide +kernel) rfl
theorem jmf_259 : j_mf 259 := j_mchk_ok (c1 := 1) (o1 := 17) (c2 := 8) (o2 := 106) (c3 := 0) (o3 := 105) (c4 := 8) (o4 := 107) (by decide +kernel) rfl
theorem jmf_260 : j_mf 260 := j_mchk_ok (c1 := 1) (o1 := 17) (c2 := 8) (o2 := 110) (c3 := 0) (o3 := 106) (c4 := 8) (o4 := 111) (by decide +kernel) rfl
theorem jmf_261 : j_mf 261 := j_mchk_ok (c1 := 1) (o1 := 17) (c2 := 8) (o2 := 114) (c3 := 0) (o3 := 107) (c4 := 8) (o4 := 115) (by decide +kernel) rfl
theorem jmf_262 : j_mf 262 := j_mchk_ok (c1 := 1) (o1 := 17) (c2 := 8) (o2 := 118) (c3 := 0) (o3 := 108) (c4 := 8) (o4 := 119) (by decide +kernel) rfl
theorem jmf_263 : j_mf 263 := j_mchk_ok (c1 := 1) (o1 := 17) (c2 := 8) (o2 := 122) (c3 := 0) (o3 := 109) (c4 := 8) (o4 := 123) (by decide +kernel) rfl
theorem jmf_264 : j_mf 264 := j_mchk_ok (c1 := 1) (o1 := 17) (c2 := 8) (o2 := 125) (c3 := 8) (o3 := 126) (c4 := 8) (o4 := 127) (by decide +kernel) rfl
theorem jmf_265 : j_mf 265 := j_mchk_ok (c1 := 1) (o1 := 17) (c2 := 8) (o2 := 129) (c3 := 8) (o3 := 130) (c4 := 8) (o4 := 131) (by decide +kernel) rfl
theorem jmf_266 : j_mf 266 := j_mchk_ok (c1 := 1) (o1 := 17) (c2 := 8) (o2 := 133) (c3 := 8) (o3 := 134) (c4 := 8) (o4 := 135) (by decide +kernel) rfl
theorem jmf_267 : j_mf 267 := j_mchk_ok (c1 := 1) (o1 := 17) (c2 := 8) (o2 := 138) (c3 := 0) (o3 := 110) (c4 := 8) (o4 := 139) (by decide +kernel) rfl
theorem jmf_268 : j_mf 268 := j_mchk_ok (c1 := 1) (o1 := 17) (c2 := 8) (o2 := 143) (c3 := 8) (o3 := 144) (c4 := 8) (o4 := 145) (by decide +kernel) rfl
theorem jmf_269 : j_mf 269 := j_mchk_ok (c1 := 1) (o1 := 17) (c2 := 8) (o2 := 147) (c3 := 0) (o3 := 0) (c4 := 8) (o4 := 148) (by decide +kernel) rfl
theorem jmf_270 : j_mf 270 := j_mchk_ok (c1 := 1) (o1 := 17) (c2 := 8) (o2 := 150) (c3 := 8) (o3 := 151) (c4 := 8) (o4 := 152) (by decide +kernel) rfl
theorem jmf_271 : j_mf 271 := j_mchk_ok (c1 := 1) (o1 := 17) (c2 := 8) (o2 := 155) (c3 := 0) (o3 := 111) (c4 := 8) (o4 := 156) (by decide +kernel) rfl
theorem jmf_272 : j_mf 272 := j_mchk_ok (c1 := 1) (o1 := 17) (c2 := 8) (o2 := 159) (c3 := 0) (o3 := 112) (c4 := 8) (o4 := 160) (by decide +kernel) rfl
theorem jmf_273 : j_mf 273 := j_mchk_ok (c1 := 1) (o1 := 17) (c2 := 8) (o2 := 162) (c3 := 0) (o3 := 0) (c4 := 8) (o4 := 163) (by decide +kernel) rfl
theorem jmf_274 : j_mf 274 := j_mchk_ok (c1 := 1) (o1 := 17) (c2 := 8) (o2 := 166) (c3 := 0) (o3 := 113) (c4 := 8) (o4 := 167) (by decide +kernel) rfl
theorem jmf_275 : j_mf 275 := j_mchk_ok (c1 := 1) (o1 := 17) (c2 := 8) (o2 := 169) (c3 := 8) (o3 := 170) (c4 := 8) (o4 := 171) (by decide +kernel) rfl
theorem jmf_276 : j_mf 276 := j_mchk_ok (c1 := 1) (o1 := 17) (c2 := 8) (o2 := 174) (c3 := 0) (o3 := 114) (c4 := 8) (o4 := 175) (by decide +kernel) rfl
theorem jmf_277 : j_mf 277 := j_mchk_ok (c1 := 1) (o1 := 17) (c2 := 8) (o2 := 178) (c3 := 0) (o3 := 115) (c4 := 8) (o4 := 179) (by decide +kernel) rfl
theorem jmf_278 : j_mf 278 := j_mchk_ok (c1 := 1) (o1 := 17) (c2 := 8) (o2 := 181) (c3 := 8) (o3 := 182) (c4 := 8) (o4 := 183) (by decide +kernel) rfl
theorem jmf_279 : j_mf 279 := j_mchk_ok (c1 := 1) (o1 := 17) (c2 := 8) (o2 := 185) (c3 := 8) (o3 := 186) (c4 := 8) (o4 := 187) (by decide +kernel) rfl
theorem jmf_280 : j_mf 280 := j_mchk_ok (c1 := 1) (o1 := 17) (c2 := 8) (o2 := 190) (c3 := 0) (o3 := 116) (c4 := 8) (o4 := 191) (by decide +kernel) rfl
theorem jmf_281 : j_mf 281 := j_mchk_ok (c1 := 1) (o1 := 17) (c2 := 8) (o2 := 194) (c3 := 0) (o3 := 117) (c4 := 8) (o4 := 195) (by decide +kernel) rfl
theorem jmf_282 : j_mf 282 := j_mchk_ok (c1 := 1) (o1 := 17) (c2 := 8) (o2 := 198) (c3 := 0) (o3 := 118) (c4 := 8) (o4 := 199) (by decide +kernel) rfl
theorem jmf_283 : j_mf 283 := j_mchk_ok (c1 := 1) (o1 := 17) (c2 := 8) (o2 := 202) (c3 := 0) (o3 := 119) (c4 := 8) (o4 := 203) (by decide +kernel) rfl
theorem jmf_284 : j_mf 284 := j_mchk_ok (c1 := 1) (o1 := 17) (c2 := 8) (o2 := 205) (c3 := 8) (o3 := 206) (c4 := 8) (o4 := 207) (by decide +kernel) rfl
theorem jmf_285 : j_mf 285 := j_mchk_ok (c1 := 1) (o1 := 17) (c2 := 8) (o2 := 209) (c3 := 8) (o3 := 210) (c4 := 8) (o4 := 211) (by decide +kernel) rfl
theorem jmf_286 : j_mf 286 := j_mchk_ok (c1 := 1) (o1 := 17) (c2 := 8) (o2 := 213) (c3 := 8) (o3 := 214) (c4 := 8) (o4 := 215) (by decide +kernel) rfl
theorem jmf_287 : j_mf 287 := j_mchk_ok (c1 := 1) (o1 := 17) (c2 := 8) (o2 := 218) (c3 := 0) (o3 := 120) (c4 := 8) (o4 := 219) (by decide +kernel) rfl
theorem jmf_288 : j_mf 288 := j_mchk_ok (c1 := 1) (o1 := 17) (c2 := 8) (o2 := 222) (c3 := 0) (o3 := 121) (c4 := 8) (o4 := 223) (by decide +kernel) rfl
theorem jmf_289 : j_mf 289 := j_mchk_ok (c1 := 1) (o1 := 17) (c2 := 8) (o2 := 227) (c3 := 0) (o3 := 122) (c4 := 8) (o4 := 228) (by decide +kernel) rfl
theorem jmf_290 : j_mf 290 := j_mchk_ok (c1 := 1) (o1 := 17) (c2 := 8) (o2 := 231) (c3 := 0) (o3 := 123) (c4 := 8) (o4 := 232) (by decide +kernel) rfl
theorem jmf_291 : j_mf 291 := j_mchk_ok (c1 := 1) (o1 := 17) (c2 := 8) (o2 := 234) (c3 := 8) (o3 := 235) (c4 := 8) (o4 := 236) (by decide +kernel) rfl
theorem jmf_292 : j_mf 292 := j_mchk_ok (c1 := 1) (o1 := 17) (c2 := 8) (o2 := 238) (c3 := 8) (o3 := 239) (c4 := 9) (o4 := 0) (by decide +kernel) rfl
theorem jmf_293 : j_mf 293 := j_mchk_ok (c1 := 1) (o1 := 17) (c2 := 9) (o2 := 2) (c3 := 9) (o3 := 3) (c4 := 9) (o4 := 4) (by decide +kernel) rfl
theorem jmf_294 : j_mf 294 := j_mchk_ok (c1 := 1) (o1 := 17) (c2 := 9) (o2 := 7) (c3 := 9) (o3 := 8) (c4 := 9) (o4 := 9) (by decide +kernel) rfl
theorem jmf_295 : j_mf 295 := j_mchk_ok (c1 := 1) (o1 := 17) (c2 := 9) (o2 := 13) (c3 := 0) (o3 := 124) (c4 := 9) (o4 := 14) (by decide +kernel) rfl
theorem jmf_296 : j_mf 296 := j_mchk_ok (c1 := 1) (o1 := 17) (c2 := 9) (o2 := 17) (c3 := 0) (o3 := 125) (c4 := 9) (o4 := 18) (by decide +kernel) rfl
theorem jmf_297 : j_mf 297 := j_mchk_ok (c1 := 1) (o1 := 17) (c2 := 9) (o2 := 20) (c3 := 9) (o3 := 21) (c4 := 9) (o4 := 22) (by decide +kernel) rfl
theorem jmf_298 : j_mf 298 := j_mchk_ok (c1 := 1) (o1 := 17) (c2 := 9) (o2 := 24) (c3 := 9) (o3 := 25) (c4 := 9) (o4 := 26) (by decide +kernel) rfl
theorem jmf_299 : j_mf 299 := j_mchk_ok (c1 := 1) (o1 := 17) (c2 := 9) (o2 := 29) (c3 := 0) (o3 := 126) (c4 := 9) (o4 := 30) (by decide +kernel) rfl
theorem jmf_300 : j_mf 300 := j_mchk_ok (c1 := 1) (o1 := 17) (c2 := 9) (o2 := 33) (c3 := 0) (o3 := 127) (c4 := 9) (o4 := 34) (by decide +kernel) rfl
theorem jmf_301 : j_mf 301 := j_mchk_ok (c1 := 1) (o1 := 17) (c2 := 9) (o2 := 36) (c3 := 9) (o3 := 37) (c4 := 9) (o4 := 38) (by decide +kernel) rfl
theorem jmf_302 : j_mf 302 := j_mchk_ok (c1 := 1) (o1 := 17) (c2 := 9) (o2 := 41) (c3 := 0) (o3 := 128) (c4 := 9) (o4 := 42) (by decide +kernel) rfl
theorem jmf_303 : j_mf 303 := j_mchk_ok (c1 := 1) (o1 := 17) (c2 := 9) (o2 := 45) (c3 := 0) (o3 := 129) (c4 := 9) (o4 := 46) (by decide +kernel) rfl
theorem jmf_304 : j_mf 304 := j_mchk_ok (c1 := 1) (o1 := 17) (c2 := 9) (o2 := 49) (c3 := 0) (o3 := 130) (c4 := 9) (o4 := 50) (by decide +kernel) rfl
theorem jmf_305 : j_mf 305 := j_mchk_ok (c1 := 1) (o1 := 17) (c2 := 9) (o2 := 52) (c3 := 0) (o3 := 0) (c4 := 9) (o4 := 53) (by decide +kernel) rfl
theorem jmf_306 : j_mf 306 := j_mchk_ok (c1 := 1) (o1 := 17) (c2 := 9) (o2 := 56) (c3 := 0) (o3 := 131) (c4 := 9) (o4 := 57) (by decide +kernel) rfl
theorem jmf_307 : j_mf 307 := j_mchk_ok (c1 := 1) (o1 := 17) (c2 := 9) (o2 := 60) (c3 := 0) (o3 := 132) (c4 := 9) (o4 := 61) (by decide +kernel) rfl
theorem jmf_308 : j_mf 308 := j_mchk_ok (c1 := 1) (o1 := 17) (c2 := 9) (o2 := 63) (c3 := 9) (o3 := 64) (c4 := 9) (o4 := 65) (by decide +kernel) rfl
theorem jmf_309 : j_mf 309 := j_mchk_ok (c1 := 1) (o1 := 17) (c2 := 9) (o2 := 67) (c3 := 0) (o3 := 0) (c4 := 9) (o4 := 68) (by decide +kernel) rfl
theorem jmf_310 : j_mf 310 := j_mchk_ok (c1 := 1) (o1 := 17) (c2 := 9) (o2 := 70) (c3 := 9) (o3 := 71) (c4 := 9) (o4 := 72) (by decide +kernel) rfl
theorem jmf_311 : j_mf 311 := j_mchk_ok (c1 := 1) (o1 := 17) (c2 := 9) (o2 := 74) (c3 := 9) (o3 := 75) (c4 := 9) (o4 := 76) (by decide +kernel) rfl
theorem jmf_312 : j_mf 312 := j_mchk_ok (c1 := 1) (o1 := 17) (c2 := 9) (o2 := 79) (c3 := 0) (o3 := 133) (c4 := 9) (o4 := 80) (by decide +kernel) rfl
theorem jmf_313 : j_mf 313 := j_mchk_ok (c1 := 1) (o1 := 17) (c2 := 9) (o2 := 83) (c3 := 0) (o3 := 134) (c4 := 9) (o4 := 84) (by decide +kernel) rfl
theorem jmf_314 : j_mf 314 := j_mchk_ok (c1 := 1) (o1 := 17) (c2 := 9) (o2 := 86) (c3 := 9) (o3 := 87) (c4 := 9) (o4 := 88) (by decide +kernel) rfl
theorem jmf_315 : j_mf 315 := j_mchk_ok (c1 := 1) (o1 := 17) (c2 := 9) (o2 := 91) (c3 := 0) (o3 := 135) (c4 := 9) (o4 := 92) (by decide +kernel) rfl
theorem jmf_316 : j_mf 316 := j_mchk_ok (c1 := 1) (o1 := 17) (c2 := 9) (o2 := 94) (c3 := 9) (o3 := 95) (c4 := 9) (o4 := 96) (by decide +kernel) rfl
theorem jmf_317 : j_mf 317 := j_mchk_ok (c1 := 1) (o1 := 17) (c2 := 9) (o2 := 99) (c3 := 0) (o3 := 136) (c4 := 9) (o4 := 100) (by decide +kernel) rfl
theorem jmf_318 : j_mf 318 := j_mchk_ok (c1 := 1) (o1 := 17) (c2 := 9) (o2 := 103) (c3 := 0) (o3 := 137) (c4 := 9) (o4 := 104) (by decide +kernel) rfl
theorem jmf_319 : j_mf 319 := j_mchk_ok (c1 := 1) (o1 := 17) (c2 := 9) (o2 := 106) (c3 := 9) (o3 := 107) (c4 := 9) (o4 := 108) (by decide +kernel) rfl
theorem jmf_320 : j_mf 320 := j_mchk_ok (c1 := 1) (o1 := 17) (c2 := 9) (o2 := 111) (c3 := 9) (o3 := 112) (c4 := 9) (o4 := 113) (by decide +kernel) rfl
theorem jmf_321 : j_mf 321 := j_mchk_ok (c1 := 1) (o1 := 17) (c2 := 9) (o2 := 115) (c3 := 9) (o3 := 116) (c4 := 9) (o4 := 117) (by decide +kernel) rfl
theorem jmf_322 : j_mf 322 := j_mchk_ok (c1 := 1) (o1 := 17) (c2 := 9) (o2 := 119) (c3 := 9) (o3 := 120) (c4 := 9) (o4 := 121) (by decide +kernel) rfl
theorem jmf_323 : j_mf 323 := j_mchk_ok (c1 := 1) (o1 := 17) (c2 := 9) (o2 := 123) (c3 := 9) (o3 := 124) (c4 := 9) (o4 := 125) (by decide +kernel) rfl
theorem jmf_324 : j_mf 324 := j_mchk_ok (c1 := 1) (o1 := 17) (c2 := 9) (o2 := 131) (c3 := 9) (o3 := 132) (c4 := 9) (o4 := 133) (by decide +kernel) rfl
theorem jmf_325 : j_mf 325 := j_mchk_ok (c1 := 1) (o1 := 17) (c2 := 9) (o2 := 136) (c3 := 0) (o3 := 138) (c4 := 9) (o4 := 137) (by decide +kernel) rfl
theorem jmf_326 : j_mf 326 := j_mchk_ok (c1 := 1) (o1 := 17) (c2 := 9) (o2 := 140) (c3 := 0) (o3 := 139) (c4 := 9) (o4 := 141) (by decide +kernel) rfl
theorem jmf_327 : j_mf 327 := j_mchk_ok (c1 := 1) (o1 := 17) (c2 := 9) (o2 := 144) (c3 := 0) (o3 := 140) (c4 := 9) (o4 := 145) (by decide +kernel) rfl
theorem jmf_328 : j_mf 328 := j_mchk_ok (c1 := 1) (o1 := 17) (c2 := 9) (o2 := 148) (c3 := 0) (o3 := 141) (c4 := 9) (o4 := 149) (by decide +kernel) rfl
theorem jmf_329 : j_mf 329 := j_mchk_ok (c1 := 1) (o1 := 17) (c2 := 9) (o2 := 152) (c3 := 0) (o3 := 142) (c4 := 9) (o4 := 153) (by decide +kernel) rfl
theorem jmf_330 : j_mf 330 := j_mchk_ok (c1 := 1) (o1 := 17) (c2 := 9) (o2 := 156) (c3 := 0) (o3 := 143) (c4 := 9) (o4 := 157) (by decide +kernel) rfl
theorem jmf_331 : j_mf 331 := j_mchk_ok (c1 := 1) (o1 := 17) (c2 := 9) (o2 := 160) (c3 := 0) (o3 := 144) (c4 := 9) (o4 := 161) (by decide +kernel) rfl
theorem jmf_332 : j_mf 332 := j_mchk_ok (c1 := 1) (o1 := 17) (c2 := 9) (o2 := 164) (c3 := 0) (o3 := 145) (c4 := 9) (o4 := 165) (by decide +kernel) rfl
theorem jmf_333 : j_mf 333 := j_mchk_ok (c1 := 1) (o1 := 17) (c2 := 9) (o2 := 168) (c3 := 0) (o3 := 146) (c4 := 9) (o4 := 169) (by decide +kernel) rfl
theorem jmf_334 : j_mf 334 := j_mchk_ok (c1 := 1) (o1 := 17) (c2 := 9) (o2 := 172) (c3 := 0) (o3 := 147) (c4 := 9) (o4 := 173) (by decide +kernel) rfl
theorem jmf_335 : j_mf 335 := j_mchk_ok (c1 := 1) (o1 := 17) (c2 := 9) (o2 := 176) (c3 := 0) (o3 := 148) (c4 := 9) (o4 := 177) (by decide +kernel) rfl
theorem jmf_336 : j_mf 336 := j_mchk_ok (c1 := 1) (o1 := 17) (c2 := 9) (o2 := 180) (c3 := 0) (o3 := 149) (c4 := 9) (o4 := 181) (by decide +kernel) rfl
theorem jmf_337 : j_mf 337 := j_mchk_ok (c1 := 1) (o1 := 17) (c2 := 9) (o2 := 184) (c3 := 0) (o3 := 150) (c4 := 9) (o4 := 185) (by decide +kernel) rfl
theorem jmf_338 : j_mf 338 := j_mchk_ok (c1 := 1) (o1 := 17) (c2 := 9) (o2 := 188) (c3 := 0) (o3 := 151) (c4 := 9) (o4 := 189) (by decide +kernel) rfl
theorem jmf_339 : j_mf 339 := j_mchk_ok (c1 := 1) (o1 := 17) (c2 := 9) (o2 := 191) (c3 := 0) (o3 := 0) (c4 := 9) (o4 := 192) (by decide +kernel) rfl
theorem jmf_340 : j_mf 340 := j_mchk_ok (c1 := 1) (o1 := 17) (c2 := 9) (o2 := 195) (c3 := 0) (o3 := 152) (c4 := 9) (o4 := 196) (by decide +kernel) rfl
theorem jmf_341 : j_mf 341 := j_mchk_ok (c1 := 1) (o1 := 17) (c2 := 9) (o2 := 199) (c3 := 0) (o3 := 153) (c4 := 9) (o4 := 200) (by decide +kernel) rfl
theorem jmf_342 : j_mf 342 := j_mchk_ok (c1 := 1) (o1 := 17) (c2 := 9) (o2 := 203) (c3 := 0) (o3 := 154) (c4 := 9) (o4 := 204) (by decide +kernel) rfl
theorem jmf_343 : j_mf 343 := j_mchk_ok (c1 := 1) (o1 := 17) (c2 := 9) (o2 := 207) (c3 := 0) (o3 := 155) (c4 := 9) (o4 := 208) (by decide +kernel) rfl
theorem jmf_344 : j_mf 344 := j_mchk_ok (c1 := 1) (o1 := 17) (c2 := 9) (o2 := 211) (c3 := 0) (o3 := 156) (c4 := 9) (o4 := 212) (by decide +kernel) rfl
theorem jmf_345 : j_mf 345 := j_mchk_ok (c1 := 1) (o1 := 17) (c2 := 9) (o2 := 216) (c3 := 0) (o3 := 157) (c4 := 9) (o4 := 217) (by decide +kernel) rfl
theorem jmf_346 : j_mf 346 := j_mchk_ok (c1 := 1) (o1 := 17) (c2 := 9) (o2 := 220) (c3 := 0) (o3 := 158) (c4 := 9) (o4 := 221) (by decide +kernel) rfl
theorem jmf_347 : j_mf 347 := j_mchk_ok (c1 := 1) (o1 := 17) (c2 := 9) (o2 := 224) (c3 := 0) (o3 := 159) (c4 := 9) (o4 := 225) (by decide +kernel) rfl
theorem jmf_348 : j_mf 348 := j_mchk_ok (c1 := 1) (o1 := 17) (c2 := 9) (o2 := 228) (c3 := 0) (o3 := 160) (c4 := 9) (o4 := 229) (by decide +kernel) rfl
theorem jmf_349 : j_mf 349 := j_mchk_ok (c1 := 1) (o1 := 17) (c2 := 9) (o2 := 231) (c3 := 0) (o3 := 0) (c4 := 9) (o4 := 232) (by decide +kernel) rfl
theorem jmf_350 : j_mf 350 := j_mchk_ok (c1 := 1) (o1 := 17) (c2 := 9) (o2 := 237) (c3 := 0) (o3 := 161) (c4 := 9) (o4 := 238) (by decide +kernel) rfl
theorem jmf_351 : j_mf 351 := j_mchk_ok (c1 := 1) (o1 := 17) (c2 := 10) (o2 := 1) (c3 := 0) (o3 := 162) (c4 := 10) (o4 := 2) (by decide +kernel) rfl
theorem jmf_352 : j_mf 352 := j_mchk_ok (c1 := 1) (o1 := 17) (c2 := 10) (o2 := 4) (c3 := 0) (o3 := 0) (c4 := 10) (o4 := 5) (by decide +kernel) rfl
theorem jmf_353 : j_mf 353 := j_mchk_ok (c1 := 1) (o1 := 17) (c2 := 10) (o2 := 8) (c3 := 0) (o3 := 163) (c4 := 10) (o4 := 9) (by decide +kernel) rfl
theorem jmf_354 : j_mf 354 := j_mchk_ok (c1 := 1) (o1 := 17) (c2 := 10) (o2 := 11) (c3 := 10) (o3 := 12) (c4 := 10) (o4 := 13) (by decide +kernel) rfl
theorem jmf_355 : j_mf 355 := j_mchk_ok (c1 := 1) (o1 := 17) (c2 := 10) (o2 := 15) (c3 := 0) (o3 := 0) (c4 := 10) (o4 := 16) (by decide +kernel) rfl
theorem jmf_356 : j_mf 356 := j_mchk_ok (c1 := 1) (o1 := 17) (c2 := 10) (o2 := 18) (c3 := 10) (o3 := 19) (c4 := 10) (o4 := 20) (by decide +kernel) rfl
theorem jmf_357 : j_mf 357 := j_mchk_ok (c1 := 1) (o1 := 17) (c2 := 10) (o2 := 22) (c3 := 10) (o3 := 23) (c4 := 10) (o4 := 24) (by decide +kernel) rfl
theorem jmf_358 : j_mf 358 := j_mchk_ok (c1 := 1) (o1 := 17) (c2 := 10) (o2 := 27) (c3 := 0) (o3 := 164) (c4 := 10) (o4 := 28) (by decide +kernel) rfl
theorem jmf_359 : j_mf 359 := j_mchk_ok (c1 := 1) (o1 := 17) (c2 := 10) (o2 := 30) (c3 := 10) (o3 := 31) (c4 := 10) (o4 := 32) (by decide +kernel) rfl
theorem jmf_360 : j_mf 360 := Or.inl rfl
theorem jmfs_0 : j_from (fun k (_ : Unit) => j_mf k) 0 [(), (), (), (), (), (), (), (), (), (), (), (), (), (), (), (), (), (), (), ()] := j_from_cons jmf_0 ( j_from_cons jmf_1 ( j_from_cons jmf_2 ( j_from_cons jmf_3 ( j_from_cons jmf_4 ( j_from_cons jmf_5 ( j_from_cons jmf_6 ( j_from_cons jmf_7 ( j_from_cons jmf_8 ( j_from_cons jmf_9 ( j_from_cons jmf_10 ( j_from_cons jmf_11 ( j_from_cons jmf_12 ( j_from_cons jmf_13 ( j_from_cons jmf_14 ( j_from_cons jmf_15 ( j_from_cons jmf_16 ( j_from_cons jmf_17 ( j_from_cons jmf_18 ( j_from_cons jmf_19 (j_from_nil))))))))))))))))))))
theorem jmfs_1 : j_from (fun k (_ : Unit) => j_mf k) 20 [(), (), (), (), (), (), (), (), (), (), (), (), (), (), (), (), (), (), (), ()] := j_from_cons jmf_20 ( j_from_cons jmf_21 ( j_from_cons jmf_22 ( j_from_cons jmf_23 ( j_from_cons jmf_24 ( j_from_cons jmf_25 ( j_from_cons jmf_26 ( j_from_cons jmf_27 ( j_from_cons jmf_28 ( j_from_cons jmf_29 ( j_from_cons jmf_30 ( j_from_cons jmf_31 ( j_from_cons jmf_32 ( j_from_cons jmf_33 ( j_from_cons jmf_34 ( j_from_cons jmf_35 ( j_from_cons jmf_36 ( j_from_cons jmf_37 ( j_from_cons jmf_38 ( j_from_cons jmf_39 (j_from_nil))))))))))))))))))))
theorem jmfs_2 : j_from (fun k (_ : Unit) => j_mf k) 40 [(), (), (), (), (), (), (), (), (), (), (), (), (), (), (), (), (), (), (), ()] := j_from_cons jmf_40 ( j_from_cons jmf_41 ( j_from_cons jmf_42 ( j_from_cons jmf_43 ( j_from_cons jmf_44 ( j_from_cons jmf_45 ( j_from_cons jmf_46 ( j_from_cons jmf_47 ( j_from_cons jmf_48 ( j_from_cons jmf_49 ( j_from_cons jmf_50 ( j_from_cons jmf_51 ( j_from_cons jmf_52 ( j_from_cons jmf_53 ( j_from_cons jmf_54 ( j_from_cons jmf_55 ( j_from_cons jmf_56 ( j_from_cons jmf_57 ( j_from_cons jmf_58 ( j_from_cons jmf_59 (j_from_nil))))))))))))))))))))
theorem jmfs_3 : j_from (fun k (_ : Unit) => j_mf k) 60 [(), (), (), (), (), (), (), (), (), (), (), (), (), (), (), (), (), (), (), ()] := j_from_cons jmf_60 ( j_from_cons jmf_61 ( j_from_cons jmf_62 ( j_from_cons jmf_63 ( j_from_cons jmf_64 ( j_from_cons jmf_65 ( j_from_cons jmf_66 ( j_from_cons jmf_67 ( j_from_cons jmf_68 ( j_from_cons jmf_69 ( j_from_cons jmf_70 ( j_from_cons jmf_71 ( j_from_cons jmf_72 ( j_from_cons jmf_73 ( j_from_cons jmf_74 ( j_from_cons jmf_75 ( j_from_cons jmf_76 ( j_from_cons jmf_77 ( j_from_cons jmf_78 ( j_from_cons jmf_79 (j_from_nil))))))))))))))))))))
theorem jmfs_4 : j_from (fun k (_ : Unit) => j_mf k) 80 [(), (), (), (), (), (), (), (), (), (), (), (), (), (), (), (), (), (), (), ()] := j_from_cons jmf_80 ( j_from_cons jmf_81 ( j_from_cons jmf_82 ( j_from_cons jmf_83 ( j_from_cons jmf_84 ( j_from_cons jmf_85 ( j_from_cons jmf_86 ( j_from_cons jmf_87 ( j_from_cons jmf_88 ( j_from_cons jmf_89 ( j_from_cons jmf_90 ( j_from_cons jmf_91 ( j_from_cons jmf_92 ( j_from_cons jmf_93 ( j_from_cons jmf_94 ( j_from_cons jmf_95 ( j_from_cons jmf_96 ( j_from_cons jmf_97 ( j_from_cons jmf_98 ( j_from_cons jmf_99 (j_from_nil))))))))))))))))))))
theorem jmfs_5 : j_from (fun k (_ : Unit) => j_mf k) 100 [(), (), (), (), (), (), (), (), (), (), (), (), (), (), (), (), (), (), (), ()] := j_from_cons jmf_100 ( j_from_cons jmf_101 ( j_from_cons jmf_102 ( j_from_cons jmf_103 ( j_from_cons jmf_104 ( j_from_cons jmf_105 ( j_from_cons jmf_106 ( j_from_cons jmf_107 ( j_from_cons jmf_108 ( j_from_cons jmf_109 ( j_from_cons jmf_110 ( j_from_cons jmf_111 ( j_from_cons jmf_112 ( j_from_cons jmf_113 ( j_from_cons jmf_114 ( j_from_cons jmf_115 ( j_from_cons jmf_116 ( j_from_cons jmf_117 ( j_from_cons jmf_118 ( j_from_cons jmf_119 (j_from_nil))))))))))))))))))))
theorem jmfs_6 : j_from (fun k (_ : Unit) => j_mf k) 120 [(), (), (), (), (), (), (), (), (), (), (), (), (), (), (), (), (), (), (), ()] := j_from_cons jmf_120 ( j_from_cons jmf_121 ( j_from_cons jmf_122 ( j_from_cons jmf_123 ( j_from_cons jmf_124 ( j_from_cons jmf_125 ( j_from_cons jmf_126 ( j_from_cons jmf_127 ( j_from_cons jmf_128 ( j_from_cons jmf_129 ( j_from_cons jmf_130 ( j_from_cons jmf_131 ( j_from_cons jmf_132 ( j_from_cons jmf_133 ( j_from_cons jmf_134 ( j_from_cons jmf_135 ( j_from_cons jmf_136 ( j_from_cons jmf_137 ( j_from_cons jmf_138 ( j_from_cons jmf_139 (j_from_nil))))))))))))))))))))
theorem jmfs_7 : j_from (fun k (_ : Unit) => j_mf k) 140 [(), (), (), (), (), (), (), (), (), (), (), (), (), (), (), (), (), (), (), ()] := j_from_cons jmf_140 ( j_from_cons jmf_141 ( j_from_cons jmf_142 ( j_from_cons jmf_143 ( j_from_cons jmf_144 ( j_from_cons jmf_145 ( j_from_cons jmf_146 ( j_from_cons jmf_147 ( j_from_cons jmf_148 ( j_from_cons jmf_149 ( j_from_cons jmf_150 ( j_from_cons jmf_151 ( j_from_cons jmf_152 ( j_from_cons jmf_153 ( j_from_cons jmf_154 ( j_from_cons jmf_155 ( j_from_cons jmf_156 ( j_from_cons jmf_157 ( j_from_cons jmf_158 ( j_from_cons jmf_159 (j_from_nil))))))))))))))))))))
theorem jmfs_8 : j_from (fun k (_ : Unit) => j_mf k) 160 [(), (), (), (), (), (), (), (), (), (), (), (), (), (), (), (), (), (), (), ()] := j_from_cons jmf_160 ( j_from_cons jmf_161 ( j_from_cons jmf_162 ( j_from_cons jmf_163 ( j_from_cons jmf_164 ( j_from_cons jmf_165 ( j_from_cons jmf_166 ( j_from_cons jmf_167 ( j_from_cons jmf_168 ( j_from_cons jmf_169 ( j_from_cons jmf_170 ( j_from_cons jmf_171 ( j_from_cons jmf_172 ( j_from_cons jmf_173 ( j_from_cons jmf_174 ( j_from_cons jmf_175 ( j_from_cons jmf_176 ( j_from_cons jmf_177 ( j_from_cons jmf_178 ( j_from_cons jmf_179 (j_from_nil))))))))))))))))))))
theorem jmfs_9 : j_from (fun k (_ : Unit) => j_mf k) 180 [(), (), (), (), (), (), (), (), (), (), (), (), (), (), (), (), (), (), (), ()] := j_from_cons jmf_180 ( j_from_cons jmf_181 ( j_from_cons jmf_182 ( j_from_cons jmf_183 ( j_from_cons jmf_184 ( j_from_cons jmf_185 ( j_from_cons jmf_186 ( j_from_cons jmf_187 ( j_from_cons jmf_188 ( j_from_cons jmf_189 ( j_from_cons jmf_190 ( j_from_cons jmf_191 ( j_from_cons jmf_192 ( j_from_cons jmf_193 ( j_from_cons jmf_194 ( j_from_cons jmf_195 ( j_from_cons jmf_196 ( j_from_cons jmf_197 ( j_from_cons jmf_198 ( j_from_cons jmf_199 (j_from_nil))))))))))))))))))))
theorem jmfs_10 : j_from (fun k (_ : Unit) => j_mf k) 200 [(), (), (), (), (), (), (), (), (), (), (), (), (), (), (), (), (), (), (), ()] := j_from_cons jmf_200 ( j_from_cons jmf_201 ( j_from_cons jmf_202 ( j_from_cons jmf_203 ( j_from_cons jmf_204 ( j_from_cons jmf_205 ( j_from_cons jmf_206 ( j_from_cons jmf_207 ( j_from_cons jmf_208 ( j_from_cons jmf_209 ( j_from_cons jmf_210 ( j_from_cons jmf_211 ( j_from_cons jmf_212 ( j_from_cons jmf_213 ( j_from_cons jmf_214 ( j_from_cons jmf_215 ( j_from_cons jmf_216 ( j_from_cons jmf_217 ( j_from_cons jmf_218 ( j_from_cons jmf_219 (j_from_nil))))))))))))))))))))
theorem jmfs_11 : j_from (fun k (_ : Unit) => j_mf k) 220 [(), (), (), (), (), (), (), (), (), (), (), (), (), (), (), (), (), (), (), ()] := j_from_cons jmf_220 ( j_from_cons jmf_221 ( j_from_cons jmf_222 ( j_from_cons jmf_223 ( j_from_cons jmf_224 ( j_from_cons jmf_225 ( j_from_cons jmf_226 ( j_from_cons jmf_227 ( j_from_cons jmf_228 ( j_from_cons jmf_229 ( j_from_cons jmf_230 ( j_from_cons jmf_231 ( j_from_cons jmf_232 ( j_from_cons jmf_233 ( j_from_cons jmf_234 ( j_from_cons jmf_235 ( j_from_cons jmf_236 ( j_from_cons jmf_237 ( j_from_cons jmf_238 ( j_from_cons jmf_239 (j_from_nil))))))))))))))))))))
theorem jmfs_12 : j_from (fun k (_ : Unit) => j_mf k) 240 [(), (), (), (), (), (), (), (), (), (), (), (), (), (), (), (), (), (), (), ()] := j_from_cons jmf_240 ( j_from_cons jmf_241 ( j_from_cons jmf_242 ( j_from_cons jmf_243 ( j_from_cons jmf_244 ( j_from_cons jmf_245 ( j_from_cons jmf_246 ( j_from_cons jmf_247 ( j_from_cons jmf_248 ( j_from_cons jmf_249 ( j_from_cons jmf_250 ( j_from_cons jmf_251 ( j_from_cons jmf_252 ( j_from_cons jmf_253 ( j_from_cons jmf_254 ( j_from_cons jmf_255 ( j_from_cons jmf_256 ( j_from_cons jmf_257 ( j_from_cons jmf_258 ( j_from_cons jmf_259 (j_from_nil))))))))))))))))))))
theorem jmfs_13 : j_from (fun k (_ : Unit) => j_mf k) 260 [(), (), (), (), (), (), (), (), (), (), (), (), (), (), (), (), (), (), (), ()] := j_from_cons jmf_260 ( j_from_cons jmf_261 ( j_from_cons jmf_262 ( j_from_cons jmf_263 ( j_from_cons jmf_264 ( j_from_cons jmf_265 ( j_from_cons jmf_266 ( j_from_cons jmf_267 ( j_from_cons jmf_268 ( j_from_cons jmf_269 ( j_from_cons jmf_270 ( j_from_cons jmf_271 ( j_from_cons jmf_272 ( j_from_cons jmf_273 ( j_from_cons jmf_274 ( j_from_cons jmf_275 ( j_from_cons jmf_276 ( j_from_cons jmf_277 ( j_from_cons jmf_278 ( j_from_cons jmf_279 (j_from_nil))))))))))))))))))))
theorem jmfs_14 : j_from (fun k (_ : Unit) => j_mf k) 280 [(), (), (), (), (), (), (), (), (), (), (), (), (), (), (), (), (), (), (), ()] := j_from_cons jmf_280 ( j_from_cons jmf_281 ( j_from_cons jmf_282 ( j_from_cons jmf_283 ( j_from_cons jmf_284 ( j_from_cons jmf_285 ( j_from_cons jmf_286 ( j_from_cons jmf_287 ( j_from_cons jmf_288 ( j_from_cons jmf_289 ( j_from_cons jmf_290 ( j_from_cons jmf_291 ( j_from_cons jmf_292 ( j_from_cons jmf_293 ( j_from_cons jmf_294 ( j_from_cons jmf_295 ( j_from_cons jmf_296 ( j_from_cons jmf_297 ( j_from_cons jmf_298 ( j_from_cons jmf_299 (j_from_nil))))))))))))))))))))
theorem jmfs_15 : j_from (fun k (_ : Unit) => j_mf k) 300 [(), (), (), (), (), (), (), (), (), (), (), (), (), (), (), (), (), (), (), ()] := j_from_cons jmf_300 ( j_from_cons jmf_301 ( j_from_cons jmf_302 ( j_from_cons jmf_303 ( j_from_cons jmf_304 ( j_from_cons jmf_305 ( j_from_cons jmf_306 ( j_from_cons jmf_307 ( j_from_cons jmf_308 ( j_from_cons jmf_309 ( j_from_cons jmf_310 ( j_from_cons jmf_311 ( j_from_cons jmf_312 ( j_from_cons jmf_313 ( j_from_cons jmf_314 ( j_from_cons jmf_315 ( j_from_cons jmf_316 ( j_from_cons jmf_317 ( j_from_cons jmf_318 ( j_from_cons jmf_319 (j_from_nil))))))))))))))))))))
theorem jmfs_16 : j_from (fun k (_ : Unit) => j_mf k) 320 [(), (), (), (), (), (), (), (), (), (), (), (), (), (), (), (), (), (), (), ()] := j_from_cons jmf_320 ( j_from_cons jmf_321 ( j_from_cons jmf_322 ( j_from_cons jmf_323 ( j_from_cons jmf_324 ( j_from_cons jmf_325 ( j_from_cons jmf_326 ( j_from_cons jmf_327 ( j_from_cons jmf_328 ( j_from_cons jmf_329 ( j_from_cons jmf_330 ( j_from_cons jmf_331 ( j_from_cons jmf_332 ( j_from_cons jmf_333 ( j_from_cons jmf_334 ( j_from_cons jmf_335 ( j_from_cons jmf_336 ( j_from_cons jmf_337 ( j_from_cons jmf_338 ( j_from_cons jmf_339 (j_from_nil))))))))))))))))))))
theorem jmfs_17 : j_from (fun k (_ : Unit) => j_mf k) 340 [(), (), (), (), (), (), (), (), (), (), (), (), (), (), (), (), (), (), (), ()] := j_from_cons jmf_340 ( j_from_cons jmf_341 ( j_from_cons jmf_342 ( j_from_cons jmf_343 ( j_from_cons jmf_344 ( j_from_cons jmf_345 ( j_from_cons jmf_346 ( j_from_cons jmf_347 ( j_from_cons jmf_348 ( j_from_cons jmf_349 ( j_from_cons jmf_350 ( j_from_cons jmf_351 ( j_from_cons jmf_352 ( j_from_cons jmf_353 ( j_from_cons jmf_354 ( j_from_cons jmf_355 ( j_from_cons jmf_356 ( j_from_cons jmf_357 ( j_from_cons jmf_358 ( j_from_cons jmf_359 (j_from_nil))))))))))))))))))))
theorem jmfs_18 : j_from (fun k (_ : Unit) => j_mf k) 360 [()] := j_from_cons jmf_360 (j_from_nil)
def j_units : List (List Unit) := [[(), (), (), (), (), (), (), (), (), (), (), (), (), (), (), (), (), (), (), ()], [(), (), (), (), (), (), (), (), (), (), (), (), (), (), (), (), (), (), (), ()], [(), (), (), (), (), (), (), (), (), (), (), (), (), (), (), (), (), (), (), ()], [(), (), (), (), (), (), (), (), (), (), (), (), (), (), (), (), (), (), (), ()], [(), (), (), (), (), (), (), (), (), (), (), (), (), (), (), (), (), (), (), ()], [(), (), (), (), (), (), (), (), (), (), (), (), (), (), (), (), (), (), (), ()], [(), (), (), (), (), (), (), (), (), (), (), (), (), (), (), (), (), (), (), ()], [(), (), (), (), (), (), (), (), (), (), (), (), (), (), (), (), (), (), (), ()], [(), (), (), (), (), (), (), (), (), (), (), (), (), (), (), (), (), (), (), ()], [(), (), (), (), (), (), (), (), (), (), (), (), (), (), (), (), (), (), (), ()], [(), (), (), (), (), (), (), (), (), (), (), (), (), (), (), (), (), (), (), ()], [(), (), (), (), (), (), (), (), (), (), (), (), (), (), (), (), (), (), (), ()], [(), (), (), (), (), (), (), (), (), (), (), (), (), (), (), (), (), (), (), ()], [(), (), (), (), (), (), (), (), (), (), (), (), (), (), (), (), (), (), (), ()], [(), (), (), (), (), (), (), (), (), (), (), (), (), (), (), (), (), (), (), ()], [(), (), (), (), (), (), (), (), (), (), (), (), (), (), (), (), (), (), (), ()], [(), (), (), (), (), (), (), (), (), (), (), (), (), (), (), (), (), (), (), ()], [(), (), (), (), (), (), (), (), (), (), (), (), (), (), (), (), (), (), (), ()], [()]]
theorem jmfs_all : j_from (fun c l => j_from (fun k (_ : Unit) => j_mf k) (20 * c) l) 0 j_units := j_from_cons jmfs_0 ( j_from_cons jmfs_1 ( j_from_cons jmfs_2 ( j_from_cons jmfs_3 ( j_from_cons jmfs_4 ( j_from_cons jmfs_5 ( j_from_cons jmfs_6 ( j_from_cons jmfs_7 ( j_from_cons jmfs_8 ( j_from_cons jmfs_9 ( j_from_cons jmfs_10 ( j_from_cons jmfs_11 ( j_from_cons jmfs_12 ( j_from_cons jmfs_13 ( j_from_cons jmfs_14 ( j_from_cons jmfs_15 ( j_from_cons jmfs_16 ( j_from_cons jmfs_17 ( j_from_cons jmfs_18 (j_from_nil)))))))))))))))))))
theorem j_units_at : ∀ k, k < 361 → (j_units[k / 20]?.bind fun l => l[k % 20]?) = some () := by decide +kernel
theorem jmf_all : ∀ k, k < 361 → j_mf k := by
  intro k hk
  obtain ⟨l, h1, h2⟩ := Option.bind_eq_some_iff.mp (j_units_at k hk)
  have := jmfs_all _ _ h1 _ _ h2
  rwa [show 20 * (0 + k / 20) + k % 20 = k by omega] at this
