def RX0 : String := "HundredWords$Acts"
def TX0 : u_T := fun k => match k with
  | 0 => ("HundredWords$Acts", "signs", "[I", true)
  | 1 => ("HundredWords$Acts", "sizes", "[I", true)
  | 2 => ("HundredWords$Acts", "newest", "I", false)
  | _ => ("HundredWords$Acts", "count", "I", false)
def tyX0 : Nat → FieldType := fun k => match k with
  | 0 => .array .int
  | 1 => .array .int
  | 2 => .int
  | _ => .int
theorem nmX0 : ∀ a, a < 4 → ∀ b, b < 4 → a ≠ b → (TX0 a).2.1 ≠ (TX0 b).2.1 := by decide +kernel
theorem tyX0_ok : ∀ k, k < 4 → parseFieldDescriptor (TX0 k).2.2.1 = some (tyX0 k) := by decide +kernel
def RX1 : String := "HundredWords$Image"
def TX1 : u_T := fun k => match k with
  | 0 => ("HundredWords$Image", "octets", "[I", true)
  | _ => ("HundredWords$Image", "length", "I", false)
def tyX1 : Nat → FieldType := fun k => match k with
  | 0 => .array .int
  | _ => .int
theorem nmX1 : ∀ a, a < 2 → ∀ b, b < 2 → a ≠ b → (TX1 a).2.1 ≠ (TX1 b).2.1 := by decide +kernel
theorem tyX1_ok : ∀ k, k < 2 → parseFieldDescriptor (TX1 k).2.2.1 = some (tyX1 k) := by decide +kernel
def RX2 : String := "HundredWords$LawReader"
def TX2 : u_T := fun k => match k with
  | 0 => ("HundredWords$LawReader", "tape", "LHundredWords$Tape;", true)
  | _ => ("HundredWords$LawReader", "ownWords", "[I", true)
def tyX2 : Nat → FieldType := fun k => match k with
  | 0 => .object "HundredWords$Tape"
  | _ => .array .int
theorem nmX2 : ∀ a, a < 2 → ∀ b, b < 2 → a ≠ b → (TX2 a).2.1 ≠ (TX2 b).2.1 := by decide +kernel
theorem tyX2_ok : ∀ k, k < 2 → parseFieldDescriptor (TX2 k).2.2.1 = some (tyX2 k) := by decide +kernel
def RX3 : String := "HundredWords$Question"
def TX3 : u_T := fun k => match k with
  | 0 => ("HundredWords$Question", "tape", "LHundredWords$Tape;", true)
  | 1 => ("HundredWords$Question", "words", "[I", true)
  | 2 => ("HundredWords$Question", "steps", "[I", true)
  | 3 => ("HundredWords$Question", "stack", "[J", true)
  | 4 => ("HundredWords$Question", "length", "I", false)
  | 5 => ("HundredWords$Question", "open", "I", false)
  | 6 => ("HundredWords$Question", "kind", "I", false)
  | 7 => ("HundredWords$Question", "top", "I", false)
  | 8 => ("HundredWords$Question", "tongue", "LHundredWords$Tongue;", false)
  | 9 => ("HundredWords$Question", "law", "LHundredWords$Row;", false)
  | _ => ("HundredWords$Question", "other", "LHundredWords$Row;", false)
def tyX3 : Nat → FieldType := fun k => match k with
  | 0 => .object "HundredWords$Tape"
  | 1 => .array .int
  | 2 => .array .int
  | 3 => .array .long
  | 4 => .int
  | 5 => .int
  | 6 => .int
  | 7 => .int
  | 8 => .object "HundredWords$Tongue"
  | 9 => .object "HundredWords$Row"
  | _ => .object "HundredWords$Row"
theorem nmX3 : ∀ a, a < 11 → ∀ b, b < 11 → a ≠ b → (TX3 a).2.1 ≠ (TX3 b).2.1 := by decide +kernel
theorem tyX3_ok : ∀ k, k < 11 → parseFieldDescriptor (TX3 k).2.2.1 = some (tyX3 k) := by decide +kernel
def RX4 : String := "HundredWords$Row"
def TX4 : u_T := fun k => match k with
  | 0 => ("HundredWords$Row", "sign", "[I", true)
  | 1 => ("HundredWords$Row", "size", "I", false)
  | 2 => ("HundredWords$Row", "words", "I", false)
  | 3 => ("HundredWords$Row", "before", "[I", true)
  | 4 => ("HundredWords$Row", "openings", "[I", true)
  | 5 => ("HundredWords$Row", "borneBy", "[J", true)
  | 6 => ("HundredWords$Row", "sentences", "I", false)
  | 7 => ("HundredWords$Row", "forbidden", "J", false)
  | _ => ("HundredWords$Row", "at", "I", false)
def tyX4 : Nat → FieldType := fun k => match k with
  | 0 => .array .int
  | 1 => .int
  | 2 => .int
  | 3 => .array .int
  | 4 => .array .int
  | 5 => .array .long
  | 6 => .int
  | 7 => .long
  | _ => .int
theorem nmX4 : ∀ a, a < 9 → ∀ b, b < 9 → a ≠ b → (TX4 a).2.1 ≠ (TX4 b).2.1 := by decide +kernel
theorem tyX4_ok : ∀ k, k < 9 → parseFieldDescriptor (TX4 k).2.2.1 = some (tyX4 k) := by decide +kernel
def RX5 : String := "HundredWords$Shorts"
def TX5 : u_T := fun k => match k with
  | 0 => ("HundredWords$Shorts", "literals", "[J", true)
  | 1 => ("HundredWords$Shorts", "forbidden", "[J", true)
  | 2 => ("HundredWords$Shorts", "chosen", "[I", true)
  | 3 => ("HundredWords$Shorts", "slots", "[I", true)
  | 4 => ("HundredWords$Shorts", "within", "[I", true)
  | 5 => ("HundredWords$Shorts", "goals", "[J", true)
  | 6 => ("HundredWords$Shorts", "sought", "[Z", true)
  | 7 => ("HundredWords$Shorts", "found", "[I", true)
  | 8 => ("HundredWords$Shorts", "literalCount", "I", false)
  | 9 => ("HundredWords$Shorts", "count", "I", false)
  | 10 => ("HundredWords$Shorts", "chosenCount", "I", false)
  | 11 => ("HundredWords$Shorts", "fitCount", "I", false)
  | 12 => ("HundredWords$Shorts", "fitAll", "J", false)
  | 13 => ("HundredWords$Shorts", "fitSome", "J", false)
  | _ => ("HundredWords$Shorts", "ready", "Z", false)
def tyX5 : Nat → FieldType := fun k => match k with
  | 0 => .array .long
  | 1 => .array .long
  | 2 => .array .int
  | 3 => .array .int
  | 4 => .array .int
  | 5 => .array .long
  | 6 => .array .boolean
  | 7 => .array .int
  | 8 => .int
  | 9 => .int
  | 10 => .int
  | 11 => .int
  | 12 => .long
  | 13 => .long
  | _ => .boolean
theorem nmX5 : ∀ a, a < 15 → ∀ b, b < 15 → a ≠ b → (TX5 a).2.1 ≠ (TX5 b).2.1 := by decide +kernel
theorem tyX5_ok : ∀ k, k < 15 → parseFieldDescriptor (TX5 k).2.2.1 = some (tyX5 k) := by decide +kernel
def RX6 : String := "HundredWords$Tape"
def TX6 : u_T := fun k => match k with
  | 0 => ("HundredWords$Tape", "octets", "[I", true)
  | 1 => ("HundredWords$Tape", "length", "I", false)
  | 2 => ("HundredWords$Tape", "at", "I", false)
  | 3 => ("HundredWords$Tape", "fault", "I", false)
  | 4 => ("HundredWords$Tape", "place", "I", false)
  | 5 => ("HundredWords$Tape", "start", "I", false)
  | 6 => ("HundredWords$Tape", "span", "I", false)
  | 7 => ("HundredWords$Tape", "code", "I", false)
  | _ => ("HundredWords$Tape", "value", "I", false)
def tyX6 : Nat → FieldType := fun k => match k with
  | 0 => .array .int
  | 1 => .int
  | 2 => .int
  | 3 => .int
  | 4 => .int
  | 5 => .int
  | 6 => .int
  | 7 => .int
  | _ => .int
theorem nmX6 : ∀ a, a < 9 → ∀ b, b < 9 → a ≠ b → (TX6 a).2.1 ≠ (TX6 b).2.1 := by decide +kernel
theorem tyX6_ok : ∀ k, k < 9 → parseFieldDescriptor (TX6 k).2.2.1 = some (tyX6 k) := by decide +kernel
def RX7 : String := "HundredWords$Told"
def TX7 : u_T := fun k => match k with
  | 0 => ("HundredWords$Told", "forbid", "[Z", true)
  | 1 => ("HundredWords$Told", "ones", "[I", true)
  | 2 => ("HundredWords$Told", "party", "[I", true)
  | 3 => ("HundredWords$Told", "worthOfCase", "[I", true)
  | 4 => ("HundredWords$Told", "cases", "[J", true)
  | 5 => ("HundredWords$Told", "size", "I", false)
  | 6 => ("HundredWords$Told", "allForbidden", "J", false)
  | _ => ("HundredWords$Told", "allFree", "J", false)
def tyX7 : Nat → FieldType := fun k => match k with
  | 0 => .array .boolean
  | 1 => .array .int
  | 2 => .array .int
  | 3 => .array .int
  | 4 => .array .long
  | 5 => .int
  | 6 => .long
  | _ => .long
theorem nmX7 : ∀ a, a < 8 → ∀ b, b < 8 → a ≠ b → (TX7 a).2.1 ≠ (TX7 b).2.1 := by decide +kernel
theorem tyX7_ok : ∀ k, k < 8 → parseFieldDescriptor (TX7 k).2.2.1 = some (tyX7 k) := by decide +kernel
def RX8 : String := "HundredWords$Tongue"
def TX8 : u_T := fun k => match k with
  | 0 => ("HundredWords$Tongue", "codes", "[I", true)
  | 1 => ("HundredWords$Tongue", "wordsOf", "[I", true)
  | 2 => ("HundredWords$Tongue", "meant", "[I", true)
  | 3 => ("HundredWords$Tongue", "votesOf", "[I", true)
  | 4 => ("HundredWords$Tongue", "gain", "[I", true)
  | 5 => ("HundredWords$Tongue", "holds", "[J", true)
  | 6 => ("HundredWords$Tongue", "wishes", "LHundredWords$Told;", true)
  | 7 => ("HundredWords$Tongue", "peace", "LHundredWords$Told;", true)
  | 8 => ("HundredWords$Tongue", "judgments", "LHundredWords$Told;", true)
  | 9 => ("HundredWords$Tongue", "likes", "I", false)
  | 10 => ("HundredWords$Tongue", "limit", "I", false)
  | 11 => ("HundredWords$Tongue", "parties", "I", false)
  | 12 => ("HundredWords$Tongue", "cases", "I", false)
  | _ => ("HundredWords$Tongue", "all", "J", false)
def tyX8 : Nat → FieldType := fun k => match k with
  | 0 => .array .int
  | 1 => .array .int
  | 2 => .array .int
  | 3 => .array .int
  | 4 => .array .int
  | 5 => .array .long
  | 6 => .object "HundredWords$Told"
  | 7 => .object "HundredWords$Told"
  | 8 => .object "HundredWords$Told"
  | 9 => .int
  | 10 => .int
  | 11 => .int
  | 12 => .int
  | _ => .long
theorem nmX8 : ∀ a, a < 14 → ∀ b, b < 14 → a ≠ b → (TX8 a).2.1 ≠ (TX8 b).2.1 := by decide +kernel
theorem tyX8_ok : ∀ k, k < 14 → parseFieldDescriptor (TX8 k).2.2.1 = some (tyX8 k) := by decide +kernel
def RX9 : String := "HundredWords$TongueReader"
def TX9 : u_T := fun k => match k with
  | 0 => ("HundredWords$TongueReader", "tape", "LHundredWords$Tape;", true)
  | _ => ("HundredWords$TongueReader", "ownWords", "[I", true)
def tyX9 : Nat → FieldType := fun k => match k with
  | 0 => .object "HundredWords$Tape"
  | _ => .array .int
theorem nmX9 : ∀ a, a < 2 → ∀ b, b < 2 → a ≠ b → (TX9 a).2.1 ≠ (TX9 b).2.1 := by decide +kernel
theorem tyX9_ok : ∀ k, k < 2 → parseFieldDescriptor (TX9 k).2.2.1 = some (tyX9 k) := by decide +kernel
def RX10 : String := "HundredWords$Way"
def TX10 : u_T := fun k => match k with
  | _ => ("HundredWords$Way", "stages", "[LHundredWords$Row;", true)
def tyX10 : Nat → FieldType := fun k => match k with
  | _ => .array (.object "HundredWords$Row")
theorem nmX10 : ∀ a, a < 1 → ∀ b, b < 1 → a ≠ b → (TX10 a).2.1 ≠ (TX10 b).2.1 := by decide +kernel
theorem tyX10_ok : ∀ k, k < 1 → parseFieldDescriptor (TX10 k).2.2.1 = some (tyX10 k) := by decide +kernel
def RX11 : String := "HundredWords"
def TX11 : u_T := fun k => match k with
  | 0 => ("HundredWords", "tape", "LHundredWords$Tape;", true)
  | 1 => ("HundredWords", "tongueReader", "LHundredWords$TongueReader;", true)
  | 2 => ("HundredWords", "lawReader", "LHundredWords$LawReader;", true)
  | 3 => ("HundredWords", "question", "LHundredWords$Question;", true)
  | 4 => ("HundredWords", "spoken", "LHundredWords$Tongue;", false)
  | 5 => ("HundredWords", "draft", "LHundredWords$Tongue;", false)
  | 6 => ("HundredWords", "theLaw", "LHundredWords$Row;", true)
  | 7 => ("HundredWords", "otherLaw", "LHundredWords$Row;", true)
  | 8 => ("HundredWords", "trial", "LHundredWords$Row;", true)
  | 9 => ("HundredWords", "twin", "LHundredWords$Row;", true)
  | 10 => ("HundredWords", "acts", "LHundredWords$Acts;", true)
  | 11 => ("HundredWords", "shortOnes", "LHundredWords$Shorts;", true)
  | 12 => ("HundredWords", "paths", "LHundredWords$Way;", true)
  | 13 => ("HundredWords", "picture", "LHundredWords$Image;", true)
  | 14 => ("HundredWords", "refused", "[I", true)
  | _ => ("HundredWords", "lot", "J", false)
def tyX11 : Nat → FieldType := fun k => match k with
  | 0 => .object "HundredWords$Tape"
  | 1 => .object "HundredWords$TongueReader"
  | 2 => .object "HundredWords$LawReader"
  | 3 => .object "HundredWords$Question"
  | 4 => .object "HundredWords$Tongue"
  | 5 => .object "HundredWords$Tongue"
  | 6 => .object "HundredWords$Row"
  | 7 => .object "HundredWords$Row"
  | 8 => .object "HundredWords$Row"
  | 9 => .object "HundredWords$Row"
  | 10 => .object "HundredWords$Acts"
  | 11 => .object "HundredWords$Shorts"
  | 12 => .object "HundredWords$Way"
  | 13 => .object "HundredWords$Image"
  | 14 => .array .int
  | _ => .long
theorem nmX11 : ∀ a, a < 16 → ∀ b, b < 16 → a ≠ b → (TX11 a).2.1 ≠ (TX11 b).2.1 := by decide +kernel
theorem tyX11_ok : ∀ k, k < 16 → parseFieldDescriptor (TX11 k).2.2.1 = some (tyX11 k) := by decide +kernel
def RX12 : String := "HundredWordsModel"
def TX12 : u_T := fun k => match k with
  | 0 => ("HundredWordsModel", "tape", "[I", true)
  | 1 => ("HundredWordsModel", "taped", "I", false)
  | 2 => ("HundredWordsModel", "at", "I", false)
  | 3 => ("HundredWordsModel", "end", "I", false)
  | 4 => ("HundredWordsModel", "ended", "I", false)
  | 5 => ("HundredWordsModel", "bad", "I", false)
  | 6 => ("HundredWordsModel", "badPlace", "I", false)
  | 7 => ("HundredWordsModel", "fault", "I", false)
  | 8 => ("HundredWordsModel", "faultPlace", "I", false)
  | 9 => ("HundredWordsModel", "refused", "[I", true)
  | 10 => ("HundredWordsModel", "whoWord", "[C", true)
  | 11 => ("HundredWordsModel", "whatWord", "[C", true)
  | 12 => ("HundredWordsModel", "whenWord", "[C", true)
  | 13 => ("HundredWordsModel", "likeWord", "[C", true)
  | 14 => ("HundredWordsModel", "limitWord", "[C", true)
  | 15 => ("HundredWordsModel", "partyWord", "[C", true)
  | 16 => ("HundredWordsModel", "votesWord", "[C", true)
  | 17 => ("HundredWordsModel", "wishWord", "[C", true)
  | 18 => ("HundredWordsModel", "peaceWord", "[C", true)
  | 19 => ("HundredWordsModel", "judgedWord", "[C", true)
  | 20 => ("HundredWordsModel", "forbidWord", "[C", true)
  | 21 => ("HundredWordsModel", "freeWord", "[C", true)
  | 22 => ("HundredWordsModel", "anyWord", "[C", true)
  | 23 => ("HundredWordsModel", "worthWord", "[C", true)
  | 24 => ("HundredWordsModel", "andWord", "[C", true)
  | 25 => ("HundredWordsModel", "orWord", "[C", true)
  | 26 => ("HundredWordsModel", "notWord", "[C", true)
  | 27 => ("HundredWordsModel", "unlessWord", "[C", true)
  | 28 => ("HundredWordsModel", "wordPlace", "I", false)
  | 29 => ("HundredWordsModel", "words", "[J", true)
  | 30 => ("HundredWordsModel", "meanings", "[I", true)
  | 31 => ("HundredWordsModel", "parties", "[J", true)
  | 32 => ("HundredWordsModel", "votesOf", "[I", true)
  | 33 => ("HundredWordsModel", "partyMany", "I", false)
  | 34 => ("HundredWordsModel", "partiesNow", "I", false)
  | 35 => ("HundredWordsModel", "ruled", "[I", true)
  | 36 => ("HundredWordsModel", "ruledMany", "[I", true)
  | 37 => ("HundredWordsModel", "limitTold", "I", false)
  | 38 => ("HundredWordsModel", "limit", "I", false)
  | 39 => ("HundredWordsModel", "statements", "I", false)
  | 40 => ("HundredWordsModel", "holds", "[J", true)
  | 41 => ("HundredWordsModel", "ruledSet", "[J", true)
  | 42 => ("HundredWordsModel", "everything", "J", false)
  | 43 => ("HundredWordsModel", "readRow", "[I", true)
  | 44 => ("HundredWordsModel", "readMany", "I", false)
  | 45 => ("HundredWordsModel", "readWords", "I", false)
  | 46 => ("HundredWordsModel", "laws", "[I", true)
  | 47 => ("HundredWordsModel", "lawMany", "[I", true)
  | 48 => ("HundredWordsModel", "tried", "[I", true)
  | 49 => ("HundredWordsModel", "triedMany", "I", false)
  | 50 => ("HundredWordsModel", "kept", "[I", true)
  | 51 => ("HundredWordsModel", "keptMany", "[I", true)
  | 52 => ("HundredWordsModel", "undoable", "I", false)
  | 53 => ("HundredWordsModel", "newest", "I", false)
  | 54 => ("HundredWordsModel", "shortSet", "[J", true)
  | 55 => ("HundredWordsModel", "shortWords", "[I", true)
  | 56 => ("HundredWordsModel", "shortMany", "I", false)
  | 57 => ("HundredWordsModel", "literal", "[I", true)
  | 58 => ("HundredWordsModel", "literals", "I", false)
  | 59 => ("HundredWordsModel", "fewestWords", "I", false)
  | 60 => ("HundredWordsModel", "fewestFirst", "I", false)
  | 61 => ("HundredWordsModel", "fewestSecond", "I", false)
  | 62 => ("HundredWordsModel", "changesOfOther", "[I", true)
  | 63 => ("HundredWordsModel", "changesMany", "I", false)
  | 64 => ("HundredWordsModel", "aside", "[I", true)
  | 65 => ("HundredWordsModel", "asideMany", "I", false)
  | 66 => ("HundredWordsModel", "seeded", "J", false)
  | 67 => ("HundredWordsModel", "firstAsked", "[C", true)
  | 68 => ("HundredWordsModel", "lastAsked", "[C", true)
  | 69 => ("HundredWordsModel", "oftenAsked", "[C", true)
  | 70 => ("HundredWordsModel", "totalAsked", "[C", true)
  | 71 => ("HundredWordsModel", "mostAsked", "[C", true)
  | 72 => ("HundredWordsModel", "leastAsked", "[C", true)
  | 73 => ("HundredWordsModel", "notAsked", "[C", true)
  | 74 => ("HundredWordsModel", "andAsked", "[C", true)
  | 75 => ("HundredWordsModel", "orAsked", "[C", true)
  | 76 => ("HundredWordsModel", "allAsked", "[C", true)
  | 77 => ("HundredWordsModel", "minAsked", "[C", true)
  | 78 => ("HundredWordsModel", "maxAsked", "[C", true)
  | 79 => ("HundredWordsModel", "caseAsked", "[C", true)
  | 80 => ("HundredWordsModel", "whoAsked", "[C", true)
  | 81 => ("HundredWordsModel", "whatAsked", "[C", true)
  | 82 => ("HundredWordsModel", "whenAsked", "[C", true)
  | 83 => ("HundredWordsModel", "lawAsked", "[C", true)
  | 84 => ("HundredWordsModel", "otherAsked", "[C", true)
  | 85 => ("HundredWordsModel", "borneAsked", "[C", true)
  | 86 => ("HundredWordsModel", "qCodes", "[I", true)
  | 87 => ("HundredWordsModel", "qCoded", "I", false)
  | 88 => ("HundredWordsModel", "qWait", "[I", true)
  | 89 => ("HundredWordsModel", "qWaits", "I", false)
  | 90 => ("HundredWordsModel", "qOpened", "I", false)
  | 91 => ("HundredWordsModel", "qBase", "I", false)
  | 92 => ("HundredWordsModel", "qPile", "[J", true)
  | 93 => ("HundredWordsModel", "qPiled", "I", false)
  | 94 => ("HundredWordsModel", "qAnswer", "J", false)
  | 95 => ("HundredWordsModel", "qIsNew", "Z", false)
  | 96 => ("HundredWordsModel", "octet", "[I", true)
  | _ => ("HundredWordsModel", "octets", "I", false)
def tyX12 : Nat → FieldType := fun k => match k with
  | 0 => .array .int
  | 1 => .int
  | 2 => .int
  | 3 => .int
  | 4 => .int
  | 5 => .int
  | 6 => .int
  | 7 => .int
  | 8 => .int
  | 9 => .array .int
  | 10 => .array .char
  | 11 => .array .char
  | 12 => .array .char
  | 13 => .array .char
  | 14 => .array .char
  | 15 => .array .char
  | 16 => .array .char
  | 17 => .array .char
  | 18 => .array .char
  | 19 => .array .char
  | 20 => .array .char
  | 21 => .array .char
  | 22 => .array .char
  | 23 => .array .char
  | 24 => .array .char
  | 25 => .array .char
  | 26 => .array .char
  | 27 => .array .char
  | 28 => .int
  | 29 => .array .long
  | 30 => .array .int
  | 31 => .array .long
  | 32 => .array .int
  | 33 => .int
  | 34 => .int
  | 35 => .array .int
  | 36 => .array .int
  | 37 => .int
  | 38 => .int
  | 39 => .int
  | 40 => .array .long
  | 41 => .array .long
  | 42 => .long
  | 43 => .array .int
  | 44 => .int
  | 45 => .int
  | 46 => .array .int
  | 47 => .array .int
  | 48 => .array .int
  | 49 => .int
  | 50 => .array .int
  | 51 => .array .int
  | 52 => .int
  | 53 => .int
  | 54 => .array .long
  | 55 => .array .int
  | 56 => .int
  | 57 => .array .int
  | 58 => .int
  | 59 => .int
  | 60 => .int
  | 61 => .int
  | 62 => .array .int
  | 63 => .int
  | 64 => .array .int
  | 65 => .int
  | 66 => .long
  | 67 => .array .char
  | 68 => .array .char
  | 69 => .array .char
  | 70 => .array .char
  | 71 => .array .char
  | 72 => .array .char
  | 73 => .array .char
  | 74 => .array .char
  | 75 => .array .char
  | 76 => .array .char
  | 77 => .array .char
  | 78 => .array .char
  | 79 => .array .char
  | 80 => .array .char
  | 81 => .array .char
  | 82 => .array .char
  | 83 => .array .char
  | 84 => .array .char
  | 85 => .array .char
  | 86 => .array .int
  | 87 => .int
  | 88 => .array .int
  | 89 => .int
  | 90 => .int
  | 91 => .int
  | 92 => .array .long
  | 93 => .int
  | 94 => .long
  | 95 => .boolean
  | 96 => .array .int
  | _ => .int
theorem nmX12 : ∀ a, a < 98 → ∀ b, b < 98 → a ≠ b → (TX12 a).2.1 ≠ (TX12 b).2.1 := by decide +kernel
theorem tyX12_ok : ∀ k, k < 98 → parseFieldDescriptor (TX12 k).2.2.1 = some (tyX12 k) := by decide +kernel
abbrev vwCl : List vw_C := [(RX0, TX0, 4), (RX1, TX1, 2), (RX2, TX2, 2), (RX3, TX3, 11), (RX4, TX4, 9), (RX5, TX5, 15), (RX6, TX6, 9), (RX7, TX7, 8), (RX8, TX8, 14), (RX9, TX9, 2), (RX10, TX10, 1), (RX11, TX11, 16), (RX12, TX12, 98)]
def j_df : Nat → List Value := fun c => match c with
  | 0 => [.null, .null, .int 0, .int 0]
  | 1 => [.null, .int 0]
  | 2 => [.null, .null]
  | 3 => [.null, .null, .null, .null, .int 0, .int 0, .int 0, .int 0, .null, .null, .null]
  | 4 => [.null, .int 0, .int 0, .null, .null, .null, .int 0, .long 0, .int 0]
  | 5 => [.null, .null, .null, .null, .null, .null, .null, .null, .int 0, .int 0, .int 0, .int 0, .long 0, .long 0, .int 0]
  | 6 => [.null, .int 0, .int 0, .int 0, .int 0, .int 0, .int 0, .int 0, .int 0]
  | 7 => [.null, .null, .null, .null, .null, .int 0, .long 0, .long 0]
  | 8 => [.null, .null, .null, .null, .null, .null, .null, .null, .null, .int 0, .int 0, .int 0, .int 0, .long 0]
  | 9 => [.null, .null]
  | 10 => [.null]
  | 11 => [.null, .null, .null, .null, .null, .null, .null, .null, .null, .null, .null, .null, .null, .null, .null, .long 0]
  | 12 => [.null, .int 0, .int 0, .int 0, .int 0, .int 0, .int 0, .int 0, .int 0, .null, .null, .null, .null, .null, .null, .null, .null, .null, .null, .null, .null, .null, .null, .null, .null, .null, .null, .null, .int 0, .null, .null, .null, .null, .int 0, .int 0, .null, .null, .int 0, .int 0, .int 0, .null, .null, .long 0, .null, .int 0, .int 0, .null, .null, .null, .int 0, .null, .null, .int 0, .int 0, .null, .null, .int 0, .null, .int 0, .int 0, .int 0, .int 0, .null, .int 0, .null, .int 0, .long 0, .null, .null, .null, .null, .null, .null, .null, .null, .null, .null, .null, .null, .null, .null, .null, .null, .null, .null, .null, .null, .int 0, .null, .int 0, .int 0, .int 0, .null, .int 0, .long 0, .int 0, .null, .int 0]
  | _ => []
noncomputable def j_hasL : List Cond → List (Nat × Nat) → Bool := fun ws => List.rec (fun _ => true) (fun x _ ih ps => List.rec false (fun q r _ => j_has q.1 q.2 x && ih r) ps) ws
theorem j_hasL_in : ∀ {ws : List Cond} {ps : List (Nat × Nat)}, j_hasL ws ps = true → ∀ x ∈ ws, x ∈ j_TW := by
  intro ws
  induction ws with
  | nil => intro ps _ x hx; exact absurd hx List.not_mem_nil
  | cons a r ih =>
    intro ps h x hx
    cases ps with
    | nil => cases h
    | cons q ps =>
      have h' : (j_has q.1 q.2 a && j_hasL r ps) = true := h
      rw [Bool.and_eq_true] at h'
      rcases List.mem_cons.mp hx with e | e
      · rw [e]; exact j_has_in h'.1
      · exact ih h'.2 x e
theorem j_kw0 : ∀ x ∈ u_ws RX0 TX0 4, x ∈ j_TW := j_hasL_in (ps := [(2, 122), (2, 124), (2, 126), (2, 128)]) (by decide +kernel)
theorem j_ki0 : Cond.instantiable RX0 4 ∈ j_TW ∧ Cond.initialized RX0 ∈ j_TW := ⟨j_has_in (c := 2) (o := 112) (by decide +kernel), j_has_in (c := 1) (o := 13) (by decide +kernel)⟩
theorem j_kw1 : ∀ x ∈ u_ws RX1 TX1 2, x ∈ j_TW := j_hasL_in (ps := [(2, 206), (2, 208)]) (by decide +kernel)
theorem j_ki1 : Cond.instantiable RX1 2 ∈ j_TW ∧ Cond.initialized RX1 ∈ j_TW := ⟨j_has_in (c := 2) (o := 197) (by decide +kernel), j_has_in (c := 1) (o := 16) (by decide +kernel)⟩
theorem j_kw2 : ∀ x ∈ u_ws RX2 TX2 2, x ∈ j_TW := j_hasL_in (ps := [(1, 156), (1, 158)]) (by decide +kernel)
theorem j_ki2 : Cond.instantiable RX2 2 ∈ j_TW ∧ Cond.initialized RX2 ∈ j_TW := ⟨j_has_in (c := 1) (o := 147) (by decide +kernel), j_has_in (c := 1) (o := 8) (by decide +kernel)⟩
theorem j_kw3 : ∀ x ∈ u_ws RX3 TX3 11, x ∈ j_TW := j_hasL_in (ps := [(1, 180), (1, 182), (1, 184), (1, 186), (1, 188), (1, 190), (1, 192), (1, 194), (1, 196), (1, 198), (1, 200)]) (by decide +kernel)
theorem j_ki3 : Cond.instantiable RX3 11 ∈ j_TW ∧ Cond.initialized RX3 ∈ j_TW := ⟨j_has_in (c := 1) (o := 162) (by decide +kernel), j_has_in (c := 1) (o := 9) (by decide +kernel)⟩
theorem j_kw4 : ∀ x ∈ u_ws RX4 TX4 9, x ∈ j_TW := j_hasL_in (ps := [(2, 92), (2, 94), (2, 96), (2, 98), (2, 100), (2, 102), (2, 104), (2, 106), (2, 108)]) (by decide +kernel)
theorem j_ki4 : Cond.instantiable RX4 9 ∈ j_TW ∧ Cond.initialized RX4 ∈ j_TW := ⟨j_has_in (c := 2) (o := 61) (by decide +kernel), j_has_in (c := 1) (o := 12) (by decide +kernel)⟩
theorem j_kw5 : ∀ x ∈ u_ws RX5 TX5 15, x ∈ j_TW := j_hasL_in (ps := [(2, 152), (2, 154), (2, 156), (2, 158), (2, 160), (2, 162), (2, 164), (2, 166), (2, 168), (2, 170), (2, 172), (2, 174), (2, 176), (2, 178), (2, 180)]) (by decide +kernel)
theorem j_ki5 : Cond.instantiable RX5 15 ∈ j_TW ∧ Cond.initialized RX5 ∈ j_TW := ⟨j_has_in (c := 2) (o := 132) (by decide +kernel), j_has_in (c := 1) (o := 14) (by decide +kernel)⟩
theorem j_kw6 : ∀ x ∈ u_ws RX6 TX6 9, x ∈ j_TW := j_hasL_in (ps := [(1, 60), (1, 62), (1, 64), (1, 66), (1, 68), (1, 70), (1, 72), (1, 74), (1, 76)]) (by decide +kernel)
theorem j_ki6 : Cond.instantiable RX6 9 ∈ j_TW ∧ Cond.initialized RX6 ∈ j_TW := ⟨j_has_in (c := 1) (o := 31) (by decide +kernel), j_has_in (c := 1) (o := 2) (by decide +kernel)⟩
theorem j_kw7 : ∀ x ∈ u_ws RX7 TX7 8, x ∈ j_TW := j_hasL_in (ps := [(1, 226), (1, 228), (1, 230), (1, 232), (1, 234), (1, 236), (1, 238), (2, 0)]) (by decide +kernel)
theorem j_ki7 : Cond.instantiable RX7 8 ∈ j_TW ∧ Cond.initialized RX7 ∈ j_TW := ⟨j_has_in (c := 1) (o := 211) (by decide +kernel), j_has_in (c := 1) (o := 11) (by decide +kernel)⟩
theorem j_kw8 : ∀ x ∈ u_ws RX8 TX8 14, x ∈ j_TW := j_hasL_in (ps := [(2, 31), (2, 33), (2, 35), (2, 37), (2, 39), (2, 41), (2, 43), (2, 45), (2, 47), (2, 49), (2, 51), (2, 53), (2, 55), (2, 57)]) (by decide +kernel)
theorem j_ki8 : Cond.instantiable RX8 14 ∈ j_TW ∧ Cond.initialized RX8 ∈ j_TW := ⟨j_has_in (c := 1) (o := 205) (by decide +kernel), j_has_in (c := 1) (o := 10) (by decide +kernel)⟩
theorem j_kw9 : ∀ x ∈ u_ws RX9 TX9 2, x ∈ j_TW := j_hasL_in (ps := [(1, 140), (1, 142)]) (by decide +kernel)
theorem j_ki9 : Cond.instantiable RX9 2 ∈ j_TW ∧ Cond.initialized RX9 ∈ j_TW := ⟨j_has_in (c := 1) (o := 81) (by decide +kernel), j_has_in (c := 1) (o := 3) (by decide +kernel)⟩
theorem j_kw10 : ∀ x ∈ u_ws RX10 TX10 1, x ∈ j_TW := j_hasL_in (ps := [(2, 193)]) (by decide +kernel)
theorem j_ki10 : Cond.instantiable RX10 1 ∈ j_TW ∧ Cond.initialized RX10 ∈ j_TW := ⟨j_has_in (c := 2) (o := 184) (by decide +kernel), j_has_in (c := 1) (o := 15) (by decide +kernel)⟩
theorem j_kw11 : ∀ x ∈ u_ws RX11 TX11 16, x ∈ j_TW := j_hasL_in (ps := [(2, 227), (2, 229), (2, 231), (2, 233), (2, 235), (2, 237), (2, 239), (3, 1), (3, 3), (3, 5), (3, 7), (3, 9), (3, 11), (3, 13), (3, 15), (3, 17)]) (by decide +kernel)
theorem j_ki11 : Cond.instantiable RX11 16 ∈ j_TW ∧ Cond.initialized RX11 ∈ j_TW := ⟨j_has_in (c := 1) (o := 23) (by decide +kernel), j_has_in (c := 1) (o := 1) (by decide +kernel)⟩
theorem j_kw12 : ∀ x ∈ u_ws RX12 TX12 98, x ∈ j_TW := j_hasL_in (ps := [(6, 199), (6, 201), (6, 203), (6, 205), (6, 207), (6, 209), (6, 211), (6, 213), (6, 215), (6, 217), (6, 219), (6, 221), (6, 223), (6, 225), (6, 227), (6, 229), (6, 231), (6, 233), (6, 235), (6, 237), (6, 239), (7, 1), (7, 3), (7, 5), (7, 7), (7, 9), (7, 11), (7, 13), (7, 15), (7, 17), (7, 19), (7, 21), (7, 23), (7, 25), (7, 27), (7, 29), (7, 31), (7, 33), (7, 35), (7, 37), (7, 39), (7, 41), (7, 43), (7, 45), (7, 47), (7, 49), (7, 51), (7, 53), (7, 55), (7, 57), (7, 59), (7, 61), (7, 63), (7, 65), (7, 67), (7, 69), (7, 71), (7, 73), (7, 75), (7, 77), (7, 79), (7, 81), (7, 83), (7, 85), (7, 87), (7, 89), (7, 91), (7, 93), (7, 95), (7, 97), (7, 99), (7, 101), (7, 103), (7, 105), (7, 107), (7, 109), (7, 111), (7, 113), (7, 115), (7, 117), (7, 119), (7, 121), (7, 123), (7, 125), (7, 127), (7, 129), (7, 131), (7, 133), (7, 135), (7, 137), (7, 139), (7, 141), (7, 143), (7, 145), (7, 147), (7, 149), (7, 151), (7, 153)]) (by decide +kernel)
theorem j_ki12 : Cond.instantiable RX12 98 ∈ j_TW ∧ Cond.initialized RX12 ∈ j_TW := ⟨j_has_in (c := 6) (o := 96) (by decide +kernel), j_has_in (c := 1) (o := 17) (by decide +kernel)⟩
theorem j_kd_ok : j_kd vwCl j_TW j_df ∧ vwCl[99]? = none ∧ ∀ rr : vw_C, vwCl[4]? = some rr → rr.1 = "HundredWords$Row" := by
  refine ⟨?_, by decide +kernel, fun rr h => by cases h; rfl⟩
  intro ci C T N h
  match ci, h with
  | 0, h => cases h; exact ⟨j_kw0, ⟨tyX0, tyX0_ok, by decide +kernel, by decide +kernel⟩, nmX0⟩
  | 1, h => cases h; exact ⟨j_kw1, ⟨tyX1, tyX1_ok, by decide +kernel, by decide +kernel⟩, nmX1⟩
  | 2, h => cases h; exact ⟨j_kw2, ⟨tyX2, tyX2_ok, by decide +kernel, by decide +kernel⟩, nmX2⟩
  | 3, h => cases h; exact ⟨j_kw3, ⟨tyX3, tyX3_ok, by decide +kernel, by decide +kernel⟩, nmX3⟩
  | 4, h => cases h; exact ⟨j_kw4, ⟨tyX4, tyX4_ok, by decide +kernel, by decide +kernel⟩, nmX4⟩
  | 5, h => cases h; exact ⟨j_kw5, ⟨tyX5, tyX5_ok, by decide +kernel, by decide +kernel⟩, nmX5⟩
  | 6, h => cases h; exact ⟨j_kw6, ⟨tyX6, tyX6_ok, by decide +kernel, by decide +kernel⟩, nmX6⟩
  | 7, h => cases h; exact ⟨j_kw7, ⟨tyX7, tyX7_ok, by decide +kernel, by decide +kernel⟩, nmX7⟩
  | 8, h => cases h; exact ⟨j_kw8, ⟨tyX8, tyX8_ok, by decide +kernel, by decide +kernel⟩, nmX8⟩
  | 9, h => cases h; exact ⟨j_kw9, ⟨tyX9, tyX9_ok, by decide +kernel, by decide +kernel⟩, nmX9⟩
  | 10, h => cases h; exact ⟨j_kw10, ⟨tyX10, tyX10_ok, by decide +kernel, by decide +kernel⟩, nmX10⟩
  | 11, h => cases h; exact ⟨j_kw11, ⟨tyX11, tyX11_ok, by decide +kernel, by decide +kernel⟩, nmX11⟩
  | 12, h => cases h; exact ⟨j_kw12, ⟨tyX12, tyX12_ok, by decide +kernel, by decide +kernel⟩, nmX12⟩
  | _ + 13, h => exact absurd h (by simp [vwCl])
theorem j_ki_ok : ∀ (ci : Nat) (C : String) (T : u_T) (N : Nat), vwCl[ci]? = some (C, T, N) → Cond.instantiable C N ∈ j_TW ∧ Cond.initialized C ∈ j_TW := by
  intro ci C T N h
  match ci, h with
  | 0, h => cases h; exact j_ki0
  | 1, h => cases h; exact j_ki1
  | 2, h => cases h; exact j_ki2
  | 3, h => cases h; exact j_ki3
  | 4, h => cases h; exact j_ki4
  | 5, h => cases h; exact j_ki5
  | 6, h => cases h; exact j_ki6
  | 7, h => cases h; exact j_ki7
  | 8, h => cases h; exact j_ki8
  | 9, h => cases h; exact j_ki9
  | 10, h => cases h; exact j_ki10
  | 11, h => cases h; exact j_ki11
  | 12, h => cases h; exact j_ki12
  | _ + 13, h => exact absurd h (by simp [vwCl])
theorem j_oi : Cond.instanceMethod Lib.objectInit ∈ j_TW ∧ Cond.code Lib.objectInit ⟨#[0xb1]⟩ 1 none ∈ j_TW := ⟨j_has_in (c := 1) (o := 28) (by decide +kernel), j_has_in (c := 1) (o := 29) (by decide +kernel)⟩
theorem j_cw : Cond.native arraycopyName ∈ j_TW ∧ Cond.static arraycopyName ∈ j_TW ∧ Cond.initialized "java/lang/System" ∈ j_TW := ⟨j_has_in (c := 4) (o := 41) (by decide +kernel), j_has_in (c := 4) (o := 40) (by decide +kernel), j_has_in (c := 1) (o := 19) (by decide +kernel)⟩
def j_zs : List (String × String × String × Value) := [("HundredWords$Row", "NEXT", "[I", .ref 1), ("java/lang/String", "COMPACT_STRINGS", "Z", .int 1), ("jdk/internal/util/Preconditions", "SIOOBE_FORMATTER", "Ljava/util/function/BiFunction;", .ref 8)]
def j_ks : jK := ([("HundredWords$TongueReader", 15, "who   what  when  like  limit party wish  peace judgedvotes worth forbidfree  any   and   or    not   unless", .ref 2), ("HundredWords$LawReader", 17, "who   what  when  like  limit party wish  peace judgedvotes worth forbidfree  any   and   or    not   unless", .ref 3), ("HundredWords$Question", 15, "first last  often total most  least all   case  who   what  when  law   other borne min   max   and   or    not   ", .ref 4)], [.fieldLinkNest "HundredWords$Tongue" 95 "HundredWords$Told" "party" "[I" "HundredWords", .methodLinkNest "HundredWords$Row" 95 ⟨"HundredWords", "truth", "(Z)I"⟩ "HundredWords", .methodLinkNest "HundredWords$Row" 99 ⟨"HundredWords", "isIn", "(JI)Z"⟩ "HundredWords", .methodLinkNest "HundredWords$Shorts" 72 ⟨"HundredWords", "truth", "(Z)I"⟩ "HundredWords", .methodLinkNest "HundredWords$Way" 56 ⟨"HundredWords$Row", "givenBy", "(I)I"⟩ "HundredWords", .methodLinkNest "HundredWords$Question" 192 ⟨"HundredWords", "isIn", "(JI)Z"⟩ "HundredWords", .methodLinkNest "HundredWords$Question" 196 ⟨"HundredWords", "truth", "(Z)I"⟩ "HundredWords", .arrayOver (.object "HundredWords$Row")])
theorem j_ao : Cond.arrayOver (.object "HundredWords$Row") ∈ j_ks.2 := by decide +kernel
