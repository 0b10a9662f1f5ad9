/-! the classes, their fields, the methods: numbers and names (written by wip/whole/gen.py out of the printed claim) -/
def cnm : List String := ["FetchRope$Acts", "FetchRope$Day", "FetchRope$Hill", "FetchRope$Outlook", "FetchRope$Tape", "FetchRope$Text", "FetchRope", "FetchRopeModel", "java/lang/String", "java/lang/StringLatin1", "java/lang/Math", "java/lang/Integer", "jdk/internal/util/Preconditions", "FetchRopeLaw"]
def cN (i : Nat) : String := cnm.getD i ""
def TX0 : u_T := fun k => match k with
  | 0 => ("FetchRope$Acts", "kept", "[I", true)
  | 1 => ("FetchRope$Acts", "ran", "I", false)
  | 2 => ("FetchRope$Acts", "kind", "I", false)
  | 3 => ("FetchRope$Acts", "number", "I", false)
  | _ => ("FetchRope$Acts", "v", "I", false)
def tyX0 : List FieldType := [.array .int, .int, .int, .int, .int]
def TX1 : u_T := fun k => match k with
  | 0 => ("FetchRope$Day", "count", "I", false)
  | 1 => ("FetchRope$Day", "hour", "I", false)
  | 2 => ("FetchRope$Day", "worn", "I", false)
  | 3 => ("FetchRope$Day", "dusk", "I", false)
  | 4 => ("FetchRope$Day", "sides", "I", false)
  | 5 => ("FetchRope$Day", "goals", "I", false)
  | 6 => ("FetchRope$Day", "kind", "[I", true)
  | 7 => ("FetchRope$Day", "v", "[I", true)
  | 8 => ("FetchRope$Day", "load", "[I", true)
  | 9 => ("FetchRope$Day", "worth", "[I", true)
  | 10 => ("FetchRope$Day", "rows", "[I", true)
  | 11 => ("FetchRope$Day", "planCount", "I", false)
  | 12 => ("FetchRope$Day", "planOne", "[I", true)
  | 13 => ("FetchRope$Day", "planOther", "[I", true)
  | 14 => ("FetchRope$Day", "bookCount", "I", false)
  | 15 => ("FetchRope$Day", "bookSledge", "[I", true)
  | 16 => ("FetchRope$Day", "bookPull", "[I", true)
  | 17 => ("FetchRope$Day", "hill", "LFetchRope$Hill;", false)
  | _ => ("FetchRope$Day", "facts", "[I", true)
def tyX1 : List FieldType := [.int, .int, .int, .int, .int, .int, .array .int, .array .int, .array .int, .array .int, .array .int, .int, .array .int, .array .int, .int, .array .int, .array .int, .object "FetchRope$Hill", .array .int]
def TX2 : u_T := fun k => match k with
  | 0 => ("FetchRope$Hill", "need", "I", false)
  | 1 => ("FetchRope$Hill", "rope", "I", false)
  | 2 => ("FetchRope$Hill", "falls", "I", false)
  | 3 => ("FetchRope$Hill", "amount", "[I", true)
  | 4 => ("FetchRope$Hill", "end", "[I", true)
  | 5 => ("FetchRope$Hill", "code", "[I", true)
  | _ => ("FetchRope$Hill", "size", "I", false)
def tyX2 : List FieldType := [.int, .int, .int, .array .int, .array .int, .array .int, .int]
def TX3 : u_T := fun k => match k with
  | 0 => ("FetchRope$Outlook", "gain", "[[I", true)
  | 1 => ("FetchRope$Outlook", "worn", "[[I", true)
  | 2 => ("FetchRope$Outlook", "ways", "[[I", true)
  | 3 => ("FetchRope$Outlook", "choice", "[[I", true)
  | 4 => ("FetchRope$Outlook", "pull", "[[I", true)
  | _ => ("FetchRope$Outlook", "present", "I", false)
def tyX3 : List FieldType := [.array (.array .int), .array (.array .int), .array (.array .int), .array (.array .int), .array (.array .int), .int]
def TX4 : u_T := fun k => match k with
  | 0 => ("FetchRope$Tape", "sort", "I", false)
  | 1 => ("FetchRope$Tape", "length", "I", false)
  | _ => ("FetchRope$Tape", "items", "[J", true)
def tyX4 : List FieldType := [.int, .int, .array .long]
def TX5 : u_T := fun k => match k with
  | 0 => ("FetchRope$Text", "bytes", "[B", true)
  | 1 => ("FetchRope$Text", "length", "I", false)
  | _ => ("FetchRope$Text", "at", "I", false)
def tyX5 : List FieldType := [.array .byte, .int, .int]
def TX6 : u_T := fun k => match k with
  | 0 => ("FetchRope", "day", "LFetchRope$Day;", true)
  | 1 => ("FetchRope", "saved", "LFetchRope$Day;", true)
  | 2 => ("FetchRope", "imageTaken", "Z", false)
  | 3 => ("FetchRope", "text", "LFetchRope$Text;", true)
  | 4 => ("FetchRope", "hills", "[LFetchRope$Hill;", true)
  | 5 => ("FetchRope", "hillCount", "I", false)
  | 6 => ("FetchRope", "outlook", "LFetchRope$Outlook;", true)
  | 7 => ("FetchRope", "acts", "LFetchRope$Acts;", true)
  | _ => ("FetchRope", "tapes", "[LFetchRope$Tape;", true)
def tyX6 : List FieldType := [.object "FetchRope$Day", .object "FetchRope$Day", .boolean, .object "FetchRope$Text", .array (.object "FetchRope$Hill"), .int, .object "FetchRope$Outlook", .object "FetchRope$Acts", .array (.object "FetchRope$Tape")]
def TX7 : u_T := fun k => match k with
  | 0 => ("FetchRopeModel", "sledges", "I", false)
  | 1 => ("FetchRopeModel", "sides", "I", false)
  | 2 => ("FetchRopeModel", "hours", "I", false)
  | 3 => ("FetchRopeModel", "worn", "I", false)
  | 4 => ("FetchRopeModel", "away", "I", false)
  | 5 => ("FetchRopeModel", "kind", "[I", true)
  | 6 => ("FetchRopeModel", "v", "[I", true)
  | 7 => ("FetchRopeModel", "load", "[I", true)
  | 8 => ("FetchRopeModel", "goal", "[I", true)
  | 9 => ("FetchRopeModel", "worth", "[I", true)
  | 10 => ("FetchRopeModel", "rows", "[I", true)
  | 11 => ("FetchRopeModel", "hills", "I", false)
  | 12 => ("FetchRopeModel", "the", "I", false)
  | 13 => ("FetchRopeModel", "fed", "I", false)
  | 14 => ("FetchRopeModel", "at", "I", false)
  | 15 => ("FetchRopeModel", "digits", "I", false)
  | 16 => ("FetchRopeModel", "text", "[I", true)
  | 17 => ("FetchRopeModel", "clauses", "[I", true)
  | 18 => ("FetchRopeModel", "word", "[I", true)
  | 19 => ("FetchRopeModel", "number", "[I", true)
  | 20 => ("FetchRopeModel", "from", "[I", true)
  | 21 => ("FetchRopeModel", "to", "[I", true)
  | 22 => ("FetchRopeModel", "sign", "[I", true)
  | 23 => ("FetchRopeModel", "waits", "[I", true)
  | 24 => ("FetchRopeModel", "signs", "I", false)
  | 25 => ("FetchRopeModel", "waiting", "I", false)
  | 26 => ("FetchRopeModel", "open", "I", false)
  | 27 => ("FetchRopeModel", "letters", "[I", true)
  | 28 => ("FetchRopeModel", "pile", "[Z", true)
  | 29 => ("FetchRopeModel", "row", "[I", true)
  | 30 => ("FetchRopeModel", "bestRow", "[I", true)
  | 31 => ("FetchRopeModel", "wear", "[I", true)
  | 32 => ("FetchRopeModel", "bestGain", "I", false)
  | 33 => ("FetchRopeModel", "bestWear", "I", false)
  | 34 => ("FetchRopeModel", "rowsMany", "I", false)
  | 35 => ("FetchRopeModel", "firstPair", "I", false)
  | 36 => ("FetchRopeModel", "reached", "I", false)
  | 37 => ("FetchRopeModel", "dusk", "I", false)
  | 38 => ("FetchRopeModel", "twoMany", "I", false)
  | 39 => ("FetchRopeModel", "twoMost", "I", false)
  | 40 => ("FetchRopeModel", "plans", "I", false)
  | 41 => ("FetchRopeModel", "planOne", "[I", true)
  | 42 => ("FetchRopeModel", "planOther", "[I", true)
  | 43 => ("FetchRopeModel", "books", "I", false)
  | 44 => ("FetchRopeModel", "bookSledge", "[I", true)
  | 45 => ("FetchRopeModel", "bookPull", "[I", true)
  | 46 => ("FetchRopeModel", "hasImage", "Z", false)
  | 47 => ("FetchRopeModel", "imageThe", "I", false)
  | 48 => ("FetchRopeModel", "imageSledges", "I", false)
  | 49 => ("FetchRopeModel", "imageSides", "I", false)
  | 50 => ("FetchRopeModel", "imageHours", "I", false)
  | 51 => ("FetchRopeModel", "imageWorn", "I", false)
  | 52 => ("FetchRopeModel", "imageDusk", "I", false)
  | 53 => ("FetchRopeModel", "imagePlans", "I", false)
  | 54 => ("FetchRopeModel", "imageBooks", "I", false)
  | 55 => ("FetchRopeModel", "imageKind", "[I", true)
  | 56 => ("FetchRopeModel", "imageV", "[I", true)
  | 57 => ("FetchRopeModel", "imageLoad", "[I", true)
  | 58 => ("FetchRopeModel", "imageGoal", "[I", true)
  | 59 => ("FetchRopeModel", "imageWorth", "[I", true)
  | 60 => ("FetchRopeModel", "imageRows", "[I", true)
  | 61 => ("FetchRopeModel", "imageOne", "[I", true)
  | 62 => ("FetchRopeModel", "imageOther", "[I", true)
  | 63 => ("FetchRopeModel", "imageSledge", "[I", true)
  | 64 => ("FetchRopeModel", "imagePull", "[I", true)
  | 65 => ("FetchRopeModel", "ran", "I", false)
  | 66 => ("FetchRopeModel", "bodies", "[I", true)
  | 67 => ("FetchRopeModel", "sort", "[I", true)
  | 68 => ("FetchRopeModel", "length", "[I", true)
  | 69 => ("FetchRopeModel", "item", "[J", true)
  | _ => ("FetchRopeModel", "aside", "[J", true)
def tyX7 : List FieldType := [.int, .int, .int, .int, .int, .array .int, .array .int, .array .int, .array .int, .array .int, .array .int, .int, .int, .int, .int, .int, .array .int, .array .int, .array .int, .array .int, .array .int, .array .int, .array .int, .array .int, .int, .int, .int, .array .int, .array .boolean, .array .int, .array .int, .array .int, .int, .int, .int, .int, .int, .int, .int, .int, .int, .array .int, .array .int, .int, .array .int, .array .int, .boolean, .int, .int, .int, .int, .int, .int, .int, .int, .array .int, .array .int, .array .int, .array .int, .array .int, .array .int, .array .int, .array .int, .array .int, .array .int, .int, .array .int, .array .int, .array .int, .array .long, .array .long]
abbrev vwCl : List vw_C := [("FetchRope$Acts", TX0, 5), ("FetchRope$Day", TX1, 19), ("FetchRope$Hill", TX2, 7), ("FetchRope$Outlook", TX3, 6), ("FetchRope$Tape", TX4, 3), ("FetchRope$Text", TX5, 3), ("FetchRope", TX6, 9), ("FetchRopeModel", TX7, 71)]
def ctyL : List (List FieldType) := [tyX0, tyX1, tyX2, tyX3, tyX4, tyX5, tyX6, tyX7, [.array .byte, .byte]]
def cty (ci k : Nat) : FieldType := (ctyL.getD ci []).getD k .int
def nfl (ci : Nat) : Nat := (ctyL.getD ci []).length
abbrev aM : Type := MethodName × ByteArray × Nat × Option FieldType × Nat × Nat × Nat
def mT : List aM := [
  (⟨"FetchRope$Acts", "<init>", "()V"⟩, prog_2_method_1_code, 1, none, 0, 0, 2),
  (⟨"FetchRope$Acts", "perform", "(IIIII)I"⟩, prog_2_method_2_code, 6, (some .int), 0, 5, 0),
  (⟨"FetchRope$Acts", "begin", "(I)V"⟩, prog_2_method_3_code, 2, none, 0, 1, 0),
  (⟨"FetchRope$Acts", "actFrom", "(IIII)I"⟩, prog_2_method_4_code, 7, (some .int), 0, 4, 0),
  (⟨"FetchRope$Acts", "workOut", "(IIII)I"⟩, prog_2_method_5_code, 5, (some .int), 0, 4, 0),
  (⟨"FetchRope$Day", "<init>", "(LFetchRope$Hill;)V"⟩, prog_3_method_1_code, 2, none, 1, 1, 2),
  (⟨"FetchRope$Day", "copyFrom", "(LFetchRope$Day;)V"⟩, prog_3_method_2_code, 2, none, 1, 1, 0),
  (⟨"FetchRope$Day", "has", "(I)Z"⟩, prog_3_method_3_code, 2, (some .boolean), 1, 1, 0),
  (⟨"FetchRope$Day", "all", "()I"⟩, prog_3_method_4_code, 1, (some .int), 1, 0, 0),
  (⟨"FetchRope$Day", "add", "(IIIIII)I"⟩, prog_3_method_5_code, 8, (some .int), 1, 6, 0),
  (⟨"FetchRope$Day", "changeLoad", "(II)I"⟩, prog_3_method_6_code, 4, (some .int), 1, 2, 0),
  (⟨"FetchRope$Day", "changeGoal", "(II)I"⟩, prog_3_method_7_code, 4, (some .int), 1, 2, 0),
  (⟨"FetchRope$Day", "withBit", "(III)I"⟩, prog_3_method_8_code, 3, (some .int), 1, 3, 1),
  (⟨"FetchRope$Day", "sideOf", "(I)I"⟩, prog_3_method_9_code, 2, (some .int), 1, 1, 0),
  (⟨"FetchRope$Day", "unlike", "(III)Z"⟩, prog_3_method_10_code, 4, (some .boolean), 1, 3, 0),
  (⟨"FetchRope$Day", "pullNow", "(I)I"⟩, prog_3_method_11_code, 2, (some .int), 1, 1, 0),
  (⟨"FetchRope$Day", "pullAt", "(III)I"⟩, prog_3_method_12_code, 5, (some .int), 1, 3, 0),
  (⟨"FetchRope$Day", "pullOfKind", "(III)I"⟩, prog_3_method_13_code, 5, (some .int), 1, 3, 0),
  (⟨"FetchRope$Day", "pullOfBoth", "(IIII)I"⟩, prog_3_method_14_code, 5, (some .int), 1, 4, 0),
  (⟨"FetchRope$Day", "goes", "(IIII)Z"⟩, prog_3_method_15_code, 5, (some .boolean), 1, 4, 0),
  (⟨"FetchRope$Day", "haveRun", "(II)Z"⟩, prog_3_method_16_code, 4, (some .boolean), 1, 2, 0),
  (⟨"FetchRope$Day", "goersAt", "(I)I"⟩, prog_3_method_17_code, 5, (some .int), 1, 1, 0),
  (⟨"FetchRope$Day", "gainOn", "(II)I"⟩, prog_3_method_18_code, 6, (some .int), 1, 2, 0),
  (⟨"FetchRope$Hill", "<init>", "()V"⟩, prog_4_method_1_code, 1, none, 2, 0, 2),
  (⟨"FetchRope$Hill", "clear", "()V"⟩, prog_4_method_2_code, 1, none, 2, 0, 0),
  (⟨"FetchRope$Hill", "write", "(I)V"⟩, prog_4_method_3_code, 2, none, 2, 1, 0),
  (⟨"FetchRope$Hill", "writeTest", "(III)V"⟩, prog_4_method_4_code, 4, none, 2, 3, 0),
  (⟨"FetchRope$Hill", "endFall", "(I)V"⟩, prog_4_method_5_code, 2, none, 2, 1, 0),
  (⟨"FetchRope$Hill", "drift", "([I)I"⟩, prog_4_method_6_code, 5, (some .int), 2, 1, 0),
  (⟨"FetchRope$Hill", "holds", "(II[I)Z"⟩, prog_4_method_7_code, 8, (some .boolean), 2, 3, 0),
  (⟨"FetchRope$Hill", "passes", "(I[I)Z"⟩, prog_4_method_8_code, 4, (some .boolean), 2, 2, 1),
  (⟨"FetchRope$Hill", "bears", "(II)Z"⟩, prog_4_method_9_code, 3, (some .boolean), 2, 2, 0),
  (⟨"FetchRope$Outlook", "<init>", "()V"⟩, prog_5_method_1_code, 1, none, 3, 0, 2),
  (⟨"FetchRope$Outlook", "look", "(LFetchRope$Day;II)V"⟩, prog_5_method_2_code, 6, none, 3, 3, 0),
  (⟨"FetchRope$Outlook", "bitsOf", "(I)I"⟩, prog_5_method_3_code, 1, (some .int), 3, 1, 1),
  (⟨"FetchRope$Outlook", "numberOf", "(I)I"⟩, prog_5_method_4_code, 1, (some .int), 3, 1, 1),
  (⟨"FetchRope$Outlook", "pullThen", "(III)I"⟩, prog_5_method_5_code, 4, (some .int), 3, 3, 0),
  (⟨"FetchRope$Outlook", "pullOfPair", "(III)I"⟩, prog_5_method_6_code, 4, (some .int), 3, 3, 0),
  (⟨"FetchRope$Outlook", "pairGoes", "(LFetchRope$Day;III)Z"⟩, prog_5_method_7_code, 6, (some .boolean), 3, 4, 0),
  (⟨"FetchRope$Outlook", "reachable", "(LFetchRope$Day;I)Z"⟩, prog_5_method_8_code, 2, (some .boolean), 3, 2, 1),
  (⟨"FetchRope$Outlook", "findBest", "(LFetchRope$Day;II)V"⟩, prog_5_method_9_code, 6, none, 3, 3, 0),
  (⟨"FetchRope$Outlook", "choose", "(LFetchRope$Day;II)V"⟩, prog_5_method_10_code, 11, none, 3, 3, 0),
  (⟨"FetchRope$Outlook", "bestPair", "(II)I"⟩, prog_5_method_11_code, 5, (some .int), 3, 2, 0),
  (⟨"FetchRope$Outlook", "crosses", "(LFetchRope$Day;II)Z"⟩, prog_5_method_12_code, 7, (some .boolean), 3, 3, 0),
  (⟨"FetchRope$Outlook", "countRows", "(LFetchRope$Day;I)V"⟩, prog_5_method_13_code, 5, none, 3, 2, 0),
  (⟨"FetchRope$Outlook", "waysOn", "(LFetchRope$Day;II)I"⟩, prog_5_method_14_code, 6, (some .int), 3, 3, 0),
  (⟨"FetchRope$Outlook", "firstPair", "(LFetchRope$Day;I)I"⟩, prog_5_method_15_code, 4, (some .int), 3, 2, 0),
  (⟨"FetchRope$Outlook", "waysOfTwo", "(LFetchRope$Day;)I"⟩, prog_5_method_16_code, 5, (some .int), 3, 1, 0),
  (⟨"FetchRope$Outlook", "mostOfTwo", "(LFetchRope$Day;)I"⟩, prog_5_method_17_code, 7, (some .int), 3, 1, 0),
  (⟨"FetchRope$Outlook", "bothGo", "(LFetchRope$Day;II)Z"⟩, prog_5_method_18_code, 4, (some .boolean), 3, 3, 0),
  (⟨"FetchRope$Tape", "<init>", "()V"⟩, prog_6_method_1_code, 1, none, 4, 0, 2),
  (⟨"FetchRope$Tape", "isEmpty", "()Z"⟩, prog_6_method_2_code, 1, (some .boolean), 4, 0, 0),
  (⟨"FetchRope$Tape", "become", "(II)V"⟩, prog_6_method_3_code, 4, none, 4, 2, 0),
  (⟨"FetchRope$Tape", "cut", "(J)J"⟩, prog_6_method_4_code, 3, (some .long), 4, 1, 0),
  (⟨"FetchRope$Text", "<init>", "()V"⟩, prog_7_method_1_code, 1, none, 5, 0, 2),
  (⟨"FetchRope$Text", "add", "(I)Z"⟩, prog_7_method_2_code, 2, (some .boolean), 5, 1, 0),
  (⟨"FetchRope$Text", "readInto", "(LFetchRope$Hill;)I"⟩, prog_7_method_3_code, 3, (some .int), 5, 1, 0),
  (⟨"FetchRope$Text", "readClause", "(LFetchRope$Hill;)Z"⟩, prog_7_method_4_code, 6, (some .boolean), 5, 1, 0),
  (⟨"FetchRope$Text", "readEither", "(LFetchRope$Hill;I)Z"⟩, prog_7_method_5_code, 4, (some .boolean), 5, 2, 0),
  (⟨"FetchRope$Text", "readBoth", "(LFetchRope$Hill;I)Z"⟩, prog_7_method_6_code, 4, (some .boolean), 5, 2, 0),
  (⟨"FetchRope$Text", "readSingle", "(LFetchRope$Hill;I)Z"⟩, prog_7_method_7_code, 6, (some .boolean), 5, 2, 0),
  (⟨"FetchRope$Text", "readNumber", "()I"⟩, prog_7_method_8_code, 3, (some .int), 5, 0, 0),
  (⟨"FetchRope$Text", "accept", "(C)Z"⟩, prog_7_method_10_code, 2, (some .boolean), 5, 1, 0),
  (⟨"FetchRope$Text", "acceptAll", "(Ljava/lang/String;)Z"⟩, prog_7_method_11_code, 3, (some .boolean), 5, 1, 0),
  (⟨"FetchRope$Text", "acceptOneOf", "(Ljava/lang/String;)I"⟩, prog_7_method_12_code, 3, (some .int), 5, 1, 0),
  (⟨"FetchRope", "<init>", "()V"⟩, prog_1_method_1_code, 3, none, 6, 0, 2),
  (⟨"FetchRope", "sledge", "(IIIIII)I"⟩, prog_1_method_2_code, 7, (some .int), 6, 6, 0),
  (⟨"FetchRope", "of", "(II)I"⟩, prog_1_method_3_code, 3, (some .int), 6, 2, 0),
  (⟨"FetchRope", "set", "(III)I"⟩, prog_1_method_4_code, 4, (some .int), 6, 3, 0),
  (⟨"FetchRope", "row", "(III)I"⟩, prog_1_method_5_code, 6, (some .int), 6, 3, 0),
  (⟨"FetchRope", "feed", "(I)I"⟩, prog_1_method_6_code, 2, (some .int), 6, 1, 0),
  (⟨"FetchRope", "hill", "()I"⟩, prog_1_method_7_code, 3, (some .int), 6, 0, 0),
  (⟨"FetchRope", "told", "(I)I"⟩, prog_1_method_8_code, 2, (some .int), 6, 1, 0),
  (⟨"FetchRope", "run", "(II)I"⟩, prog_1_method_9_code, 4, (some .int), 6, 2, 0),
  (⟨"FetchRope", "hour", "()I"⟩, prog_1_method_10_code, 1, (some .int), 6, 0, 0),
  (⟨"FetchRope", "with", "(I)I"⟩, prog_1_method_11_code, 4, (some .int), 6, 1, 0),
  (⟨"FetchRope", "ballast", "(III)I"⟩, prog_1_method_12_code, 7, (some .int), 6, 3, 0),
  (⟨"FetchRope", "best", "(II)I"⟩, prog_1_method_13_code, 4, (some .int), 6, 2, 0),
  (⟨"FetchRope", "never", "()I"⟩, prog_1_method_14_code, 3, (some .int), 6, 0, 0),
  (⟨"FetchRope", "when", "(II)I"⟩, prog_1_method_15_code, 5, (some .int), 6, 2, 0),
  (⟨"FetchRope", "can", "(II)I"⟩, prog_1_method_16_code, 3, (some .int), 6, 2, 0),
  (⟨"FetchRope", "dusk", "(I)I"⟩, prog_1_method_17_code, 3, (some .int), 6, 1, 0),
  (⟨"FetchRope", "runs", "(II)I"⟩, prog_1_method_18_code, 3, (some .int), 6, 2, 0),
  (⟨"FetchRope", "two", "(I)I"⟩, prog_1_method_19_code, 2, (some .int), 6, 1, 0),
  (⟨"FetchRope", "price", "(I)I"⟩, prog_1_method_20_code, 3, (some .int), 6, 1, 0),
  (⟨"FetchRope", "plan", "(II)I"⟩, prog_1_method_21_code, 4, (some .int), 6, 2, 0),
  (⟨"FetchRope", "wear", "(I)I"⟩, prog_1_method_22_code, 10, (some .int), 6, 1, 0),
  (⟨"FetchRope", "odds", "(III)J"⟩, prog_1_method_23_code, 8, (some .long), 6, 3, 0),
  (⟨"FetchRope", "mean", "(I)J"⟩, prog_1_method_24_code, 4, (some .long), 6, 1, 0),
  (⟨"FetchRope", "book", "(II)I"⟩, prog_1_method_25_code, 3, (some .int), 6, 2, 0),
  (⟨"FetchRope", "looked", "()I"⟩, prog_1_method_26_code, 2, (some .int), 6, 0, 0),
  (⟨"FetchRope", "judge", "(II)I"⟩, prog_1_method_27_code, 5, (some .int), 6, 2, 0),
  (⟨"FetchRope", "image", "()I"⟩, prog_1_method_28_code, 1, (some .int), 6, 0, 0),
  (⟨"FetchRope", "undo", "()I"⟩, prog_1_method_29_code, 1, (some .int), 6, 0, 0),
  (⟨"FetchRope", "act", "(III)I"⟩, prog_1_method_30_code, 4, (some .int), 6, 3, 0),
  (⟨"FetchRope", "trace", "(I)I"⟩, prog_1_method_31_code, 2, (some .int), 6, 1, 0),
  (⟨"FetchRope", "taken", "(II)I"⟩, prog_1_method_32_code, 3, (some .int), 6, 2, 0),
  (⟨"FetchRope", "count", "(I)I"⟩, prog_1_method_33_code, 2, (some .int), 6, 1, 0),
  (⟨"FetchRope", "tape", "(III)I"⟩, prog_1_method_34_code, 4, (some .int), 6, 3, 0),
  (⟨"FetchRope", "item", "(IIJ)I"⟩, prog_1_method_35_code, 6, (some .int), 6, 3, 0),
  (⟨"FetchRope", "read", "(II)J"⟩, prog_1_method_36_code, 3, (some .long), 6, 2, 0),
  (⟨"FetchRope", "shift", "(IIIII)I"⟩, prog_1_method_37_code, 8, (some .int), 6, 5, 0),
  (⟨"FetchRope", "within", "(II)Z"⟩, prog_1_method_38_code, 2, (some .boolean), 6, 2, 1),
  (⟨"FetchRope", "isTape", "(I)Z"⟩, prog_1_method_39_code, 1, (some .boolean), 6, 1, 1),
  (⟨"FetchRope", "refusalOfPair", "(II)I"⟩, prog_1_method_40_code, 3, (some .int), 6, 2, 0),
  (⟨"FetchRope", "isUnder", "(II)Z"⟩, prog_1_method_41_code, 4, (some .boolean), 6, 2, 1),
  (⟨"FetchRope", "lowestTerm", "(III)J"⟩, prog_1_method_42_code, 7, (some .long), 6, 3, 1),
  (⟨"FetchRopeModel", "<init>", "()V"⟩, prog_9_method_1_code, 1, none, 7, 0, 2),
  (⟨"FetchRopeModel", "in", "(III)Z"⟩, prog_9_method_2_code, 4, (some .boolean), 7, 3, 0),
  (⟨"FetchRopeModel", "isSledge", "(I)Z"⟩, prog_9_method_4_code, 2, (some .boolean), 7, 1, 0),
  (⟨"FetchRopeModel", "sledge", "(IIIIII)I"⟩, prog_9_method_5_code, 8, (some .int), 7, 6, 0),
  (⟨"FetchRopeModel", "set", "(III)I"⟩, prog_9_method_6_code, 5, (some .int), 7, 3, 0),
  (⟨"FetchRopeModel", "row", "(III)I"⟩, prog_9_method_7_code, 5, (some .int), 7, 3, 0),
  (⟨"FetchRopeModel", "feed", "(I)I"⟩, prog_9_method_8_code, 2, (some .int), 7, 1, 0),
  (⟨"FetchRopeModel", "next", "()I"⟩, prog_9_method_9_code, 1, (some .int), 7, 0, 0),
  (⟨"FetchRopeModel", "second", "()I"⟩, prog_9_method_10_code, 1, (some .int), 7, 0, 0),
  (⟨"FetchRopeModel", "takes", "(I)Z"⟩, prog_9_method_11_code, 2, (some .boolean), 7, 1, 0),
  (⟨"FetchRopeModel", "takesWord", "(II)Z"⟩, prog_9_method_12_code, 4, (some .boolean), 7, 2, 0),
  (⟨"FetchRopeModel", "isDigit", "()Z"⟩, prog_9_method_13_code, 1, (some .boolean), 7, 0, 0),
  (⟨"FetchRopeModel", "takesNumber", "()Z"⟩, prog_9_method_14_code, 2, (some .boolean), 7, 0, 0),
  (⟨"FetchRopeModel", "emits", "(I)V"⟩, prog_9_method_15_code, 2, none, 7, 1, 0),
  (⟨"FetchRopeModel", "whole", "()V"⟩, prog_9_method_16_code, 1, none, 7, 0, 0),
  (⟨"FetchRopeModel", "settle", "(I)V"⟩, prog_9_method_17_code, 2, none, 7, 1, 0),
  (⟨"FetchRopeModel", "place", "(I)I"⟩, prog_9_method_18_code, 2, (some .int), 7, 1, 0),
  (⟨"FetchRopeModel", "takesTest", "()Z"⟩, prog_9_method_19_code, 3, (some .boolean), 7, 0, 0),
  (⟨"FetchRopeModel", "takesE", "(I)Z"⟩, prog_9_method_20_code, 4, (some .boolean), 7, 1, 0),
  (⟨"FetchRopeModel", "takesHead", "(I)Z"⟩, prog_9_method_21_code, 3, (some .boolean), 7, 1, 0),
  (⟨"FetchRopeModel", "takesClause", "(I)Z"⟩, prog_9_method_22_code, 2, (some .boolean), 7, 1, 0),
  (⟨"FetchRopeModel", "goesText", "(I)Z"⟩, prog_9_method_23_code, 3, (some .boolean), 7, 1, 0),
  (⟨"FetchRopeModel", "hill", "()I"⟩, prog_9_method_24_code, 2, (some .int), 7, 0, 0),
  (⟨"FetchRopeModel", "begin", "()I"⟩, prog_9_method_25_code, 1, (some .int), 7, 0, 0),
  (⟨"FetchRopeModel", "behind", "()I"⟩, prog_9_method_26_code, 1, (some .int), 7, 0, 0),
  (⟨"FetchRopeModel", "lastOf", "(II)I"⟩, prog_9_method_27_code, 5, (some .int), 7, 2, 0),
  (⟨"FetchRopeModel", "ropeNow", "()I"⟩, prog_9_method_28_code, 1, (some .int), 7, 0, 0),
  (⟨"FetchRopeModel", "factOf", "(II)I"⟩, prog_9_method_29_code, 3, (some .int), 7, 2, 0),
  (⟨"FetchRopeModel", "holds", "(II)Z"⟩, prog_9_method_30_code, 8, (some .boolean), 7, 2, 0),
  (⟨"FetchRopeModel", "sumOf", "(II)I"⟩, prog_9_method_31_code, 5, (some .int), 7, 2, 0),
  (⟨"FetchRopeModel", "plainPull", "(I)I"⟩, prog_9_method_32_code, 3, (some .int), 7, 1, 0),
  (⟨"FetchRopeModel", "pullOf", "(I)I"⟩, prog_9_method_33_code, 3, (some .int), 7, 1, 0),
  (⟨"FetchRopeModel", "areApart", "(II)Z"⟩, prog_9_method_34_code, 3, (some .boolean), 7, 2, 0),
  (⟨"FetchRopeModel", "goesBy", "(II)Z"⟩, prog_9_method_35_code, 4, (some .boolean), 7, 2, 0),
  (⟨"FetchRopeModel", "goes", "(II)Z"⟩, prog_9_method_36_code, 3, (some .boolean), 7, 2, 0),
  (⟨"FetchRopeModel", "change", "(II)V"⟩, prog_9_method_37_code, 3, none, 7, 2, 0),
  (⟨"FetchRopeModel", "gainNow", "()I"⟩, prog_9_method_38_code, 3, (some .int), 7, 0, 0),
  (⟨"FetchRopeModel", "of", "(II)I"⟩, prog_9_method_39_code, 3, (some .int), 7, 2, 0),
  (⟨"FetchRopeModel", "told", "(I)I"⟩, prog_9_method_40_code, 2, (some .int), 7, 1, 0),
  (⟨"FetchRopeModel", "wornBy", "(II)I"⟩, prog_9_method_41_code, 3, (some .int), 7, 2, 0),
  (⟨"FetchRopeModel", "run", "(II)I"⟩, prog_9_method_42_code, 4, (some .int), 7, 2, 0),
  (⟨"FetchRopeModel", "hour", "()I"⟩, prog_9_method_43_code, 1, (some .int), 7, 0, 0),
  (⟨"FetchRopeModel", "with", "(I)I"⟩, prog_9_method_44_code, 4, (some .int), 7, 1, 0),
  (⟨"FetchRopeModel", "ballast", "(III)I"⟩, prog_9_method_45_code, 7, (some .int), 7, 3, 0),
  (⟨"FetchRopeModel", "nextPair", "(I)I"⟩, prog_9_method_46_code, 4, (some .int), 7, 1, 0),
  (⟨"FetchRopeModel", "takeRow", "(I)V"⟩, prog_9_method_47_code, 4, none, 7, 1, 0),
  (⟨"FetchRopeModel", "takeBack", "(I)V"⟩, prog_9_method_48_code, 2, none, 7, 1, 0),
  (⟨"FetchRopeModel", "layBest", "(I)V"⟩, prog_9_method_49_code, 5, none, 7, 1, 0),
  (⟨"FetchRopeModel", "best", "(II)I"⟩, prog_9_method_50_code, 3, (some .int), 7, 2, 0),
  (⟨"FetchRopeModel", "never", "()I"⟩, prog_9_method_51_code, 6, (some .int), 7, 0, 0),
  (⟨"FetchRopeModel", "when", "(II)I"⟩, prog_9_method_52_code, 6, (some .int), 7, 2, 0),
  (⟨"FetchRopeModel", "layRuns", "(II)V"⟩, prog_9_method_53_code, 6, none, 7, 2, 0),
  (⟨"FetchRopeModel", "can", "(II)I"⟩, prog_9_method_54_code, 3, (some .int), 7, 2, 0),
  (⟨"FetchRopeModel", "dusk", "(I)I"⟩, prog_9_method_55_code, 3, (some .int), 7, 1, 0),
  (⟨"FetchRopeModel", "runs", "(II)I"⟩, prog_9_method_56_code, 3, (some .int), 7, 2, 0),
  (⟨"FetchRopeModel", "layTwo", "(IIII)V"⟩, prog_9_method_57_code, 7, none, 7, 4, 0),
  (⟨"FetchRopeModel", "layTwoWith", "(II)V"⟩, prog_9_method_58_code, 5, none, 7, 2, 0),
  (⟨"FetchRopeModel", "two", "(I)I"⟩, prog_9_method_59_code, 4, (some .int), 7, 1, 0),
  (⟨"FetchRopeModel", "price", "(I)I"⟩, prog_9_method_60_code, 3, (some .int), 7, 1, 0),
  (⟨"FetchRopeModel", "plan", "(II)I"⟩, prog_9_method_61_code, 3, (some .int), 7, 2, 0),
  (⟨"FetchRopeModel", "wear", "(I)I"⟩, prog_9_method_62_code, 10, (some .int), 7, 1, 0),
  (⟨"FetchRopeModel", "divisor", "(II)I"⟩, prog_9_method_63_code, 6, (some .int), 7, 2, 0),
  (⟨"FetchRopeModel", "lowest", "(III)J"⟩, prog_9_method_64_code, 5, (some .long), 7, 3, 0),
  (⟨"FetchRopeModel", "odds", "(III)J"⟩, prog_9_method_65_code, 6, (some .long), 7, 3, 0),
  (⟨"FetchRopeModel", "mean", "(I)J"⟩, prog_9_method_66_code, 4, (some .long), 7, 1, 0),
  (⟨"FetchRopeModel", "book", "(II)I"⟩, prog_9_method_67_code, 3, (some .int), 7, 2, 0),
  (⟨"FetchRopeModel", "looked", "()I"⟩, prog_9_method_68_code, 2, (some .int), 7, 0, 0),
  (⟨"FetchRopeModel", "judge", "(II)I"⟩, prog_9_method_69_code, 4, (some .int), 7, 2, 0),
  (⟨"FetchRopeModel", "image", "()I"⟩, prog_9_method_70_code, 2, (some .int), 7, 0, 0),
  (⟨"FetchRopeModel", "undo", "()I"⟩, prog_9_method_71_code, 2, (some .int), 7, 0, 0),
  (⟨"FetchRopeModel", "body", "(I)V"⟩, prog_9_method_72_code, 2, none, 7, 1, 0),
  (⟨"FetchRopeModel", "sledgeSlides", "(II)I"⟩, prog_9_method_73_code, 3, (some .int), 7, 2, 0),
  (⟨"FetchRopeModel", "slidesAct", "(II)I"⟩, prog_9_method_74_code, 3, (some .int), 7, 2, 0),
  (⟨"FetchRopeModel", "sledgePulls", "(II)I"⟩, prog_9_method_75_code, 3, (some .int), 7, 2, 0),
  (⟨"FetchRopeModel", "ladenPulls", "(II)I"⟩, prog_9_method_76_code, 3, (some .int), 7, 2, 0),
  (⟨"FetchRopeModel", "pullsAct", "(II)I"⟩, prog_9_method_77_code, 4, (some .int), 7, 2, 0),
  (⟨"FetchRopeModel", "sledgeTells", "(II)I"⟩, prog_9_method_78_code, 3, (some .int), 7, 2, 0),
  (⟨"FetchRopeModel", "tellsAct", "(II)I"⟩, prog_9_method_79_code, 4, (some .int), 7, 2, 0),
  (⟨"FetchRopeModel", "act", "(III)I"⟩, prog_9_method_80_code, 4, (some .int), 7, 3, 0),
  (⟨"FetchRopeModel", "trace", "(I)I"⟩, prog_9_method_81_code, 2, (some .int), 7, 1, 0),
  (⟨"FetchRopeModel", "taken", "(II)I"⟩, prog_9_method_82_code, 4, (some .int), 7, 2, 0),
  (⟨"FetchRopeModel", "count", "(I)I"⟩, prog_9_method_83_code, 2, (some .int), 7, 1, 0),
  (⟨"FetchRopeModel", "isTape", "(I)Z"⟩, prog_9_method_84_code, 2, (some .boolean), 7, 1, 0),
  (⟨"FetchRopeModel", "tape", "(III)I"⟩, prog_9_method_85_code, 5, (some .int), 7, 3, 0),
  (⟨"FetchRopeModel", "narrow", "(IJ)J"⟩, prog_9_method_86_code, 4, (some .long), 7, 2, 0),
  (⟨"FetchRopeModel", "item", "(IIJ)I"⟩, prog_9_method_87_code, 5, (some .int), 7, 3, 0),
  (⟨"FetchRopeModel", "read", "(II)J"⟩, prog_9_method_88_code, 3, (some .long), 7, 2, 0),
  (⟨"FetchRopeModel", "shift", "(IIIII)I"⟩, prog_9_method_89_code, 7, (some .int), 7, 5, 0),
  (⟨"java/lang/String", "length", "()I"⟩, prog_13_method_54_code, 1, (some .int), 8, 0, 0),
  (⟨"java/lang/String", "charAt", "(I)C"⟩, prog_13_method_56_code, 2, (some .char), 8, 1, 0),
  (⟨"java/lang/String", "indexOf", "(I)I"⟩, prog_13_method_79_code, 2, (some .int), 8, 1, 0),
  (⟨"java/lang/String", "indexOf", "(II)I"⟩, prog_13_method_80_code, 3, (some .int), 8, 2, 0),
  (⟨"java/lang/String", "coder", "()B"⟩, prog_13_method_152_code, 1, (some .byte), 8, 0, 0),
  (⟨"java/lang/String", "isLatin1", "()Z"⟩, prog_13_method_154_code, 1, (some .boolean), 8, 0, 0),
  (⟨"java/lang/String", "checkIndex", "(II)V"⟩, prog_13_method_155_code, 2, none, 8, 2, 1),
  (⟨"java/lang/StringLatin1", "charAt", "([BI)C"⟩, prog_14_method_2_code, 2, (some .char), 9, 2, 1),
  (⟨"java/lang/StringLatin1", "canEncode", "(I)Z"⟩, prog_14_method_4_code, 1, (some .boolean), 9, 1, 1),
  (⟨"java/lang/StringLatin1", "indexOf", "([BIII)I"⟩, prog_14_method_22_code, 4, (some .int), 9, 4, 1),
  (⟨"java/lang/StringLatin1", "indexOfChar", "([BIII)I"⟩, prog_14_method_23_code, 6, (some .int), 9, 4, 1),
  (⟨"jdk/internal/util/Preconditions", "checkIndex", "(IILjava/util/function/BiFunction;)I"⟩, prog_17_method_11_code, 3, (some .int), 12, 3, 1),
  (⟨"java/lang/Math", "max", "(II)I"⟩, prog_12_method_65_code, 2, (some .int), 10, 2, 1),
  (⟨"java/lang/Math", "min", "(II)I"⟩, prog_12_method_69_code, 2, (some .int), 10, 2, 1),
  (⟨"java/lang/Math", "abs", "(I)I"⟩, prog_12_method_59_code, 1, (some .int), 10, 1, 1),
  (⟨"java/lang/Integer", "bitCount", "(I)I"⟩, prog_11_method_49_code, 1, (some .int), 11, 1, 1),
  (⟨"FetchRope$Text", "sign", "()I"⟩, prog_7_method_9_code, 1, (some .int), 5, 0, 0),
  (⟨"FetchRopeLaw", "law", "([I)Z"⟩, code, 4, ret, 13, 1, 1)]
def mR0 : aM := (⟨"", "", ""⟩, code, 0, none, 99, 0, 9)
def mE (i : Nat) : aM := mT.getD i mR0
def mY (i : Nat) : MethodName := (mE i).1
def mC (i : Nat) : ByteArray := (mE i).2.1
def mL (i : Nat) : Nat := (mE i).2.2.1
def mR (i : Nat) : Option FieldType := (mE i).2.2.2.1
def mO (i : Nat) : Nat := (mE i).2.2.2.2.1
def mN (i : Nat) : Nat := (mE i).2.2.2.2.2.1
def mK (i : Nat) : Nat := (mE i).2.2.2.2.2.2
def flT : List (Nat × Nat × Nat × Nat) := [(0, 9, 0, 0), (0, 13, 0, 2), (0, 17, 0, 3), (0, 20, 0, 4), (0, 23, 0, 1), (1, 9, 1, 6), (1, 15, 1, 7), (1, 18, 1, 8), (1, 21, 1, 9), (1, 24, 1, 10), (1, 27, 1, 12), (1, 30, 1, 13), (1, 33, 1, 15), (1, 36, 1, 16), (1, 41, 1, 18), (1, 44, 1, 17), (1, 48, 1, 0), (1, 52, 1, 1), (1, 55, 1, 2), (1, 58, 1, 3), (1, 61, 1, 4), (1, 64, 1, 5), (1, 73, 1, 11), (1, 76, 1, 14), (2, 7, 2, 0), (2, 13, 2, 1), (2, 16, 2, 3), (2, 20, 2, 4), (2, 25, 2, 5), (2, 28, 2, 2), (2, 31, 2, 6), (3, 13, 3, 0), (3, 16, 3, 1), (3, 19, 3, 2), (3, 22, 3, 3), (3, 25, 3, 4), (3, 28, 3, 5), (3, 32, 1, 0), (3, 37, 1, 1), (3, 63, 1, 17), (3, 73, 1, 4), (3, 112, 1, 3), (4, 9, 4, 0), (4, 13, 4, 2), (4, 17, 4, 1), (5, 9, 5, 0), (5, 13, 5, 1), (5, 17, 5, 2), (5, 60, 2, 1), (5, 63, 2, 0), (6, 12, 6, 3), (6, 20, 6, 4), (6, 27, 6, 6), (6, 34, 6, 7), (6, 40, 6, 8), (6, 50, 6, 0), (6, 54, 6, 1), (6, 62, 1, 0), (6, 74, 1, 6), (6, 78, 1, 7), (6, 81, 1, 8), (6, 88, 1, 5), (6, 91, 1, 9), (6, 104, 1, 10), (6, 109, 5, 1), (6, 112, 6, 5), (6, 119, 1, 17), (6, 123, 1, 1), (6, 126, 1, 2), (6, 129, 1, 4), (6, 139, 2, 0), (6, 142, 2, 1), (6, 169, 3, 0), (6, 173, 3, 1), (6, 182, 1, 3), (6, 189, 3, 2), (6, 203, 1, 11), (6, 206, 1, 12), (6, 209, 1, 13), (6, 227, 1, 14), (6, 230, 1, 15), (6, 233, 1, 16), (6, 243, 4, 0), (6, 246, 4, 1), (6, 247, 4, 2), (6, 255, 6, 2), (6, 259, 0, 1), (6, 266, 0, 0), (7, 7, 7, 0), (7, 13, 7, 1), (7, 16, 7, 2), (7, 19, 7, 3), (7, 22, 7, 4), (7, 25, 7, 5), (7, 29, 7, 6), (7, 32, 7, 7), (7, 35, 7, 8), (7, 38, 7, 9), (7, 41, 7, 10), (7, 44, 7, 11), (7, 47, 7, 12), (7, 50, 7, 13), (7, 53, 7, 14), (7, 56, 7, 15), (7, 59, 7, 16), (7, 62, 7, 17), (7, 65, 7, 18), (7, 68, 7, 19), (7, 71, 7, 20), (7, 74, 7, 21), (7, 77, 7, 22), (7, 80, 7, 23), (7, 83, 7, 24), (7, 86, 7, 25), (7, 89, 7, 26), (7, 92, 7, 27), (7, 95, 7, 28), (7, 99, 7, 29), (7, 102, 7, 30), (7, 105, 7, 31), (7, 108, 7, 32), (7, 111, 7, 33), (7, 114, 7, 34), (7, 117, 7, 35), (7, 120, 7, 36), (7, 123, 7, 37), (7, 126, 7, 38), (7, 129, 7, 39), (7, 132, 7, 40), (7, 135, 7, 41), (7, 138, 7, 42), (7, 141, 7, 43), (7, 144, 7, 44), (7, 147, 7, 45), (7, 150, 7, 46), (7, 154, 7, 47), (7, 157, 7, 48), (7, 160, 7, 49), (7, 163, 7, 50), (7, 166, 7, 51), (7, 169, 7, 52), (7, 172, 7, 53), (7, 175, 7, 54), (7, 178, 7, 55), (7, 181, 7, 56), (7, 184, 7, 57), (7, 187, 7, 58), (7, 190, 7, 59), (7, 193, 7, 60), (7, 196, 7, 61), (7, 199, 7, 62), (7, 202, 7, 63), (7, 205, 7, 64), (7, 208, 7, 65), (7, 211, 7, 66), (7, 214, 7, 67), (7, 217, 7, 68), (7, 220, 7, 69), (7, 224, 7, 70), (8, 9, 8, 0), (8, 15, 8, 1)]
def mlT : List (Nat × Nat × Nat) := [(0, 26, 3), (0, 38, 2), (0, 42, 4), (1, 79, 12), (1, 83, 13), (1, 87, 16), (1, 90, 28), (1, 94, 17), (1, 97, 207), (1, 103, 14), (1, 107, 31), (1, 111, 19), (1, 115, 18), (1, 119, 208), (2, 34, 25), (2, 38, 29), (2, 44, 30), (2, 48, 209), (3, 40, 16), (3, 51, 36), (3, 54, 34), (3, 58, 210), (3, 67, 31), (3, 76, 33), (3, 80, 8), (3, 84, 39), (3, 88, 22), (3, 92, 41), (3, 95, 38), (3, 99, 37), (3, 102, 35), (3, 105, 13), (3, 108, 45), (3, 115, 49), (3, 119, 207), (5, 20, 24), (5, 25, 57), (5, 29, 211), (5, 33, 62), (5, 45, 63), (5, 49, 61), (5, 52, 58), (5, 56, 27), (5, 66, 59), (5, 69, 25), (5, 72, 60), (5, 77, 64), (5, 83, 26), (5, 87, 207), (5, 93, 195), (5, 97, 196), (5, 101, 197), (6, 47, 5), (6, 58, 102), (6, 66, 9), (6, 70, 7), (6, 84, 13), (6, 94, 15), (6, 97, 10), (6, 101, 11), (6, 107, 55), (6, 115, 56), (6, 132, 8), (6, 136, 22), (6, 145, 104), (6, 148, 14), (6, 152, 20), (6, 155, 19), (6, 159, 31), (6, 162, 40), (6, 166, 42), (6, 175, 21), (6, 178, 43), (6, 185, 44), (6, 192, 46), (6, 196, 47), (6, 200, 48), (6, 212, 18), (6, 216, 208), (6, 223, 106), (6, 236, 103), (6, 239, 51), (6, 251, 6), (6, 262, 1), (6, 269, 105), (6, 272, 52), (6, 276, 53), (6, 289, 207), (7, 227, 108), (7, 231, 109), (7, 235, 114), (7, 239, 116), (7, 242, 118), (7, 246, 120), (7, 250, 123), (7, 254, 119), (7, 257, 121), (7, 260, 124), (7, 263, 122), (7, 266, 115), (7, 269, 117), (7, 273, 126), (7, 276, 125), (7, 279, 127), (7, 282, 128), (7, 285, 130), (7, 288, 131), (7, 291, 132), (7, 295, 134), (7, 298, 135), (7, 301, 136), (7, 304, 137), (7, 307, 133), (7, 310, 139), (7, 313, 138), (7, 316, 140), (7, 319, 143), (7, 322, 141), (7, 325, 146), (7, 328, 142), (7, 332, 152), (7, 335, 153), (7, 338, 151), (7, 341, 154), (7, 344, 158), (7, 347, 162), (7, 351, 163), (7, 354, 168), (7, 359, 169), (7, 363, 189), (7, 366, 177), (7, 369, 178), (7, 372, 179), (7, 375, 180), (7, 378, 181), (7, 381, 182), (7, 384, 183), (7, 387, 184), (7, 390, 191), (8, 335, 199), (8, 492, 200), (8, 495, 202), (8, 505, 195), (8, 633, 198), (8, 637, 204), (8, 1059, 206), (9, 9, 201), (9, 38, 208), (9, 88, 203), (9, 92, 207), (9, 95, 205), (13, 9, 65), (13, 12, 107), (13, 13, 66), (13, 17, 110), (13, 18, 67), (13, 22, 144), (13, 23, 68), (13, 27, 111), (13, 28, 69), (13, 31, 112), (13, 32, 70), (13, 36, 113), (13, 37, 71), (13, 41, 129), (13, 42, 72), (13, 45, 145), (13, 46, 73), (13, 49, 147), (13, 50, 74), (13, 53, 148), (13, 54, 75), (13, 57, 149), (13, 58, 76), (13, 61, 150), (13, 62, 77), (13, 65, 155), (13, 66, 78), (13, 69, 156), (13, 70, 79), (13, 73, 157), (13, 74, 80), (13, 77, 159), (13, 78, 81), (13, 81, 160), (13, 82, 82), (13, 85, 161), (13, 86, 83), (13, 89, 164), (13, 90, 84), (13, 93, 165), (13, 94, 85), (13, 97, 166), (13, 98, 86), (13, 101, 167), (13, 102, 87), (13, 106, 170), (13, 107, 88), (13, 111, 171), (13, 112, 89), (13, 115, 172), (13, 116, 90), (13, 119, 173), (13, 120, 91), (13, 123, 174), (13, 124, 92), (13, 127, 175), (13, 128, 93), (13, 131, 176), (13, 132, 94), (13, 135, 185), (13, 136, 95), (13, 139, 186), (13, 140, 96), (13, 143, 187), (13, 144, 97), (13, 147, 188), (13, 148, 98), (13, 151, 190), (13, 154, 99), (13, 158, 192), (13, 159, 100), (13, 163, 193), (13, 164, 101), (13, 168, 194)]
def mnT : List (Nat × Nat × Nat) := [(6, 11, 54), (6, 26, 32), (6, 33, 0), (6, 44, 23), (6, 57, 50)]
def oiT : List (Nat × Nat) := [(0, 1), (1, 3), (2, 1), (3, 5), (4, 1), (5, 1), (6, 3), (7, 1)]
def acT : List (Nat × Nat) := [(1, 67), (6, 280)]
def klT : List (Nat × Nat × Nat) := [(6, 9, 5), (6, 18, 2), (6, 24, 3), (6, 31, 0), (6, 38, 4), (6, 45, 1), (13, 7, 6), (13, 10, 7)]
def lcT : List (Nat × Nat × Value) := [(2, 42, .long (-2)), (5, 37, .ref 5), (5, 39, .ref 6), (5, 41, .ref 7), (5, 43, .ref 8), (5, 75, .ref 9), (5, 81, .ref 10), (6, 221, .long (-9223372036854775808)), (7, 357, .long (-9223372036854775808)), (11, 265, .int (1431655765)), (11, 266, .int (858993459)), (11, 267, .int (252645135)), (13, 152, .long (4294967295))]
def ldT : List (Nat × Nat × Nat) := [(5, 37, 0), (5, 39, 1), (5, 41, 2), (5, 43, 3), (5, 75, 4), (5, 81, 5)]
def stT : List (Nat × Nat × Nat) := [(0, 30, 3), (3, 44, 1), (3, 48, 2), (6, 286, 0), (8, 38, 4), (8, 1053, 5)]
def snT : List (Nat × Nat × Nat) := [(0, 33, 0)]
def lk2 : List (Nat × Nat) → Nat → Nat → Bool
  | [], _, _ => false
  | (a, b) :: r, o, i => if a = o ∧ b = i then true else lk2 r o i
def lk3 {α : Type} : List (Nat × Nat × α) → Nat → Nat → Option α
  | [], _, _ => none
  | (a, b, v) :: r, o, i => if a = o ∧ b = i then some v else lk3 r o i
theorem lk3_mem {α : Type} {l : List (Nat × Nat × α)} {o i : Nat} {v : α} (h : lk3 l o i = some v) : (o, i, v) ∈ l := by
  induction l with
  | nil => cases h
  | cons a r ih =>
    obtain ⟨x, y, z⟩ := a
    unfold lk3 at h
    by_cases c : x = o ∧ y = i
    · rw [if_pos c] at h
      cases h
      obtain ⟨rfl, rfl⟩ := c
      exact List.mem_cons_self
    · rw [if_neg c] at h
      exact List.mem_cons_of_mem _ (ih h)
theorem lk2_mem {l : List (Nat × Nat)} {o i : Nat} (h : lk2 l o i = true) : (o, i) ∈ l := by
  induction l with
  | nil => cases h
  | cons a r ih =>
    obtain ⟨x, y⟩ := a
    unfold lk2 at h
    by_cases c : x = o ∧ y = i
    · obtain ⟨rfl, rfl⟩ := c
      exact List.mem_cons_self
    · rw [if_neg c] at h
      exact List.mem_cons_of_mem _ (ih h)
