def T_0 : u_T := fun k => match k with
  | 0 => ("ScanCoder", "picture", "LScanCoder$Picture;", true)
  | 1 => ("ScanCoder", "course", "LScanCoder$Course;", true)
  | 2 => ("ScanCoder", "draft", "LScanCoder$Draft;", true)
  | 3 => ("ScanCoder", "allTables", "[LScanCoder$Table;", true)
  | 4 => ("ScanCoder", "store", "LScanCoder$Store;", true)
  | 5 => ("ScanCoder", "counter", "LScanCoder$Counter;", true)
  | 6 => ("ScanCoder", "writer", "LScanCoder$BitWriter;", true)
  | 7 => ("ScanCoder", "encoder", "LScanCoder$Encoder;", true)
  | _ => ("ScanCoder", "decoder", "LScanCoder$Decoder;", true)
def ty_0 : Nat → FieldType := fun k => match k with
  | 0 => (.object "ScanCoder$Picture")
  | 1 => (.object "ScanCoder$Course")
  | 2 => (.object "ScanCoder$Draft")
  | 3 => (.array (.object "ScanCoder$Table"))
  | 4 => (.object "ScanCoder$Store")
  | 5 => (.object "ScanCoder$Counter")
  | 6 => (.object "ScanCoder$BitWriter")
  | 7 => (.object "ScanCoder$Encoder")
  | _ => (.object "ScanCoder$Decoder")
theorem nm_0 : ∀ a, a < 9 → ∀ b, b < 9 → a ≠ b → (T_0 a).2.1 ≠ (T_0 b).2.1 := by decide +kernel
theorem tyok_0 : ∀ k, k < 9 → parseFieldDescriptor (T_0 k).2.2.1 = some (ty_0 k) := by decide +kernel
theorem in_0 : ∀ w ∈ u_ws "ScanCoder" T_0 9, w ∈ gw_tbl := fun w h => gw_in ((by decide +kernel : ∀ w ∈ u_ws "ScanCoder" T_0 9, w ∈ lw_tbl) w h) ((by decide +kernel : ∀ w ∈ u_ws "ScanCoder" T_0 9, goodWord w = true) w h)
def T_1 : u_T := fun k => match k with
  | 0 => ("ScanCoder$BitReader", "store", "LScanCoder$Store;", true)
  | 1 => ("ScanCoder$BitReader", "at", "I", false)
  | 2 => ("ScanCoder$BitReader", "part", "I", false)
  | 3 => ("ScanCoder$BitReader", "left", "I", false)
  | _ => ("ScanCoder$BitReader", "fault", "I", false)
def ty_1 : Nat → FieldType := fun k => match k with
  | 0 => (.object "ScanCoder$Store")
  | 1 => .int
  | 2 => .int
  | 3 => .int
  | _ => .int
theorem nm_1 : ∀ a, a < 5 → ∀ b, b < 5 → a ≠ b → (T_1 a).2.1 ≠ (T_1 b).2.1 := by decide +kernel
theorem tyok_1 : ∀ k, k < 5 → parseFieldDescriptor (T_1 k).2.2.1 = some (ty_1 k) := by decide +kernel
theorem in_1 : ∀ w ∈ u_ws "ScanCoder$BitReader" T_1 5, w ∈ gw_tbl := fun w h => gw_in ((by decide +kernel : ∀ w ∈ u_ws "ScanCoder$BitReader" T_1 5, w ∈ lw_tbl) w h) ((by decide +kernel : ∀ w ∈ u_ws "ScanCoder$BitReader" T_1 5, goodWord w = true) w h)
def T_2 : u_T := fun k => match k with
  | 0 => ("ScanCoder$BitWriter", "tables", "[LScanCoder$Table;", true)
  | 1 => ("ScanCoder$BitWriter", "store", "LScanCoder$Store;", true)
  | 2 => ("ScanCoder$BitWriter", "keeps", "Z", false)
  | 3 => ("ScanCoder$BitWriter", "part", "I", false)
  | 4 => ("ScanCoder$BitWriter", "filled", "I", false)
  | 5 => ("ScanCoder$BitWriter", "length", "I", false)
  | _ => ("ScanCoder$BitWriter", "lacksWord", "Z", false)
def ty_2 : Nat → FieldType := fun k => match k with
  | 0 => (.array (.object "ScanCoder$Table"))
  | 1 => (.object "ScanCoder$Store")
  | 2 => .boolean
  | 3 => .int
  | 4 => .int
  | 5 => .int
  | _ => .boolean
theorem nm_2 : ∀ a, a < 7 → ∀ b, b < 7 → a ≠ b → (T_2 a).2.1 ≠ (T_2 b).2.1 := by decide +kernel
theorem tyok_2 : ∀ k, k < 7 → parseFieldDescriptor (T_2 k).2.2.1 = some (ty_2 k) := by decide +kernel
theorem in_2 : ∀ w ∈ u_ws "ScanCoder$BitWriter" T_2 7, w ∈ gw_tbl := fun w h => gw_in ((by decide +kernel : ∀ w ∈ u_ws "ScanCoder$BitWriter" T_2 7, w ∈ lw_tbl) w h) ((by decide +kernel : ∀ w ∈ u_ws "ScanCoder$BitWriter" T_2 7, goodWord w = true) w h)
def T_3 : u_T := fun k => match k with
  | 0 => ("ScanCoder$Counter", "times", "[I", true)
  | _ => ("ScanCoder$Counter", "total", "I", false)
def ty_3 : Nat → FieldType := fun k => match k with
  | 0 => (.array .int)
  | _ => .int
theorem nm_3 : ∀ a, a < 2 → ∀ b, b < 2 → a ≠ b → (T_3 a).2.1 ≠ (T_3 b).2.1 := by decide +kernel
theorem tyok_3 : ∀ k, k < 2 → parseFieldDescriptor (T_3 k).2.2.1 = some (ty_3 k) := by decide +kernel
theorem in_3 : ∀ w ∈ u_ws "ScanCoder$Counter" T_3 2, w ∈ gw_tbl := fun w h => gw_in ((by decide +kernel : ∀ w ∈ u_ws "ScanCoder$Counter" T_3 2, w ∈ lw_tbl) w h) ((by decide +kernel : ∀ w ∈ u_ws "ScanCoder$Counter" T_3 2, goodWord w = true) w h)
def T_4 : u_T := fun k => match k with
  | 0 => ("ScanCoder$Course", "picture", "LScanCoder$Picture;", true)
  | 1 => ("ScanCoder$Course", "owners", "[I", true)
  | 2 => ("ScanCoder$Course", "places", "[I", true)
  | 3 => ("ScanCoder$Course", "directTables", "[I", true)
  | 4 => ("ScanCoder$Course", "otherTables", "[I", true)
  | 5 => ("ScanCoder$Course", "kind", "I", false)
  | 6 => ("ScanCoder$Course", "first", "I", false)
  | 7 => ("ScanCoder$Course", "last", "I", false)
  | 8 => ("ScanCoder$Course", "bits", "I", false)
  | 9 => ("ScanCoder$Course", "interval", "I", false)
  | 10 => ("ScanCoder$Course", "units", "I", false)
  | 11 => ("ScanCoder$Course", "blocksOfUnit", "I", false)
  | _ => ("ScanCoder$Course", "laid", "I", false)
def ty_4 : Nat → FieldType := fun k => match k with
  | 0 => (.object "ScanCoder$Picture")
  | 1 => (.array .int)
  | 2 => (.array .int)
  | 3 => (.array .int)
  | 4 => (.array .int)
  | 5 => .int
  | 6 => .int
  | 7 => .int
  | 8 => .int
  | 9 => .int
  | 10 => .int
  | 11 => .int
  | _ => .int
theorem nm_4 : ∀ a, a < 13 → ∀ b, b < 13 → a ≠ b → (T_4 a).2.1 ≠ (T_4 b).2.1 := by decide +kernel
theorem tyok_4 : ∀ k, k < 13 → parseFieldDescriptor (T_4 k).2.2.1 = some (ty_4 k) := by decide +kernel
theorem in_4 : ∀ w ∈ u_ws "ScanCoder$Course" T_4 13, w ∈ gw_tbl := fun w h => gw_in ((by decide +kernel : ∀ w ∈ u_ws "ScanCoder$Course" T_4 13, w ∈ lw_tbl) w h) ((by decide +kernel : ∀ w ∈ u_ws "ScanCoder$Course" T_4 13, goodWord w = true) w h)
def T_5 : u_T := fun k => match k with
  | 0 => ("ScanCoder$Decoder", "picture", "LScanCoder$Picture;", true)
  | 1 => ("ScanCoder$Decoder", "course", "LScanCoder$Course;", true)
  | 2 => ("ScanCoder$Decoder", "tables", "[LScanCoder$Table;", true)
  | 3 => ("ScanCoder$Decoder", "reader", "LScanCoder$BitReader;", true)
  | 4 => ("ScanCoder$Decoder", "predictions", "[I", true)
  | 5 => ("ScanCoder$Decoder", "keeps", "Z", false)
  | _ => ("ScanCoder$Decoder", "run", "I", false)
def ty_5 : Nat → FieldType := fun k => match k with
  | 0 => (.object "ScanCoder$Picture")
  | 1 => (.object "ScanCoder$Course")
  | 2 => (.array (.object "ScanCoder$Table"))
  | 3 => (.object "ScanCoder$BitReader")
  | 4 => (.array .int)
  | 5 => .boolean
  | _ => .int
theorem nm_5 : ∀ a, a < 7 → ∀ b, b < 7 → a ≠ b → (T_5 a).2.1 ≠ (T_5 b).2.1 := by decide +kernel
theorem tyok_5 : ∀ k, k < 7 → parseFieldDescriptor (T_5 k).2.2.1 = some (ty_5 k) := by decide +kernel
theorem in_5 : ∀ w ∈ u_ws "ScanCoder$Decoder" T_5 7, w ∈ gw_tbl := fun w h => gw_in ((by decide +kernel : ∀ w ∈ u_ws "ScanCoder$Decoder" T_5 7, w ∈ lw_tbl) w h) ((by decide +kernel : ∀ w ∈ u_ws "ScanCoder$Decoder" T_5 7, goodWord w = true) w h)
def T_6 : u_T := fun k => match k with
  | 0 => ("ScanCoder$Draft", "counts", "[I", true)
  | 1 => ("ScanCoder$Draft", "symbols", "[I", true)
  | 2 => ("ScanCoder$Draft", "seen", "[B", true)
  | _ => ("ScanCoder$Draft", "size", "I", false)
def ty_6 : Nat → FieldType := fun k => match k with
  | 0 => (.array .int)
  | 1 => (.array .int)
  | 2 => (.array .byte)
  | _ => .int
theorem nm_6 : ∀ a, a < 4 → ∀ b, b < 4 → a ≠ b → (T_6 a).2.1 ≠ (T_6 b).2.1 := by decide +kernel
theorem tyok_6 : ∀ k, k < 4 → parseFieldDescriptor (T_6 k).2.2.1 = some (ty_6 k) := by decide +kernel
theorem in_6 : ∀ w ∈ u_ws "ScanCoder$Draft" T_6 4, w ∈ gw_tbl := fun w h => gw_in ((by decide +kernel : ∀ w ∈ u_ws "ScanCoder$Draft" T_6 4, w ∈ lw_tbl) w h) ((by decide +kernel : ∀ w ∈ u_ws "ScanCoder$Draft" T_6 4, goodWord w = true) w h)
def T_7 : u_T := fun k => match k with
  | 0 => ("ScanCoder$Encoder", "picture", "LScanCoder$Picture;", true)
  | 1 => ("ScanCoder$Encoder", "course", "LScanCoder$Course;", true)
  | 2 => ("ScanCoder$Encoder", "predictions", "[I", true)
  | 3 => ("ScanCoder$Encoder", "runBits", "[B", true)
  | 4 => ("ScanCoder$Encoder", "sink", "LScanCoder$Sink;", false)
  | 5 => ("ScanCoder$Encoder", "run", "I", false)
  | 6 => ("ScanCoder$Encoder", "held", "I", false)
  | _ => ("ScanCoder$Encoder", "runTable", "I", false)
def ty_7 : Nat → FieldType := fun k => match k with
  | 0 => (.object "ScanCoder$Picture")
  | 1 => (.object "ScanCoder$Course")
  | 2 => (.array .int)
  | 3 => (.array .byte)
  | 4 => (.object "ScanCoder$Sink")
  | 5 => .int
  | 6 => .int
  | _ => .int
theorem nm_7 : ∀ a, a < 8 → ∀ b, b < 8 → a ≠ b → (T_7 a).2.1 ≠ (T_7 b).2.1 := by decide +kernel
theorem tyok_7 : ∀ k, k < 8 → parseFieldDescriptor (T_7 k).2.2.1 = some (ty_7 k) := by decide +kernel
theorem in_7 : ∀ w ∈ u_ws "ScanCoder$Encoder" T_7 8, w ∈ gw_tbl := fun w h => gw_in ((by decide +kernel : ∀ w ∈ u_ws "ScanCoder$Encoder" T_7 8, w ∈ lw_tbl) w h) ((by decide +kernel : ∀ w ∈ u_ws "ScanCoder$Encoder" T_7 8, goodWord w = true) w h)
def T_8 : u_T := fun k => match k with
  | 0 => ("ScanCoder$Picture", "h", "[I", true)
  | 1 => ("ScanCoder$Picture", "v", "[I", true)
  | 2 => ("ScanCoder$Picture", "across", "[I", true)
  | 3 => ("ScanCoder$Picture", "down", "[I", true)
  | 4 => ("ScanCoder$Picture", "ownAcross", "[I", true)
  | 5 => ("ScanCoder$Picture", "ownDown", "[I", true)
  | 6 => ("ScanCoder$Picture", "start", "[I", true)
  | 7 => ("ScanCoder$Picture", "many", "I", false)
  | 8 => ("ScanCoder$Picture", "unitsAcross", "I", false)
  | 9 => ("ScanCoder$Picture", "unitsDown", "I", false)
  | 10 => ("ScanCoder$Picture", "blocks", "I", false)
  | _ => ("ScanCoder$Picture", "coefficients", "[S", false)
def ty_8 : Nat → FieldType := fun k => match k with
  | 0 => (.array .int)
  | 1 => (.array .int)
  | 2 => (.array .int)
  | 3 => (.array .int)
  | 4 => (.array .int)
  | 5 => (.array .int)
  | 6 => (.array .int)
  | 7 => .int
  | 8 => .int
  | 9 => .int
  | 10 => .int
  | _ => (.array .short)
theorem nm_8 : ∀ a, a < 12 → ∀ b, b < 12 → a ≠ b → (T_8 a).2.1 ≠ (T_8 b).2.1 := by decide +kernel
theorem tyok_8 : ∀ k, k < 12 → parseFieldDescriptor (T_8 k).2.2.1 = some (ty_8 k) := by decide +kernel
theorem in_8 : ∀ w ∈ u_ws "ScanCoder$Picture" T_8 12, w ∈ gw_tbl := fun w h => gw_in ((by decide +kernel : ∀ w ∈ u_ws "ScanCoder$Picture" T_8 12, w ∈ lw_tbl) w h) ((by decide +kernel : ∀ w ∈ u_ws "ScanCoder$Picture" T_8 12, goodWord w = true) w h)
def T_9 : u_T := fun k => match k with
  | 0 => ("ScanCoder$Store", "bytes", "[B", false)
  | _ => ("ScanCoder$Store", "length", "I", false)
def ty_9 : Nat → FieldType := fun k => match k with
  | 0 => (.array .byte)
  | _ => .int
theorem nm_9 : ∀ a, a < 2 → ∀ b, b < 2 → a ≠ b → (T_9 a).2.1 ≠ (T_9 b).2.1 := by decide +kernel
theorem tyok_9 : ∀ k, k < 2 → parseFieldDescriptor (T_9 k).2.2.1 = some (ty_9 k) := by decide +kernel
theorem in_9 : ∀ w ∈ u_ws "ScanCoder$Store" T_9 2, w ∈ gw_tbl := fun w h => gw_in ((by decide +kernel : ∀ w ∈ u_ws "ScanCoder$Store" T_9 2, w ∈ lw_tbl) w h) ((by decide +kernel : ∀ w ∈ u_ws "ScanCoder$Store" T_9 2, goodWord w = true) w h)
def T_10 : u_T := fun k => match k with
  | 0 => ("ScanCoder$Table", "wordsWithOne", "[I", true)
  | 1 => ("ScanCoder$Table", "symbols", "[I", true)
  | 2 => ("ScanCoder$Table", "firstWord", "[I", true)
  | 3 => ("ScanCoder$Table", "firstIndex", "[I", true)
  | 4 => ("ScanCoder$Table", "end", "I", false)
  | _ => ("ScanCoder$Table", "size", "I", false)
def ty_10 : Nat → FieldType := fun k => match k with
  | 0 => (.array .int)
  | 1 => (.array .int)
  | 2 => (.array .int)
  | 3 => (.array .int)
  | 4 => .int
  | _ => .int
theorem nm_10 : ∀ a, a < 6 → ∀ b, b < 6 → a ≠ b → (T_10 a).2.1 ≠ (T_10 b).2.1 := by decide +kernel
theorem tyok_10 : ∀ k, k < 6 → parseFieldDescriptor (T_10 k).2.2.1 = some (ty_10 k) := by decide +kernel
theorem in_10 : ∀ w ∈ u_ws "ScanCoder$Table" T_10 6, w ∈ gw_tbl := fun w h => gw_in ((by decide +kernel : ∀ w ∈ u_ws "ScanCoder$Table" T_10 6, w ∈ lw_tbl) w h) ((by decide +kernel : ∀ w ∈ u_ws "ScanCoder$Table" T_10 6, goodWord w = true) w h)
def T_11 : u_T := fun k => match k with
  | 0 => ("ScanCoderModel", "thrown", "I", false)
  | 1 => ("ScanCoderModel", "width", "I", false)
  | 2 => ("ScanCoderModel", "height", "I", false)
  | 3 => ("ScanCoderModel", "many", "I", false)
  | 4 => ("ScanCoderModel", "h", "[I", true)
  | 5 => ("ScanCoderModel", "v", "[I", true)
  | 6 => ("ScanCoderModel", "across", "[I", true)
  | 7 => ("ScanCoderModel", "down", "[I", true)
  | 8 => ("ScanCoderModel", "ownAcross", "[I", true)
  | 9 => ("ScanCoderModel", "ownDown", "[I", true)
  | 10 => ("ScanCoderModel", "base", "[I", true)
  | 11 => ("ScanCoderModel", "unitsAcross", "I", false)
  | 12 => ("ScanCoderModel", "unitsDown", "I", false)
  | 13 => ("ScanCoderModel", "coefficients", "[S", true)
  | 14 => ("ScanCoderModel", "before0", "[S", true)
  | 15 => ("ScanCoderModel", "draftCounts", "[I", true)
  | 16 => ("ScanCoderModel", "draft", "[I", true)
  | 17 => ("ScanCoderModel", "drafts", "I", false)
  | 18 => ("ScanCoderModel", "words", "[I", true)
  | 19 => ("ScanCoderModel", "lengths", "[I", true)
  | 20 => ("ScanCoderModel", "codes", "[I", true)
  | 21 => ("ScanCoderModel", "directOf", "[I", true)
  | 22 => ("ScanCoderModel", "otherOf", "[I", true)
  | 23 => ("ScanCoderModel", "mask", "I", false)
  | 24 => ("ScanCoderModel", "first", "I", false)
  | 25 => ("ScanCoderModel", "last", "I", false)
  | 26 => ("ScanCoderModel", "before", "I", false)
  | 27 => ("ScanCoderModel", "bits", "I", false)
  | 28 => ("ScanCoderModel", "interval", "I", false)
  | 29 => ("ScanCoderModel", "data", "[B", true)
  | 30 => ("ScanCoderModel", "size", "I", false)
  | 31 => ("ScanCoderModel", "out", "[B", true)
  | 32 => ("ScanCoderModel", "outs", "I", false)
  | 33 => ("ScanCoderModel", "part", "I", false)
  | 34 => ("ScanCoderModel", "parted", "I", false)
  | 35 => ("ScanCoderModel", "failed", "Z", false)
  | 36 => ("ScanCoderModel", "counting", "Z", false)
  | 37 => ("ScanCoderModel", "times", "[I", true)
  | 38 => ("ScanCoderModel", "prediction", "[I", true)
  | 39 => ("ScanCoderModel", "run", "I", false)
  | 40 => ("ScanCoderModel", "runBits", "[B", true)
  | 41 => ("ScanCoderModel", "runMany", "I", false)
  | 42 => ("ScanCoderModel", "toCome", "[B", true)
  | 43 => ("ScanCoderModel", "comes", "I", false)
  | 44 => ("ScanCoderModel", "at", "I", false)
  | 45 => ("ScanCoderModel", "taken", "I", false)
  | 46 => ("ScanCoderModel", "left", "I", false)
  | 47 => ("ScanCoderModel", "fault", "I", false)
  | _ => ("ScanCoderModel", "timesKept", "[I", true)
def ty_11 : Nat → FieldType := fun k => match k with
  | 0 => .int
  | 1 => .int
  | 2 => .int
  | 3 => .int
  | 4 => (.array .int)
  | 5 => (.array .int)
  | 6 => (.array .int)
  | 7 => (.array .int)
  | 8 => (.array .int)
  | 9 => (.array .int)
  | 10 => (.array .int)
  | 11 => .int
  | 12 => .int
  | 13 => (.array .short)
  | 14 => (.array .short)
  | 15 => (.array .int)
  | 16 => (.array .int)
  | 17 => .int
  | 18 => (.array .int)
  | 19 => (.array .int)
  | 20 => (.array .int)
  | 21 => (.array .int)
  | 22 => (.array .int)
  | 23 => .int
  | 24 => .int
  | 25 => .int
  | 26 => .int
  | 27 => .int
  | 28 => .int
  | 29 => (.array .byte)
  | 30 => .int
  | 31 => (.array .byte)
  | 32 => .int
  | 33 => .int
  | 34 => .int
  | 35 => .boolean
  | 36 => .boolean
  | 37 => (.array .int)
  | 38 => (.array .int)
  | 39 => .int
  | 40 => (.array .byte)
  | 41 => .int
  | 42 => (.array .byte)
  | 43 => .int
  | 44 => .int
  | 45 => .int
  | 46 => .int
  | 47 => .int
  | _ => (.array .int)
theorem nm_11 : ∀ a, a < 49 → ∀ b, b < 49 → a ≠ b → (T_11 a).2.1 ≠ (T_11 b).2.1 := by decide +kernel
theorem tyok_11 : ∀ k, k < 49 → parseFieldDescriptor (T_11 k).2.2.1 = some (ty_11 k) := by decide +kernel
theorem in_11 : ∀ w ∈ u_ws "ScanCoderModel" T_11 49, w ∈ gw_tbl := fun w h => gw_in ((by decide +kernel : ∀ w ∈ u_ws "ScanCoderModel" T_11 49, w ∈ lw_tbl) w h) ((by decide +kernel : ∀ w ∈ u_ws "ScanCoderModel" T_11 49, goodWord w = true) w h)
abbrev vwCl : List vw_C := [("ScanCoder", T_0, 9), ("ScanCoder$BitReader", T_1, 5), ("ScanCoder$BitWriter", T_2, 7), ("ScanCoder$Counter", T_3, 2), ("ScanCoder$Course", T_4, 13), ("ScanCoder$Decoder", T_5, 7), ("ScanCoder$Draft", T_6, 4), ("ScanCoder$Encoder", T_7, 8), ("ScanCoder$Picture", T_8, 12), ("ScanCoder$Store", T_9, 2), ("ScanCoder$Table", T_10, 6), ("ScanCoderModel", T_11, 49)]
abbrev y_m22 : MethodName := ({ cls := "ScanCoder", name := "<init>", desc := "()V" } : Jvm.MethodName)
def ws_m22 : List Cond := .code y_m22 prog_1_method_1_code 2 none :: gw_tbl
abbrev y_m30 : MethodName := ({ cls := "ScanCoder$Picture", name := "<init>", desc := "()V" } : Jvm.MethodName)
def ws_m30 : List Cond := .code y_m30 prog_9_method_1_code 1 none :: gw_tbl
abbrev y_m35 : MethodName := ({ cls := "ScanCoder$Picture", name := "become", desc := "(IIII)V" } : Jvm.MethodName)
def ws_m35 : List Cond := .code y_m35 prog_9_method_7_code 8 none :: gw_tbl
abbrev y_m38 : MethodName := ({ cls := "ScanCoder$Picture", name := "greatest", desc := "(II)I" } : Jvm.MethodName)
def ws_m38 : List Cond := .code y_m38 prog_9_method_5_code 4 (some .int) :: gw_tbl
abbrev y_m41 : MethodName := ({ cls := "ScanCoder$Picture", name := "factor", desc := "(II)I" } : Jvm.MethodName)
def ws_m41 : List Cond := .code y_m41 prog_9_method_4_code 2 (some .int) :: gw_tbl
abbrev y_m47 : MethodName := ({ cls := "ScanCoder$Picture", name := "divideUp", desc := "(II)I" } : Jvm.MethodName)
def ws_m47 : List Cond := .code y_m47 prog_9_method_6_code 2 (some .int) :: gw_tbl
abbrev y_m51 : MethodName := ({ cls := "ScanCoder$Picture", name := "clear", desc := "()V" } : Jvm.MethodName)
def ws_m51 : List Cond := .code y_m51 prog_9_method_8_code 3 none :: gw_tbl
abbrev y_m57 : MethodName := ({ cls := "java/util/Arrays", name := "fill", desc := "([SS)V" } : Jvm.MethodName)
def ws_m57 : List Cond := .code y_m57 prog_19_method_105_code 4 none :: gw_tbl
abbrev y_m114 : MethodName := ({ cls := "ScanCoder$Course", name := "<init>", desc := "(LScanCoder$Picture;)V" } : Jvm.MethodName)
def ws_m114 : List Cond := .code y_m114 prog_5_method_1_code 2 none :: gw_tbl
abbrev y_m119 : MethodName := ({ cls := "ScanCoder$Course", name := "startAnew", desc := "()V" } : Jvm.MethodName)
def ws_m119 : List Cond := .code y_m119 prog_5_method_2_code 1 none :: gw_tbl
abbrev y_m122 : MethodName := ({ cls := "java/util/Arrays", name := "fill", desc := "([II)V" } : Jvm.MethodName)
def ws_m122 : List Cond := .code y_m122 prog_19_method_103_code 4 none :: gw_tbl
abbrev y_m126 : MethodName := ({ cls := "ScanCoder$Course", name := "choose", desc := "(IIII)V" } : Jvm.MethodName)
def ws_m126 : List Cond := .code y_m126 prog_5_method_5_code 5 none :: gw_tbl
abbrev y_m130 : MethodName := ({ cls := "ScanCoder$Course", name := "lay", desc := "(I)V" } : Jvm.MethodName)
def ws_m130 : List Cond := .code y_m130 prog_5_method_6_code 2 none :: gw_tbl
abbrev y_m133 : MethodName := ({ cls := "java/lang/Integer", name := "bitCount", desc := "(I)I" } : Jvm.MethodName)
def ws_m133 : List Cond := .code y_m133 prog_16_method_49_code 1 (some .int) :: gw_tbl
abbrev y_m140 : MethodName := ({ cls := "ScanCoder$Course", name := "layOne", desc := "(I)V" } : Jvm.MethodName)
def ws_m140 : List Cond := .code y_m140 prog_5_method_7_code 3 none :: gw_tbl
abbrev y_m144 : MethodName := ({ cls := "ScanCoder$Course", name := "layRows", desc := "(IIIII)V" } : Jvm.MethodName)
def ws_m144 : List Cond := .code y_m144 prog_5_method_10_code 9 none :: gw_tbl
abbrev y_m148 : MethodName := ({ cls := "ScanCoder$Picture", name := "placeOf", desc := "(III)I" } : Jvm.MethodName)
def ws_m148 : List Cond := .code y_m148 prog_9_method_9_code 4 (some .int) :: gw_tbl
abbrev y_m152 : MethodName := ({ cls := "ScanCoder$Course", name := "laySeveral", desc := "(I)V" } : Jvm.MethodName)
def ws_m152 : List Cond := .code y_m152 prog_5_method_8_code 4 none :: gw_tbl
abbrev y_m156 : MethodName := ({ cls := "ScanCoder$Course", name := "layUnit", desc := "(III)V" } : Jvm.MethodName)
def ws_m156 : List Cond := .code y_m156 prog_5_method_9_code 7 none :: gw_tbl
abbrev y_m225 : MethodName := ({ cls := "ScanCoder$Draft", name := "<init>", desc := "()V" } : Jvm.MethodName)
def ws_m225 : List Cond := .code y_m225 prog_7_method_1_code 1 none :: gw_tbl
abbrev y_m249 : MethodName := ({ cls := "ScanCoder$Table", name := "<init>", desc := "()V" } : Jvm.MethodName)
def ws_m249 : List Cond := .code y_m249 prog_12_method_1_code 1 none :: gw_tbl
abbrev y_m276 : MethodName := ({ cls := "ScanCoder$Store", name := "<init>", desc := "()V" } : Jvm.MethodName)
def ws_m276 : List Cond := .code y_m276 prog_11_method_1_code 1 none :: gw_tbl
abbrev y_m293 : MethodName := ({ cls := "ScanCoder$Counter", name := "<init>", desc := "()V" } : Jvm.MethodName)
def ws_m293 : List Cond := .code y_m293 prog_4_method_1_code 1 none :: gw_tbl
abbrev y_m296 : MethodName := ({ cls := "ScanCoder$Sink", name := "<init>", desc := "()V" } : Jvm.MethodName)
def ws_m296 : List Cond := .code y_m296 prog_10_method_1_code 1 none :: gw_tbl
abbrev y_m311 : MethodName := ({ cls := "ScanCoder$BitWriter", name := "<init>", desc := "([LScanCoder$Table;LScanCoder$Store;)V" } : Jvm.MethodName)
def ws_m311 : List Cond := .code y_m311 prog_3_method_1_code 3 none :: gw_tbl
abbrev y_m341 : MethodName := ({ cls := "ScanCoder$Encoder", name := "<init>", desc := "(LScanCoder$Picture;LScanCoder$Course;LScanCoder$Sink;)V" } : Jvm.MethodName)
def ws_m341 : List Cond := .code y_m341 prog_8_method_1_code 4 none :: gw_tbl
abbrev y_m374 : MethodName := ({ cls := "ScanCoder$BitReader", name := "<init>", desc := "(LScanCoder$Store;)V" } : Jvm.MethodName)
def ws_m374 : List Cond := .code y_m374 prog_2_method_1_code 2 none :: gw_tbl
abbrev y_m395 : MethodName := ({ cls := "ScanCoder$Decoder", name := "<init>", desc := "(LScanCoder$Picture;LScanCoder$Course;[LScanCoder$Table;LScanCoder$BitReader;)V" } : Jvm.MethodName)
def ws_m395 : List Cond := .code y_m395 prog_6_method_1_code 5 none :: gw_tbl
abbrev y_m450 : MethodName := ({ cls := "ScanCoder", name := "frame", desc := "(IIII)Z" } : Jvm.MethodName)
def ws_m450 : List Cond := .code y_m450 prog_1_method_2_code 5 (some .boolean) :: gw_tbl
abbrev y_m453 : MethodName := ({ cls := "ScanCoder$Picture", name := "fits", desc := "(IIII)Z" } : Jvm.MethodName)
def ws_m453 : List Cond := .code y_m453 prog_9_method_2_code 7 (some .boolean) :: gw_tbl
abbrev y_m459 : MethodName := ({ cls := "ScanCoder", name := "counts", desc := "(JJ)V" } : Jvm.MethodName)
def ws_m459 : List Cond := .code y_m459 prog_1_method_3_code 5 none :: gw_tbl
abbrev y_m463 : MethodName := ({ cls := "ScanCoder$Draft", name := "begin", desc := "(JJ)V" } : Jvm.MethodName)
def ws_m463 : List Cond := .code y_m463 prog_7_method_2_code 6 none :: gw_tbl
abbrev y_m468 : MethodName := ({ cls := "ScanCoder", name := "symbols", desc := "(JI)Z" } : Jvm.MethodName)
def ws_m468 : List Cond := .code y_m468 prog_1_method_4_code 4 (some .boolean) :: gw_tbl
abbrev y_m472 : MethodName := ({ cls := "ScanCoder$Draft", name := "append", desc := "(JI)Z" } : Jvm.MethodName)
def ws_m472 : List Cond := .code y_m472 prog_7_method_3_code 5 (some .boolean) :: gw_tbl
abbrev y_m480 : MethodName := ({ cls := "ScanCoder$Draft", name := "isTable", desc := "()Z" } : Jvm.MethodName)
def ws_m480 : List Cond := .code y_m480 prog_7_method_4_code 3 (some .boolean) :: gw_tbl
abbrev y_m484 : MethodName := ({ cls := "ScanCoder$Draft", name := "hasTwins", desc := "()Z" } : Jvm.MethodName)
def ws_m484 : List Cond := .code y_m484 prog_7_method_5_code 2 (some .boolean) :: gw_tbl
abbrev y_m487 : MethodName := ({ cls := "java/util/Arrays", name := "fill", desc := "([BB)V" } : Jvm.MethodName)
def ws_m487 : List Cond := .code y_m487 prog_19_method_109_code 4 none :: gw_tbl
abbrev y_m491 : MethodName := ({ cls := "ScanCoder$Draft", name := "wordsFit", desc := "()Z" } : Jvm.MethodName)
def ws_m491 : List Cond := .code y_m491 prog_7_method_6_code 4 (some .boolean) :: gw_tbl
abbrev y_m495 : MethodName := ({ cls := "ScanCoder$Table", name := "become", desc := "(LScanCoder$Draft;)V" } : Jvm.MethodName)
def ws_m495 : List Cond := .code y_m495 prog_12_method_2_code 6 none :: gw_tbl
abbrev y_m503 : MethodName := ({ cls := "ScanCoder", name := "scan", desc := "(IIIII)Z" } : Jvm.MethodName)
def ws_m503 : List Cond := .code y_m503 prog_1_method_6_code 7 (some .boolean) :: gw_tbl
abbrev y_m506 : MethodName := ({ cls := "ScanCoder$Course", name := "kindOf", desc := "(IIII)I" } : Jvm.MethodName)
def ws_m506 : List Cond := .code y_m506 prog_5_method_3_code 5 (some .int) :: gw_tbl
abbrev y_m510 : MethodName := ({ cls := "ScanCoder$Course", name := "allows", desc := "(II)Z" } : Jvm.MethodName)
def ws_m510 : List Cond := .code y_m510 prog_5_method_4_code 3 (some .boolean) :: gw_tbl
abbrev y_m516 : MethodName := ({ cls := "ScanCoder", name := "tables", desc := "(III)Z" } : Jvm.MethodName)
def ws_m516 : List Cond := .code y_m516 prog_1_method_7_code 4 (some .boolean) :: gw_tbl
abbrev y_m520 : MethodName := ({ cls := "ScanCoder", name := "restart", desc := "(I)Z" } : Jvm.MethodName)
def ws_m520 : List Cond := .code y_m520 prog_1_method_8_code 2 (some .boolean) :: gw_tbl
abbrev y_m525 : MethodName := ({ cls := "ScanCoder", name := "set", desc := "(IIII)Z" } : Jvm.MethodName)
def ws_m525 : List Cond := .code y_m525 prog_1_method_9_code 6 (some .boolean) :: gw_tbl
abbrev y_m529 : MethodName := ({ cls := "ScanCoder$Picture", name := "canBe", desc := "(II)Z" } : Jvm.MethodName)
def ws_m529 : List Cond := .code y_m529 prog_9_method_3_code 4 (some .boolean) :: gw_tbl
abbrev y_m533 : MethodName := ({ cls := "ScanCoder", name := "get", desc := "(III)I" } : Jvm.MethodName)
def ws_m533 : List Cond := .code y_m533 prog_1_method_10_code 5 (some .int) :: gw_tbl
abbrev y_m537 : MethodName := ({ cls := "ScanCoder", name := "write", desc := "()I" } : Jvm.MethodName)
def ws_m537 : List Cond := .code y_m537 prog_1_method_11_code 1 (some .int) :: gw_tbl
abbrev y_m541 : MethodName := ({ cls := "ScanCoder$BitWriter", name := "begin", desc := "(Z)V" } : Jvm.MethodName)
def ws_m541 : List Cond := .code y_m541 prog_3_method_2_code 2 none :: gw_tbl
abbrev y_m545 : MethodName := ({ cls := "ScanCoder$Encoder", name := "encode", desc := "(LScanCoder$Sink;)V" } : Jvm.MethodName)
def ws_m545 : List Cond := .code y_m545 prog_8_method_2_code 7 none :: gw_tbl
abbrev y_m549 : MethodName := ({ cls := "ScanCoder$Encoder", name := "forget", desc := "()V" } : Jvm.MethodName)
def ws_m549 : List Cond := .code y_m549 prog_8_method_3_code 1 none :: gw_tbl
abbrev y_m554 : MethodName := ({ cls := "ScanCoder$Course", name := "restartsAhead", desc := "(I)Z" } : Jvm.MethodName)
def ws_m554 : List Cond := .code y_m554 prog_5_method_11_code 2 (some .boolean) :: gw_tbl
abbrev y_m558 : MethodName := ({ cls := "ScanCoder$Encoder", name := "endPart", desc := "()V" } : Jvm.MethodName)
def ws_m558 : List Cond := .code y_m558 prog_8_method_4_code 1 none :: gw_tbl
abbrev y_m562 : MethodName := ({ cls := "ScanCoder$Encoder", name := "sendRun", desc := "()V" } : Jvm.MethodName)
def ws_m562 : List Cond := .code y_m562 prog_8_method_10_code 3 none :: gw_tbl
abbrev y_m565 : MethodName := ({ cls := "ScanCoder", name := "sizeOf", desc := "(I)I" } : Jvm.MethodName)
def ws_m565 : List Cond := .code y_m565 prog_1_method_20_code 3 (some .int) :: gw_tbl
abbrev y_m574 : MethodName := ({ cls := "ScanCoder$BitWriter", name := "putWord", desc := "(II)V" } : Jvm.MethodName)
def ws_m574 : List Cond := .code y_m574 prog_3_method_3_code 4 none :: gw_tbl
abbrev y_m579 : MethodName := ({ cls := "ScanCoder$BitWriter", name := "putBits", desc := "(JI)V" } : Jvm.MethodName)
def ws_m579 : List Cond := .code y_m579 prog_3_method_4_code 5 none :: gw_tbl
abbrev y_m583 : MethodName := ({ cls := "ScanCoder$BitWriter", name := "putByte", desc := "(I)V" } : Jvm.MethodName)
def ws_m583 : List Cond := .code y_m583 prog_3_method_5_code 2 none :: gw_tbl
abbrev y_m586 : MethodName := ({ cls := "ScanCoder$Counter", name := "putWord", desc := "(II)V" } : Jvm.MethodName)
def ws_m586 : List Cond := .code y_m586 prog_4_method_3_code 3 none :: gw_tbl
abbrev y_m593 : MethodName := ({ cls := "ScanCoder$Counter", name := "putBits", desc := "(JI)V" } : Jvm.MethodName)
def ws_m593 : List Cond := .code y_m593 prog_4_method_4_code 4 none :: gw_tbl
abbrev y_m599 : MethodName := ({ cls := "ScanCoder$BitWriter", name := "endByte", desc := "()V" } : Jvm.MethodName)
def ws_m599 : List Cond := .code y_m599 prog_3_method_6_code 1 none :: gw_tbl
abbrev y_m603 : MethodName := ({ cls := "ScanCoder$Counter", name := "endByte", desc := "()V" } : Jvm.MethodName)
def ws_m603 : List Cond := .code y_m603 prog_4_method_5_code 1 none :: gw_tbl
abbrev y_m607 : MethodName := ({ cls := "ScanCoder$Course", name := "restartAhead", desc := "(I)I" } : Jvm.MethodName)
def ws_m607 : List Cond := .code y_m607 prog_5_method_12_code 2 (some .int) :: gw_tbl
abbrev y_m613 : MethodName := ({ cls := "ScanCoder$BitWriter", name := "putRestart", desc := "(I)V" } : Jvm.MethodName)
def ws_m613 : List Cond := .code y_m613 prog_3_method_7_code 2 none :: gw_tbl
abbrev y_m616 : MethodName := ({ cls := "ScanCoder$Counter", name := "putRestart", desc := "(I)V" } : Jvm.MethodName)
def ws_m616 : List Cond := .code y_m616 prog_4_method_6_code 2 none :: gw_tbl
abbrev y_m620 : MethodName := ({ cls := "ScanCoder$Encoder", name := "sendDirect", desc := "(II)V" } : Jvm.MethodName)
def ws_m620 : List Cond := .code y_m620 prog_8_method_5_code 6 none :: gw_tbl
abbrev y_m624 : MethodName := ({ cls := "ScanCoder$Encoder", name := "sendOthers", desc := "(II)V" } : Jvm.MethodName)
def ws_m624 : List Cond := .code y_m624 prog_8_method_6_code 8 none :: gw_tbl
abbrev y_m629 : MethodName := ({ cls := "ScanCoder$Encoder", name := "lengthenRun", desc := "(JI)V" } : Jvm.MethodName)
def ws_m629 : List Cond := .code y_m629 prog_8_method_9_code 5 none :: gw_tbl
abbrev y_m633 : MethodName := ({ cls := "ScanCoder$Encoder", name := "refineOthers", desc := "(I)V" } : Jvm.MethodName)
def ws_m633 : List Cond := .code y_m633 prog_8_method_7_code 10 none :: gw_tbl
abbrev y_m637 : MethodName := ({ cls := "ScanCoder$Encoder", name := "lastNewOne", desc := "(I)I" } : Jvm.MethodName)
def ws_m637 : List Cond := .code y_m637 prog_8_method_8_code 3 (some .int) :: gw_tbl
abbrev y_m641 : MethodName := ({ cls := "ScanCoder$Store", name := "reserve", desc := "(I)V" } : Jvm.MethodName)
def ws_m641 : List Cond := .code y_m641 prog_11_method_3_code 2 none :: gw_tbl
abbrev y_m646 : MethodName := ({ cls := "java/util/Arrays", name := "copyOf", desc := "([BI)[B" } : Jvm.MethodName)
def ws_m646 : List Cond := .code y_m646 prog_19_method_121_code 3 (some (.array .byte)) :: gw_tbl
abbrev y_m659 : MethodName := ({ cls := "ScanCoder", name := "read", desc := "()I" } : Jvm.MethodName)
def ws_m659 : List Cond := .code y_m659 prog_1_method_12_code 2 (some .int) :: gw_tbl
abbrev y_m663 : MethodName := ({ cls := "ScanCoder$Decoder", name := "decode", desc := "(Z)I" } : Jvm.MethodName)
def ws_m663 : List Cond := .code y_m663 prog_6_method_2_code 8 (some .int) :: gw_tbl
abbrev y_m667 : MethodName := ({ cls := "ScanCoder$BitReader", name := "begin", desc := "()V" } : Jvm.MethodName)
def ws_m667 : List Cond := .code y_m667 prog_2_method_2_code 1 none :: gw_tbl
abbrev y_m671 : MethodName := ({ cls := "ScanCoder$Decoder", name := "forget", desc := "()V" } : Jvm.MethodName)
def ws_m671 : List Cond := .code y_m671 prog_6_method_3_code 1 none :: gw_tbl
abbrev y_m677 : MethodName := ({ cls := "ScanCoder$Decoder", name := "endPart", desc := "()V" } : Jvm.MethodName)
def ws_m677 : List Cond := .code y_m677 prog_6_method_4_code 1 none :: gw_tbl
abbrev y_m681 : MethodName := ({ cls := "ScanCoder$BitReader", name := "endByte", desc := "()V" } : Jvm.MethodName)
def ws_m681 : List Cond := .code y_m681 prog_2_method_6_code 2 none :: gw_tbl
abbrev y_m686 : MethodName := ({ cls := "ScanCoder$BitReader", name := "takeRestart", desc := "(I)V" } : Jvm.MethodName)
def ws_m686 : List Cond := .code y_m686 prog_2_method_7_code 2 none :: gw_tbl
abbrev y_m690 : MethodName := ({ cls := "ScanCoder$Store", name := "byteAt", desc := "(I)I" } : Jvm.MethodName)
def ws_m690 : List Cond := .code y_m690 prog_11_method_2_code 2 (some .int) :: gw_tbl
abbrev y_m694 : MethodName := ({ cls := "ScanCoder$Decoder", name := "takeDirect", desc := "(II)V" } : Jvm.MethodName)
def ws_m694 : List Cond := .code y_m694 prog_6_method_6_code 5 none :: gw_tbl
abbrev y_m698 : MethodName := ({ cls := "ScanCoder$BitReader", name := "takeWord", desc := "(LScanCoder$Table;)I" } : Jvm.MethodName)
def ws_m698 : List Cond := .code y_m698 prog_2_method_5_code 6 (some .int) :: gw_tbl
abbrev y_m702 : MethodName := ({ cls := "ScanCoder$Table", name := "hasLonger", desc := "(II)Z" } : Jvm.MethodName)
def ws_m702 : List Cond := .code y_m702 prog_12_method_3_code 3 (some .boolean) :: gw_tbl
abbrev y_m706 : MethodName := ({ cls := "ScanCoder$BitReader", name := "takeBits", desc := "(I)I" } : Jvm.MethodName)
def ws_m706 : List Cond := .code y_m706 prog_2_method_3_code 4 (some .int) :: gw_tbl
abbrev y_m710 : MethodName := ({ cls := "ScanCoder$BitReader", name := "openByte", desc := "()V" } : Jvm.MethodName)
def ws_m710 : List Cond := .code y_m710 prog_2_method_4_code 2 none :: gw_tbl
abbrev y_m714 : MethodName := ({ cls := "ScanCoder$Table", name := "symbolOf", desc := "(II)I" } : Jvm.MethodName)
def ws_m714 : List Cond := .code y_m714 prog_12_method_4_code 4 (some .int) :: gw_tbl
abbrev y_m718 : MethodName := ({ cls := "ScanCoder$Decoder", name := "takeNumber", desc := "(I)I" } : Jvm.MethodName)
def ws_m718 : List Cond := .code y_m718 prog_6_method_7_code 4 (some .int) :: gw_tbl
abbrev y_m723 : MethodName := ({ cls := "ScanCoder$Decoder", name := "keepIfCanBe", desc := "(III)V" } : Jvm.MethodName)
def ws_m723 : List Cond := .code y_m723 prog_6_method_8_code 4 none :: gw_tbl
abbrev y_m728 : MethodName := ({ cls := "ScanCoder$Decoder", name := "keep", desc := "(II)V" } : Jvm.MethodName)
def ws_m728 : List Cond := .code y_m728 prog_6_method_5_code 3 none :: gw_tbl
abbrev y_m732 : MethodName := ({ cls := "ScanCoder$Decoder", name := "takeOthers", desc := "(LScanCoder$Table;II)V" } : Jvm.MethodName)
def ws_m732 : List Cond := .code y_m732 prog_6_method_10_code 8 none :: gw_tbl
abbrev y_m736 : MethodName := ({ cls := "ScanCoder$Decoder", name := "clearOthers", desc := "(II)V" } : Jvm.MethodName)
def ws_m736 : List Cond := .code y_m736 prog_6_method_11_code 4 none :: gw_tbl
abbrev y_m740 : MethodName := ({ cls := "ScanCoder$Decoder", name := "endsBand", desc := "(I)Z" } : Jvm.MethodName)
def ws_m740 : List Cond := .code y_m740 prog_6_method_12_code 2 (some .boolean) :: gw_tbl
abbrev y_m744 : MethodName := ({ cls := "ScanCoder$Decoder", name := "takeRun", desc := "(I)V" } : Jvm.MethodName)
def ws_m744 : List Cond := .code y_m744 prog_6_method_13_code 3 none :: gw_tbl
abbrev y_m748 : MethodName := ({ cls := "ScanCoder$Decoder", name := "takeNewOne", desc := "(III)I" } : Jvm.MethodName)
def ws_m748 : List Cond := .code y_m748 prog_6_method_15_code 7 (some .int) :: gw_tbl
abbrev y_m752 : MethodName := ({ cls := "ScanCoder$Decoder", name := "refineOther", desc := "(I)V" } : Jvm.MethodName)
def ws_m752 : List Cond := .code y_m752 prog_6_method_17_code 5 none :: gw_tbl
abbrev y_m757 : MethodName := ({ cls := "ScanCoder$Decoder", name := "takeOther", desc := "(III)I" } : Jvm.MethodName)
def ws_m757 : List Cond := .code y_m757 prog_6_method_14_code 7 (some .int) :: gw_tbl
abbrev y_m761 : MethodName := ({ cls := "ScanCoder$Decoder", name := "refineRest", desc := "(II)V" } : Jvm.MethodName)
def ws_m761 : List Cond := .code y_m761 prog_6_method_16_code 4 none :: gw_tbl
abbrev y_m765 : MethodName := ({ cls := "ScanCoder$Decoder", name := "refineDirect", desc := "(I)V" } : Jvm.MethodName)
def ws_m765 : List Cond := .code y_m765 prog_6_method_9_code 3 none :: gw_tbl
abbrev y_m769 : MethodName := ({ cls := "ScanCoder$BitReader", name := "takeEnd", desc := "()V" } : Jvm.MethodName)
def ws_m769 : List Cond := .code y_m769 prog_2_method_8_code 1 none :: gw_tbl
abbrev y_m773 : MethodName := ({ cls := "ScanCoder", name := "tally", desc := "()I" } : Jvm.MethodName)
def ws_m773 : List Cond := .code y_m773 prog_1_method_13_code 1 (some .int) :: gw_tbl
abbrev y_m777 : MethodName := ({ cls := "ScanCoder$Counter", name := "begin", desc := "()V" } : Jvm.MethodName)
def ws_m777 : List Cond := .code y_m777 prog_4_method_2_code 1 none :: gw_tbl
abbrev y_m782 : MethodName := ({ cls := "ScanCoder", name := "often", desc := "(II)I" } : Jvm.MethodName)
def ws_m782 : List Cond := .code y_m782 prog_1_method_14_code 3 (some .int) :: gw_tbl
abbrev y_m786 : MethodName := ({ cls := "ScanCoder", name := "give", desc := "(JI)Z" } : Jvm.MethodName)
def ws_m786 : List Cond := .code y_m786 prog_1_method_15_code 4 (some .boolean) :: gw_tbl
abbrev y_m790 : MethodName := ({ cls := "ScanCoder$Store", name := "append", desc := "(JI)Z" } : Jvm.MethodName)
def ws_m790 : List Cond := .code y_m790 prog_11_method_4_code 5 (some .boolean) :: gw_tbl
abbrev y_m795 : MethodName := ({ cls := "ScanCoder", name := "cut", desc := "(I)Z" } : Jvm.MethodName)
def ws_m795 : List Cond := .code y_m795 prog_1_method_16_code 2 (some .boolean) :: gw_tbl
abbrev y_m799 : MethodName := ({ cls := "ScanCoder", name := "data", desc := "(I)I" } : Jvm.MethodName)
def ws_m799 : List Cond := .code y_m799 prog_1_method_17_code 2 (some .int) :: gw_tbl
abbrev y_m804 : MethodName := ({ cls := "ScanCoder", name := "look", desc := "(I)I" } : Jvm.MethodName)
def ws_m804 : List Cond := .code y_m804 prog_1_method_18_code 2 (some .int) :: gw_tbl
abbrev y_m808 : MethodName := ({ cls := "ScanCoder$Picture", name := "countOthersThanZero", desc := "()I" } : Jvm.MethodName)
def ws_m808 : List Cond := .code y_m808 prog_9_method_10_code 3 (some .int) :: gw_tbl
abbrev y_m812 : MethodName := ({ cls := "ScanCoder", name := "countWords", desc := "()I" } : Jvm.MethodName)
def ws_m812 : List Cond := .code y_m812 prog_1_method_19_code 3 (some .int) :: gw_tbl
abbrev y_m816 : MethodName := ({ cls := "ScanCoder$Picture", name := "measure", desc := "(II)I" } : Jvm.MethodName)
def ws_m816 : List Cond := .code y_m816 prog_9_method_11_code 3 (some .int) :: gw_tbl
abbrev y_m821 : MethodName := ({ cls := "ScanCoderModel", name := "<init>", desc := "()V" } : Jvm.MethodName)
def ws_m821 : List Cond := .code y_m821 prog_14_method_1_code 1 none :: gw_tbl
abbrev y_m826 : MethodName := ({ cls := "ScanCoderModel", name := "lay", desc := "(IIII)I" } : Jvm.MethodName)
def ws_m826 : List Cond := .code y_m826 prog_14_method_4_code 12 (some .int) :: gw_tbl
abbrev y_m829 : MethodName := ({ cls := "ScanCoderModel", name := "up", desc := "(II)I" } : Jvm.MethodName)
def ws_m829 : List Cond := .code y_m829 prog_14_method_3_code 2 (some .int) :: gw_tbl
abbrev y_m833 : MethodName := ({ cls := "ScanCoderModel", name := "base", desc := "()V" } : Jvm.MethodName)
def ws_m833 : List Cond := .code y_m833 prog_14_method_5_code 2 none :: gw_tbl
abbrev y_m985 : MethodName := ({ cls := "ScanCoderModel", name := "frame", desc := "(IIII)Z" } : Jvm.MethodName)
def ws_m985 : List Cond := .code y_m985 prog_14_method_6_code 5 (some .boolean) :: gw_tbl
abbrev y_m989 : MethodName := ({ cls := "ScanCoderModel", name := "counts", desc := "(JJ)V" } : Jvm.MethodName)
def ws_m989 : List Cond := .code y_m989 prog_14_method_7_code 6 none :: gw_tbl
abbrev y_m994 : MethodName := ({ cls := "ScanCoderModel", name := "symbols", desc := "(JI)Z" } : Jvm.MethodName)
def ws_m994 : List Cond := .code y_m994 prog_14_method_8_code 5 (some .boolean) :: gw_tbl
abbrev y_m998 : MethodName := ({ cls := "ScanCoderModel", name := "make", desc := "(I)Z" } : Jvm.MethodName)
def ws_m998 : List Cond := .code y_m998 prog_14_method_10_code 6 (some .boolean) :: gw_tbl
abbrev y_m1002 : MethodName := ({ cls := "ScanCoderModel", name := "isTable", desc := "()Z" } : Jvm.MethodName)
def ws_m1002 : List Cond := .code y_m1002 prog_14_method_9_code 7 (some .boolean) :: gw_tbl
abbrev y_m1007 : MethodName := ({ cls := "ScanCoderModel", name := "scan", desc := "(IIIII)Z" } : Jvm.MethodName)
def ws_m1007 : List Cond := .code y_m1007 prog_14_method_12_code 10 (some .boolean) :: gw_tbl
abbrev y_m1010 : MethodName := ({ cls := "ScanCoderModel", name := "ones", desc := "(I)I" } : Jvm.MethodName)
def ws_m1010 : List Cond := .code y_m1010 prog_14_method_11_code 3 (some .int) :: gw_tbl
abbrev y_m1014 : MethodName := ({ cls := "ScanCoderModel", name := "tables", desc := "(III)Z" } : Jvm.MethodName)
def ws_m1014 : List Cond := .code y_m1014 prog_14_method_13_code 4 (some .boolean) :: gw_tbl
abbrev y_m1018 : MethodName := ({ cls := "ScanCoderModel", name := "restart", desc := "(I)Z" } : Jvm.MethodName)
def ws_m1018 : List Cond := .code y_m1018 prog_14_method_14_code 2 (some .boolean) :: gw_tbl
abbrev y_m1023 : MethodName := ({ cls := "ScanCoderModel", name := "set", desc := "(IIII)Z" } : Jvm.MethodName)
def ws_m1023 : List Cond := .code y_m1023 prog_14_method_17_code 5 (some .boolean) :: gw_tbl
abbrev y_m1027 : MethodName := ({ cls := "ScanCoderModel", name := "isBlock", desc := "(II)Z" } : Jvm.MethodName)
def ws_m1027 : List Cond := .code y_m1027 prog_14_method_15_code 3 (some .boolean) :: gw_tbl
abbrev y_m1030 : MethodName := ({ cls := "ScanCoderModel", name := "canBe", desc := "(II)Z" } : Jvm.MethodName)
def ws_m1030 : List Cond := .code y_m1030 prog_14_method_16_code 2 (some .boolean) :: gw_tbl
abbrev y_m1034 : MethodName := ({ cls := "ScanCoderModel", name := "get", desc := "(III)I" } : Jvm.MethodName)
def ws_m1034 : List Cond := .code y_m1034 prog_14_method_18_code 4 (some .int) :: gw_tbl
abbrev y_m1038 : MethodName := ({ cls := "ScanCoderModel", name := "write", desc := "()I" } : Jvm.MethodName)
def ws_m1038 : List Cond := .code y_m1038 prog_14_method_39_code 2 (some .int) :: gw_tbl
abbrev y_m1042 : MethodName := ({ cls := "ScanCoderModel", name := "writeAll", desc := "()V" } : Jvm.MethodName)
def ws_m1042 : List Cond := .code y_m1042 prog_14_method_38_code 7 none :: gw_tbl
abbrev y_m1046 : MethodName := ({ cls := "ScanCoderModel", name := "single", desc := "()I" } : Jvm.MethodName)
def ws_m1046 : List Cond := .code y_m1046 prog_14_method_19_code 2 (some .int) :: gw_tbl
abbrev y_m1050 : MethodName := ({ cls := "ScanCoderModel", name := "units", desc := "()I" } : Jvm.MethodName)
def ws_m1050 : List Cond := .code y_m1050 prog_14_method_20_code 2 (some .int) :: gw_tbl
abbrev y_m1054 : MethodName := ({ cls := "ScanCoderModel", name := "sendRun", desc := "(I)V" } : Jvm.MethodName)
def ws_m1054 : List Cond := .code y_m1054 prog_14_method_27_code 4 none :: gw_tbl
abbrev y_m1057 : MethodName := ({ cls := "ScanCoderModel", name := "sizeOf", desc := "(I)I" } : Jvm.MethodName)
def ws_m1057 : List Cond := .code y_m1057 prog_14_method_21_code 3 (some .int) :: gw_tbl
abbrev y_m1061 : MethodName := ({ cls := "ScanCoderModel", name := "word", desc := "(II)V" } : Jvm.MethodName)
def ws_m1061 : List Cond := .code y_m1061 prog_14_method_25_code 4 none :: gw_tbl
abbrev y_m1065 : MethodName := ({ cls := "ScanCoderModel", name := "low", desc := "(II)V" } : Jvm.MethodName)
def ws_m1065 : List Cond := .code y_m1065 prog_14_method_24_code 4 none :: gw_tbl
abbrev y_m1069 : MethodName := ({ cls := "ScanCoderModel", name := "bit", desc := "(I)V" } : Jvm.MethodName)
def ws_m1069 : List Cond := .code y_m1069 prog_14_method_22_code 2 none :: gw_tbl
abbrev y_m1073 : MethodName := ({ cls := "ScanCoderModel", name := "raw", desc := "(I)V" } : Jvm.MethodName)
def ws_m1073 : List Cond := .code y_m1073 prog_14_method_23_code 2 none :: gw_tbl
abbrev y_m1077 : MethodName := ({ cls := "ScanCoderModel", name := "align", desc := "()V" } : Jvm.MethodName)
def ws_m1077 : List Cond := .code y_m1077 prog_14_method_37_code 1 none :: gw_tbl
abbrev y_m1081 : MethodName := ({ cls := "ScanCoderModel", name := "blocksIn", desc := "(I)I" } : Jvm.MethodName)
def ws_m1081 : List Cond := .code y_m1081 prog_14_method_36_code 2 (some .int) :: gw_tbl
abbrev y_m1085 : MethodName := ({ cls := "ScanCoderModel", name := "blockOf", desc := "(III)I" } : Jvm.MethodName)
def ws_m1085 : List Cond := .code y_m1085 prog_14_method_35_code 6 (some .int) :: gw_tbl
abbrev y_m1089 : MethodName := ({ cls := "ScanCoderModel", name := "writeBlock", desc := "(II)V" } : Jvm.MethodName)
def ws_m1089 : List Cond := .code y_m1089 prog_14_method_34_code 3 none :: gw_tbl
abbrev y_m1093 : MethodName := ({ cls := "ScanCoderModel", name := "writeDirect", desc := "(II)V" } : Jvm.MethodName)
def ws_m1093 : List Cond := .code y_m1093 prog_14_method_29_code 6 none :: gw_tbl
abbrev y_m1097 : MethodName := ({ cls := "ScanCoderModel", name := "number", desc := "(I)V" } : Jvm.MethodName)
def ws_m1097 : List Cond := .code y_m1097 prog_14_method_26_code 2 none :: gw_tbl
abbrev y_m1101 : MethodName := ({ cls := "ScanCoderModel", name := "writeOthers", desc := "(III)V" } : Jvm.MethodName)
def ws_m1101 : List Cond := .code y_m1101 prog_14_method_31_code 9 none :: gw_tbl
abbrev y_m1104 : MethodName := ({ cls := "ScanCoderModel", name := "cutOff", desc := "(II)I" } : Jvm.MethodName)
def ws_m1104 : List Cond := .code y_m1104 prog_14_method_30_code 2 (some .int) :: gw_tbl
abbrev y_m1108 : MethodName := ({ cls := "ScanCoderModel", name := "writeMore", desc := "(II)V" } : Jvm.MethodName)
def ws_m1108 : List Cond := .code y_m1108 prog_14_method_33_code 8 none :: gw_tbl
abbrev y_m1112 : MethodName := ({ cls := "ScanCoderModel", name := "amount", desc := "(III)I" } : Jvm.MethodName)
def ws_m1112 : List Cond := .code y_m1112 prog_14_method_32_code 5 (some .int) :: gw_tbl
abbrev y_m1116 : MethodName := ({ cls := "ScanCoderModel", name := "sendComing", desc := "()V" } : Jvm.MethodName)
def ws_m1116 : List Cond := .code y_m1116 prog_14_method_28_code 2 none :: gw_tbl
abbrev y_m1120 : MethodName := ({ cls := "ScanCoderModel", name := "tally", desc := "()I" } : Jvm.MethodName)
def ws_m1120 : List Cond := .code y_m1120 prog_14_method_40_code 3 (some .int) :: gw_tbl
abbrev y_m1124 : MethodName := ({ cls := "ScanCoderModel", name := "often", desc := "(II)I" } : Jvm.MethodName)
def ws_m1124 : List Cond := .code y_m1124 prog_14_method_41_code 3 (some .int) :: gw_tbl
abbrev y_m1128 : MethodName := ({ cls := "ScanCoderModel", name := "give", desc := "(JI)Z" } : Jvm.MethodName)
def ws_m1128 : List Cond := .code y_m1128 prog_14_method_42_code 5 (some .boolean) :: gw_tbl
abbrev y_m1132 : MethodName := ({ cls := "ScanCoderModel", name := "cut", desc := "(I)Z" } : Jvm.MethodName)
def ws_m1132 : List Cond := .code y_m1132 prog_14_method_43_code 2 (some .boolean) :: gw_tbl
abbrev y_m1136 : MethodName := ({ cls := "ScanCoderModel", name := "data", desc := "(I)I" } : Jvm.MethodName)
def ws_m1136 : List Cond := .code y_m1136 prog_14_method_44_code 2 (some .int) :: gw_tbl
abbrev y_m1140 : MethodName := ({ cls := "ScanCoderModel", name := "read", desc := "()I" } : Jvm.MethodName)
def ws_m1140 : List Cond := .code y_m1140 prog_14_method_60_code 2 (some .int) :: gw_tbl
abbrev y_m1144 : MethodName := ({ cls := "ScanCoderModel", name := "readAll", desc := "()V" } : Jvm.MethodName)
def ws_m1144 : List Cond := .code y_m1144 prog_14_method_59_code 6 none :: gw_tbl
abbrev y_m1148 : MethodName := ({ cls := "ScanCoderModel", name := "finish", desc := "(I)V" } : Jvm.MethodName)
def ws_m1148 : List Cond := .code y_m1148 prog_14_method_58_code 4 none :: gw_tbl
abbrev y_m1152 : MethodName := ({ cls := "ScanCoderModel", name := "atRestart", desc := "()Z" } : Jvm.MethodName)
def ws_m1152 : List Cond := .code y_m1152 prog_14_method_46_code 1 (some .boolean) :: gw_tbl
abbrev y_m1156 : MethodName := ({ cls := "ScanCoderModel", name := "wrong", desc := "(I)I" } : Jvm.MethodName)
def ws_m1156 : List Cond := .code y_m1156 prog_14_method_45_code 2 (some .int) :: gw_tbl
abbrev y_m1160 : MethodName := ({ cls := "ScanCoderModel", name := "readBlock", desc := "(II)V" } : Jvm.MethodName)
def ws_m1160 : List Cond := .code y_m1160 prog_14_method_57_code 3 none :: gw_tbl
abbrev y_m1164 : MethodName := ({ cls := "ScanCoderModel", name := "readDirect", desc := "(II)V" } : Jvm.MethodName)
def ws_m1164 : List Cond := .code y_m1164 prog_14_method_52_code 7 none :: gw_tbl
abbrev y_m1168 : MethodName := ({ cls := "ScanCoderModel", name := "take", desc := "()I" } : Jvm.MethodName)
def ws_m1168 : List Cond := .code y_m1168 prog_14_method_47_code 1 (some .int) :: gw_tbl
abbrev y_m1172 : MethodName := ({ cls := "ScanCoderModel", name := "symbol", desc := "(I)I" } : Jvm.MethodName)
def ws_m1172 : List Cond := .code y_m1172 prog_14_method_49_code 7 (some .int) :: gw_tbl
abbrev y_m1176 : MethodName := ({ cls := "ScanCoderModel", name := "numberOf", desc := "(I)I" } : Jvm.MethodName)
def ws_m1176 : List Cond := .code y_m1176 prog_14_method_50_code 3 (some .int) :: gw_tbl
abbrev y_m1180 : MethodName := ({ cls := "ScanCoderModel", name := "takes", desc := "(I)I" } : Jvm.MethodName)
def ws_m1180 : List Cond := .code y_m1180 prog_14_method_48_code 4 (some .int) :: gw_tbl
abbrev y_m1184 : MethodName := ({ cls := "ScanCoderModel", name := "become", desc := "(IIII)V" } : Jvm.MethodName)
def ws_m1184 : List Cond := .code y_m1184 prog_14_method_51_code 6 none :: gw_tbl
abbrev y_m1188 : MethodName := ({ cls := "ScanCoderModel", name := "readOthers", desc := "(III)V" } : Jvm.MethodName)
def ws_m1188 : List Cond := .code y_m1188 prog_14_method_53_code 11 none :: gw_tbl
abbrev y_m1192 : MethodName := ({ cls := "ScanCoderModel", name := "readMore", desc := "(II)V" } : Jvm.MethodName)
def ws_m1192 : List Cond := .code y_m1192 prog_14_method_55_code 8 none :: gw_tbl
abbrev y_m1196 : MethodName := ({ cls := "ScanCoderModel", name := "over", desc := "(IIII)I" } : Jvm.MethodName)
def ws_m1196 : List Cond := .code y_m1196 prog_14_method_56_code 7 (some .int) :: gw_tbl
abbrev y_m1200 : MethodName := ({ cls := "ScanCoderModel", name := "more", desc := "(III)V" } : Jvm.MethodName)
def ws_m1200 : List Cond := .code y_m1200 prog_14_method_54_code 7 none :: gw_tbl
abbrev y_m1204 : MethodName := ({ cls := "ScanCoderModel", name := "look", desc := "(I)I" } : Jvm.MethodName)
def ws_m1204 : List Cond := .code y_m1204 prog_14_method_61_code 7 (some .int) :: gw_tbl
