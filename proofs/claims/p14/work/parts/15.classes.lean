/-! ===== tables: classes, arrays, statics (by program) ===== -/
def gT0 : u_T := fun k => match k with
  | 0 => ("DctFilter$Band", "name", "I", false)
  | 1 => ("DctFilter$Band", "h", "I", false)
  | 2 => ("DctFilter$Band", "v", "I", false)
  | 3 => ("DctFilter$Band", "table", "I", false)
  | 4 => ("DctFilter$Band", "columns", "I", false)
  | 5 => ("DctFilter$Band", "rows", "I", false)
  | 6 => ("DctFilter$Band", "neededColumns", "I", false)
  | 7 => ("DctFilter$Band", "neededRows", "I", false)
  | 8 => ("DctFilter$Band", "firstBlock", "I", false)
  | 9 => ("DctFilter$Band", "firstCodes", "I", false)
  | 10 => ("DctFilter$Band", "otherCodes", "I", false)
  | _ => ("DctFilter$Band", "before", "I", false)
def gY0 : Nat → FieldType := fun k => match k with
  | 0 => .int
  | 1 => .int
  | 2 => .int
  | 3 => .int
  | 4 => .int
  | 5 => .int
  | 6 => .int
  | 7 => .int
  | 8 => .int
  | 9 => .int
  | 10 => .int
  | _ => .int
def gT1 : u_T := fun k => match k with
  | 0 => ("DctFilter$Bits", "source", "LDctFilter$Collected;", true)
  | 1 => ("DctFilter$Bits", "place", "I", false)
  | 2 => ("DctFilter$Bits", "current", "I", false)
  | _ => ("DctFilter$Bits", "left", "I", false)
def gY1 : Nat → FieldType := fun k => match k with
  | 0 => .object "DctFilter$Collected"
  | 1 => .int
  | 2 => .int
  | _ => .int
def gT2 : u_T := fun k => match k with
  | 0 => ("DctFilter$Codes", "counts", "[I", true)
  | _ => ("DctFilter$Codes", "symbols", "[I", true)
def gY2 : Nat → FieldType := fun k => match k with
  | 0 => .array .int
  | _ => .array .int
def gT3 : u_T := fun k => match k with
  | 0 => ("DctFilter$Collected", "bytes", "[B", true)
  | _ => ("DctFilter$Collected", "size", "I", false)
def gY3 : Nat → FieldType := fun k => match k with
  | 0 => .array .byte
  | _ => .int
def gT4 : u_T := fun k => match k with
  | 0 => ("DctFilter$Draft", "points", "[I", true)
  | 1 => ("DctFilter$Draft", "width", "I", false)
  | 2 => ("DctFilter$Draft", "height", "I", false)
  | 3 => ("DctFilter$Draft", "interval", "I", false)
  | 4 => ("DctFilter$Draft", "froms", "[I", true)
  | 5 => ("DctFilter$Draft", "tos", "[I", true)
  | 6 => ("DctFilter$Draft", "highs", "[I", true)
  | 7 => ("DctFilter$Draft", "lows", "[I", true)
  | 8 => ("DctFilter$Draft", "scans", "I", false)
  | _ => ("DctFilter$Draft", "lowest", "[I", true)
def gY4 : Nat → FieldType := fun k => match k with
  | 0 => .array .int
  | 1 => .int
  | 2 => .int
  | 3 => .int
  | 4 => .array .int
  | 5 => .array .int
  | 6 => .array .int
  | 7 => .array .int
  | 8 => .int
  | _ => .array .int
def gT5 : u_T := fun k => match k with
  | 0 => ("DctFilter$Picture", "bands", "[LDctFilter$Band;", true)
  | 1 => ("DctFilter$Picture", "tables", "[I", true)
  | 2 => ("DctFilter$Picture", "coefficients", "[I", false)
  | 3 => ("DctFilter$Picture", "damaged", "[I", false)
  | 4 => ("DctFilter$Picture", "byAndBy", "Z", false)
  | 5 => ("DctFilter$Picture", "width", "I", false)
  | 6 => ("DctFilter$Picture", "height", "I", false)
  | 7 => ("DctFilter$Picture", "count", "I", false)
  | 8 => ("DctFilter$Picture", "blocks", "I", false)
  | 9 => ("DctFilter$Picture", "scans", "I", false)
  | 10 => ("DctFilter$Picture", "greatestH", "I", false)
  | 11 => ("DctFilter$Picture", "greatestV", "I", false)
  | 12 => ("DctFilter$Picture", "unitColumns", "I", false)
  | _ => ("DctFilter$Picture", "unitRows", "I", false)
def gY5 : Nat → FieldType := fun k => match k with
  | 0 => .array (.object "DctFilter$Band")
  | 1 => .array .int
  | 2 => .array .int
  | 3 => .array .int
  | 4 => .boolean
  | 5 => .int
  | 6 => .int
  | 7 => .int
  | 8 => .int
  | 9 => .int
  | 10 => .int
  | 11 => .int
  | 12 => .int
  | _ => .int
def gT6 : u_T := fun k => match k with
  | 0 => ("DctFilter$Reader", "source", "LDctFilter$Collected;", true)
  | 1 => ("DctFilter$Reader", "picture", "LDctFilter$Picture;", true)
  | 2 => ("DctFilter$Reader", "scans", "LDctFilter$ScanReader;", true)
  | _ => ("DctFilter$Reader", "place", "I", false)
def gY6 : Nat → FieldType := fun k => match k with
  | 0 => .object "DctFilter$Collected"
  | 1 => .object "DctFilter$Picture"
  | 2 => .object "DctFilter$ScanReader"
  | _ => .int
def gT7 : u_T := fun k => match k with
  | 0 => ("DctFilter$ScanReader", "bits", "LDctFilter$Bits;", true)
  | 1 => ("DctFilter$ScanReader", "interval", "I", false)
  | 2 => ("DctFilter$ScanReader", "from", "I", false)
  | 3 => ("DctFilter$ScanReader", "to", "I", false)
  | 4 => ("DctFilter$ScanReader", "high", "I", false)
  | 5 => ("DctFilter$ScanReader", "low", "I", false)
  | 6 => ("DctFilter$ScanReader", "codes", "[LDctFilter$Codes;", true)
  | 7 => ("DctFilter$ScanReader", "picture", "LDctFilter$Picture;", true)
  | 8 => ("DctFilter$ScanReader", "unitBands", "[I", true)
  | 9 => ("DctFilter$ScanReader", "unitBlocks", "[I", true)
  | 10 => ("DctFilter$ScanReader", "unitSize", "I", false)
  | 11 => ("DctFilter$ScanReader", "single", "Z", false)
  | 12 => ("DctFilter$ScanReader", "singleBand", "I", false)
  | 13 => ("DctFilter$ScanReader", "markedUnit", "I", false)
  | _ => ("DctFilter$ScanReader", "ending", "I", false)
def gY7 : Nat → FieldType := fun k => match k with
  | 0 => .object "DctFilter$Bits"
  | 1 => .int
  | 2 => .int
  | 3 => .int
  | 4 => .int
  | 5 => .int
  | 6 => .array (.object "DctFilter$Codes")
  | 7 => .object "DctFilter$Picture"
  | 8 => .array .int
  | 9 => .array .int
  | 10 => .int
  | 11 => .boolean
  | 12 => .int
  | 13 => .int
  | _ => .int
def gT8 : u_T := fun k => match k with
  | 0 => ("DctFilter$Sink", "bytes", "[B", false)
  | 1 => ("DctFilter$Sink", "count", "I", false)
  | 2 => ("DctFilter$Sink", "current", "I", false)
  | _ => ("DctFilter$Sink", "held", "I", false)
def gY8 : Nat → FieldType := fun k => match k with
  | 0 => .array .byte
  | 1 => .int
  | 2 => .int
  | _ => .int
def gT9 : u_T := fun k => match k with
  | 0 => ("DctFilter$Suited", "counts", "[I", true)
  | 1 => ("DctFilter$Suited", "order", "[I", true)
  | 2 => ("DctFilter$Suited", "codes", "[I", true)
  | 3 => ("DctFilter$Suited", "lengths", "[I", true)
  | 4 => ("DctFilter$Suited", "told", "I", false)
  | 5 => ("DctFilter$Suited", "weights", "[I", true)
  | 6 => ("DctFilter$Suited", "groups", "[I", true)
  | 7 => ("DctFilter$Suited", "used", "[I", true)
  | _ => ("DctFilter$Suited", "usedCount", "I", false)
def gY9 : Nat → FieldType := fun k => match k with
  | 0 => .array .int
  | 1 => .array .int
  | 2 => .array .int
  | 3 => .array .int
  | 4 => .int
  | 5 => .array .int
  | 6 => .array .int
  | 7 => .array .int
  | _ => .int
def gT10 : u_T := fun k => match k with
  | 0 => ("DctFilter$Writer", "sink", "LDctFilter$Sink;", true)
  | 1 => ("DctFilter$Writer", "table", "[I", true)
  | 2 => ("DctFilter$Writer", "coefficients", "[I", true)
  | 3 => ("DctFilter$Writer", "halfway", "[J", true)
  | 4 => ("DctFilter$Writer", "suited", "[LDctFilter$Suited;", true)
  | 5 => ("DctFilter$Writer", "blocks", "I", false)
  | 6 => ("DctFilter$Writer", "interval", "I", false)
  | 7 => ("DctFilter$Writer", "from", "I", false)
  | 8 => ("DctFilter$Writer", "to", "I", false)
  | 9 => ("DctFilter$Writer", "high", "I", false)
  | 10 => ("DctFilter$Writer", "low", "I", false)
  | 11 => ("DctFilter$Writer", "counting", "Z", false)
  | 12 => ("DctFilter$Writer", "before", "I", false)
  | 13 => ("DctFilter$Writer", "waiting", "J", false)
  | _ => ("DctFilter$Writer", "waitingCount", "I", false)
def gY10 : Nat → FieldType := fun k => match k with
  | 0 => .object "DctFilter$Sink"
  | 1 => .array .int
  | 2 => .array .int
  | 3 => .array .long
  | 4 => .array (.object "DctFilter$Suited")
  | 5 => .int
  | 6 => .int
  | 7 => .int
  | 8 => .int
  | 9 => .int
  | 10 => .int
  | 11 => .boolean
  | 12 => .int
  | 13 => .long
  | _ => .int
def gT11 : u_T := fun k => match k with
  | 0 => ("DctFilter", "collected", "LDctFilter$Collected;", true)
  | 1 => ("DctFilter", "tables", "[I", true)
  | 2 => ("DctFilter", "picture", "LDctFilter$Picture;", true)
  | 3 => ("DctFilter", "draft", "LDctFilter$Draft;", true)
  | 4 => ("DctFilter", "written", "LDctFilter$Sink;", true)
  | 5 => ("DctFilter", "reader", "LDctFilter$Reader;", false)
  | _ => ("DctFilter", "writer", "LDctFilter$Writer;", false)
def gY11 : Nat → FieldType := fun k => match k with
  | 0 => .object "DctFilter$Collected"
  | 1 => .array .int
  | 2 => .object "DctFilter$Picture"
  | 3 => .object "DctFilter$Draft"
  | 4 => .object "DctFilter$Sink"
  | 5 => .object "DctFilter$Reader"
  | _ => .object "DctFilter$Writer"
def gT12 : u_T := fun k => match k with
  | 0 => ("DctFilterModel", "thrown", "I", false)
  | 1 => ("DctFilterModel", "collected", "I", false)
  | 2 => ("DctFilterModel", "input", "[I", true)
  | 3 => ("DctFilterModel", "size", "I", false)
  | 4 => ("DctFilterModel", "data", "[I", true)
  | 5 => ("DctFilterModel", "place", "I", false)
  | 6 => ("DctFilterModel", "end", "I", false)
  | 7 => ("DctFilterModel", "fault", "I", false)
  | 8 => ("DctFilterModel", "interval", "I", false)
  | 9 => ("DctFilterModel", "codes", "[I", true)
  | 10 => ("DctFilterModel", "symbolOf", "[I", true)
  | 11 => ("DctFilterModel", "sizeOf", "[I", true)
  | 12 => ("DctFilterModel", "codeOf", "[I", true)
  | 13 => ("DctFilterModel", "tables", "[I", true)
  | 14 => ("DctFilterModel", "own", "[I", true)
  | 15 => ("DctFilterModel", "zigzag", "[I", true)
  | 16 => ("DctFilterModel", "isPicture", "Z", false)
  | 17 => ("DctFilterModel", "isByAndBy", "Z", false)
  | 18 => ("DctFilterModel", "width", "I", false)
  | 19 => ("DctFilterModel", "height", "I", false)
  | 20 => ("DctFilterModel", "bands", "I", false)
  | 21 => ("DctFilterModel", "wide", "I", false)
  | 22 => ("DctFilterModel", "high", "I", false)
  | 23 => ("DctFilterModel", "blocks", "I", false)
  | 24 => ("DctFilterModel", "scans", "I", false)
  | 25 => ("DctFilterModel", "name", "[I", true)
  | 26 => ("DctFilterModel", "bh", "[I", true)
  | 27 => ("DctFilterModel", "bv", "[I", true)
  | 28 => ("DctFilterModel", "table", "[I", true)
  | 29 => ("DctFilterModel", "columns", "[I", true)
  | 30 => ("DctFilterModel", "rows", "[I", true)
  | 31 => ("DctFilterModel", "ownColumns", "[I", true)
  | 32 => ("DctFilterModel", "ownRows", "[I", true)
  | 33 => ("DctFilterModel", "first", "[I", true)
  | 34 => ("DctFilterModel", "before", "[I", true)
  | 35 => ("DctFilterModel", "firsts", "[I", true)
  | 36 => ("DctFilterModel", "others", "[I", true)
  | 37 => ("DctFilterModel", "coefficients", "[I", true)
  | 38 => ("DctFilterModel", "damaged", "[Z", true)
  | 39 => ("DctFilterModel", "scanBands", "I", false)
  | 40 => ("DctFilterModel", "scanBand", "[I", true)
  | 41 => ("DctFilterModel", "from", "I", false)
  | 42 => ("DctFilterModel", "to", "I", false)
  | 43 => ("DctFilterModel", "above", "I", false)
  | 44 => ("DctFilterModel", "low", "I", false)
  | 45 => ("DctFilterModel", "run", "I", false)
  | 46 => ("DctFilterModel", "hurt", "Z", false)
  | 47 => ("DctFilterModel", "at", "I", false)
  | 48 => ("DctFilterModel", "taken", "I", false)
  | 49 => ("DctFilterModel", "canvas", "[I", true)
  | 50 => ("DctFilterModel", "canvasWidth", "I", false)
  | 51 => ("DctFilterModel", "canvasHeight", "I", false)
  | 52 => ("DctFilterModel", "restart", "I", false)
  | 53 => ("DctFilterModel", "toldScans", "I", false)
  | 54 => ("DctFilterModel", "toldFrom", "[I", true)
  | 55 => ("DctFilterModel", "toldTo", "[I", true)
  | 56 => ("DctFilterModel", "toldAbove", "[I", true)
  | 57 => ("DctFilterModel", "toldBit", "[I", true)
  | 58 => ("DctFilterModel", "come", "[I", true)
  | 59 => ("DctFilterModel", "written", "I", false)
  | 60 => ("DctFilterModel", "out", "[I", true)
  | 61 => ("DctFilterModel", "held", "I", false)
  | 62 => ("DctFilterModel", "heldBits", "I", false)
  | 63 => ("DctFilterModel", "made", "[I", true)
  | 64 => ("DctFilterModel", "madeBlocks", "I", false)
  | 65 => ("DctFilterModel", "ownTable", "[I", true)
  | 66 => ("DctFilterModel", "counts", "[I", true)
  | 67 => ("DctFilterModel", "isCounted", "Z", false)
  | 68 => ("DctFilterModel", "often", "[I", true)
  | 69 => ("DctFilterModel", "suitSize", "[I", true)
  | 70 => ("DctFilterModel", "suitCode", "[I", true)
  | 71 => ("DctFilterModel", "weight", "[I", true)
  | 72 => ("DctFilterModel", "greatest", "[I", true)
  | 73 => ("DctFilterModel", "parent", "[I", true)
  | 74 => ("DctFilterModel", "last", "I", false)
  | 75 => ("DctFilterModel", "waiting", "I", false)
  | _ => ("DctFilterModel", "wait", "[I", true)
def gY12 : Nat → FieldType := fun k => match k with
  | 0 => .int
  | 1 => .int
  | 2 => .array .int
  | 3 => .int
  | 4 => .array .int
  | 5 => .int
  | 6 => .int
  | 7 => .int
  | 8 => .int
  | 9 => .array .int
  | 10 => .array .int
  | 11 => .array .int
  | 12 => .array .int
  | 13 => .array .int
  | 14 => .array .int
  | 15 => .array .int
  | 16 => .boolean
  | 17 => .boolean
  | 18 => .int
  | 19 => .int
  | 20 => .int
  | 21 => .int
  | 22 => .int
  | 23 => .int
  | 24 => .int
  | 25 => .array .int
  | 26 => .array .int
  | 27 => .array .int
  | 28 => .array .int
  | 29 => .array .int
  | 30 => .array .int
  | 31 => .array .int
  | 32 => .array .int
  | 33 => .array .int
  | 34 => .array .int
  | 35 => .array .int
  | 36 => .array .int
  | 37 => .array .int
  | 38 => .array .boolean
  | 39 => .int
  | 40 => .array .int
  | 41 => .int
  | 42 => .int
  | 43 => .int
  | 44 => .int
  | 45 => .int
  | 46 => .boolean
  | 47 => .int
  | 48 => .int
  | 49 => .array .int
  | 50 => .int
  | 51 => .int
  | 52 => .int
  | 53 => .int
  | 54 => .array .int
  | 55 => .array .int
  | 56 => .array .int
  | 57 => .array .int
  | 58 => .array .int
  | 59 => .int
  | 60 => .array .int
  | 61 => .int
  | 62 => .int
  | 63 => .array .int
  | 64 => .int
  | 65 => .array .int
  | 66 => .array .int
  | 67 => .boolean
  | 68 => .array .int
  | 69 => .array .int
  | 70 => .array .int
  | 71 => .array .int
  | 72 => .array .int
  | 73 => .array .int
  | 74 => .int
  | 75 => .int
  | _ => .array .int
def gcl : List vw_C := [("DctFilter$Band", gT0, 12), ("DctFilter$Bits", gT1, 4), ("DctFilter$Codes", gT2, 2), ("DctFilter$Collected", gT3, 2), ("DctFilter$Draft", gT4, 10), ("DctFilter$Picture", gT5, 14), ("DctFilter$Reader", gT6, 4), ("DctFilter$ScanReader", gT7, 15), ("DctFilter$Sink", gT8, 4), ("DctFilter$Suited", gT9, 9), ("DctFilter$Writer", gT10, 15), ("DctFilter", gT11, 7), ("DctFilterModel", gT12, 77)]
def gfty : Nat → Nat → FieldType := fun c => match c with
  | 0 => gY0
  | 1 => gY1
  | 2 => gY2
  | 3 => gY3
  | 4 => gY4
  | 5 => gY5
  | 6 => gY6
  | 7 => gY7
  | 8 => gY8
  | 9 => gY9
  | 10 => gY10
  | 11 => gY11
  | _ => gY12
def gfin9 : Nat → Nat → Bool := fun c k => match gcl[c]? with
  | some q => (q.2.1 k).2.2.2
  | none => false
def gnf : Nat → Nat := fun c => match gcl[c]? with
  | some q => q.2.2
  | none => 0
def gtys : List FieldType := [.int, .byte, .long, .boolean, .object "DctFilter$Band", .object "DctFilter$Codes", .object "DctFilter$Suited"]
def gGG : gG := (gtys, gfty, gfin9, gnf, 1027)
def gcn : Nat → Option Nat := gas [(4, 0), (5, 2), (6, 9)]
def gXX : gX := ([(0, "DctFilter", "ZIGZAG", "[I"), (1, "DctFilter", "WAVE", "[I")], [("DctFilter$Picture", 106, "DctFilter", "ZIGZAG", "[I", "DctFilter"), ("DctFilter$Writer", 61, "DctFilter", "ZIGZAG", "[I", "DctFilter")], [("DctFilter", 9, ⟨"DctFilter$Collected", "<init>", "()V"⟩, "DctFilter"), ("DctFilter", 22, ⟨"DctFilter$Picture", "<init>", "()V"⟩, "DctFilter"), ("DctFilter$Picture", 11, ⟨"DctFilter$Band", "<init>", "()V"⟩, "DctFilter"), ("DctFilter", 36, ⟨"DctFilter$Sink", "<init>", "()V"⟩, "DctFilter"), ("DctFilter$ScanReader", 35, ⟨"DctFilter$Codes", "<init>", "()V"⟩, "DctFilter"), ("DctFilter$Picture", 62, ⟨"DctFilter", "upward", "(II)I"⟩, "DctFilter"), ("DctFilter$Picture", 109, ⟨"DctFilter", "cosine", "(II)I"⟩, "DctFilter"), ("DctFilter$Writer", 22, ⟨"DctFilter$Suited", "<init>", "()V"⟩, "DctFilter"), ("DctFilter$Writer", 46, ⟨"DctFilter", "upward", "(II)I"⟩, "DctFilter"), ("DctFilter$Writer", 72, ⟨"DctFilter", "cosine", "(II)I"⟩, "DctFilter")], ["DctFilter$Band", "DctFilter$Codes", "DctFilter$Suited"])
theorem gcl_fin : ∀ ci (q : vw_C), gcl[ci]? = some q → gGG.2.2.2.1 ci = q.2.2 ∧ ∀ k, gGG.2.2.1 ci k = (q.2.1 k).2.2.2 := by
  intro ci q hq
  refine ⟨?_, fun k => ?_⟩
  · show gnf ci = _
    unfold gnf
    rw [hq]
  · show gfin9 ci k = _
    unfold gfin9
    rw [hq]
theorem gn0 : ∀ a, a < 12 → ∀ b, b < 12 → a ≠ b → (gT0 a).2.1 ≠ (gT0 b).2.1 := by decide +kernel
theorem gd0 : ∀ k, k < 12 → parseFieldDescriptor (gT0 k).2.2.1 = some (gY0 k) := by decide +kernel
def gl0 : List Nat := [200, 202, 204, 206, 208, 210, 212, 214, 216, 218, 220, 222]
theorem gw0 : ∀ w ∈ u_ws "DctFilter$Band" gT0 12, w ∈ gGT := by
  intro w hw
  obtain ⟨p, hp⟩ := gzip (l := u_ws "DctFilter$Band" gT0 12) (m := gl0) (f := fun a b => gpos b a) (by decide +kernel) (by decide +kernel) hw
  exact gpos_in hp
theorem gn1 : ∀ a, a < 4 → ∀ b, b < 4 → a ≠ b → (gT1 a).2.1 ≠ (gT1 b).2.1 := by decide +kernel
theorem gd1 : ∀ k, k < 4 → parseFieldDescriptor (gT1 k).2.2.1 = some (gY1 k) := by decide +kernel
def gl1 : List Nat := [411, 413, 415, 417]
theorem gw1 : ∀ w ∈ u_ws "DctFilter$Bits" gT1 4, w ∈ gGT := by
  intro w hw
  obtain ⟨p, hp⟩ := gzip (l := u_ws "DctFilter$Bits" gT1 4) (m := gl1) (f := fun a b => gpos b a) (by decide +kernel) (by decide +kernel) hw
  exact gpos_in hp
theorem gn2 : ∀ a, a < 2 → ∀ b, b < 2 → a ≠ b → (gT2 a).2.1 ≠ (gT2 b).2.1 := by decide +kernel
theorem gd2 : ∀ k, k < 2 → parseFieldDescriptor (gT2 k).2.2.1 = some (gY2 k) := by decide +kernel
def gl2 : List Nat := [431, 433]
theorem gw2 : ∀ w ∈ u_ws "DctFilter$Codes" gT2 2, w ∈ gGT := by
  intro w hw
  obtain ⟨p, hp⟩ := gzip (l := u_ws "DctFilter$Codes" gT2 2) (m := gl2) (f := fun a b => gpos b a) (by decide +kernel) (by decide +kernel) hw
  exact gpos_in hp
theorem gn3 : ∀ a, a < 2 → ∀ b, b < 2 → a ≠ b → (gT3 a).2.1 ≠ (gT3 b).2.1 := by decide +kernel
theorem gd3 : ∀ k, k < 2 → parseFieldDescriptor (gT3 k).2.2.1 = some (gY3 k) := by decide +kernel
def gl3 : List Nat := [158, 160]
theorem gw3 : ∀ w ∈ u_ws "DctFilter$Collected" gT3 2, w ∈ gGT := by
  intro w hw
  obtain ⟨p, hp⟩ := gzip (l := u_ws "DctFilter$Collected" gT3 2) (m := gl3) (f := fun a b => gpos b a) (by decide +kernel) (by decide +kernel) hw
  exact gpos_in hp
theorem gn4 : ∀ a, a < 10 → ∀ b, b < 10 → a ≠ b → (gT4 a).2.1 ≠ (gT4 b).2.1 := by decide +kernel
theorem gd4 : ∀ k, k < 10 → parseFieldDescriptor (gT4 k).2.2.1 = some (gY4 k) := by decide +kernel
def gl4 : List Nat := [315, 317, 319, 321, 323, 325, 327, 329, 331, 333]
theorem gw4 : ∀ w ∈ u_ws "DctFilter$Draft" gT4 10, w ∈ gGT := by
  intro w hw
  obtain ⟨p, hp⟩ := gzip (l := u_ws "DctFilter$Draft" gT4 10) (m := gl4) (f := fun a b => gpos b a) (by decide +kernel) (by decide +kernel) hw
  exact gpos_in hp
theorem gn5 : ∀ a, a < 14 → ∀ b, b < 14 → a ≠ b → (gT5 a).2.1 ≠ (gT5 b).2.1 := by decide +kernel
theorem gd5 : ∀ k, k < 14 → parseFieldDescriptor (gT5 k).2.2.1 = some (gY5 k) := by decide +kernel
def gl5 : List Nat := [257, 259, 261, 263, 265, 267, 269, 271, 273, 275, 277, 279, 281, 283]
theorem gw5 : ∀ w ∈ u_ws "DctFilter$Picture" gT5 14, w ∈ gGT := by
  intro w hw
  obtain ⟨p, hp⟩ := gzip (l := u_ws "DctFilter$Picture" gT5 14) (m := gl5) (f := fun a b => gpos b a) (by decide +kernel) (by decide +kernel) hw
  exact gpos_in hp
theorem gn6 : ∀ a, a < 4 → ∀ b, b < 4 → a ≠ b → (gT6 a).2.1 ≠ (gT6 b).2.1 := by decide +kernel
theorem gd6 : ∀ k, k < 4 → parseFieldDescriptor (gT6 k).2.2.1 = some (gY6 k) := by decide +kernel
def gl6 : List Nat := [492, 494, 496, 498]
theorem gw6 : ∀ w ∈ u_ws "DctFilter$Reader" gT6 4, w ∈ gGT := by
  intro w hw
  obtain ⟨p, hp⟩ := gzip (l := u_ws "DctFilter$Reader" gT6 4) (m := gl6) (f := fun a b => gpos b a) (by decide +kernel) (by decide +kernel) hw
  exact gpos_in hp
theorem gn7 : ∀ a, a < 15 → ∀ b, b < 15 → a ≠ b → (gT7 a).2.1 ≠ (gT7 b).2.1 := by decide +kernel
theorem gd7 : ∀ k, k < 15 → parseFieldDescriptor (gT7 k).2.2.1 = some (gY7 k) := by decide +kernel
def gl7 : List Nat := [457, 459, 461, 463, 465, 467, 469, 471, 473, 475, 477, 479, 481, 483, 485]
theorem gw7 : ∀ w ∈ u_ws "DctFilter$ScanReader" gT7 15, w ∈ gGT := by
  intro w hw
  obtain ⟨p, hp⟩ := gzip (l := u_ws "DctFilter$ScanReader" gT7 15) (m := gl7) (f := fun a b => gpos b a) (by decide +kernel) (by decide +kernel) hw
  exact gpos_in hp
theorem gn8 : ∀ a, a < 4 → ∀ b, b < 4 → a ≠ b → (gT8 a).2.1 ≠ (gT8 b).2.1 := by decide +kernel
theorem gd8 : ∀ k, k < 4 → parseFieldDescriptor (gT8 k).2.2.1 = some (gY8 k) := by decide +kernel
def gl8 : List Nat := [348, 350, 352, 354]
theorem gw8 : ∀ w ∈ u_ws "DctFilter$Sink" gT8 4, w ∈ gGT := by
  intro w hw
  obtain ⟨p, hp⟩ := gzip (l := u_ws "DctFilter$Sink" gT8 4) (m := gl8) (f := fun a b => gpos b a) (by decide +kernel) (by decide +kernel) hw
  exact gpos_in hp
theorem gn9 : ∀ a, a < 9 → ∀ b, b < 9 → a ≠ b → (gT9 a).2.1 ≠ (gT9 b).2.1 := by decide +kernel
theorem gd9 : ∀ k, k < 9 → parseFieldDescriptor (gT9 k).2.2.1 = some (gY9 k) := by decide +kernel
def gl9 : List Nat := [1275, 1277, 1279, 1281, 1283, 1285, 1287, 1289, 1291]
theorem gw9 : ∀ w ∈ u_ws "DctFilter$Suited" gT9 9, w ∈ gGT := by
  intro w hw
  obtain ⟨p, hp⟩ := gzip (l := u_ws "DctFilter$Suited" gT9 9) (m := gl9) (f := fun a b => gpos b a) (by decide +kernel) (by decide +kernel) hw
  exact gpos_in hp
theorem gn10 : ∀ a, a < 15 → ∀ b, b < 15 → a ≠ b → (gT10 a).2.1 ≠ (gT10 b).2.1 := by decide +kernel
theorem gd10 : ∀ k, k < 15 → parseFieldDescriptor (gT10 k).2.2.1 = some (gY10 k) := by decide +kernel
def gl10 : List Nat := [1310, 1312, 1314, 1316, 1318, 1320, 1322, 1324, 1326, 1328, 1330, 1332, 1334, 1336, 1338]
theorem gw10 : ∀ w ∈ u_ws "DctFilter$Writer" gT10 15, w ∈ gGT := by
  intro w hw
  obtain ⟨p, hp⟩ := gzip (l := u_ws "DctFilter$Writer" gT10 15) (m := gl10) (f := fun a b => gpos b a) (by decide +kernel) (by decide +kernel) hw
  exact gpos_in hp
theorem gn11 : ∀ a, a < 7 → ∀ b, b < 7 → a ≠ b → (gT11 a).2.1 ≠ (gT11 b).2.1 := by decide +kernel
theorem gd11 : ∀ k, k < 7 → parseFieldDescriptor (gT11 k).2.2.1 = some (gY11 k) := by decide +kernel
def gl11 : List Nat := [365, 367, 369, 371, 373, 375, 377]
theorem gw11 : ∀ w ∈ u_ws "DctFilter" gT11 7, w ∈ gGT := by
  intro w hw
  obtain ⟨p, hp⟩ := gzip (l := u_ws "DctFilter" gT11 7) (m := gl11) (f := fun a b => gpos b a) (by decide +kernel) (by decide +kernel) hw
  exact gpos_in hp
theorem gn12 : ∀ a, a < 77 → ∀ b, b < 77 → a ≠ b → (gT12 a).2.1 ≠ (gT12 b).2.1 := by decide +kernel
theorem gd12 : ∀ k, k < 77 → parseFieldDescriptor (gT12 k).2.2.1 = some (gY12 k) := by decide +kernel
def gl12 : List Nat := [1589, 1591, 1593, 1595, 1597, 1599, 1601, 1603, 1605, 1607, 1609, 1611, 1613, 1615, 1617, 1619, 1621, 1623, 1625, 1627, 1629, 1631, 1633, 1635, 1637, 1639, 1641, 1643, 1645, 1647, 1649, 1651, 1653, 1655, 1657, 1659, 1661, 1663, 1665, 1667, 1669, 1671, 1673, 1675, 1677, 1679, 1681, 1683, 1685, 1687, 1689, 1691, 1693, 1695, 1697, 1699, 1701, 1703, 1705, 1707, 1709, 1711, 1713, 1715, 1717, 1719, 1721, 1723, 1725, 1727, 1729, 1731, 1733, 1735, 1737, 1739, 1741]
theorem gw12 : ∀ w ∈ u_ws "DctFilterModel" gT12 77, w ∈ gGT := by
  intro w hw
  obtain ⟨p, hp⟩ := gzip (l := u_ws "DctFilterModel" gT12 77) (m := gl12) (f := fun a b => gpos b a) (by decide +kernel) (by decide +kernel) hw
  exact gpos_in hp
theorem gcl_ok : gCl gcl gGG.2.1 gGT := by
  intro ci q hq
  match ci, hq with
  | 0, hq => cases hq; exact ⟨gw0, gd0, gn0⟩
  | 1, hq => cases hq; exact ⟨gw1, gd1, gn1⟩
  | 2, hq => cases hq; exact ⟨gw2, gd2, gn2⟩
  | 3, hq => cases hq; exact ⟨gw3, gd3, gn3⟩
  | 4, hq => cases hq; exact ⟨gw4, gd4, gn4⟩
  | 5, hq => cases hq; exact ⟨gw5, gd5, gn5⟩
  | 6, hq => cases hq; exact ⟨gw6, gd6, gn6⟩
  | 7, hq => cases hq; exact ⟨gw7, gd7, gn7⟩
  | 8, hq => cases hq; exact ⟨gw8, gd8, gn8⟩
  | 9, hq => cases hq; exact ⟨gw9, gd9, gn9⟩
  | 10, hq => cases hq; exact ⟨gw10, gd10, gn10⟩
  | 11, hq => cases hq; exact ⟨gw11, gd11, gn11⟩
  | 12, hq => cases hq; exact ⟨gw12, gd12, gn12⟩
  | n + 13, hq => simp [gcl] at hq
theorem gtb_ok : gTb gcl gGG gcn gGT := ⟨gcl_ok, ⟨rfl, rfl, rfl, rfl, gpos_in (p := 225) (by decide +kernel), gpos_in (p := 163) (by decide +kernel), gpos_in (p := 1294) (by decide +kernel), gpos_in (p := 1744) (by decide +kernel)⟩, ⟨gcl_fin, fun t ci h => by
    have hm := gas_mem h
    simp only [List.mem_cons, List.not_mem_nil, or_false, Prod.mk.injEq] at hm
    rcases hm with ⟨rfl, rfl⟩ | ⟨rfl, rfl⟩ | ⟨rfl, rfl⟩
    all_goals exact ⟨_, rfl, rfl⟩⟩, gGT_good⟩