/-! field tables of the classes -/
def F_FL : u_T := fun k => match k with
  | 0 => ("FarLink", "files", "[[I", true)
  | 1 => ("FarLink", "upWay", "LFarLink$Way;", true)
  | 2 => ("FarLink", "downWay", "LFarLink$Way;", true)
  | 3 => ("FarLink", "ground", "LFarLink$Ground;", true)
  | 4 => ("FarLink", "craft", "LFarLink$Craft;", true)
  | _ => ("FarLink", "now", "I", false)
def t_FL : Nat → FieldType := fun k => match k with
  | 0 => .array (.array .int)
  | 1 => .object "FarLink$Way"
  | 2 => .object "FarLink$Way"
  | 3 => .object "FarLink$Ground"
  | 4 => .object "FarLink$Craft"
  | _ => .int
theorem n_FL : ∀ a, a < 6 → ∀ b, b < 6 → a ≠ b → (F_FL a).2.1 ≠ (F_FL b).2.1 := by decide +kernel
theorem t_FL_ok : ∀ k, k < 6 → parseFieldDescriptor (F_FL k).2.2.1 = some (t_FL k) := by decide +kernel
set_option maxRecDepth 20000 in
theorem in_FL : ∀ w ∈ u_ws "FarLink" F_FL 6, w ∈ gw := List.forall_mem_cons.mpr ⟨tw_288, List.forall_mem_cons.mpr ⟨tw_290, List.forall_mem_cons.mpr ⟨tw_292, List.forall_mem_cons.mpr ⟨tw_294, List.forall_mem_cons.mpr ⟨tw_296, List.forall_mem_cons.mpr ⟨tw_298, fun _ h => absurd h List.not_mem_nil⟩⟩⟩⟩⟩⟩
def F_CT : u_T := fun k => match k with
  | 0 => ("FarLink$Craft", "frames", "LFarLink$CraftFrames;", true)
  | 1 => ("FarLink$Craft", "records", "[LFarLink$CraftRecord;", true)
  | 2 => ("FarLink$Craft", "storedLengths", "[I", true)
  | _ => ("FarLink$Craft", "storedWords", "[[I", true)
def t_CT : Nat → FieldType := fun k => match k with
  | 0 => .object "FarLink$CraftFrames"
  | 1 => .array (.object "FarLink$CraftRecord")
  | 2 => .array .int
  | _ => .array (.array .int)
theorem n_CT : ∀ a, a < 4 → ∀ b, b < 4 → a ≠ b → (F_CT a).2.1 ≠ (F_CT b).2.1 := by decide +kernel
theorem t_CT_ok : ∀ k, k < 4 → parseFieldDescriptor (F_CT k).2.2.1 = some (t_CT k) := by decide +kernel
set_option maxRecDepth 20000 in
theorem in_CT : ∀ w ∈ u_ws "FarLink$Craft" F_CT 4, w ∈ gw := List.forall_mem_cons.mpr ⟨tw_273, List.forall_mem_cons.mpr ⟨tw_275, List.forall_mem_cons.mpr ⟨tw_277, List.forall_mem_cons.mpr ⟨tw_279, fun _ h => absurd h List.not_mem_nil⟩⟩⟩⟩
def F_CF : u_T := fun k => match k with
  | 0 => ("FarLink$CraftFrames", "expected", "I", false)
  | 1 => ("FarLink$CraftFrames", "isLocked", "Z", false)
  | _ => ("FarLink$CraftFrames", "wantsAgain", "Z", false)
def t_CF : Nat → FieldType := fun k => match k with
  | 0 => .int
  | 1 => .boolean
  | _ => .boolean
theorem n_CF : ∀ a, a < 3 → ∀ b, b < 3 → a ≠ b → (F_CF a).2.1 ≠ (F_CF b).2.1 := by decide +kernel
theorem t_CF_ok : ∀ k, k < 3 → parseFieldDescriptor (F_CF k).2.2.1 = some (t_CF k) := by decide +kernel
set_option maxRecDepth 20000 in
theorem in_CF : ∀ w ∈ u_ws "FarLink$CraftFrames" F_CF 3, w ∈ gw := List.forall_mem_cons.mpr ⟨tw_200, List.forall_mem_cons.mpr ⟨tw_202, List.forall_mem_cons.mpr ⟨tw_204, fun _ h => absurd h List.not_mem_nil⟩⟩⟩
def F_CR : u_T := fun k => match k with
  | 0 => ("FarLink$CraftRecord", "span", "I", true)
  | 1 => ("FarLink$CraftRecord", "words", "[I", true)
  | 2 => ("FarLink$CraftRecord", "state", "I", false)
  | 3 => ("FarLink$CraftRecord", "condition", "I", false)
  | 4 => ("FarLink$CraftRecord", "takenParts", "I", false)
  | 5 => ("FarLink$CraftRecord", "length", "I", false)
  | 6 => ("FarLink$CraftRecord", "name", "I", false)
  | 7 => ("FarLink$CraftRecord", "eofLength", "I", false)
  | 8 => ("FarLink$CraftRecord", "checksum", "I", false)
  | 9 => ("FarLink$CraftRecord", "idle", "I", false)
  | 10 => ("FarLink$CraftRecord", "clock", "I", false)
  | 11 => ("FarLink$CraftRecord", "tries", "I", false)
  | 12 => ("FarLink$CraftRecord", "owesGot", "Z", false)
  | 13 => ("FarLink$CraftRecord", "owesLack", "Z", false)
  | _ => ("FarLink$CraftRecord", "owesFinished", "Z", false)
def t_CR : Nat → FieldType := fun k => match k with
  | 0 => .int
  | 1 => .array .int
  | 2 => .int
  | 3 => .int
  | 4 => .int
  | 5 => .int
  | 6 => .int
  | 7 => .int
  | 8 => .int
  | 9 => .int
  | 10 => .int
  | 11 => .int
  | 12 => .boolean
  | 13 => .boolean
  | _ => .boolean
theorem n_CR : ∀ a, a < 15 → ∀ b, b < 15 → a ≠ b → (F_CR a).2.1 ≠ (F_CR b).2.1 := by decide +kernel
theorem t_CR_ok : ∀ k, k < 15 → parseFieldDescriptor (F_CR k).2.2.1 = some (t_CR k) := by decide +kernel
set_option maxRecDepth 20000 in
theorem in_CR : ∀ w ∈ u_ws "FarLink$CraftRecord" F_CR 15, w ∈ gw := List.forall_mem_cons.mpr ⟨tw_236, List.forall_mem_cons.mpr ⟨tw_238, List.forall_mem_cons.mpr ⟨tw_240, List.forall_mem_cons.mpr ⟨tw_242, List.forall_mem_cons.mpr ⟨tw_244, List.forall_mem_cons.mpr ⟨tw_246, List.forall_mem_cons.mpr ⟨tw_248, List.forall_mem_cons.mpr ⟨tw_250, List.forall_mem_cons.mpr ⟨tw_252, List.forall_mem_cons.mpr ⟨tw_254, List.forall_mem_cons.mpr ⟨tw_256, List.forall_mem_cons.mpr ⟨tw_258, List.forall_mem_cons.mpr ⟨tw_260, List.forall_mem_cons.mpr ⟨tw_262, List.forall_mem_cons.mpr ⟨tw_264, fun _ h => absurd h List.not_mem_nil⟩⟩⟩⟩⟩⟩⟩⟩⟩⟩⟩⟩⟩⟩⟩
def F_GR : u_T := fun k => match k with
  | 0 => ("FarLink$Ground", "frames", "LFarLink$GroundFrames;", true)
  | 1 => ("FarLink$Ground", "transactions", "[LFarLink$Transaction;", true)
  | _ => ("FarLink$Ground", "begun", "I", false)
def t_GR : Nat → FieldType := fun k => match k with
  | 0 => .object "FarLink$GroundFrames"
  | 1 => .array (.object "FarLink$Transaction")
  | _ => .int
theorem n_GR : ∀ a, a < 3 → ∀ b, b < 3 → a ≠ b → (F_GR a).2.1 ≠ (F_GR b).2.1 := by decide +kernel
theorem t_GR_ok : ∀ k, k < 3 → parseFieldDescriptor (F_GR k).2.2.1 = some (t_GR k) := by decide +kernel
set_option maxRecDepth 20000 in
theorem in_GR : ∀ w ∈ u_ws "FarLink$Ground" F_GR 3, w ∈ gw := List.forall_mem_cons.mpr ⟨tw_178, List.forall_mem_cons.mpr ⟨tw_180, List.forall_mem_cons.mpr ⟨tw_182, fun _ h => absurd h List.not_mem_nil⟩⟩⟩
def F_GF : u_T := fun k => match k with
  | 0 => ("FarLink$GroundFrames", "span", "I", true)
  | 1 => ("FarLink$GroundFrames", "infos", "[J", true)
  | 2 => ("FarLink$GroundFrames", "marks", "[Z", true)
  | 3 => ("FarLink$GroundFrames", "state", "I", false)
  | 4 => ("FarLink$GroundFrames", "next", "I", false)
  | 5 => ("FarLink$GroundFrames", "unconfirmed", "I", false)
  | 6 => ("FarLink$GroundFrames", "count", "I", false)
  | 7 => ("FarLink$GroundFrames", "clock", "I", false)
  | 8 => ("FarLink$GroundFrames", "alertCount", "I", false)
  | 9 => ("FarLink$GroundFrames", "isDirectiveDue", "Z", false)
  | _ => ("FarLink$GroundFrames", "isRecovering", "Z", false)
def t_GF : Nat → FieldType := fun k => match k with
  | 0 => .int
  | 1 => .array .long
  | 2 => .array .boolean
  | 3 => .int
  | 4 => .int
  | 5 => .int
  | 6 => .int
  | 7 => .int
  | 8 => .int
  | 9 => .boolean
  | _ => .boolean
theorem n_GF : ∀ a, a < 11 → ∀ b, b < 11 → a ≠ b → (F_GF a).2.1 ≠ (F_GF b).2.1 := by decide +kernel
theorem t_GF_ok : ∀ k, k < 11 → parseFieldDescriptor (F_GF k).2.2.1 = some (t_GF k) := by decide +kernel
set_option maxRecDepth 20000 in
theorem in_GF : ∀ w ∈ u_ws "FarLink$GroundFrames" F_GF 11, w ∈ gw := List.forall_mem_cons.mpr ⟨tw_96, List.forall_mem_cons.mpr ⟨tw_98, List.forall_mem_cons.mpr ⟨tw_100, List.forall_mem_cons.mpr ⟨tw_102, List.forall_mem_cons.mpr ⟨tw_104, List.forall_mem_cons.mpr ⟨tw_106, List.forall_mem_cons.mpr ⟨tw_108, List.forall_mem_cons.mpr ⟨tw_110, List.forall_mem_cons.mpr ⟨tw_112, List.forall_mem_cons.mpr ⟨tw_114, List.forall_mem_cons.mpr ⟨tw_116, fun _ h => absurd h List.not_mem_nil⟩⟩⟩⟩⟩⟩⟩⟩⟩⟩⟩
def F_TR : u_T := fun k => match k with
  | 0 => ("FarLink$Transaction", "number", "I", true)
  | 1 => ("FarLink$Transaction", "span", "I", true)
  | 2 => ("FarLink$Transaction", "words", "[I", true)
  | 3 => ("FarLink$Transaction", "length", "I", false)
  | 4 => ("FarLink$Transaction", "name", "I", false)
  | 5 => ("FarLink$Transaction", "isPast", "Z", false)
  | 6 => ("FarLink$Transaction", "due", "I", false)
  | 7 => ("FarLink$Transaction", "tries", "I", false)
  | 8 => ("FarLink$Transaction", "clock", "I", false)
  | 9 => ("FarLink$Transaction", "idle", "I", false)
  | 10 => ("FarLink$Transaction", "endOutcome", "I", false)
  | 11 => ("FarLink$Transaction", "isAnswered", "Z", false)
  | 12 => ("FarLink$Transaction", "isCancelled", "Z", false)
  | 13 => ("FarLink$Transaction", "isSuspended", "Z", false)
  | _ => ("FarLink$Transaction", "isEnded", "Z", false)
def t_TR : Nat → FieldType := fun k => match k with
  | 0 => .int
  | 1 => .int
  | 2 => .array .int
  | 3 => .int
  | 4 => .int
  | 5 => .boolean
  | 6 => .int
  | 7 => .int
  | 8 => .int
  | 9 => .int
  | 10 => .int
  | 11 => .boolean
  | 12 => .boolean
  | 13 => .boolean
  | _ => .boolean
theorem n_TR : ∀ a, a < 15 → ∀ b, b < 15 → a ≠ b → (F_TR a).2.1 ≠ (F_TR b).2.1 := by decide +kernel
theorem t_TR_ok : ∀ k, k < 15 → parseFieldDescriptor (F_TR k).2.2.1 = some (t_TR k) := by decide +kernel
set_option maxRecDepth 20000 in
theorem in_TR : ∀ w ∈ u_ws "FarLink$Transaction" F_TR 15, w ∈ gw := List.forall_mem_cons.mpr ⟨tw_142, List.forall_mem_cons.mpr ⟨tw_144, List.forall_mem_cons.mpr ⟨tw_146, List.forall_mem_cons.mpr ⟨tw_148, List.forall_mem_cons.mpr ⟨tw_150, List.forall_mem_cons.mpr ⟨tw_152, List.forall_mem_cons.mpr ⟨tw_154, List.forall_mem_cons.mpr ⟨tw_156, List.forall_mem_cons.mpr ⟨tw_158, List.forall_mem_cons.mpr ⟨tw_160, List.forall_mem_cons.mpr ⟨tw_162, List.forall_mem_cons.mpr ⟨tw_164, List.forall_mem_cons.mpr ⟨tw_166, List.forall_mem_cons.mpr ⟨tw_168, List.forall_mem_cons.mpr ⟨tw_170, fun _ h => absurd h List.not_mem_nil⟩⟩⟩⟩⟩⟩⟩⟩⟩⟩⟩⟩⟩⟩⟩
def F_WY : u_T := fun k => match k with
  | 0 => ("FarLink$Way", "isUp", "Z", true)
  | 1 => ("FarLink$Way", "delay", "I", true)
  | 2 => ("FarLink$Way", "blocks", "[J", true)
  | 3 => ("FarLink$Way", "turned", "J", false)
  | 4 => ("FarLink$Way", "outageLeft", "I", false)
  | 5 => ("FarLink$Way", "sentCount", "I", false)
  | 6 => ("FarLink$Way", "spoiltCount", "I", false)
  | _ => ("FarLink$Way", "mendedCount", "I", false)
def t_WY : Nat → FieldType := fun k => match k with
  | 0 => .boolean
  | 1 => .int
  | 2 => .array .long
  | 3 => .long
  | 4 => .int
  | 5 => .int
  | 6 => .int
  | _ => .int
theorem n_WY : ∀ a, a < 8 → ∀ b, b < 8 → a ≠ b → (F_WY a).2.1 ≠ (F_WY b).2.1 := by decide +kernel
theorem t_WY_ok : ∀ k, k < 8 → parseFieldDescriptor (F_WY k).2.2.1 = some (t_WY k) := by decide +kernel
set_option maxRecDepth 20000 in
theorem in_WY : ∀ w ∈ u_ws "FarLink$Way" F_WY 8, w ∈ gw := List.forall_mem_cons.mpr ⟨tw_50, List.forall_mem_cons.mpr ⟨tw_52, List.forall_mem_cons.mpr ⟨tw_54, List.forall_mem_cons.mpr ⟨tw_56, List.forall_mem_cons.mpr ⟨tw_58, List.forall_mem_cons.mpr ⟨tw_60, List.forall_mem_cons.mpr ⟨tw_62, List.forall_mem_cons.mpr ⟨tw_64, fun _ h => absurd h List.not_mem_nil⟩⟩⟩⟩⟩⟩⟩⟩
def F_MD : u_T := fun k => match k with
  | 0 => ("FarLinkModel", "delay", "I", true)
  | 1 => ("FarLinkModel", "span", "I", true)
  | 2 => ("FarLinkModel", "generator", "J", true)
  | 3 => ("FarLinkModel", "now", "I", false)
  | 4 => ("FarLinkModel", "changes", "I", false)
  | 5 => ("FarLinkModel", "block", "[J", true)
  | 6 => ("FarLinkModel", "heard", "[Z", true)
  | 7 => ("FarLinkModel", "noises", "[J", true)
  | 8 => ("FarLinkModel", "outages", "[I", true)
  | 9 => ("FarLinkModel", "sents", "[I", true)
  | 10 => ("FarLinkModel", "spoilt", "[I", true)
  | 11 => ("FarLinkModel", "mended", "[I", true)
  | 12 => ("FarLinkModel", "file", "[I", true)
  | 13 => ("FarLinkModel", "count", "I", false)
  | 14 => ("FarLinkModel", "words", "[I", true)
  | 15 => ("FarLinkModel", "size", "[I", true)
  | 16 => ("FarLinkModel", "title", "[I", true)
  | 17 => ("FarLinkModel", "loose", "[Z", true)
  | 18 => ("FarLinkModel", "ended", "[Z", true)
  | 19 => ("FarLinkModel", "result", "[I", true)
  | 20 => ("FarLinkModel", "due", "[I", true)
  | 21 => ("FarLinkModel", "cancelled", "[Z", true)
  | 22 => ("FarLinkModel", "answered", "[Z", true)
  | 23 => ("FarLinkModel", "suspended", "[Z", true)
  | 24 => ("FarLinkModel", "endSent", "[Z", true)
  | 25 => ("FarLinkModel", "tries", "[I", true)
  | 26 => ("FarLinkModel", "clock", "[I", true)
  | 27 => ("FarLinkModel", "idle", "[I", true)
  | 28 => ("FarLinkModel", "state", "I", false)
  | 29 => ("FarLinkModel", "next", "I", false)
  | 30 => ("FarLinkModel", "open", "I", false)
  | 31 => ("FarLinkModel", "frame", "[J", true)
  | 32 => ("FarLinkModel", "marked", "[Z", true)
  | 33 => ("FarLinkModel", "directive", "Z", false)
  | 34 => ("FarLinkModel", "tally", "I", false)
  | 35 => ("FarLinkModel", "recovering", "Z", false)
  | 36 => ("FarLinkModel", "frameClock", "I", false)
  | 37 => ("FarLinkModel", "alertCount", "I", false)
  | 38 => ("FarLinkModel", "expected", "I", false)
  | 39 => ("FarLinkModel", "locked", "Z", false)
  | 40 => ("FarLinkModel", "again", "Z", false)
  | 41 => ("FarLinkModel", "stage", "[I", true)
  | 42 => ("FarLinkModel", "condition", "[I", true)
  | 43 => ("FarLinkModel", "got", "[I", true)
  | 44 => ("FarLinkModel", "word", "[I", true)
  | 45 => ("FarLinkModel", "metaLength", "[I", true)
  | 46 => ("FarLinkModel", "metaName", "[I", true)
  | 47 => ("FarLinkModel", "endLength", "[I", true)
  | 48 => ("FarLinkModel", "endSum", "[I", true)
  | 49 => ("FarLinkModel", "craftTries", "[I", true)
  | 50 => ("FarLinkModel", "craftClock", "[I", true)
  | 51 => ("FarLinkModel", "craftIdle", "[I", true)
  | 52 => ("FarLinkModel", "oweGot", "[Z", true)
  | 53 => ("FarLinkModel", "oweLack", "[Z", true)
  | 54 => ("FarLinkModel", "oweFinished", "[Z", true)
  | 55 => ("FarLinkModel", "storeLength", "[I", true)
  | _ => ("FarLinkModel", "store", "[I", true)
def t_MD : Nat → FieldType := fun k => match k with
  | 0 => .int
  | 1 => .int
  | 2 => .long
  | 3 => .int
  | 4 => .int
  | 5 => .array .long
  | 6 => .array .boolean
  | 7 => .array .long
  | 8 => .array .int
  | 9 => .array .int
  | 10 => .array .int
  | 11 => .array .int
  | 12 => .array .int
  | 13 => .int
  | 14 => .array .int
  | 15 => .array .int
  | 16 => .array .int
  | 17 => .array .boolean
  | 18 => .array .boolean
  | 19 => .array .int
  | 20 => .array .int
  | 21 => .array .boolean
  | 22 => .array .boolean
  | 23 => .array .boolean
  | 24 => .array .boolean
  | 25 => .array .int
  | 26 => .array .int
  | 27 => .array .int
  | 28 => .int
  | 29 => .int
  | 30 => .int
  | 31 => .array .long
  | 32 => .array .boolean
  | 33 => .boolean
  | 34 => .int
  | 35 => .boolean
  | 36 => .int
  | 37 => .int
  | 38 => .int
  | 39 => .boolean
  | 40 => .boolean
  | 41 => .array .int
  | 42 => .array .int
  | 43 => .array .int
  | 44 => .array .int
  | 45 => .array .int
  | 46 => .array .int
  | 47 => .array .int
  | 48 => .array .int
  | 49 => .array .int
  | 50 => .array .int
  | 51 => .array .int
  | 52 => .array .boolean
  | 53 => .array .boolean
  | 54 => .array .boolean
  | 55 => .array .int
  | _ => .array .int
theorem n_MD : ∀ a, a < 57 → ∀ b, b < 57 → a ≠ b → (F_MD a).2.1 ≠ (F_MD b).2.1 := by decide +kernel
theorem t_MD_ok : ∀ k, k < 57 → parseFieldDescriptor (F_MD k).2.2.1 = some (t_MD k) := by decide +kernel
set_option maxRecDepth 20000 in
theorem in_MD : ∀ w ∈ u_ws "FarLinkModel" F_MD 57, w ∈ gw := List.forall_mem_cons.mpr ⟨tw_838, List.forall_mem_cons.mpr ⟨tw_840, List.forall_mem_cons.mpr ⟨tw_842, List.forall_mem_cons.mpr ⟨tw_844, List.forall_mem_cons.mpr ⟨tw_846, List.forall_mem_cons.mpr ⟨tw_848, List.forall_mem_cons.mpr ⟨tw_850, List.forall_mem_cons.mpr ⟨tw_852, List.forall_mem_cons.mpr ⟨tw_854, List.forall_mem_cons.mpr ⟨tw_856, List.forall_mem_cons.mpr ⟨tw_858, List.forall_mem_cons.mpr ⟨tw_860, List.forall_mem_cons.mpr ⟨tw_862, List.forall_mem_cons.mpr ⟨tw_864, List.forall_mem_cons.mpr ⟨tw_866, List.forall_mem_cons.mpr ⟨tw_868, List.forall_mem_cons.mpr ⟨tw_870, List.forall_mem_cons.mpr ⟨tw_872, List.forall_mem_cons.mpr ⟨tw_874, List.forall_mem_cons.mpr ⟨tw_876, List.forall_mem_cons.mpr ⟨tw_878, List.forall_mem_cons.mpr ⟨tw_880, List.forall_mem_cons.mpr ⟨tw_882, List.forall_mem_cons.mpr ⟨tw_884, List.forall_mem_cons.mpr ⟨tw_886, List.forall_mem_cons.mpr ⟨tw_888, List.forall_mem_cons.mpr ⟨tw_890, List.forall_mem_cons.mpr ⟨tw_892, List.forall_mem_cons.mpr ⟨tw_894, List.forall_mem_cons.mpr ⟨tw_896, List.forall_mem_cons.mpr ⟨tw_898, List.forall_mem_cons.mpr ⟨tw_900, List.forall_mem_cons.mpr ⟨tw_902, List.forall_mem_cons.mpr ⟨tw_904, List.forall_mem_cons.mpr ⟨tw_906, List.forall_mem_cons.mpr ⟨tw_908, List.forall_mem_cons.mpr ⟨tw_910, List.forall_mem_cons.mpr ⟨tw_912, List.forall_mem_cons.mpr ⟨tw_914, List.forall_mem_cons.mpr ⟨tw_916, List.forall_mem_cons.mpr ⟨tw_918, List.forall_mem_cons.mpr ⟨tw_920, List.forall_mem_cons.mpr ⟨tw_922, List.forall_mem_cons.mpr ⟨tw_924, List.forall_mem_cons.mpr ⟨tw_926, List.forall_mem_cons.mpr ⟨tw_928, List.forall_mem_cons.mpr ⟨tw_930, List.forall_mem_cons.mpr ⟨tw_932, List.forall_mem_cons.mpr ⟨tw_934, List.forall_mem_cons.mpr ⟨tw_936, List.forall_mem_cons.mpr ⟨tw_938, List.forall_mem_cons.mpr ⟨tw_940, List.forall_mem_cons.mpr ⟨tw_942, List.forall_mem_cons.mpr ⟨tw_944, List.forall_mem_cons.mpr ⟨tw_946, List.forall_mem_cons.mpr ⟨tw_948, List.forall_mem_cons.mpr ⟨tw_950, fun _ h => absurd h List.not_mem_nil⟩⟩⟩⟩⟩⟩⟩⟩⟩⟩⟩⟩⟩⟩⟩⟩⟩⟩⟩⟩⟩⟩⟩⟩⟩⟩⟩⟩⟩⟩⟩⟩⟩⟩⟩⟩⟩⟩⟩⟩⟩⟩⟩⟩⟩⟩⟩⟩⟩⟩⟩⟩⟩⟩⟩⟩⟩
abbrev cls : List vw_C := [("FarLink", F_FL, 6), ("FarLink$Craft", F_CT, 4), ("FarLink$CraftFrames", F_CF, 3), ("FarLink$CraftRecord", F_CR, 15), ("FarLink$Ground", F_GR, 3), ("FarLink$GroundFrames", F_GF, 11), ("FarLink$Transaction", F_TR, 15), ("FarLink$Way", F_WY, 8), ("FarLinkModel", F_MD, 57)]
