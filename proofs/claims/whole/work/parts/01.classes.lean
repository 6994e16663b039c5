def R_CL : String := "CarrierLink"
def F_CL : u_T := fun k => match k with
  | 0 => ("CarrierLink", "waiting", "[I", true)
  | 1 => ("CarrierLink", "waitingCount", "I", false)
  | 2 => ("CarrierLink", "frame", "LCarrierLink$Wave;", true)
  | 3 => ("CarrierLink", "onAir", "LCarrierLink$Wave;", true)
  | 4 => ("CarrierLink", "sender", "LCarrierLink$Sender;", true)
  | _ => ("CarrierLink", "receiver", "LCarrierLink$Receiver;", true)
def t_CL : Nat → FieldType := fun k => match k with
  | 0 => .array .int
  | 1 => .int
  | 2 => .object "CarrierLink$Wave"
  | 3 => .object "CarrierLink$Wave"
  | 4 => .object "CarrierLink$Sender"
  | _ => .object "CarrierLink$Receiver"
theorem uw_CL : ∀ w ∈ u_ws "CarrierLink" F_CL 6, w ∈ lw_g := by decide +kernel
theorem nn_CL : ∀ a, a < 6 → ∀ b, b < 6 → a ≠ b → (F_CL a).2.1 ≠ (F_CL b).2.1 := by decide +kernel
theorem tok_CL : ∀ k, k < 6 → parseFieldDescriptor (F_CL k).2.2.1 = some (t_CL k) := by decide +kernel
theorem df_CL : ∀ j, j < 6 → defaultValue (t_CL j) = vp_V [.null, .int (0), .null, .null, .null, .null] j := by
  intro j hj
  rcases (show j = 0 ∨ j = 1 ∨ j = 2 ∨ j = 3 ∨ j = 4 ∨ j = 5 by omega) with rfl | rfl | rfl | rfl | rfl | rfl <;> rfl
def R_WA : String := "CarrierLink$Wave"
def F_WA : u_T := fun k => match k with
  | 0 => ("CarrierLink$Wave", "i", "[S", true)
  | 1 => ("CarrierLink$Wave", "q", "[S", true)
  | _ => ("CarrierLink$Wave", "count", "I", false)
def t_WA : Nat → FieldType := fun k => match k with
  | 0 => .array .short
  | 1 => .array .short
  | _ => .int
theorem uw_WA : ∀ w ∈ u_ws "CarrierLink$Wave" F_WA 3, w ∈ lw_g := by decide +kernel
theorem nn_WA : ∀ a, a < 3 → ∀ b, b < 3 → a ≠ b → (F_WA a).2.1 ≠ (F_WA b).2.1 := by decide +kernel
theorem tok_WA : ∀ k, k < 3 → parseFieldDescriptor (F_WA k).2.2.1 = some (t_WA k) := by decide +kernel
theorem df_WA : ∀ j, j < 3 → defaultValue (t_WA j) = vp_V [.null, .null, .int (0)] j := by
  intro j hj
  rcases (show j = 0 ∨ j = 1 ∨ j = 2 by omega) with rfl | rfl | rfl <;> rfl
def R_PO : String := "CarrierLink$Points"
def F_PO : u_T := fun k => match k with
  | 0 => ("CarrierLink$Points", "real", "[I", true)
  | _ => ("CarrierLink$Points", "imaginary", "[I", true)
def t_PO : Nat → FieldType := fun k => match k with
  | 0 => .array .int
  | _ => .array .int
theorem uw_PO : ∀ w ∈ u_ws "CarrierLink$Points" F_PO 2, w ∈ lw_g := by decide +kernel
theorem nn_PO : ∀ a, a < 2 → ∀ b, b < 2 → a ≠ b → (F_PO a).2.1 ≠ (F_PO b).2.1 := by decide +kernel
theorem tok_PO : ∀ k, k < 2 → parseFieldDescriptor (F_PO k).2.2.1 = some (t_PO k) := by decide +kernel
theorem df_PO : ∀ j, j < 2 → defaultValue (t_PO j) = vp_V [.null, .null] j := by
  intro j hj
  rcases (show j = 0 ∨ j = 1 by omega) with rfl | rfl <;> rfl
def R_SC : String := "CarrierLink$Scrambler"
def F_SC : u_T := fun k => match k with
  | _ => ("CarrierLink$Scrambler", "state", "I", false)
def t_SC : Nat → FieldType := fun k => match k with
  | _ => .int
theorem uw_SC : ∀ w ∈ u_ws "CarrierLink$Scrambler" F_SC 1, w ∈ lw_g := by decide +kernel
theorem nn_SC : ∀ a, a < 1 → ∀ b, b < 1 → a ≠ b → (F_SC a).2.1 ≠ (F_SC b).2.1 := by decide +kernel
theorem tok_SC : ∀ k, k < 1 → parseFieldDescriptor (F_SC k).2.2.1 = some (t_SC k) := by decide +kernel
theorem df_SC : ∀ j, j < 1 → defaultValue (t_SC j) = vp_V [.int (0)] j := by
  intro j hj
  rcases (show j = 0 by omega) with rfl <;> rfl
def R_BR : String := "CarrierLink$BitRows"
def F_BR : u_T := fun k => match k with
  | 0 => ("CarrierLink$BitRows", "plain", "[I", true)
  | 1 => ("CarrierLink$BitRows", "coded", "[I", true)
  | 2 => ("CarrierLink$BitRows", "placed", "[I", true)
  | 3 => ("CarrierLink$BitRows", "plainCount", "I", false)
  | _ => ("CarrierLink$BitRows", "codedCount", "I", false)
def t_BR : Nat → FieldType := fun k => match k with
  | 0 => .array .int
  | 1 => .array .int
  | 2 => .array .int
  | 3 => .int
  | _ => .int
theorem uw_BR : ∀ w ∈ u_ws "CarrierLink$BitRows" F_BR 5, w ∈ lw_g := by decide +kernel
theorem nn_BR : ∀ a, a < 5 → ∀ b, b < 5 → a ≠ b → (F_BR a).2.1 ≠ (F_BR b).2.1 := by decide +kernel
theorem tok_BR : ∀ k, k < 5 → parseFieldDescriptor (F_BR k).2.2.1 = some (t_BR k) := by decide +kernel
theorem df_BR : ∀ j, j < 5 → defaultValue (t_BR j) = vp_V [.null, .null, .null, .int (0), .int (0)] j := by
  intro j hj
  rcases (show j = 0 ∨ j = 1 ∨ j = 2 ∨ j = 3 ∨ j = 4 by omega) with rfl | rfl | rfl | rfl | rfl <;> rfl
def R_SE : String := "CarrierLink$Sender"
def F_SE : u_T := fun k => match k with
  | 0 => ("CarrierLink$Sender", "data", "LCarrierLink$BitRows;", true)
  | 1 => ("CarrierLink$Sender", "signal", "LCarrierLink$BitRows;", true)
  | 2 => ("CarrierLink$Sender", "frame", "LCarrierLink$Wave;", true)
  | 3 => ("CarrierLink$Sender", "training", "LCarrierLink$Points;", true)
  | 4 => ("CarrierLink$Sender", "points", "LCarrierLink$Points;", true)
  | 5 => ("CarrierLink$Sender", "scrambler", "LCarrierLink$Scrambler;", true)
  | _ => ("CarrierLink$Sender", "pilots", "LCarrierLink$Scrambler;", true)
def t_SE : Nat → FieldType := fun k => match k with
  | 0 => .object "CarrierLink$BitRows"
  | 1 => .object "CarrierLink$BitRows"
  | 2 => .object "CarrierLink$Wave"
  | 3 => .object "CarrierLink$Points"
  | 4 => .object "CarrierLink$Points"
  | 5 => .object "CarrierLink$Scrambler"
  | _ => .object "CarrierLink$Scrambler"
theorem uw_SE : ∀ w ∈ u_ws "CarrierLink$Sender" F_SE 7, w ∈ lw_g := by decide +kernel
theorem nn_SE : ∀ a, a < 7 → ∀ b, b < 7 → a ≠ b → (F_SE a).2.1 ≠ (F_SE b).2.1 := by decide +kernel
theorem tok_SE : ∀ k, k < 7 → parseFieldDescriptor (F_SE k).2.2.1 = some (t_SE k) := by decide +kernel
theorem df_SE : ∀ j, j < 7 → defaultValue (t_SE j) = vp_V [.null, .null, .null, .null, .null, .null, .null] j := by
  intro j hj
  rcases (show j = 0 ∨ j = 1 ∨ j = 2 ∨ j = 3 ∨ j = 4 ∨ j = 5 ∨ j = 6 by omega) with rfl | rfl | rfl | rfl | rfl | rfl | rfl <;> rfl
def R_RE : String := "CarrierLink$Receiver"
def F_RE : u_T := fun k => match k with
  | 0 => ("CarrierLink$Receiver", "told", "[I", true)
  | 1 => ("CarrierLink$Receiver", "found", "[I", true)
  | 2 => ("CarrierLink$Receiver", "foundCount", "I", false)
  | 3 => ("CarrierLink$Receiver", "learned", "LCarrierLink$Points;", true)
  | 4 => ("CarrierLink$Receiver", "training", "LCarrierLink$Points;", true)
  | 5 => ("CarrierLink$Receiver", "points", "LCarrierLink$Points;", true)
  | 6 => ("CarrierLink$Receiver", "symbolSoft", "[I", true)
  | 7 => ("CarrierLink$Receiver", "soft", "[I", true)
  | 8 => ("CarrierLink$Receiver", "paths", "LCarrierLink$Paths;", true)
  | _ => ("CarrierLink$Receiver", "scrambler", "LCarrierLink$Scrambler;", true)
def t_RE : Nat → FieldType := fun k => match k with
  | 0 => .array .int
  | 1 => .array .int
  | 2 => .int
  | 3 => .object "CarrierLink$Points"
  | 4 => .object "CarrierLink$Points"
  | 5 => .object "CarrierLink$Points"
  | 6 => .array .int
  | 7 => .array .int
  | 8 => .object "CarrierLink$Paths"
  | _ => .object "CarrierLink$Scrambler"
theorem uw_RE : ∀ w ∈ u_ws "CarrierLink$Receiver" F_RE 10, w ∈ lw_g := by decide +kernel
theorem nn_RE : ∀ a, a < 10 → ∀ b, b < 10 → a ≠ b → (F_RE a).2.1 ≠ (F_RE b).2.1 := by decide +kernel
theorem tok_RE : ∀ k, k < 10 → parseFieldDescriptor (F_RE k).2.2.1 = some (t_RE k) := by decide +kernel
theorem df_RE : ∀ j, j < 10 → defaultValue (t_RE j) = vp_V [.null, .null, .int (0), .null, .null, .null, .null, .null, .null, .null] j := by
  intro j hj
  rcases (show j = 0 ∨ j = 1 ∨ j = 2 ∨ j = 3 ∨ j = 4 ∨ j = 5 ∨ j = 6 ∨ j = 7 ∨ j = 8 ∨ j = 9 by omega) with rfl | rfl | rfl | rfl | rfl | rfl | rfl | rfl | rfl | rfl <;> rfl
def R_PA : String := "CarrierLink$Paths"
def F_PA : u_T := fun k => match k with
  | 0 => ("CarrierLink$Paths", "bits", "[I", true)
  | 1 => ("CarrierLink$Paths", "choices", "[J", true)
  | 2 => ("CarrierLink$Paths", "outputs", "[I", true)
  | 3 => ("CarrierLink$Paths", "gains", "[I", true)
  | 4 => ("CarrierLink$Paths", "metrics", "[I", false)
  | _ => ("CarrierLink$Paths", "newMetrics", "[I", false)
def t_PA : Nat → FieldType := fun k => match k with
  | 0 => .array .int
  | 1 => .array .long
  | 2 => .array .int
  | 3 => .array .int
  | 4 => .array .int
  | _ => .array .int
theorem uw_PA : ∀ w ∈ u_ws "CarrierLink$Paths" F_PA 6, w ∈ lw_g := by decide +kernel
theorem nn_PA : ∀ a, a < 6 → ∀ b, b < 6 → a ≠ b → (F_PA a).2.1 ≠ (F_PA b).2.1 := by decide +kernel
theorem tok_PA : ∀ k, k < 6 → parseFieldDescriptor (F_PA k).2.2.1 = some (t_PA k) := by decide +kernel
theorem df_PA : ∀ j, j < 6 → defaultValue (t_PA j) = vp_V [.null, .null, .null, .null, .null, .null] j := by
  intro j hj
  rcases (show j = 0 ∨ j = 1 ∨ j = 2 ∨ j = 3 ∨ j = 4 ∨ j = 5 by omega) with rfl | rfl | rfl | rfl | rfl | rfl <;> rfl
def R_MO : String := "CarrierLinkModel"
def F_MO : u_T := fun k => match k with
  | 0 => ("CarrierLinkModel", "thrown", "I", false)
  | 1 => ("CarrierLinkModel", "bytes", "I", false)
  | 2 => ("CarrierLinkModel", "message", "[I", true)
  | 3 => ("CarrierLinkModel", "rate", "I", false)
  | 4 => ("CarrierLinkModel", "dataBits", "I", false)
  | 5 => ("CarrierLinkModel", "data", "[I", true)
  | 6 => ("CarrierLinkModel", "codedBits", "I", false)
  | 7 => ("CarrierLinkModel", "coded", "[I", true)
  | 8 => ("CarrierLinkModel", "mixed", "[I", true)
  | 9 => ("CarrierLinkModel", "frame", "I", false)
  | 10 => ("CarrierLinkModel", "frameI", "[I", true)
  | 11 => ("CarrierLinkModel", "frameQ", "[I", true)
  | 12 => ("CarrierLinkModel", "symbols", "I", false)
  | 13 => ("CarrierLinkModel", "airSize", "I", false)
  | 14 => ("CarrierLinkModel", "airI", "[I", true)
  | 15 => ("CarrierLinkModel", "airQ", "[I", true)
  | 16 => ("CarrierLinkModel", "asked", "Z", false)
  | 17 => ("CarrierLinkModel", "answer", "I", false)
  | 18 => ("CarrierLinkModel", "start", "I", false)
  | 19 => ("CarrierLinkModel", "heardRate", "I", false)
  | 20 => ("CarrierLinkModel", "heardBytes", "I", false)
  | 21 => ("CarrierLinkModel", "seen", "I", false)
  | 22 => ("CarrierLinkModel", "best", "I", false)
  | 23 => ("CarrierLinkModel", "got", "[I", true)
  | 24 => ("CarrierLinkModel", "hRe", "[I", true)
  | 25 => ("CarrierLinkModel", "hIm", "[I", true)
  | 26 => ("CarrierLinkModel", "re", "[I", true)
  | 27 => ("CarrierLinkModel", "im", "[I", true)
  | 28 => ("CarrierLinkModel", "swap", "[I", true)
  | 29 => ("CarrierLinkModel", "tRe", "[I", true)
  | 30 => ("CarrierLinkModel", "tIm", "[I", true)
  | 31 => ("CarrierLinkModel", "cosine", "[I", true)
  | 32 => ("CarrierLinkModel", "softA", "[I", true)
  | 33 => ("CarrierLinkModel", "softB", "[I", true)
  | 34 => ("CarrierLinkModel", "soft", "[I", true)
  | 35 => ("CarrierLinkModel", "metric", "[I", true)
  | 36 => ("CarrierLinkModel", "fresh", "[I", true)
  | 37 => ("CarrierLinkModel", "odd", "[Z", true)
  | 38 => ("CarrierLinkModel", "found", "[I", true)
  | _ => ("CarrierLinkModel", "register", "I", false)
def t_MO : Nat → FieldType := fun k => match k with
  | 0 => .int
  | 1 => .int
  | 2 => .array .int
  | 3 => .int
  | 4 => .int
  | 5 => .array .int
  | 6 => .int
  | 7 => .array .int
  | 8 => .array .int
  | 9 => .int
  | 10 => .array .int
  | 11 => .array .int
  | 12 => .int
  | 13 => .int
  | 14 => .array .int
  | 15 => .array .int
  | 16 => .boolean
  | 17 => .int
  | 18 => .int
  | 19 => .int
  | 20 => .int
  | 21 => .int
  | 22 => .int
  | 23 => .array .int
  | 24 => .array .int
  | 25 => .array .int
  | 26 => .array .int
  | 27 => .array .int
  | 28 => .array .int
  | 29 => .array .int
  | 30 => .array .int
  | 31 => .array .int
  | 32 => .array .int
  | 33 => .array .int
  | 34 => .array .int
  | 35 => .array .int
  | 36 => .array .int
  | 37 => .array .boolean
  | 38 => .array .int
  | _ => .int
theorem uw_MO : ∀ w ∈ u_ws "CarrierLinkModel" F_MO 40, w ∈ lw_g := by decide +kernel
theorem nn_MO : ∀ a, a < 40 → ∀ b, b < 40 → a ≠ b → (F_MO a).2.1 ≠ (F_MO b).2.1 := by decide +kernel
theorem tok_MO : ∀ k, k < 40 → parseFieldDescriptor (F_MO k).2.2.1 = some (t_MO k) := by decide +kernel
theorem df_MO : ∀ j, j < 40 → defaultValue (t_MO j) = vp_V [.int (0), .int (0), .null, .int (0), .int (0), .null, .int (0), .null, .null, .int (0), .null, .null, .int (0), .int (0), .null, .null, .int (0), .int (0), .int (0), .int (0), .int (0), .int (0), .int (0), .null, .null, .null, .null, .null, .null, .null, .null, .null, .null, .null, .null, .null, .null, .null, .null, .int (0)] j := by
  intro j hj
  rcases (show j = 0 ∨ j = 1 ∨ j = 2 ∨ j = 3 ∨ j = 4 ∨ j = 5 ∨ j = 6 ∨ j = 7 ∨ j = 8 ∨ j = 9 ∨ j = 10 ∨ j = 11 ∨ j = 12 ∨ j = 13 ∨ j = 14 ∨ j = 15 ∨ j = 16 ∨ j = 17 ∨ j = 18 ∨ j = 19 ∨ j = 20 ∨ j = 21 ∨ j = 22 ∨ j = 23 ∨ j = 24 ∨ j = 25 ∨ j = 26 ∨ j = 27 ∨ j = 28 ∨ j = 29 ∨ j = 30 ∨ j = 31 ∨ j = 32 ∨ j = 33 ∨ j = 34 ∨ j = 35 ∨ j = 36 ∨ j = 37 ∨ j = 38 ∨ j = 39 by omega) with rfl | rfl | rfl | rfl | rfl | rfl | rfl | rfl | rfl | rfl | rfl | rfl | rfl | rfl | rfl | rfl | rfl | rfl | rfl | rfl | rfl | rfl | rfl | rfl | rfl | rfl | rfl | rfl | rfl | rfl | rfl | rfl | rfl | rfl | rfl | rfl | rfl | rfl | rfl | rfl <;> rfl
abbrev classes : List vw_C := [("CarrierLink", F_CL, 6), ("CarrierLink$Wave", F_WA, 3), ("CarrierLink$Points", F_PO, 2), ("CarrierLink$Scrambler", F_SC, 1), ("CarrierLink$BitRows", F_BR, 5), ("CarrierLink$Sender", F_SE, 7), ("CarrierLink$Receiver", F_RE, 10), ("CarrierLink$Paths", F_PA, 6), ("CarrierLinkModel", F_MO, 40)]
def bocN (j : Nat) : Nat := match j with
  | 0 => 1
  | 1 => 2
  | 2 => 2
  | _ => 4
def dbsN (j : Nat) : Nat := match j with
  | 0 => 6
  | 1 => 12
  | 2 => 18
  | _ => 36
def codN (j : Nat) : Nat := match j with
  | 0 => 9
  | 1 => 10
  | 2 => 11
  | 3 => 13
  | 4 => 14
  | 5 => 15
  | 6 => 1
  | 7 => 2
  | 8 => 3
  | 9 => 5
  | 10 => 6
  | _ => 7
def tsgT (j : Nat) : Int32 := match j with
  | 0 => 0
  | 1 => 1
  | 2 => -1
  | 3 => 1
  | 4 => 1
  | 5 => -1
  | 6 => -1
  | 7 => 1
  | 8 => 0
  | 9 => 1
  | 10 => 1
  | 11 => -1
  | 12 => 1
  | 13 => -1
  | 14 => 1
  | _ => 1
def rndN (j : Nat) : Nat := match j with
  | 0 => 0
  | 1 => 8
  | 2 => 4
  | 3 => 12
  | 4 => 2
  | 5 => 10
  | 6 => 6
  | 7 => 14
  | 8 => 1
  | 9 => 9
  | 10 => 5
  | 11 => 13
  | 12 => 3
  | 13 => 11
  | 14 => 7
  | _ => 15
def cosT (j : Nat) : Int32 := match j with
  | 0 => 16384
  | 1 => 15137
  | 2 => 11585
  | 3 => 6270
  | 4 => 0
  | 5 => -6270
  | 6 => -11585
  | 7 => -15137
  | 8 => -16384
  | 9 => -15137
  | 10 => -11585
  | 11 => -6270
  | 12 => 0
  | 13 => 6270
  | 14 => 11585
  | _ => 15137
def levT (j : Nat) : Int32 := match j with
  | 0 => -972
  | 1 => -324
  | 2 => 972
  | _ => 324
def tabs : List (String × Nat × (Nat → Int32)) := [("BITS_ON_CARRIER", 4, (fun j => nI (bocN j))), ("DATA_BITS_IN_SYMBOL", 4, (fun j => nI (dbsN j))), ("CARRIER_OF_DATA", 12, (fun j => nI (codN j))), ("TRAINING_SIGN", 16, tsgT), ("TURNED_ROUND", 16, (fun j => nI (rndN j))), ("COSINE", 16, cosT), ("FOUR_LEVELS", 4, levT)]
