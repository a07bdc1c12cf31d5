def R_D : String := "SubgraphDesk"
def F_D : u_T := fun k => match k with
  | 0 => ("SubgraphDesk", "board", "LSubgraphDesk$Board;", true)
  | 1 => ("SubgraphDesk", "images", "[LSubgraphDesk$Board;", true)
  | 2 => ("SubgraphDesk", "paper", "LSubgraphDesk$Board;", true)
  | 3 => ("SubgraphDesk", "acts", "LSubgraphDesk$Acts;", true)
  | 4 => ("SubgraphDesk", "reader", "LSubgraphDesk$Reader;", true)
  | 5 => ("SubgraphDesk", "ledger", "LSubgraphDesk$Ledger;", true)
  | 6 => ("SubgraphDesk", "walker", "LSubgraphDesk$Walker;", true)
  | 7 => ("SubgraphDesk", "sieve", "LSubgraphDesk$Sieve;", true)
  | 8 => ("SubgraphDesk", "hunt", "LSubgraphDesk$Hunt;", true)
  | 9 => ("SubgraphDesk", "likeness", "LSubgraphDesk$Likeness;", true)
  | 10 => ("SubgraphDesk", "runner", "LSubgraphDesk$Runner;", true)
  | 11 => ("SubgraphDesk", "chances", "[J", true)
  | 12 => ("SubgraphDesk", "refusals", "[I", true)
  | 13 => ("SubgraphDesk", "latestRefusal", "I", false)
  | _ => ("SubgraphDesk", "latestSmudges", "I", false)
def ty_D : Nat → FieldType := fun k => match k with
  | 0 => .object "SubgraphDesk$Board"
  | 1 => .array (.object "SubgraphDesk$Board")
  | 2 => .object "SubgraphDesk$Board"
  | 3 => .object "SubgraphDesk$Acts"
  | 4 => .object "SubgraphDesk$Reader"
  | 5 => .object "SubgraphDesk$Ledger"
  | 6 => .object "SubgraphDesk$Walker"
  | 7 => .object "SubgraphDesk$Sieve"
  | 8 => .object "SubgraphDesk$Hunt"
  | 9 => .object "SubgraphDesk$Likeness"
  | 10 => .object "SubgraphDesk$Runner"
  | 11 => .array .long
  | 12 => .array .int
  | 13 => .int
  | _ => .int
theorem nm_D : ∀ a, a < 15 → ∀ b, b < 15 → a ≠ b → (F_D a).2.1 ≠ (F_D b).2.1 := by decide +kernel
theorem tyok_D : ∀ k, k < 15 → parseFieldDescriptor (F_D k).2.2.1 = some (ty_D k) := by decide +kernel
set_option maxRecDepth 20000 in
theorem inq_D : u_ws R_D F_D 15 = [569, 571, 573, 575, 577, 579, 581, 583, 585, 587, 589, 591, 593, 595, 597].filterMap (fun i => lw_tbl[i]?) := by decide +kernel
theorem ing_D : (u_ws R_D F_D 15).all goodWord = true := by decide +kernel
theorem in_D : ∀ w ∈ u_ws R_D F_D 15, w ∈ lw_gd := fun w h => by have h2 := List.all_eq_true.mp ing_D w h; rw [inq_D] at h; obtain ⟨i, -, hi⟩ := List.mem_filterMap.mp h; exact gd i hi h2
def R_Ac : String := "SubgraphDesk$Acts"
def F_Ac : u_T := fun k => match k with
  | 0 => ("SubgraphDesk$Acts", "held", "I", false)
  | 1 => ("SubgraphDesk$Acts", "sort", "[I", true)
  | 2 => ("SubgraphDesk$Acts", "one", "[I", true)
  | 3 => ("SubgraphDesk$Acts", "other", "[I", true)
  | _ => ("SubgraphDesk$Acts", "was", "[I", true)
def ty_Ac : Nat → FieldType := fun k => match k with
  | 0 => .int
  | 1 => .array .int
  | 2 => .array .int
  | 3 => .array .int
  | _ => .array .int
theorem nm_Ac : ∀ a, a < 5 → ∀ b, b < 5 → a ≠ b → (F_Ac a).2.1 ≠ (F_Ac b).2.1 := by decide +kernel
theorem tyok_Ac : ∀ k, k < 5 → parseFieldDescriptor (F_Ac k).2.2.1 = some (ty_Ac k) := by decide +kernel
set_option maxRecDepth 20000 in
theorem inq_Ac : u_ws R_Ac F_Ac 5 = [277, 279, 281, 283, 285].filterMap (fun i => lw_tbl[i]?) := by decide +kernel
theorem ing_Ac : (u_ws R_Ac F_Ac 5).all goodWord = true := by decide +kernel
theorem in_Ac : ∀ w ∈ u_ws R_Ac F_Ac 5, w ∈ lw_gd := fun w h => by have h2 := List.all_eq_true.mp ing_Ac w h; rw [inq_Ac] at h; obtain ⟨i, -, hi⟩ := List.mem_filterMap.mp h; exact gd i hi h2
def R_Bo : String := "SubgraphDesk$Board"
def F_Bo : u_T := fun k => match k with
  | 0 => ("SubgraphDesk$Board", "nodes", "I", false)
  | 1 => ("SubgraphDesk$Board", "colour", "[I", true)
  | 2 => ("SubgraphDesk$Board", "near", "[I", true)
  | 3 => ("SubgraphDesk$Board", "edges", "I", false)
  | 4 => ("SubgraphDesk$Board", "order", "[I", true)
  | 5 => ("SubgraphDesk$Board", "vertices", "I", false)
  | 6 => ("SubgraphDesk$Board", "hue", "[I", true)
  | 7 => ("SubgraphDesk$Board", "tied", "[I", true)
  | 8 => ("SubgraphDesk$Board", "sights", "I", false)
  | 9 => ("SubgraphDesk$Board", "sight", "[I", true)
  | 10 => ("SubgraphDesk$Board", "term", "[I", true)
  | 11 => ("SubgraphDesk$Board", "laws", "I", false)
  | 12 => ("SubgraphDesk$Board", "forced", "I", false)
  | 13 => ("SubgraphDesk$Board", "text", "[LSubgraphDesk$Program;", true)
  | _ => ("SubgraphDesk$Board", "isKept", "Z", false)
def ty_Bo : Nat → FieldType := fun k => match k with
  | 0 => .int
  | 1 => .array .int
  | 2 => .array .int
  | 3 => .int
  | 4 => .array .int
  | 5 => .int
  | 6 => .array .int
  | 7 => .array .int
  | 8 => .int
  | 9 => .array .int
  | 10 => .array .int
  | 11 => .int
  | 12 => .int
  | 13 => .array (.object "SubgraphDesk$Program")
  | _ => .boolean
theorem nm_Bo : ∀ a, a < 15 → ∀ b, b < 15 → a ≠ b → (F_Bo a).2.1 ≠ (F_Bo b).2.1 := by decide +kernel
theorem tyok_Bo : ∀ k, k < 15 → parseFieldDescriptor (F_Bo k).2.2.1 = some (ty_Bo k) := by decide +kernel
set_option maxRecDepth 20000 in
theorem inq_Bo : u_ws R_Bo F_Bo 15 = [232, 234, 236, 238, 240, 242, 244, 246, 248, 250, 252, 254, 256, 258, 260].filterMap (fun i => lw_tbl[i]?) := by decide +kernel
theorem ing_Bo : (u_ws R_Bo F_Bo 15).all goodWord = true := by decide +kernel
theorem in_Bo : ∀ w ∈ u_ws R_Bo F_Bo 15, w ∈ lw_gd := fun w h => by have h2 := List.all_eq_true.mp ing_Bo w h; rw [inq_Bo] at h; obtain ⟨i, -, hi⟩ := List.mem_filterMap.mp h; exact gd i hi h2
def R_Hu : String := "SubgraphDesk$Hunt"
def F_Hu : u_T := fun k => match k with
  | 0 => ("SubgraphDesk$Hunt", "place", "[I", true)
  | 1 => ("SubgraphDesk$Hunt", "board", "LSubgraphDesk$Board;", false)
  | 2 => ("SubgraphDesk$Hunt", "able", "[I", false)
  | 3 => ("SubgraphDesk$Hunt", "taken", "I", false)
  | 4 => ("SubgraphDesk$Hunt", "lying", "I", false)
  | 5 => ("SubgraphDesk$Hunt", "stepsMost", "I", false)
  | 6 => ("SubgraphDesk$Hunt", "steps", "I", false)
  | _ => ("SubgraphDesk$Hunt", "laid", "I", false)
def ty_Hu : Nat → FieldType := fun k => match k with
  | 0 => .array .int
  | 1 => .object "SubgraphDesk$Board"
  | 2 => .array .int
  | 3 => .int
  | 4 => .int
  | 5 => .int
  | 6 => .int
  | _ => .int
theorem nm_Hu : ∀ a, a < 8 → ∀ b, b < 8 → a ≠ b → (F_Hu a).2.1 ≠ (F_Hu b).2.1 := by decide +kernel
theorem tyok_Hu : ∀ k, k < 8 → parseFieldDescriptor (F_Hu k).2.2.1 = some (ty_Hu k) := by decide +kernel
set_option maxRecDepth 20000 in
theorem inq_Hu : u_ws R_Hu F_Hu 8 = [464, 466, 468, 470, 472, 474, 476, 478].filterMap (fun i => lw_tbl[i]?) := by decide +kernel
theorem ing_Hu : (u_ws R_Hu F_Hu 8).all goodWord = true := by decide +kernel
theorem in_Hu : ∀ w ∈ u_ws R_Hu F_Hu 8, w ∈ lw_gd := fun w h => by have h2 := List.all_eq_true.mp ing_Hu w h; rw [inq_Hu] at h; obtain ⟨i, -, hi⟩ := List.mem_filterMap.mp h; exact gd i hi h2
def R_Le : String := "SubgraphDesk$Ledger"
def F_Le : u_T := fun k => match k with
  | 0 => ("SubgraphDesk$Ledger", "may", "[I", true)
  | 1 => ("SubgraphDesk$Ledger", "cost", "[I", true)
  | 2 => ("SubgraphDesk$Ledger", "words", "[I", true)
  | _ => ("SubgraphDesk$Ledger", "stack", "[J", true)
def ty_Le : Nat → FieldType := fun k => match k with
  | 0 => .array .int
  | 1 => .array .int
  | 2 => .array .int
  | _ => .array .long
theorem nm_Le : ∀ a, a < 4 → ∀ b, b < 4 → a ≠ b → (F_Le a).2.1 ≠ (F_Le b).2.1 := by decide +kernel
theorem tyok_Le : ∀ k, k < 4 → parseFieldDescriptor (F_Le k).2.2.1 = some (ty_Le k) := by decide +kernel
set_option maxRecDepth 20000 in
theorem inq_Le : u_ws R_Le F_Le 4 = [382, 384, 386, 388].filterMap (fun i => lw_tbl[i]?) := by decide +kernel
theorem ing_Le : (u_ws R_Le F_Le 4).all goodWord = true := by decide +kernel
theorem in_Le : ∀ w ∈ u_ws R_Le F_Le 4, w ∈ lw_gd := fun w h => by have h2 := List.all_eq_true.mp ing_Le w h; rw [inq_Le] at h; obtain ⟨i, -, hi⟩ := List.mem_filterMap.mp h; exact gd i hi h2
def R_Li : String := "SubgraphDesk$Likeness"
def F_Li : u_T := fun k => match k with
  | 0 => ("SubgraphDesk$Likeness", "mirror", "[I", true)
  | 1 => ("SubgraphDesk$Likeness", "trial", "[I", true)
  | 2 => ("SubgraphDesk$Likeness", "symmetries", "I", false)
  | 3 => ("SubgraphDesk$Likeness", "vertices", "I", false)
  | 4 => ("SubgraphDesk$Likeness", "kindOf", "[I", true)
  | 5 => ("SubgraphDesk$Likeness", "kindNext", "[I", true)
  | _ => ("SubgraphDesk$Likeness", "edgesTo", "[I", true)
def ty_Li : Nat → FieldType := fun k => match k with
  | 0 => .array .int
  | 1 => .array .int
  | 2 => .int
  | 3 => .int
  | 4 => .array .int
  | 5 => .array .int
  | _ => .array .int
theorem nm_Li : ∀ a, a < 7 → ∀ b, b < 7 → a ≠ b → (F_Li a).2.1 ≠ (F_Li b).2.1 := by decide +kernel
theorem tyok_Li : ∀ k, k < 7 → parseFieldDescriptor (F_Li k).2.2.1 = some (ty_Li k) := by decide +kernel
set_option maxRecDepth 20000 in
theorem inq_Li : u_ws R_Li F_Li 7 = [496, 498, 500, 502, 504, 506, 508].filterMap (fun i => lw_tbl[i]?) := by decide +kernel
theorem ing_Li : (u_ws R_Li F_Li 7).all goodWord = true := by decide +kernel
theorem in_Li : ∀ w ∈ u_ws R_Li F_Li 7, w ∈ lw_gd := fun w h => by have h2 := List.all_eq_true.mp ing_Li w h; rw [inq_Li] at h; obtain ⟨i, -, hi⟩ := List.mem_filterMap.mp h; exact gd i hi h2
def R_Pr : String := "SubgraphDesk$Program"
def F_Pr : u_T := fun k => match k with
  | 0 => ("SubgraphDesk$Program", "clauses", "I", false)
  | 1 => ("SubgraphDesk$Program", "length", "I", false)
  | 2 => ("SubgraphDesk$Program", "table", "[I", true)
  | _ => ("SubgraphDesk$Program", "code", "[I", true)
def ty_Pr : Nat → FieldType := fun k => match k with
  | 0 => .int
  | 1 => .int
  | 2 => .array .int
  | _ => .array .int
theorem nm_Pr : ∀ a, a < 4 → ∀ b, b < 4 → a ≠ b → (F_Pr a).2.1 ≠ (F_Pr b).2.1 := by decide +kernel
theorem tyok_Pr : ∀ k, k < 4 → parseFieldDescriptor (F_Pr k).2.2.1 = some (ty_Pr k) := by decide +kernel
set_option maxRecDepth 20000 in
theorem inq_Pr : u_ws R_Pr F_Pr 4 = [340, 342, 344, 346].filterMap (fun i => lw_tbl[i]?) := by decide +kernel
theorem ing_Pr : (u_ws R_Pr F_Pr 4).all goodWord = true := by decide +kernel
theorem in_Pr : ∀ w ∈ u_ws R_Pr F_Pr 4, w ∈ lw_gd := fun w h => by have h2 := List.all_eq_true.mp ing_Pr w h; rw [inq_Pr] at h; obtain ⟨i, -, hi⟩ := List.mem_filterMap.mp h; exact gd i hi h2
def R_Re : String := "SubgraphDesk$Reader"
def F_Re : u_T := fun k => match k with
  | 0 => ("SubgraphDesk$Reader", "tape", "LSubgraphDesk$Tape;", true)
  | 1 => ("SubgraphDesk$Reader", "draft", "LSubgraphDesk$Program;", true)
  | 2 => ("SubgraphDesk$Reader", "isOrders", "Z", false)
  | 3 => ("SubgraphDesk$Reader", "parts", "I", false)
  | _ => ("SubgraphDesk$Reader", "faultAt", "I", false)
def ty_Re : Nat → FieldType := fun k => match k with
  | 0 => .object "SubgraphDesk$Tape"
  | 1 => .object "SubgraphDesk$Program"
  | 2 => .boolean
  | 3 => .int
  | _ => .int
theorem nm_Re : ∀ a, a < 5 → ∀ b, b < 5 → a ≠ b → (F_Re a).2.1 ≠ (F_Re b).2.1 := by decide +kernel
theorem tyok_Re : ∀ k, k < 5 → parseFieldDescriptor (F_Re k).2.2.1 = some (ty_Re k) := by decide +kernel
set_option maxRecDepth 20000 in
theorem inq_Re : u_ws R_Re F_Re 5 = [357, 359, 361, 363, 365].filterMap (fun i => lw_tbl[i]?) := by decide +kernel
theorem ing_Re : (u_ws R_Re F_Re 5).all goodWord = true := by decide +kernel
theorem in_Re : ∀ w ∈ u_ws R_Re F_Re 5, w ∈ lw_gd := fun w h => by have h2 := List.all_eq_true.mp ing_Re w h; rw [inq_Re] at h; obtain ⟨i, -, hi⟩ := List.mem_filterMap.mp h; exact gd i hi h2
def R_Ru : String := "SubgraphDesk$Runner"
def F_Ru : u_T := fun k => match k with
  | 0 => ("SubgraphDesk$Runner", "board", "LSubgraphDesk$Board;", false)
  | 1 => ("SubgraphDesk$Runner", "acts", "LSubgraphDesk$Acts;", false)
  | 2 => ("SubgraphDesk$Runner", "ledger", "LSubgraphDesk$Ledger;", false)
  | 3 => ("SubgraphDesk$Runner", "walker", "LSubgraphDesk$Walker;", false)
  | 4 => ("SubgraphDesk$Runner", "boardBefore", "LSubgraphDesk$Board;", true)
  | 5 => ("SubgraphDesk$Runner", "actsBefore", "LSubgraphDesk$Acts;", true)
  | 6 => ("SubgraphDesk$Runner", "words", "[I", true)
  | 7 => ("SubgraphDesk$Runner", "done", "I", false)
  | 8 => ("SubgraphDesk$Runner", "latest", "I", false)
  | _ => ("SubgraphDesk$Runner", "stoppedAt", "I", false)
def ty_Ru : Nat → FieldType := fun k => match k with
  | 0 => .object "SubgraphDesk$Board"
  | 1 => .object "SubgraphDesk$Acts"
  | 2 => .object "SubgraphDesk$Ledger"
  | 3 => .object "SubgraphDesk$Walker"
  | 4 => .object "SubgraphDesk$Board"
  | 5 => .object "SubgraphDesk$Acts"
  | 6 => .array .int
  | 7 => .int
  | 8 => .int
  | _ => .int
theorem nm_Ru : ∀ a, a < 10 → ∀ b, b < 10 → a ≠ b → (F_Ru a).2.1 ≠ (F_Ru b).2.1 := by decide +kernel
theorem tyok_Ru : ∀ k, k < 10 → parseFieldDescriptor (F_Ru k).2.2.1 = some (ty_Ru k) := by decide +kernel
set_option maxRecDepth 20000 in
theorem inq_Ru : u_ws R_Ru F_Ru 10 = [533, 535, 537, 539, 541, 543, 545, 547, 549, 551].filterMap (fun i => lw_tbl[i]?) := by decide +kernel
theorem ing_Ru : (u_ws R_Ru F_Ru 10).all goodWord = true := by decide +kernel
theorem in_Ru : ∀ w ∈ u_ws R_Ru F_Ru 10, w ∈ lw_gd := fun w h => by have h2 := List.all_eq_true.mp ing_Ru w h; rw [inq_Ru] at h; obtain ⟨i, -, hi⟩ := List.mem_filterMap.mp h; exact gd i hi h2
def R_Si : String := "SubgraphDesk$Sieve"
def F_Si : u_T := fun k => match k with
  | 0 => ("SubgraphDesk$Sieve", "able", "[I", true)
  | _ => ("SubgraphDesk$Sieve", "line", "[I", true)
def ty_Si : Nat → FieldType := fun k => match k with
  | 0 => .array .int
  | _ => .array .int
theorem nm_Si : ∀ a, a < 2 → ∀ b, b < 2 → a ≠ b → (F_Si a).2.1 ≠ (F_Si b).2.1 := by decide +kernel
theorem tyok_Si : ∀ k, k < 2 → parseFieldDescriptor (F_Si k).2.2.1 = some (ty_Si k) := by decide +kernel
set_option maxRecDepth 20000 in
theorem inq_Si : u_ws R_Si F_Si 2 = [443, 445].filterMap (fun i => lw_tbl[i]?) := by decide +kernel
theorem ing_Si : (u_ws R_Si F_Si 2).all goodWord = true := by decide +kernel
theorem in_Si : ∀ w ∈ u_ws R_Si F_Si 2, w ∈ lw_gd := fun w h => by have h2 := List.all_eq_true.mp ing_Si w h; rw [inq_Si] at h; obtain ⟨i, -, hi⟩ := List.mem_filterMap.mp h; exact gd i hi h2
def R_Ta : String := "SubgraphDesk$Tape"
def F_Ta : u_T := fun k => match k with
  | 0 => ("SubgraphDesk$Tape", "bytes", "[I", true)
  | 1 => ("SubgraphDesk$Tape", "length", "I", false)
  | 2 => ("SubgraphDesk$Tape", "textLength", "I", false)
  | 3 => ("SubgraphDesk$Tape", "from", "I", false)
  | 4 => ("SubgraphDesk$Tape", "to", "I", false)
  | 5 => ("SubgraphDesk$Tape", "sort", "I", false)
  | _ => ("SubgraphDesk$Tape", "number", "I", false)
def ty_Ta : Nat → FieldType := fun k => match k with
  | 0 => .array .int
  | 1 => .int
  | 2 => .int
  | 3 => .int
  | 4 => .int
  | 5 => .int
  | _ => .int
theorem nm_Ta : ∀ a, a < 7 → ∀ b, b < 7 → a ≠ b → (F_Ta a).2.1 ≠ (F_Ta b).2.1 := by decide +kernel
theorem tyok_Ta : ∀ k, k < 7 → parseFieldDescriptor (F_Ta k).2.2.1 = some (ty_Ta k) := by decide +kernel
set_option maxRecDepth 20000 in
theorem inq_Ta : u_ws R_Ta F_Ta 7 = [312, 314, 316, 318, 320, 322, 324].filterMap (fun i => lw_tbl[i]?) := by decide +kernel
theorem ing_Ta : (u_ws R_Ta F_Ta 7).all goodWord = true := by decide +kernel
theorem in_Ta : ∀ w ∈ u_ws R_Ta F_Ta 7, w ∈ lw_gd := fun w h => by have h2 := List.all_eq_true.mp ing_Ta w h; rw [inq_Ta] at h; obtain ⟨i, -, hi⟩ := List.mem_filterMap.mp h; exact gd i hi h2
def R_Wa : String := "SubgraphDesk$Walker"
def F_Wa : u_T := fun k => match k with
  | 0 => ("SubgraphDesk$Walker", "place", "[I", true)
  | 1 => ("SubgraphDesk$Walker", "left", "[I", true)
  | 2 => ("SubgraphDesk$Walker", "cheapest", "[I", true)
  | 3 => ("SubgraphDesk$Walker", "met", "[I", true)
  | 4 => ("SubgraphDesk$Walker", "tally", "[I", true)
  | 5 => ("SubgraphDesk$Walker", "board", "LSubgraphDesk$Board;", false)
  | 6 => ("SubgraphDesk$Walker", "able", "[I", false)
  | 7 => ("SubgraphDesk$Walker", "level", "I", false)
  | 8 => ("SubgraphDesk$Walker", "taken", "I", false)
  | 9 => ("SubgraphDesk$Walker", "steps", "I", false)
  | _ => ("SubgraphDesk$Walker", "isEmptyWayDue", "Z", false)
def ty_Wa : Nat → FieldType := fun k => match k with
  | 0 => .array .int
  | 1 => .array .int
  | 2 => .array .int
  | 3 => .array .int
  | 4 => .array .int
  | 5 => .object "SubgraphDesk$Board"
  | 6 => .array .int
  | 7 => .int
  | 8 => .int
  | 9 => .int
  | _ => .boolean
theorem nm_Wa : ∀ a, a < 11 → ∀ b, b < 11 → a ≠ b → (F_Wa a).2.1 ≠ (F_Wa b).2.1 := by decide +kernel
theorem tyok_Wa : ∀ k, k < 11 → parseFieldDescriptor (F_Wa k).2.2.1 = some (ty_Wa k) := by decide +kernel
set_option maxRecDepth 20000 in
theorem inq_Wa : u_ws R_Wa F_Wa 11 = [411, 413, 415, 417, 419, 421, 423, 425, 427, 429, 431].filterMap (fun i => lw_tbl[i]?) := by decide +kernel
theorem ing_Wa : (u_ws R_Wa F_Wa 11).all goodWord = true := by decide +kernel
theorem in_Wa : ∀ w ∈ u_ws R_Wa F_Wa 11, w ∈ lw_gd := fun w h => by have h2 := List.all_eq_true.mp ing_Wa w h; rw [inq_Wa] at h; obtain ⟨i, -, hi⟩ := List.mem_filterMap.mp h; exact gd i hi h2
def R_M : String := "SubgraphDeskModel"
def F_M : u_T := fun k => match k with
  | 0 => ("SubgraphDeskModel", "thrown", "I", false)
  | 1 => ("SubgraphDeskModel", "status", "I", false)
  | 2 => ("SubgraphDeskModel", "refusals", "[I", true)
  | 3 => ("SubgraphDeskModel", "row", "[I", true)
  | 4 => ("SubgraphDeskModel", "images", "[I", true)
  | 5 => ("SubgraphDeskModel", "isKept", "[Z", true)
  | 6 => ("SubgraphDeskModel", "undos", "[I", true)
  | 7 => ("SubgraphDeskModel", "sorts", "[I", true)
  | 8 => ("SubgraphDeskModel", "nUndo", "I", false)
  | 9 => ("SubgraphDeskModel", "undosBefore", "[I", true)
  | 10 => ("SubgraphDeskModel", "sortsBefore", "[I", true)
  | 11 => ("SubgraphDeskModel", "smudges", "I", false)
  | 12 => ("SubgraphDeskModel", "tape", "[I", true)
  | 13 => ("SubgraphDeskModel", "taped", "I", false)
  | 14 => ("SubgraphDeskModel", "from", "I", false)
  | 15 => ("SubgraphDeskModel", "to", "I", false)
  | 16 => ("SubgraphDeskModel", "sort", "I", false)
  | 17 => ("SubgraphDeskModel", "worth", "J", false)
  | 18 => ("SubgraphDeskModel", "fault", "I", false)
  | 19 => ("SubgraphDeskModel", "bad", "Z", false)
  | 20 => ("SubgraphDeskModel", "ordered", "Z", false)
  | 21 => ("SubgraphDeskModel", "nClauses", "I", false)
  | 22 => ("SubgraphDeskModel", "nClause", "[I", true)
  | 23 => ("SubgraphDeskModel", "nCode", "I", false)
  | 24 => ("SubgraphDeskModel", "nOp", "[I", true)
  | 25 => ("SubgraphDeskModel", "nArg", "[I", true)
  | 26 => ("SubgraphDeskModel", "nLeaves", "I", false)
  | 27 => ("SubgraphDeskModel", "pile", "[I", true)
  | 28 => ("SubgraphDeskModel", "pileAt", "[I", true)
  | 29 => ("SubgraphDeskModel", "piled", "I", false)
  | 30 => ("SubgraphDeskModel", "opened", "I", false)
  | 31 => ("SubgraphDeskModel", "words", "[J", true)
  | 32 => ("SubgraphDeskModel", "orderWords", "[J", true)
  | 33 => ("SubgraphDeskModel", "heads", "[J", true)
  | 34 => ("SubgraphDeskModel", "law", "I", false)
  | 35 => ("SubgraphDeskModel", "set", "[J", true)
  | 36 => ("SubgraphDeskModel", "now", "[J", true)
  | 37 => ("SubgraphDeskModel", "rest", "[J", true)
  | 38 => ("SubgraphDeskModel", "broken", "Z", false)
  | 39 => ("SubgraphDeskModel", "value", "J", false)
  | 40 => ("SubgraphDeskModel", "sum", "J", false)
  | 41 => ("SubgraphDeskModel", "near", "[I", true)
  | 42 => ("SubgraphDeskModel", "may", "[I", true)
  | 43 => ("SubgraphDeskModel", "costs", "[I", true)
  | 44 => ("SubgraphDeskModel", "lies", "[I", true)
  | 45 => ("SubgraphDeskModel", "depth", "I", false)
  | 46 => ("SubgraphDeskModel", "turns", "[I", true)
  | 47 => ("SubgraphDeskModel", "nTurns", "I", false)
  | 48 => ("SubgraphDeskModel", "turn", "[I", true)
  | 49 => ("SubgraphDeskModel", "bestRow", "[I", true)
  | 50 => ("SubgraphDeskModel", "cands", "[I", true)
  | 51 => ("SubgraphDeskModel", "order", "[I", true)
  | 52 => ("SubgraphDeskModel", "deepVertex", "[I", true)
  | 53 => ("SubgraphDeskModel", "laid", "I", false)
  | 54 => ("SubgraphDeskModel", "whole", "I", false)
  | 55 => ("SubgraphDeskModel", "kinds", "[I", true)
  | 56 => ("SubgraphDeskModel", "kindsThen", "[I", true)
  | 57 => ("SubgraphDeskModel", "sets", "[I", true)
  | 58 => ("SubgraphDeskModel", "lyingOn", "[I", true)
  | 59 => ("SubgraphDeskModel", "parts", "[J", true)
  | 60 => ("SubgraphDeskModel", "acts", "[J", true)
  | 61 => ("SubgraphDeskModel", "nOrder", "[I", true)
  | 62 => ("SubgraphDeskModel", "done", "I", false)
  | 63 => ("SubgraphDeskModel", "latest", "I", false)
  | 64 => ("SubgraphDeskModel", "stopped", "I", false)
  | 65 => ("SubgraphDeskModel", "off", "Z", false)
  | 66 => ("SubgraphDeskModel", "state", "J", false)
  | 67 => ("SubgraphDeskModel", "drawn", "[I", true)
  | _ => ("SubgraphDeskModel", "drawnNodes", "I", false)
def ty_M : Nat → FieldType := fun k => match k with
  | 0 => .int
  | 1 => .int
  | 2 => .array .int
  | 3 => .array .int
  | 4 => .array .int
  | 5 => .array .boolean
  | 6 => .array .int
  | 7 => .array .int
  | 8 => .int
  | 9 => .array .int
  | 10 => .array .int
  | 11 => .int
  | 12 => .array .int
  | 13 => .int
  | 14 => .int
  | 15 => .int
  | 16 => .int
  | 17 => .long
  | 18 => .int
  | 19 => .boolean
  | 20 => .boolean
  | 21 => .int
  | 22 => .array .int
  | 23 => .int
  | 24 => .array .int
  | 25 => .array .int
  | 26 => .int
  | 27 => .array .int
  | 28 => .array .int
  | 29 => .int
  | 30 => .int
  | 31 => .array .long
  | 32 => .array .long
  | 33 => .array .long
  | 34 => .int
  | 35 => .array .long
  | 36 => .array .long
  | 37 => .array .long
  | 38 => .boolean
  | 39 => .long
  | 40 => .long
  | 41 => .array .int
  | 42 => .array .int
  | 43 => .array .int
  | 44 => .array .int
  | 45 => .int
  | 46 => .array .int
  | 47 => .int
  | 48 => .array .int
  | 49 => .array .int
  | 50 => .array .int
  | 51 => .array .int
  | 52 => .array .int
  | 53 => .int
  | 54 => .int
  | 55 => .array .int
  | 56 => .array .int
  | 57 => .array .int
  | 58 => .array .int
  | 59 => .array .long
  | 60 => .array .long
  | 61 => .array .int
  | 62 => .int
  | 63 => .int
  | 64 => .int
  | 65 => .boolean
  | 66 => .long
  | 67 => .array .int
  | _ => .int
theorem nm_M : ∀ a, a < 69 → ∀ b, b < 69 → a ≠ b → (F_M a).2.1 ≠ (F_M b).2.1 := by decide +kernel
theorem tyok_M : ∀ k, k < 69 → parseFieldDescriptor (F_M k).2.2.1 = some (ty_M k) := by decide +kernel
set_option maxRecDepth 20000 in
theorem inq_M : u_ws R_M F_M 69 = [1541, 1543, 1545, 1547, 1549, 1551, 1553, 1555, 1557, 1559, 1561, 1563, 1565, 1567, 1569, 1571, 1573, 1575, 1577, 1579, 1581, 1583, 1585, 1587, 1589, 1591, 1593, 1595, 1597, 1599, 1601, 1603, 1605, 1607, 1609, 1611, 1613, 1615, 1617, 1619, 1621, 1623, 1625, 1627, 1629, 1631, 1633, 1635, 1637, 1639, 1641, 1643, 1645, 1647, 1649, 1651, 1653, 1655, 1657, 1659, 1661, 1663, 1665, 1667, 1669, 1671, 1673, 1675, 1677].filterMap (fun i => lw_tbl[i]?) := by decide +kernel
theorem ing_M : (u_ws R_M F_M 69).all goodWord = true := by decide +kernel
theorem in_M : ∀ w ∈ u_ws R_M F_M 69, w ∈ lw_gd := fun w h => by have h2 := List.all_eq_true.mp ing_M w h; rw [inq_M] at h; obtain ⟨i, -, hi⟩ := List.mem_filterMap.mp h; exact gd i hi h2
abbrev classes : List vw_C := [(R_D, F_D, 15), (R_Ac, F_Ac, 5), (R_Bo, F_Bo, 15), (R_Hu, F_Hu, 8), (R_Le, F_Le, 4), (R_Li, F_Li, 7), (R_Pr, F_Pr, 4), (R_Re, F_Re, 5), (R_Ru, F_Ru, 10), (R_Si, F_Si, 2), (R_Ta, F_Ta, 7), (R_Wa, F_Wa, 11), (R_M, F_M, 69)]
