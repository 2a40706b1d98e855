/-! the tables of my own machine, printed by program: classes and fields -/
def z_own : List String := ["DustYards$Barges", "DustYards$Buyers", "DustYards$Carts", "DustYards$Contracts", "DustYards$Doors", "DustYards$Finds", "DustYards$Hands", "DustYards$Prices", "DustYards$Sheet", "DustYards$Tape", "DustYards$Text", "DustYards", "DustYardsModel", "java/lang/Integer", "java/lang/Math", "java/lang/String", "java/lang/StringLatin1", "java/lang/StringUTF16", "java/util/Arrays", "jdk/internal/util/Preconditions", "DustYardsLaw"]
def z_ow (k : Nat) : String := z_own.getD k ""
def z_T (l : List (String × String × String × Bool)) : u_T := fun k => l.getD k ("", "", "", false)
def z_F0 : List (String × String × String × Bool) := [("DustYards$Barges", "weight", "[I", true), ("DustYards$Barges", "freight", "[I", true), ("DustYards$Barges", "number", "I", false)]
def z_F1 : List (String × String × String × Bool) := [("DustYards$Buyers", "need", "[I", true), ("DustYards$Buyers", "pence", "[I", true), ("DustYards$Buyers", "stopped", "[Z", true), ("DustYards$Buyers", "share", "[I", true), ("DustYards$Buyers", "number", "I", false)]
def z_F2 : List (String × String × String × Bool) := [("DustYards$Carts", "kind", "[I", true), ("DustYards$Carts", "parish", "[I", true), ("DustYards$Carts", "heap", "[I", true), ("DustYards$Carts", "day", "[I", true), ("DustYards$Carts", "weight", "[I", true), ("DustYards$Carts", "water", "[I", true), ("DustYards$Carts", "eye", "[I", true), ("DustYards$Carts", "dryAtFirst", "[I", true), ("DustYards$Carts", "dry", "[I", true), ("DustYards$Carts", "sifted", "[Z", true), ("DustYards$Carts", "number", "I", false)]
def z_F3 : List (String × String × String × Bool) := [("DustYards$Contracts", "texts", "[LDustYards$Text;", true), ("DustYards$Contracts", "parish", "[I", true), ("DustYards$Contracts", "from", "[I", true), ("DustYards$Contracts", "chosen", "[I", true), ("DustYards$Contracts", "textNumber", "I", false), ("DustYards$Contracts", "number", "I", false)]
def z_F4 : List (String × String × String × Bool) := [("DustYards$Doors", "parish", "[I", true), ("DustYards$Doors", "pounds", "[I", true), ("DustYards$Doors", "weekday", "[I", true), ("DustYards$Doors", "yards", "[I", true), ("DustYards$Doors", "missed", "[I", true), ("DustYards$Doors", "missedIn", "[I", true), ("DustYards$Doors", "asked", "[I", true), ("DustYards$Doors", "least", "[I", true), ("DustYards$Doors", "number", "I", false), ("DustYards$Doors", "missedNumber", "I", false)]
def z_F5 : List (String × String × String × Bool) := [("DustYards$Finds", "cart", "[I", true), ("DustYards$Finds", "hand", "[I", true), ("DustYards$Finds", "worth", "[I", true), ("DustYards$Finds", "number", "I", false)]
def z_F6 : List (String × String × String × Bool) := [("DustYards$Hands", "win", "[I", true), ("DustYards$Hands", "called", "[I", true), ("DustYards$Hands", "heapOf", "[I", true), ("DustYards$Hands", "bestHeap", "[I", true), ("DustYards$Hands", "calledNumber", "I", false), ("DustYards$Hands", "most", "I", false)]
def z_F7 : List (String × String × String × Bool) := [("DustYards$Prices", "sort", "[I", true), ("DustYards$Prices", "day", "[I", true), ("DustYards$Prices", "pence", "[I", true), ("DustYards$Prices", "toldIn", "[I", true), ("DustYards$Prices", "number", "I", false)]
def z_F8 : List (String × String × String × Bool) := [("DustYards$Sheet", "items", "[I", true), ("DustYards$Sheet", "sort", "I", false), ("DustYards$Sheet", "size", "I", false)]
def z_F9 : List (String × String × String × Bool) := [("DustYards$Tape", "bytes", "[I", true), ("DustYards$Tape", "size", "I", false), ("DustYards$Tape", "start", "I", false), ("DustYards$Tape", "next", "I", false), ("DustYards$Tape", "token", "I", false), ("DustYards$Tape", "number", "I", false)]
def z_F10 : List (String × String × String × Bool) := [("DustYards$Text", "steps", "[I", true), ("DustYards$Text", "ends", "[I", true), ("DustYards$Text", "size", "I", false)]
def z_F11 : List (String × String × String × Bool) := [("DustYards", "carts", "LDustYards$Carts;", true), ("DustYards", "store", "[I", true), ("DustYards", "told", "LDustYards$Prices;", true), ("DustYards", "tape", "LDustYards$Tape;", true), ("DustYards", "contracts", "LDustYards$Contracts;", true), ("DustYards", "named", "[I", true), ("DustYards", "stack", "[I", true), ("DustYards", "found", "LDustYards$Finds;", true), ("DustYards", "doors", "LDustYards$Doors;", true), ("DustYards", "rowBreeze", "[I", true), ("DustYards", "rowSoil", "[I", true), ("DustYards", "hands", "LDustYards$Hands;", true), ("DustYards", "barges", "LDustYards$Barges;", true), ("DustYards", "buyers", "LDustYards$Buyers;", true), ("DustYards", "sheets", "[LDustYards$Sheet;", true), ("DustYards", "rowNumber", "I", false), ("DustYards", "day", "I", false), ("DustYards", "soldFor", "I", false)]
def z_F12 : List (String × String × String × Bool) := [("DustYardsModel", "today", "I", false), ("DustYardsModel", "shares", "[I", true), ("DustYardsModel", "eyes", "[I", true), ("DustYardsModel", "carts", "I", false), ("DustYardsModel", "kindOf", "[I", true), ("DustYardsModel", "parishOf", "[I", true), ("DustYardsModel", "heapOf", "[I", true), ("DustYardsModel", "weight", "[I", true), ("DustYardsModel", "water", "[I", true), ("DustYardsModel", "byEye", "[I", true), ("DustYardsModel", "cameIn", "[I", true), ("DustYardsModel", "dry", "[I", true), ("DustYardsModel", "dryFirst", "[I", true), ("DustYardsModel", "isSifted", "[Z", true), ("DustYardsModel", "stock", "[I", true), ("DustYardsModel", "pence", "I", false), ("DustYardsModel", "prices", "I", false), ("DustYardsModel", "priceSort", "[I", true), ("DustYardsModel", "priceDay", "[I", true), ("DustYardsModel", "pricePence", "[I", true), ("DustYardsModel", "toldIn", "[I", true), ("DustYardsModel", "tape", "[B", true), ("DustYardsModel", "taped", "I", false), ("DustYardsModel", "texts", "I", false), ("DustYardsModel", "codes", "[I", true), ("DustYardsModel", "codeMany", "[I", true), ("DustYardsModel", "at", "I", false), ("DustYardsModel", "token", "I", false), ("DustYardsModel", "worth", "I", false), ("DustYardsModel", "place", "I", false), ("DustYardsModel", "letters", "[C", true), ("DustYardsModel", "begins", "[I", true), ("DustYardsModel", "waits", "[I", true), ("DustYardsModel", "waiting", "I", false), ("DustYardsModel", "open", "I", false), ("DustYardsModel", "depth", "I", false), ("DustYardsModel", "compared", "[Z", true), ("DustYardsModel", "codeAt", "I", false), ("DustYardsModel", "made", "I", false), ("DustYardsModel", "stack", "[I", true), ("DustYardsModel", "contracts", "I", false), ("DustYardsModel", "contractParish", "[I", true), ("DustYardsModel", "contractFrom", "[I", true), ("DustYardsModel", "contractText", "[I", true), ("DustYardsModel", "finds", "I", false), ("DustYardsModel", "findCart", "[I", true), ("DustYardsModel", "findHand", "[I", true), ("DustYardsModel", "findWorth", "[I", true), ("DustYardsModel", "doors", "I", false), ("DustYardsModel", "doorParish", "[I", true), ("DustYardsModel", "doorPounds", "[I", true), ("DustYardsModel", "doorDay", "[I", true), ("DustYardsModel", "doorYards", "[I", true), ("DustYardsModel", "missed", "I", false), ("DustYardsModel", "missedDoor", "[I", true), ("DustYardsModel", "missedDay", "[I", true), ("DustYardsModel", "chosen", "[I", true), ("DustYardsModel", "pounds", "[I", true), ("DustYardsModel", "fewest", "[I", true), ("DustYardsModel", "rows", "I", false), ("DustYardsModel", "rowBreeze", "[I", true), ("DustYardsModel", "rowSoil", "[I", true), ("DustYardsModel", "wins", "[I", true), ("DustYardsModel", "laidHand", "[I", true), ("DustYardsModel", "laidBest", "[I", true), ("DustYardsModel", "laidNow", "[I", true), ("DustYardsModel", "laidMost", "I", false), ("DustYardsModel", "barges", "I", false), ("DustYardsModel", "bargeWeight", "[I", true), ("DustYardsModel", "freight", "[I", true), ("DustYardsModel", "carried", "[I", true), ("DustYardsModel", "brought", "[I", true), ("DustYardsModel", "buyers", "I", false), ("DustYardsModel", "need", "[I", true), ("DustYardsModel", "gives", "[I", true), ("DustYardsModel", "stops", "[I", true), ("DustYardsModel", "gets", "[I", true), ("DustYardsModel", "sorts", "[I", true), ("DustYardsModel", "sizes", "[I", true), ("DustYardsModel", "items", "[I", true), ("DustYardsModel", "moved", "[I", true)]
def z_cls : List vw_C := [("DustYards$Barges", z_T z_F0, 3), ("DustYards$Buyers", z_T z_F1, 5), ("DustYards$Carts", z_T z_F2, 11), ("DustYards$Contracts", z_T z_F3, 6), ("DustYards$Doors", z_T z_F4, 10), ("DustYards$Finds", z_T z_F5, 4), ("DustYards$Hands", z_T z_F6, 6), ("DustYards$Prices", z_T z_F7, 5), ("DustYards$Sheet", z_T z_F8, 3), ("DustYards$Tape", z_T z_F9, 6), ("DustYards$Text", z_T z_F10, 3), ("DustYards", z_T z_F11, 18), ("DustYardsModel", z_T z_F12, 81)]
def z_ft : List (List FieldType) := [[.array .int, .array .int, .int], [.array .int, .array .int, .array .boolean, .array .int, .int], [.array .int, .array .int, .array .int, .array .int, .array .int, .array .int, .array .int, .array .int, .array .int, .array .boolean, .int], [.array (.object "DustYards$Text"), .array .int, .array .int, .array .int, .int, .int], [.array .int, .array .int, .array .int, .array .int, .array .int, .array .int, .array .int, .array .int, .int, .int], [.array .int, .array .int, .array .int, .int], [.array .int, .array .int, .array .int, .array .int, .int, .int], [.array .int, .array .int, .array .int, .array .int, .int], [.array .int, .int, .int], [.array .int, .int, .int, .int, .int, .int], [.array .int, .array .int, .int], [.object "DustYards$Carts", .array .int, .object "DustYards$Prices", .object "DustYards$Tape", .object "DustYards$Contracts", .array .int, .array .int, .object "DustYards$Finds", .object "DustYards$Doors", .array .int, .array .int, .object "DustYards$Hands", .object "DustYards$Barges", .object "DustYards$Buyers", .array (.object "DustYards$Sheet"), .int, .int, .int], [.int, .array .int, .array .int, .int, .array .int, .array .int, .array .int, .array .int, .array .int, .array .int, .array .int, .array .int, .array .int, .array .boolean, .array .int, .int, .int, .array .int, .array .int, .array .int, .array .int, .array .byte, .int, .int, .array .int, .array .int, .int, .int, .int, .int, .array .char, .array .int, .array .int, .int, .int, .int, .array .boolean, .int, .int, .array .int, .int, .array .int, .array .int, .array .int, .int, .array .int, .array .int, .array .int, .int, .array .int, .array .int, .array .int, .array .int, .int, .array .int, .array .int, .array .int, .array .int, .array .int, .int, .array .int, .array .int, .array .int, .array .int, .array .int, .array .int, .int, .int, .array .int, .array .int, .array .int, .array .int, .int, .array .int, .array .int, .array .int, .array .int, .array .int, .array .int, .array .int, .array .int]]
def z_fty (ci k : Nat) : FieldType := (z_ft.getD ci []).getD k .int
/-- what a new object holds: an int field none, a reference some none -/
def z_df (ci : Nat) : List (Option (Option Nat)) := (z_ft.getD ci []).map fun t => if t = .int then none else some none
def z_tbl : List Cond := lw_tbl.filter goodWord
theorem z_in {w : Cond} (h : w ∈ lw_tbl) (g : goodWord w = true) : w ∈ z_tbl := List.mem_filter.mpr ⟨h, g⟩
theorem z_of1 {w : Cond} (h : w ∈ tables_1) : w ∈ lw_tbl := List.mem_append_right _ h
theorem z_s1 {w : Cond} (h : w ∈ tables_1_1) : w ∈ lw_tbl := z_of1 (List.mem_append_left _ h)
theorem z_s2 {w : Cond} (h : w ∈ tables_1_2) : w ∈ lw_tbl := z_of1 (List.mem_append_right _ (List.mem_append_left _ h))
theorem z_s3 {w : Cond} (h : w ∈ tables_1_3) : w ∈ lw_tbl := z_of1 (List.mem_append_right _ (List.mem_append_right _ (List.mem_append_left _ h)))
theorem z_s4 {w : Cond} (h : w ∈ tables_1_4) : w ∈ lw_tbl := z_of1 (List.mem_append_right _ (List.mem_append_right _ (List.mem_append_right _ (List.mem_append_left _ h))))
theorem z_s5 {w : Cond} (h : w ∈ tables_1_5) : w ∈ lw_tbl := z_of1 (List.mem_append_right _ (List.mem_append_right _ (List.mem_append_right _ (List.mem_append_right _ (List.mem_append_left _ h)))))
theorem z_s6 {w : Cond} (h : w ∈ tables_1_6) : w ∈ lw_tbl := z_of1 (List.mem_append_right _ (List.mem_append_right _ (List.mem_append_right _ (List.mem_append_right _ (List.mem_append_right _ (List.mem_append_left _ h))))))
theorem z_s7 {w : Cond} (h : w ∈ tables_1_7) : w ∈ lw_tbl := z_of1 (List.mem_append_right _ (List.mem_append_right _ (List.mem_append_right _ (List.mem_append_right _ (List.mem_append_right _ (List.mem_append_right _ (h)))))))
set_option maxRecDepth 100000 in
theorem z_lay0 : ∀ w ∈ u_ws "DustYards$Barges" (z_T z_F0) 3, w ∈ lw_tbl := by
  have h : (u_ws "DustYards$Barges" (z_T z_F0) 3).map some = ([280, 282, 284] : List Nat).map fun i => tables_1[i]? := by decide +kernel
  intro w hw
  have h1 : some w ∈ (u_ws "DustYards$Barges" (z_T z_F0) 3).map some := List.mem_map.mpr ⟨w, hw, rfl⟩
  rw [h] at h1
  obtain ⟨j, -, hj⟩ := List.mem_map.mp h1
  exact z_of1 (List.mem_of_getElem? hj)
set_option maxRecDepth 100000 in
theorem z_lay1 : ∀ w ∈ u_ws "DustYards$Buyers" (z_T z_F1) 5, w ∈ lw_tbl := by
  have h : (u_ws "DustYards$Buyers" (z_T z_F1) 5).map some = ([301, 303, 305, 307, 309] : List Nat).map fun i => tables_1[i]? := by decide +kernel
  intro w hw
  have h1 : some w ∈ (u_ws "DustYards$Buyers" (z_T z_F1) 5).map some := List.mem_map.mpr ⟨w, hw, rfl⟩
  rw [h] at h1
  obtain ⟨j, -, hj⟩ := List.mem_map.mp h1
  exact z_of1 (List.mem_of_getElem? hj)
set_option maxRecDepth 100000 in
theorem z_lay2 : ∀ w ∈ u_ws "DustYards$Carts" (z_T z_F2) 11, w ∈ lw_tbl := by
  have h : (u_ws "DustYards$Carts" (z_T z_F2) 11).map some = ([57, 59, 61, 63, 65, 67, 69, 71, 73, 75, 77] : List Nat).map fun i => tables_1[i]? := by decide +kernel
  intro w hw
  have h1 : some w ∈ (u_ws "DustYards$Carts" (z_T z_F2) 11).map some := List.mem_map.mpr ⟨w, hw, rfl⟩
  rw [h] at h1
  obtain ⟨j, -, hj⟩ := List.mem_map.mp h1
  exact z_of1 (List.mem_of_getElem? hj)
set_option maxRecDepth 100000 in
theorem z_lay3 : ∀ w ∈ u_ws "DustYards$Contracts" (z_T z_F3) 6, w ∈ lw_tbl := by
  have h : (u_ws "DustYards$Contracts" (z_T z_F3) 6).map some = ([165, 167, 169, 171, 173, 175] : List Nat).map fun i => tables_1[i]? := by decide +kernel
  intro w hw
  have h1 : some w ∈ (u_ws "DustYards$Contracts" (z_T z_F3) 6).map some := List.mem_map.mpr ⟨w, hw, rfl⟩
  rw [h] at h1
  obtain ⟨j, -, hj⟩ := List.mem_map.mp h1
  exact z_of1 (List.mem_of_getElem? hj)
set_option maxRecDepth 100000 in
theorem z_lay4 : ∀ w ∈ u_ws "DustYards$Doors" (z_T z_F4) 10, w ∈ lw_tbl := by
  have h : (u_ws "DustYards$Doors" (z_T z_F4) 10).map some = ([221, 223, 225, 227, 229, 231, 233, 235, 237, 239] : List Nat).map fun i => tables_1[i]? := by decide +kernel
  intro w hw
  have h1 : some w ∈ (u_ws "DustYards$Doors" (z_T z_F4) 10).map some := List.mem_map.mpr ⟨w, hw, rfl⟩
  rw [h] at h1
  obtain ⟨j, -, hj⟩ := List.mem_map.mp h1
  exact z_of1 (List.mem_of_getElem? hj)
set_option maxRecDepth 100000 in
theorem z_lay5 : ∀ w ∈ u_ws "DustYards$Finds" (z_T z_F5) 4, w ∈ lw_tbl := by
  have h : (u_ws "DustYards$Finds" (z_T z_F5) 4).map some = ([192, 194, 196, 198] : List Nat).map fun i => tables_1[i]? := by decide +kernel
  intro w hw
  have h1 : some w ∈ (u_ws "DustYards$Finds" (z_T z_F5) 4).map some := List.mem_map.mpr ⟨w, hw, rfl⟩
  rw [h] at h1
  obtain ⟨j, -, hj⟩ := List.mem_map.mp h1
  exact z_of1 (List.mem_of_getElem? hj)
set_option maxRecDepth 100000 in
theorem z_lay6 : ∀ w ∈ u_ws "DustYards$Hands" (z_T z_F6) 6, w ∈ lw_tbl := by
  have h : (u_ws "DustYards$Hands" (z_T z_F6) 6).map some = ([256, 258, 260, 262, 264, 266] : List Nat).map fun i => tables_1[i]? := by decide +kernel
  intro w hw
  have h1 : some w ∈ (u_ws "DustYards$Hands" (z_T z_F6) 6).map some := List.mem_map.mpr ⟨w, hw, rfl⟩
  rw [h] at h1
  obtain ⟨j, -, hj⟩ := List.mem_map.mp h1
  exact z_of1 (List.mem_of_getElem? hj)
set_option maxRecDepth 100000 in
theorem z_lay7 : ∀ w ∈ u_ws "DustYards$Prices" (z_T z_F7) 5, w ∈ lw_tbl := by
  have h : (u_ws "DustYards$Prices" (z_T z_F7) 5).map some = ([94, 96, 98, 100, 102] : List Nat).map fun i => tables_1[i]? := by decide +kernel
  intro w hw
  have h1 : some w ∈ (u_ws "DustYards$Prices" (z_T z_F7) 5).map some := List.mem_map.mpr ⟨w, hw, rfl⟩
  rw [h] at h1
  obtain ⟨j, -, hj⟩ := List.mem_map.mp h1
  exact z_of1 (List.mem_of_getElem? hj)
set_option maxRecDepth 100000 in
theorem z_lay8 : ∀ w ∈ u_ws "DustYards$Sheet" (z_T z_F8) 3, w ∈ lw_tbl := by
  have h : (u_ws "DustYards$Sheet" (z_T z_F8) 3).map some = ([325, 327, 329] : List Nat).map fun i => tables_1[i]? := by decide +kernel
  intro w hw
  have h1 : some w ∈ (u_ws "DustYards$Sheet" (z_T z_F8) 3).map some := List.mem_map.mpr ⟨w, hw, rfl⟩
  rw [h] at h1
  obtain ⟨j, -, hj⟩ := List.mem_map.mp h1
  exact z_of1 (List.mem_of_getElem? hj)
set_option maxRecDepth 100000 in
theorem z_lay9 : ∀ w ∈ u_ws "DustYards$Tape" (z_T z_F9) 6, w ∈ lw_tbl := by
  have h : (u_ws "DustYards$Tape" (z_T z_F9) 6).map some = ([121, 123, 125, 127, 129, 131] : List Nat).map fun i => tables_1[i]? := by decide +kernel
  intro w hw
  have h1 : some w ∈ (u_ws "DustYards$Tape" (z_T z_F9) 6).map some := List.mem_map.mpr ⟨w, hw, rfl⟩
  rw [h] at h1
  obtain ⟨j, -, hj⟩ := List.mem_map.mp h1
  exact z_of1 (List.mem_of_getElem? hj)
set_option maxRecDepth 100000 in
theorem z_lay10 : ∀ w ∈ u_ws "DustYards$Text" (z_T z_F10) 3, w ∈ lw_tbl := by
  have h : (u_ws "DustYards$Text" (z_T z_F10) 3).map some = ([150, 152, 154] : List Nat).map fun i => tables_1[i]? := by decide +kernel
  intro w hw
  have h1 : some w ∈ (u_ws "DustYards$Text" (z_T z_F10) 3).map some := List.mem_map.mpr ⟨w, hw, rfl⟩
  rw [h] at h1
  obtain ⟨j, -, hj⟩ := List.mem_map.mp h1
  exact z_of1 (List.mem_of_getElem? hj)
set_option maxRecDepth 100000 in
theorem z_lay11 : ∀ w ∈ u_ws "DustYards" (z_T z_F11) 18, w ∈ lw_tbl := by
  have h : (u_ws "DustYards" (z_T z_F11) 18).map some = ([502, 504, 506, 508, 510, 512, 514, 516, 518, 520, 522, 524, 526, 528, 530, 532, 534, 536] : List Nat).map fun i => tables_1[i]? := by decide +kernel
  intro w hw
  have h1 : some w ∈ (u_ws "DustYards" (z_T z_F11) 18).map some := List.mem_map.mpr ⟨w, hw, rfl⟩
  rw [h] at h1
  obtain ⟨j, -, hj⟩ := List.mem_map.mp h1
  exact z_of1 (List.mem_of_getElem? hj)
set_option maxRecDepth 100000 in
theorem z_lay12 : ∀ w ∈ u_ws "DustYardsModel" (z_T z_F12) 81, w ∈ lw_tbl := by
  have h : (u_ws "DustYardsModel" (z_T z_F12) 81).map some = ([1179, 1181, 1183, 1185, 1187, 1189, 1191, 1193, 1195, 1197, 1199, 1201, 1203, 1205, 1207, 1209, 1211, 1213, 1215, 1217, 1219, 1221, 1223, 1225, 1227, 1229, 1231, 1233, 1235, 1237, 1239, 1241, 1243, 1245, 1247, 1249, 1251, 1253, 1255, 1257, 1259, 1261, 1263, 1265, 1267, 1269, 1271, 1273, 1275, 1277, 1279, 1281, 1283, 1285, 1287, 1289, 1291, 1293, 1295, 1297, 1299, 1301, 1303, 1305, 1307, 1309, 1311, 1313, 1315, 1317, 1319, 1321, 1323, 1325, 1327, 1329, 1331, 1333, 1335, 1337, 1339] : List Nat).map fun i => tables_1[i]? := by decide +kernel
  intro w hw
  have h1 : some w ∈ (u_ws "DustYardsModel" (z_T z_F12) 81).map some := List.mem_map.mpr ⟨w, hw, rfl⟩
  rw [h] at h1
  obtain ⟨j, -, hj⟩ := List.mem_map.mp h1
  exact z_of1 (List.mem_of_getElem? hj)
def z_okT (t : FieldType) : Bool := match t with
  | .object _ => true
  | .array _ => true
  | _ => false
def z_okC (ci : Nat) (q : vw_C) : Prop := (∀ w ∈ u_ws q.1 q.2.1 q.2.2, w ∈ z_tbl) ∧ (∀ a, a < q.2.2 → ∀ b, b < q.2.2 → a ≠ b → (q.2.1 a).2.1 ≠ (q.2.1 b).2.1) ∧ (∀ k, k < q.2.2 → parseFieldDescriptor (q.2.1 k).2.2.1 = some (z_fty ci k)) ∧ Cond.instantiable q.1 q.2.2 ∈ z_tbl ∧ Cond.initialized q.1 ∈ z_tbl ∧ (∀ k, k < q.2.2 → (q.2.1 k).1 = q.1) ∧ (z_df ci).length = q.2.2 ∧ (∀ k, k < q.2.2 → (z_fty ci k = .int ∧ (q.2.1 k).2.2.2 = false ∧ (z_df ci)[k]? = some none) ∨ (z_okT (z_fty ci k) = true ∧ (q.2.1 k).2.2.2 = true ∧ (z_df ci)[k]? = some (some none)))
set_option maxRecDepth 100000 in
theorem z_okC0 : z_okC 0 ("DustYards$Barges", z_T z_F0, 3) := ⟨fun w hw => z_in (z_lay0 w hw) (List.all_eq_true.mp (show (u_ws "DustYards$Barges" (z_T z_F0) 3).all goodWord = true by decide +kernel) w hw), by decide +kernel, by decide +kernel, z_in (z_s2 (List.mem_of_getElem? (i := 30) (by decide +kernel))) (by decide +kernel), z_in (z_s1 (List.mem_of_getElem? (i := 10) (by decide +kernel))) (by decide +kernel), by decide +kernel, by decide +kernel, by decide +kernel⟩
set_option maxRecDepth 100000 in
theorem z_okC1 : z_okC 1 ("DustYards$Buyers", z_T z_F1, 5) := ⟨fun w hw => z_in (z_lay1 w hw) (List.all_eq_true.mp (show (u_ws "DustYards$Buyers" (z_T z_F1) 5).all goodWord = true by decide +kernel) w hw), by decide +kernel, by decide +kernel, z_in (z_s2 (List.mem_of_getElem? (i := 48) (by decide +kernel))) (by decide +kernel), z_in (z_s1 (List.mem_of_getElem? (i := 11) (by decide +kernel))) (by decide +kernel), by decide +kernel, by decide +kernel, by decide +kernel⟩
set_option maxRecDepth 100000 in
theorem z_okC2 : z_okC 2 ("DustYards$Carts", z_T z_F2, 11) := ⟨fun w hw => z_in (z_lay2 w hw) (List.all_eq_true.mp (show (u_ws "DustYards$Carts" (z_T z_F2) 11).all goodWord = true by decide +kernel) w hw), by decide +kernel, by decide +kernel, z_in (z_s1 (List.mem_of_getElem? (i := 31) (by decide +kernel))) (by decide +kernel), z_in (z_s1 (List.mem_of_getElem? (i := 2) (by decide +kernel))) (by decide +kernel), by decide +kernel, by decide +kernel, by decide +kernel⟩
set_option maxRecDepth 100000 in
theorem z_okC3 : z_okC 3 ("DustYards$Contracts", z_T z_F3, 6) := ⟨fun w hw => z_in (z_lay3 w hw) (List.all_eq_true.mp (show (u_ws "DustYards$Contracts" (z_T z_F3) 6).all goodWord = true by decide +kernel) w hw), by decide +kernel, by decide +kernel, z_in (z_s1 (List.mem_of_getElem? (i := 135) (by decide +kernel))) (by decide +kernel), z_in (z_s1 (List.mem_of_getElem? (i := 5) (by decide +kernel))) (by decide +kernel), by decide +kernel, by decide +kernel, by decide +kernel⟩
set_option maxRecDepth 100000 in
theorem z_okC4 : z_okC 4 ("DustYards$Doors", z_T z_F4, 10) := ⟨fun w hw => z_in (z_lay4 w hw) (List.all_eq_true.mp (show (u_ws "DustYards$Doors" (z_T z_F4) 10).all goodWord = true by decide +kernel) w hw), by decide +kernel, by decide +kernel, z_in (z_s1 (List.mem_of_getElem? (i := 202) (by decide +kernel))) (by decide +kernel), z_in (z_s1 (List.mem_of_getElem? (i := 8) (by decide +kernel))) (by decide +kernel), by decide +kernel, by decide +kernel, by decide +kernel⟩
set_option maxRecDepth 100000 in
theorem z_okC5 : z_okC 5 ("DustYards$Finds", z_T z_F5, 4) := ⟨fun w hw => z_in (z_lay5 w hw) (List.all_eq_true.mp (show (u_ws "DustYards$Finds" (z_T z_F5) 4).all goodWord = true by decide +kernel) w hw), by decide +kernel, by decide +kernel, z_in (z_s1 (List.mem_of_getElem? (i := 179) (by decide +kernel))) (by decide +kernel), z_in (z_s1 (List.mem_of_getElem? (i := 7) (by decide +kernel))) (by decide +kernel), by decide +kernel, by decide +kernel, by decide +kernel⟩
set_option maxRecDepth 100000 in
theorem z_okC6 : z_okC 6 ("DustYards$Hands", z_T z_F6, 6) := ⟨fun w hw => z_in (z_lay6 w hw) (List.all_eq_true.mp (show (u_ws "DustYards$Hands" (z_T z_F6) 6).all goodWord = true by decide +kernel) w hw), by decide +kernel, by decide +kernel, z_in (z_s2 (List.mem_of_getElem? (i := 3) (by decide +kernel))) (by decide +kernel), z_in (z_s1 (List.mem_of_getElem? (i := 9) (by decide +kernel))) (by decide +kernel), by decide +kernel, by decide +kernel, by decide +kernel⟩
set_option maxRecDepth 100000 in
theorem z_okC7 : z_okC 7 ("DustYards$Prices", z_T z_F7, 5) := ⟨fun w hw => z_in (z_lay7 w hw) (List.all_eq_true.mp (show (u_ws "DustYards$Prices" (z_T z_F7) 5).all goodWord = true by decide +kernel) w hw), by decide +kernel, by decide +kernel, z_in (z_s1 (List.mem_of_getElem? (i := 83) (by decide +kernel))) (by decide +kernel), z_in (z_s1 (List.mem_of_getElem? (i := 3) (by decide +kernel))) (by decide +kernel), by decide +kernel, by decide +kernel, by decide +kernel⟩
set_option maxRecDepth 100000 in
theorem z_okC8 : z_okC 8 ("DustYards$Sheet", z_T z_F8, 3) := ⟨fun w hw => z_in (z_lay8 w hw) (List.all_eq_true.mp (show (u_ws "DustYards$Sheet" (z_T z_F8) 3).all goodWord = true by decide +kernel) w hw), by decide +kernel, by decide +kernel, z_in (z_s2 (List.mem_of_getElem? (i := 74) (by decide +kernel))) (by decide +kernel), z_in (z_s1 (List.mem_of_getElem? (i := 12) (by decide +kernel))) (by decide +kernel), by decide +kernel, by decide +kernel, by decide +kernel⟩
set_option maxRecDepth 100000 in
theorem z_okC9 : z_okC 9 ("DustYards$Tape", z_T z_F9, 6) := ⟨fun w hw => z_in (z_lay9 w hw) (List.all_eq_true.mp (show (u_ws "DustYards$Tape" (z_T z_F9) 6).all goodWord = true by decide +kernel) w hw), by decide +kernel, by decide +kernel, z_in (z_s1 (List.mem_of_getElem? (i := 106) (by decide +kernel))) (by decide +kernel), z_in (z_s1 (List.mem_of_getElem? (i := 4) (by decide +kernel))) (by decide +kernel), by decide +kernel, by decide +kernel, by decide +kernel⟩
set_option maxRecDepth 100000 in
theorem z_okC10 : z_okC 10 ("DustYards$Text", z_T z_F10, 3) := ⟨fun w hw => z_in (z_lay10 w hw) (List.all_eq_true.mp (show (u_ws "DustYards$Text" (z_T z_F10) 3).all goodWord = true by decide +kernel) w hw), by decide +kernel, by decide +kernel, z_in (z_s1 (List.mem_of_getElem? (i := 142) (by decide +kernel))) (by decide +kernel), z_in (z_s1 (List.mem_of_getElem? (i := 6) (by decide +kernel))) (by decide +kernel), by decide +kernel, by decide +kernel, by decide +kernel⟩
set_option maxRecDepth 100000 in
theorem z_okC11 : z_okC 11 ("DustYards", z_T z_F11, 18) := ⟨fun w hw => z_in (z_lay11 w hw) (List.all_eq_true.mp (show (u_ws "DustYards" (z_T z_F11) 18).all goodWord = true by decide +kernel) w hw), by decide +kernel, by decide +kernel, z_in (z_s1 (List.mem_of_getElem? (i := 23) (by decide +kernel))) (by decide +kernel), z_in (z_s1 (List.mem_of_getElem? (i := 1) (by decide +kernel))) (by decide +kernel), by decide +kernel, by decide +kernel, by decide +kernel⟩
set_option maxRecDepth 100000 in
theorem z_okC12 : z_okC 12 ("DustYardsModel", z_T z_F12, 81) := ⟨fun w hw => z_in (z_lay12 w hw) (List.all_eq_true.mp (show (u_ws "DustYardsModel" (z_T z_F12) 81).all goodWord = true by decide +kernel) w hw), by decide +kernel, by decide +kernel, z_in (z_s5 (List.mem_of_getElem? (i := 3) (by decide +kernel))) (by decide +kernel), z_in (z_s1 (List.mem_of_getElem? (i := 17) (by decide +kernel))) (by decide +kernel), by decide +kernel, by decide +kernel, by decide +kernel⟩
theorem z_cls_ok {ci : Nat} {q : vw_C} (h : z_cls[ci]? = some q) : z_okC ci q := by
  match ci, h with
  | 0, h => cases h; exact z_okC0
  | 1, h => cases h; exact z_okC1
  | 2, h => cases h; exact z_okC2
  | 3, h => cases h; exact z_okC3
  | 4, h => cases h; exact z_okC4
  | 5, h => cases h; exact z_okC5
  | 6, h => cases h; exact z_okC6
  | 7, h => cases h; exact z_okC7
  | 8, h => cases h; exact z_okC8
  | 9, h => cases h; exact z_okC9
  | 10, h => cases h; exact z_okC10
  | 11, h => cases h; exact z_okC11
  | 12, h => cases h; exact z_okC12
  | k + 13, h => simp [z_cls] at h
theorem z_nm {ci : Nat} {q : vw_C} (h : z_cls[ci]? = some q) : q.1 = z_ow ci := by
  match ci, h with
  | 0, h => cases h; rfl
  | 1, h => cases h; rfl
  | 2, h => cases h; rfl
  | 3, h => cases h; rfl
  | 4, h => cases h; rfl
  | 5, h => cases h; rfl
  | 6, h => cases h; rfl
  | 7, h => cases h; rfl
  | 8, h => cases h; rfl
  | 9, h => cases h; rfl
  | 10, h => cases h; rfl
  | 11, h => cases h; rfl
  | 12, h => cases h; rfl
  | k + 13, h => simp [z_cls] at h
