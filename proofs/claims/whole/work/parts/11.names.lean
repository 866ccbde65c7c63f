def pC0 : u_T := fun k => match k with
  | 0 => ("RankFord$Days", "words", "[J", true)
  | _ => ("RankFord$Days", "choices", "[I", true)
def pC1 : u_T := fun k => match k with
  | 0 => ("RankFord$FordReader", "world", "LRankFord$World;", true)
  | 1 => ("RankFord$FordReader", "numbers", "[I", true)
  | _ => ("RankFord$FordReader", "fault", "I", false)
def pC2 : u_T := fun k => match k with
  | 0 => ("RankFord$Guess", "world", "LRankFord$World;", true)
  | 1 => ("RankFord$Guess", "days", "LRankFord$Days;", true)
  | 2 => ("RankFord$Guess", "across", "[[I", true)
  | 3 => ("RankFord$Guess", "fits", "[Z", true)
  | _ => ("RankFord$Guess", "kinds", "I", false)
def pC3 : u_T := fun k => match k with
  | 0 => ("RankFord$History", "kept", "[LRankFord$World;", true)
  | 1 => ("RankFord$History", "next", "I", false)
  | _ => ("RankFord$History", "count", "I", false)
def pC4 : u_T := fun k => match k with
  | 0 => ("RankFord$Plans", "mostGoing", "I", false)
  | 1 => ("RankFord$Plans", "leastCoins", "I", false)
  | 2 => ("RankFord$Plans", "bestWith", "[I", true)
  | 3 => ("RankFord$Plans", "with", "[I", true)
  | 4 => ("RankFord$Plans", "goers", "[I", true)
  | 5 => ("RankFord$Plans", "partners", "[I", true)
  | 6 => ("RankFord$Plans", "goingCount", "I", false)
  | 7 => ("RankFord$Plans", "far", "[I", true)
  | _ => ("RankFord$Plans", "queue", "[I", true)
def pC5 : u_T := fun k => match k with
  | 0 => ("RankFord$Rule", "code", "[I", true)
  | 1 => ("RankFord$Rule", "stack", "[J", true)
  | _ => ("RankFord$Rule", "looksAtDay", "Z", true)
def pC6 : u_T := fun k => match k with
  | 0 => ("RankFord$RuleReader", "code", "[I", true)
  | 1 => ("RankFord$RuleReader", "length", "I", false)
  | 2 => ("RankFord$RuleReader", "waiting", "[I", true)
  | 3 => ("RankFord$RuleReader", "waits", "I", false)
  | 4 => ("RankFord$RuleReader", "state", "I", false)
  | 5 => ("RankFord$RuleReader", "sum", "I", false)
  | 6 => ("RankFord$RuleReader", "clauses", "I", false)
  | 7 => ("RankFord$RuleReader", "nested", "I", false)
  | 8 => ("RankFord$RuleReader", "brackets", "I", false)
  | 9 => ("RankFord$RuleReader", "pieces", "I", false)
  | _ => ("RankFord$RuleReader", "fault", "I", false)
def pC7 : u_T := fun k => match k with
  | 0 => ("RankFord$Scene", "made", "Z", false)
  | 1 => ("RankFord$Scene", "begin", "LRankFord$World;", true)
  | 2 => ("RankFord$Scene", "now", "LRankFord$World;", true)
  | 3 => ("RankFord$Scene", "noteDays", "[I", true)
  | 4 => ("RankFord$Scene", "notePeople", "[I", true)
  | 5 => ("RankFord$Scene", "noteSides", "[I", true)
  | 6 => ("RankFord$Scene", "noteCount", "I", false)
  | 7 => ("RankFord$Scene", "x", "I", false)
  | _ => ("RankFord$Scene", "forced", "I", false)
def pC8 : u_T := fun k => match k with
  | 0 => ("RankFord$Tape", "bytes", "[B", true)
  | 1 => ("RankFord$Tape", "length", "I", false)
  | 2 => ("RankFord$Tape", "kind", "I", false)
  | 3 => ("RankFord$Tape", "number", "I", false)
  | 4 => ("RankFord$Tape", "at", "I", false)
  | _ => ("RankFord$Tape", "after", "I", false)
def pC9 : u_T := fun k => match k with
  | 0 => ("RankFord$Trials", "bestPerson", "I", false)
  | 1 => ("RankFord$Trials", "bestNumber", "I", false)
  | 2 => ("RankFord$Trials", "bestCount", "I", false)
  | 3 => ("RankFord$Trials", "coins", "I", false)
  | 4 => ("RankFord$Trials", "x", "I", false)
  | 5 => ("RankFord$Trials", "world", "LRankFord$World;", true)
  | 6 => ("RankFord$Trials", "days", "LRankFord$Days;", true)
  | 7 => ("RankFord$Trials", "firstPurses", "[I", true)
  | _ => ("RankFord$Trials", "secondPurses", "[I", true)
def pC10 : u_T := fun k => match k with
  | 0 => ("RankFord$World", "told", "Z", false)
  | 1 => ("RankFord$World", "deep", "I", false)
  | 2 => ("RankFord$World", "pride", "I", false)
  | 3 => ("RankFord$World", "people", "I", false)
  | 4 => ("RankFord$World", "date", "I", false)
  | 5 => ("RankFord$World", "across", "I", false)
  | _ => ("RankFord$World", "traits", "[I", true)
def pC11 : u_T := fun k => match k with
  | 0 => ("RankFord", "tape", "LRankFord$Tape;", true)
  | 1 => ("RankFord", "fordReader", "LRankFord$FordReader;", true)
  | 2 => ("RankFord", "ruleReader", "LRankFord$RuleReader;", true)
  | 3 => ("RankFord", "rules", "[LRankFord$Rule;", true)
  | 4 => ("RankFord", "ruleCount", "I", false)
  | 5 => ("RankFord", "scene", "LRankFord$Scene;", true)
  | 6 => ("RankFord", "images", "[LRankFord$Scene;", true)
  | 7 => ("RankFord", "history", "LRankFord$History;", true)
  | 8 => ("RankFord", "days", "LRankFord$Days;", true)
  | 9 => ("RankFord", "plans", "LRankFord$Plans;", true)
  | 10 => ("RankFord", "trials", "LRankFord$Trials;", true)
  | _ => ("RankFord", "guess", "LRankFord$Guess;", true)
def pC12 : u_T := fun k => match k with
  | 0 => ("RankFordModel", "tape", "[B", true)
  | 1 => ("RankFordModel", "taped", "I", false)
  | 2 => ("RankFordModel", "rules", "I", false)
  | 3 => ("RankFordModel", "sign", "[I", true)
  | 4 => ("RankFordModel", "length", "[I", true)
  | 5 => ("RankFordModel", "clause", "[I", true)
  | 6 => ("RankFordModel", "clauses", "[I", true)
  | 7 => ("RankFordModel", "read", "[I", true)
  | 8 => ("RankFordModel", "next", "I", false)
  | 9 => ("RankFordModel", "wrong", "I", false)
  | 10 => ("RankFordModel", "number", "I", false)
  | 11 => ("RankFordModel", "text", "I", false)
  | 12 => ("RankFordModel", "made", "I", false)
  | 13 => ("RankFordModel", "deep", "I", false)
  | 14 => ("RankFordModel", "lines", "I", false)
  | 15 => ("RankFordModel", "open", "[I", true)
  | 16 => ("RankFordModel", "opened", "I", false)
  | 17 => ("RankFordModel", "stack", "[J", true)
  | 18 => ("RankFordModel", "top", "I", false)
  | 19 => ("RankFordModel", "word", "[J", true)
  | 20 => ("RankFordModel", "said", "[I", true)
  | 21 => ("RankFordModel", "force", "I", false)
  | 22 => ("RankFordModel", "x", "I", false)
  | 23 => ("RankFordModel", "chosen", "[I", true)
  | 24 => ("RankFordModel", "wasSaid", "[I", true)
  | 25 => ("RankFordModel", "undone", "I", false)
  | 26 => ("RankFordModel", "kept", "[I", true)
  | 27 => ("RankFordModel", "withNow", "[I", true)
  | 28 => ("RankFordModel", "withBest", "[I", true)
  | 29 => ("RankFordModel", "tried", "[I", true)
  | 30 => ("RankFordModel", "bestMany", "I", false)
  | 31 => ("RankFordModel", "bestCoins", "I", false)
  | 32 => ("RankFordModel", "chooses", "[Z", true)
  | 33 => ("RankFordModel", "needs", "[I", true)
  | 34 => ("RankFordModel", "ringRow", "[I", true)
  | 35 => ("RankFordModel", "hasBy", "[I", true)
  | 36 => ("RankFordModel", "isFit", "[Z", true)
  | 37 => ("RankFordModel", "overBy", "[I", true)
  | 38 => ("RankFordModel", "drawX", "J", false)
  | 39 => ("RankFordModel", "images", "[I", true)
  | 40 => ("RankFordModel", "imageForce", "[I", true)
  | 41 => ("RankFordModel", "imageX", "[I", true)
  | _ => ("RankFordModel", "isMade", "[Z", true)
def pcl : List vw_C := [("RankFord$Days", pC0, 2), ("RankFord$FordReader", pC1, 3), ("RankFord$Guess", pC2, 5), ("RankFord$History", pC3, 3), ("RankFord$Plans", pC4, 9), ("RankFord$Rule", pC5, 3), ("RankFord$RuleReader", pC6, 11), ("RankFord$Scene", pC7, 9), ("RankFord$Tape", pC8, 6), ("RankFord$Trials", pC9, 9), ("RankFord$World", pC10, 7), ("RankFord", pC11, 12), ("RankFordModel", pC12, 43)]
def pfl : List (List FieldType) := [[.array .long, .array .int], [.object "RankFord$World", .array .int, .int], [.object "RankFord$World", .object "RankFord$Days", .array (.array .int), .array .boolean, .int], [.array (.object "RankFord$World"), .int, .int], [.int, .int, .array .int, .array .int, .array .int, .array .int, .int, .array .int, .array .int], [.array .int, .array .long, .boolean], [.array .int, .int, .array .int, .int, .int, .int, .int, .int, .int, .int, .int], [.boolean, .object "RankFord$World", .object "RankFord$World", .array .int, .array .int, .array .int, .int, .int, .int], [.array .byte, .int, .int, .int, .int, .int], [.int, .int, .int, .int, .int, .object "RankFord$World", .object "RankFord$Days", .array .int, .array .int], [.boolean, .int, .int, .int, .int, .int, .array .int], [.object "RankFord$Tape", .object "RankFord$FordReader", .object "RankFord$RuleReader", .array (.object "RankFord$Rule"), .int, .object "RankFord$Scene", .array (.object "RankFord$Scene"), .object "RankFord$History", .object "RankFord$Days", .object "RankFord$Plans", .object "RankFord$Trials", .object "RankFord$Guess"], [.array .byte, .int, .int, .array .int, .array .int, .array .int, .array .int, .array .int, .int, .int, .int, .int, .int, .int, .int, .array .int, .int, .array .long, .int, .array .long, .array .int, .int, .int, .array .int, .array .int, .int, .array .int, .array .int, .array .int, .array .int, .int, .int, .array .boolean, .array .int, .array .int, .array .int, .array .boolean, .array .int, .long, .array .int, .array .int, .array .int, .array .boolean]]
def pft : Nat → Nat → FieldType := fun c k => (pfl.getD c []).getD k .int
def pnf : Nat → Nat := fun c => [2, 3, 5, 3, 9, 3, 11, 9, 6, 9, 7, 12, 43].getD c 0
def pcn : Nat → String := fun c => ["RankFord$Days", "RankFord$FordReader", "RankFord$Guess", "RankFord$History", "RankFord$Plans", "RankFord$Rule", "RankFord$RuleReader", "RankFord$Scene", "RankFord$Tape", "RankFord$Trials", "RankFord$World", "RankFord", "RankFordModel"].getD c ""
def ptys : List FieldType := [.int, .byte, .long, .boolean, .array .int, .object "RankFord$Rule", .object "RankFord$Scene", .object "RankFord$World"]
def xwd (q : Nat) : Option Cond := match q / 1000 with
  | 0 => (k2_sels lw_privs)[q % 1000]?
  | 1 => tables_1_1[q % 1000]?
  | 2 => tables_1_2[q % 1000]?
  | 3 => tables_1_3[q % 1000]?
  | 4 => tables_1_4[q % 1000]?
  | 5 => tables_1_5[q % 1000]?
  | 6 => tables_1_6[q % 1000]?
  | 7 => tables_1_7[q % 1000]?
  | 8 => tables_1_8[q % 1000]?
  | _ => none
def pT : List Cond := lw_tbl.filter goodWord
theorem pT_good : ∀ w ∈ pT, goodWord w = true := fun w h => (List.mem_filter.mp h).2
theorem xwd_mem {q : Nat} {w : Cond} (h : xwd q = some w) (hg : goodWord w = true) : w ∈ pT := by
  refine List.mem_filter.mpr ⟨?_, hg⟩
  unfold xwd at h
  have key : ∀ {L : List Cond} {i : Nat}, L[i]? = some w → w ∈ L := fun h => List.mem_of_getElem? h
  unfold lw_tbl tables_1
  simp only [List.mem_append]
  split at h
  · exact Or.inl (key h)
  · exact Or.inr (Or.inl (key h))
  · exact Or.inr (Or.inr (Or.inl (key h)))
  · exact Or.inr (Or.inr (Or.inr (Or.inl (key h))))
  · exact Or.inr (Or.inr (Or.inr (Or.inr (Or.inl (key h)))))
  · exact Or.inr (Or.inr (Or.inr (Or.inr (Or.inr (Or.inl (key h))))))
  · exact Or.inr (Or.inr (Or.inr (Or.inr (Or.inr (Or.inr (Or.inl (key h)))))))
  · exact Or.inr (Or.inr (Or.inr (Or.inr (Or.inr (Or.inr (Or.inr (Or.inl (key h))))))))
  · exact Or.inr (Or.inr (Or.inr (Or.inr (Or.inr (Or.inr (Or.inr (Or.inr (key h))))))))
  · cases h
theorem xwds (ws : List Cond) (ps : List Nat) (h : ws.map some = ps.map xwd) (hg : ws.all goodWord = true) : ∀ w ∈ ws, w ∈ pT := by
  intro w hw
  have h1 : some w ∈ ps.map xwd := by rw [← h]; exact List.mem_map.mpr ⟨w, hw, rfl⟩
  obtain ⟨q, -, hq⟩ := List.mem_map.mp h1
  exact xwd_mem hq (List.all_eq_true.mp hg w hw)
theorem pcw0 : ∀ w ∈ u_ws "RankFord$Days" pC0 2, w ∈ pT := xwds _ [2002, 2004] (by decide +kernel) (by decide +kernel)
theorem pci0 : Cond.instantiable "RankFord$Days" 2 ∈ pT := xwd_mem (q := 1234) (by decide +kernel) rfl
theorem pcz0 : Cond.initialized "RankFord$Days" ∈ pT := xwd_mem (q := 1008) (by decide +kernel) rfl
theorem pcp0 : ∀ k, k < 2 → parseFieldDescriptor (pC0 k).2.2.1 = some (pft 0 k) := by decide +kernel
theorem pcn0 : ∀ a, a < 2 → ∀ b, b < 2 → a ≠ b → (pC0 a).2.1 ≠ (pC0 b).2.1 := by decide +kernel
theorem pcd0 : ∀ k, k < 2 → (pC0 k).1 = "RankFord$Days" := by decide +kernel
theorem pck0 : ∀ k, k < 2 → (pft 0 k = .int ∨ pft 0 k = .boolean ∨ pft 0 k = .byte) ∨ pft 0 k = .long ∨ (xtR (pft 0 k) = true) := by decide +kernel
theorem pcw1 : ∀ w ∈ u_ws "RankFord$FordReader" pC1 3, w ∈ pT := xwds _ [1117, 1119, 1121] (by decide +kernel) (by decide +kernel)
theorem pci1 : Cond.instantiable "RankFord$FordReader" 3 ∈ pT := xwd_mem (q := 1062) (by decide +kernel) rfl
theorem pcz1 : Cond.initialized "RankFord$FordReader" ∈ pT := xwd_mem (q := 1003) (by decide +kernel) rfl
theorem pcp1 : ∀ k, k < 3 → parseFieldDescriptor (pC1 k).2.2.1 = some (pft 1 k) := by decide +kernel
theorem pcn1 : ∀ a, a < 3 → ∀ b, b < 3 → a ≠ b → (pC1 a).2.1 ≠ (pC1 b).2.1 := by decide +kernel
theorem pcd1 : ∀ k, k < 3 → (pC1 k).1 = "RankFord$FordReader" := by decide +kernel
theorem pck1 : ∀ k, k < 3 → (pft 1 k = .int ∨ pft 1 k = .boolean ∨ pft 1 k = .byte) ∨ pft 1 k = .long ∨ (xtR (pft 1 k) = true) := by decide +kernel
theorem pcw2 : ∀ w ∈ u_ws "RankFord$Guess" pC2 5, w ∈ pT := xwds _ [2105, 2107, 2109, 2111, 2113] (by decide +kernel) (by decide +kernel)
theorem pci2 : Cond.instantiable "RankFord$Guess" 5 ∈ pT := xwd_mem (q := 2089) (by decide +kernel) rfl
theorem pcz2 : Cond.initialized "RankFord$Guess" ∈ pT := xwd_mem (q := 1011) (by decide +kernel) rfl
theorem pcp2 : ∀ k, k < 5 → parseFieldDescriptor (pC2 k).2.2.1 = some (pft 2 k) := by decide +kernel
theorem pcn2 : ∀ a, a < 5 → ∀ b, b < 5 → a ≠ b → (pC2 a).2.1 ≠ (pC2 b).2.1 := by decide +kernel
theorem pcd2 : ∀ k, k < 5 → (pC2 k).1 = "RankFord$Guess" := by decide +kernel
theorem pck2 : ∀ k, k < 5 → (pft 2 k = .int ∨ pft 2 k = .boolean ∨ pft 2 k = .byte) ∨ pft 2 k = .long ∨ (xtR (pft 2 k) = true) := by decide +kernel
theorem pcw3 : ∀ w ∈ u_ws "RankFord$History" pC3 3, w ∈ pT := xwds _ [1226, 1228, 1230] (by decide +kernel) (by decide +kernel)
theorem pci3 : Cond.instantiable "RankFord$History" 3 ∈ pT := xwd_mem (q := 1214) (by decide +kernel) rfl
theorem pcz3 : Cond.initialized "RankFord$History" ∈ pT := xwd_mem (q := 1007) (by decide +kernel) rfl
theorem pcp3 : ∀ k, k < 3 → parseFieldDescriptor (pC3 k).2.2.1 = some (pft 3 k) := by decide +kernel
theorem pcn3 : ∀ a, a < 3 → ∀ b, b < 3 → a ≠ b → (pC3 a).2.1 ≠ (pC3 b).2.1 := by decide +kernel
theorem pcd3 : ∀ k, k < 3 → (pC3 k).1 = "RankFord$History" := by decide +kernel
theorem pck3 : ∀ k, k < 3 → (pft 3 k = .int ∨ pft 3 k = .boolean ∨ pft 3 k = .byte) ∨ pft 3 k = .long ∨ (xtR (pft 3 k) = true) := by decide +kernel
theorem pcw4 : ∀ w ∈ u_ws "RankFord$Plans" pC4 9, w ∈ pT := xwds _ [2026, 2028, 2030, 2032, 2034, 2036, 2038, 2040, 2042] (by decide +kernel) (by decide +kernel)
theorem pci4 : Cond.instantiable "RankFord$Plans" 9 ∈ pT := xwd_mem (q := 2009) (by decide +kernel) rfl
theorem pcz4 : Cond.initialized "RankFord$Plans" ∈ pT := xwd_mem (q := 1009) (by decide +kernel) rfl
theorem pcp4 : ∀ k, k < 9 → parseFieldDescriptor (pC4 k).2.2.1 = some (pft 4 k) := by decide +kernel
theorem pcn4 : ∀ a, a < 9 → ∀ b, b < 9 → a ≠ b → (pC4 a).2.1 ≠ (pC4 b).2.1 := by decide +kernel
theorem pcd4 : ∀ k, k < 9 → (pC4 k).1 = "RankFord$Plans" := by decide +kernel
theorem pck4 : ∀ k, k < 9 → (pft 4 k = .int ∨ pft 4 k = .boolean ∨ pft 4 k = .byte) ∨ pft 4 k = .long ∨ (xtR (pft 4 k) = true) := by decide +kernel
theorem pcw5 : ∀ w ∈ u_ws "RankFord$Rule" pC5 3, w ∈ pT := xwds _ [3178, 3180, 3182] (by decide +kernel) (by decide +kernel)
theorem pci5 : Cond.instantiable "RankFord$Rule" 3 ∈ pT := xwd_mem (q := 3155) (by decide +kernel) rfl
theorem pcz5 : Cond.initialized "RankFord$Rule" ∈ pT := xwd_mem (q := 1018) (by decide +kernel) rfl
theorem pcp5 : ∀ k, k < 3 → parseFieldDescriptor (pC5 k).2.2.1 = some (pft 5 k) := by decide +kernel
theorem pcn5 : ∀ a, a < 3 → ∀ b, b < 3 → a ≠ b → (pC5 a).2.1 ≠ (pC5 b).2.1 := by decide +kernel
theorem pcd5 : ∀ k, k < 3 → (pC5 k).1 = "RankFord$Rule" := by decide +kernel
theorem pck5 : ∀ k, k < 3 → (pft 5 k = .int ∨ pft 5 k = .boolean ∨ pft 5 k = .byte) ∨ pft 5 k = .long ∨ (xtR (pft 5 k) = true) := by decide +kernel
theorem pcw6 : ∀ w ∈ u_ws "RankFord$RuleReader" pC6 11, w ∈ pT := xwds _ [1141, 1143, 1145, 1147, 1149, 1151, 1153, 1155, 1157, 1159, 1161] (by decide +kernel) (by decide +kernel)
theorem pci6 : Cond.instantiable "RankFord$RuleReader" 11 ∈ pT := xwd_mem (q := 1125) (by decide +kernel) rfl
theorem pcz6 : Cond.initialized "RankFord$RuleReader" ∈ pT := xwd_mem (q := 1005) (by decide +kernel) rfl
theorem pcp6 : ∀ k, k < 11 → parseFieldDescriptor (pC6 k).2.2.1 = some (pft 6 k) := by decide +kernel
theorem pcn6 : ∀ a, a < 11 → ∀ b, b < 11 → a ≠ b → (pC6 a).2.1 ≠ (pC6 b).2.1 := by decide +kernel
theorem pcd6 : ∀ k, k < 11 → (pC6 k).1 = "RankFord$RuleReader" := by decide +kernel
theorem pck6 : ∀ k, k < 11 → (pft 6 k = .int ∨ pft 6 k = .boolean ∨ pft 6 k = .byte) ∨ pft 6 k = .long ∨ (xtR (pft 6 k) = true) := by decide +kernel
theorem pcw7 : ∀ w ∈ u_ws "RankFord$Scene" pC7 9, w ∈ pT := xwds _ [1193, 1195, 1197, 1199, 1201, 1203, 1205, 1207, 1209] (by decide +kernel) (by decide +kernel)
theorem pci7 : Cond.instantiable "RankFord$Scene" 9 ∈ pT := xwd_mem (q := 1167) (by decide +kernel) rfl
theorem pcz7 : Cond.initialized "RankFord$Scene" ∈ pT := xwd_mem (q := 1006) (by decide +kernel) rfl
theorem pcp7 : ∀ k, k < 9 → parseFieldDescriptor (pC7 k).2.2.1 = some (pft 7 k) := by decide +kernel
theorem pcn7 : ∀ a, a < 9 → ∀ b, b < 9 → a ≠ b → (pC7 a).2.1 ≠ (pC7 b).2.1 := by decide +kernel
theorem pcd7 : ∀ k, k < 9 → (pC7 k).1 = "RankFord$Scene" := by decide +kernel
theorem pck7 : ∀ k, k < 9 → (pft 7 k = .int ∨ pft 7 k = .boolean ∨ pft 7 k = .byte) ∨ pft 7 k = .long ∨ (xtR (pft 7 k) = true) := by decide +kernel
theorem pcw8 : ∀ w ∈ u_ws "RankFord$Tape" pC8 6, w ∈ pT := xwds _ [1047, 1049, 1051, 1053, 1055, 1057] (by decide +kernel) (by decide +kernel)
theorem pci8 : Cond.instantiable "RankFord$Tape" 6 ∈ pT := xwd_mem (q := 1031) (by decide +kernel) rfl
theorem pcz8 : Cond.initialized "RankFord$Tape" ∈ pT := xwd_mem (q := 1002) (by decide +kernel) rfl
theorem pcp8 : ∀ k, k < 6 → parseFieldDescriptor (pC8 k).2.2.1 = some (pft 8 k) := by decide +kernel
theorem pcn8 : ∀ a, a < 6 → ∀ b, b < 6 → a ≠ b → (pC8 a).2.1 ≠ (pC8 b).2.1 := by decide +kernel
theorem pcd8 : ∀ k, k < 6 → (pC8 k).1 = "RankFord$Tape" := by decide +kernel
theorem pck8 : ∀ k, k < 6 → (pft 8 k = .int ∨ pft 8 k = .boolean ∨ pft 8 k = .byte) ∨ pft 8 k = .long ∨ (xtR (pft 8 k) = true) := by decide +kernel
theorem pcw9 : ∀ w ∈ u_ws "RankFord$Trials" pC9 9, w ∈ pT := xwds _ [2069, 2071, 2073, 2075, 2077, 2079, 2081, 2083, 2085] (by decide +kernel) (by decide +kernel)
theorem pci9 : Cond.instantiable "RankFord$Trials" 9 ∈ pT := xwd_mem (q := 2046) (by decide +kernel) rfl
theorem pcz9 : Cond.initialized "RankFord$Trials" ∈ pT := xwd_mem (q := 1010) (by decide +kernel) rfl
theorem pcp9 : ∀ k, k < 9 → parseFieldDescriptor (pC9 k).2.2.1 = some (pft 9 k) := by decide +kernel
theorem pcn9 : ∀ a, a < 9 → ∀ b, b < 9 → a ≠ b → (pC9 a).2.1 ≠ (pC9 b).2.1 := by decide +kernel
theorem pcd9 : ∀ k, k < 9 → (pC9 k).1 = "RankFord$Trials" := by decide +kernel
theorem pck9 : ∀ k, k < 9 → (pft 9 k = .int ∨ pft 9 k = .boolean ∨ pft 9 k = .byte) ∨ pft 9 k = .long ∨ (xtR (pft 9 k) = true) := by decide +kernel
theorem pcw10 : ∀ w ∈ u_ws "RankFord$World" pC10 7, w ∈ pT := xwds _ [1097, 1099, 1101, 1103, 1105, 1107, 1109] (by decide +kernel) (by decide +kernel)
theorem pci10 : Cond.instantiable "RankFord$World" 7 ∈ pT := xwd_mem (q := 1068) (by decide +kernel) rfl
theorem pcz10 : Cond.initialized "RankFord$World" ∈ pT := xwd_mem (q := 1004) (by decide +kernel) rfl
theorem pcp10 : ∀ k, k < 7 → parseFieldDescriptor (pC10 k).2.2.1 = some (pft 10 k) := by decide +kernel
theorem pcn10 : ∀ a, a < 7 → ∀ b, b < 7 → a ≠ b → (pC10 a).2.1 ≠ (pC10 b).2.1 := by decide +kernel
theorem pcd10 : ∀ k, k < 7 → (pC10 k).1 = "RankFord$World" := by decide +kernel
theorem pck10 : ∀ k, k < 7 → (pft 10 k = .int ∨ pft 10 k = .boolean ∨ pft 10 k = .byte) ∨ pft 10 k = .long ∨ (xtR (pft 10 k) = true) := by decide +kernel
theorem pcw11 : ∀ w ∈ u_ws "RankFord" pC11 12, w ∈ pT := xwds _ [2129, 2131, 2133, 2135, 2137, 2139, 2141, 2143, 2145, 2147, 2149, 2151] (by decide +kernel) (by decide +kernel)
theorem pci11 : Cond.instantiable "RankFord" 12 ∈ pT := xwd_mem (q := 1023) (by decide +kernel) rfl
theorem pcz11 : Cond.initialized "RankFord" ∈ pT := xwd_mem (q := 1001) (by decide +kernel) rfl
theorem pcp11 : ∀ k, k < 12 → parseFieldDescriptor (pC11 k).2.2.1 = some (pft 11 k) := by decide +kernel
theorem pcn11 : ∀ a, a < 12 → ∀ b, b < 12 → a ≠ b → (pC11 a).2.1 ≠ (pC11 b).2.1 := by decide +kernel
theorem pcd11 : ∀ k, k < 12 → (pC11 k).1 = "RankFord" := by decide +kernel
theorem pck11 : ∀ k, k < 12 → (pft 11 k = .int ∨ pft 11 k = .boolean ∨ pft 11 k = .byte) ∨ pft 11 k = .long ∨ (xtR (pft 11 k) = true) := by decide +kernel
theorem pcw12 : ∀ w ∈ u_ws "RankFordModel" pC12 43, w ∈ pT := xwds _ [5208, 5210, 5212, 5214, 5216, 5218, 5220, 5222, 5224, 5226, 5228, 5230, 5232, 5234, 5236, 5238, 6000, 6002, 6004, 6006, 6008, 6010, 6012, 6014, 6016, 6018, 6020, 6022, 6024, 6026, 6028, 6030, 6032, 6034, 6036, 6038, 6040, 6042, 6044, 6046, 6048, 6050, 6052] (by decide +kernel) (by decide +kernel)
theorem pci12 : Cond.instantiable "RankFordModel" 43 ∈ pT := xwd_mem (q := 5160) (by decide +kernel) rfl
theorem pcz12 : Cond.initialized "RankFordModel" ∈ pT := xwd_mem (q := 1012) (by decide +kernel) rfl
theorem pcp12 : ∀ k, k < 43 → parseFieldDescriptor (pC12 k).2.2.1 = some (pft 12 k) := by decide +kernel
theorem pcn12 : ∀ a, a < 43 → ∀ b, b < 43 → a ≠ b → (pC12 a).2.1 ≠ (pC12 b).2.1 := by decide +kernel
theorem pcd12 : ∀ k, k < 43 → (pC12 k).1 = "RankFordModel" := by decide +kernel
theorem pck12 : ∀ k, k < 43 → (pft 12 k = .int ∨ pft 12 k = .boolean ∨ pft 12 k = .byte) ∨ pft 12 k = .long ∨ (xtR (pft 12 k) = true) := by decide +kernel
