def RX0 : String := "WarpSearch$Comparison"
def RX1 : String := "WarpSearch$Nearest"
def RX2 : String := "WarpSearch"
def RX3 : String := "WarpSearchModel"
def RL : String := "WarpSearchLaw"
def RJ7 : String := "java/util/Arrays"
def TX0 : u_T := fun k => match k with
  | 0 => ("WarpSearch$Comparison", "question", "[I", true)
  | 1 => ("WarpSearch$Comparison", "row", "[I", true)
  | 2 => ("WarpSearch$Comparison", "costs", "[I", true)
  | 3 => ("WarpSearch$Comparison", "path", "[I", true)
  | 4 => ("WarpSearch$Comparison", "pathStart", "I", false)
  | 5 => ("WarpSearch$Comparison", "length", "I", false)
  | _ => ("WarpSearch$Comparison", "width", "I", false)
def tyX0 : Nat → FieldType := fun k => match k with
  | 0 => .array .int
  | 1 => .array .int
  | 2 => .array .int
  | 3 => .array .int
  | 4 => .int
  | 5 => .int
  | _ => .int
theorem nmX0 : ∀ a, a < 7 → ∀ b, b < 7 → a ≠ b → (TX0 a).2.1 ≠ (TX0 b).2.1 := by decide +kernel
theorem tyX0_ok : ∀ k, k < 7 → parseFieldDescriptor (TX0 k).2.2.1 = some (tyX0 k) := by decide +kernel
def TX1 : u_T := fun k => match k with
  | 0 => ("WarpSearch$Nearest", "places", "[I", true)
  | 1 => ("WarpSearch$Nearest", "distances", "[I", true)
  | 2 => ("WarpSearch$Nearest", "size", "I", false)
  | _ => ("WarpSearch$Nearest", "wanted", "I", false)
def tyX1 : Nat → FieldType := fun k => match k with
  | 0 => .array .int
  | 1 => .array .int
  | 2 => .int
  | _ => .int
theorem nmX1 : ∀ a, a < 4 → ∀ b, b < 4 → a ≠ b → (TX1 a).2.1 ≠ (TX1 b).2.1 := by decide +kernel
theorem tyX1_ok : ∀ k, k < 4 → parseFieldDescriptor (TX1 k).2.2.1 = some (tyX1 k) := by decide +kernel
def TX2 : u_T := fun k => match k with
  | 0 => ("WarpSearch", "length", "I", false)
  | 1 => ("WarpSearch", "width", "I", false)
  | 2 => ("WarpSearch", "question", "[I", true)
  | 3 => ("WarpSearch", "rows", "[I", true)
  | 4 => ("WarpSearch", "labels", "[I", true)
  | 5 => ("WarpSearch", "rowCount", "I", false)
  | 6 => ("WarpSearch", "stream", "[I", true)
  | 7 => ("WarpSearch", "streamCount", "I", false)
  | 8 => ("WarpSearch", "comparison", "LWarpSearch$Comparison;", true)
  | 9 => ("WarpSearch", "nearest", "LWarpSearch$Nearest;", true)
  | _ => ("WarpSearch", "counts", "[I", true)
def tyX2 : Nat → FieldType := fun k => match k with
  | 0 => .int
  | 1 => .int
  | 2 => .array .int
  | 3 => .array .int
  | 4 => .array .int
  | 5 => .int
  | 6 => .array .int
  | 7 => .int
  | 8 => .object "WarpSearch$Comparison"
  | 9 => .object "WarpSearch$Nearest"
  | _ => .array .int
theorem nmX2 : ∀ a, a < 11 → ∀ b, b < 11 → a ≠ b → (TX2 a).2.1 ≠ (TX2 b).2.1 := by decide +kernel
theorem tyX2_ok : ∀ k, k < 11 → parseFieldDescriptor (TX2 k).2.2.1 = some (tyX2 k) := by decide +kernel
def TX3 : u_T := fun k => match k with
  | 0 => ("WarpSearchModel", "code", "I", false)
  | 1 => ("WarpSearchModel", "n", "I", false)
  | 2 => ("WarpSearchModel", "w", "I", false)
  | 3 => ("WarpSearchModel", "question", "[I", false)
  | 4 => ("WarpSearchModel", "rows", "I", false)
  | 5 => ("WarpSearchModel", "numbers", "[I", false)
  | 6 => ("WarpSearchModel", "labels", "[I", false)
  | 7 => ("WarpSearchModel", "length", "I", false)
  | 8 => ("WarpSearchModel", "stream", "[I", false)
  | 9 => ("WarpSearchModel", "row", "[I", false)
  | 10 => ("WarpSearchModel", "grid", "[I", false)
  | 11 => ("WarpSearchModel", "path", "[I", false)
  | 12 => ("WarpSearchModel", "most", "I", false)
  | 13 => ("WarpSearchModel", "found", "I", false)
  | 14 => ("WarpSearchModel", "places", "[I", false)
  | 15 => ("WarpSearchModel", "distances", "[I", false)
  | _ => ("WarpSearchModel", "counts", "[I", false)
def tyX3 : Nat → FieldType := fun k => match k with
  | 0 => .int
  | 1 => .int
  | 2 => .int
  | 3 => .array .int
  | 4 => .int
  | 5 => .array .int
  | 6 => .array .int
  | 7 => .int
  | 8 => .array .int
  | 9 => .array .int
  | 10 => .array .int
  | 11 => .array .int
  | 12 => .int
  | 13 => .int
  | 14 => .array .int
  | 15 => .array .int
  | _ => .array .int
theorem nmX3 : ∀ a, a < 17 → ∀ b, b < 17 → a ≠ b → (TX3 a).2.1 ≠ (TX3 b).2.1 := by decide +kernel
theorem tyX3_ok : ∀ k, k < 17 → parseFieldDescriptor (TX3 k).2.2.1 = some (tyX3 k) := by decide +kernel
abbrev vwCl : List vw_C := [(RX0, TX0, 7), (RX1, TX1, 4), (RX2, TX2, 11), (RX3, TX3, 17)]
/-- the words that every contract of mine may use: the good ones of the tables -/
def WA : List Cond := lw_tbl.filter goodWord
theorem wa_in {i : Nat} {w : Cond} (h : lw_tbl[i]? = some w) (hg : goodWord w = true) : w ∈ WA := List.mem_filter.mpr ⟨List.mem_of_getElem? h, hg⟩
theorem wa_good {w : Cond} (h : w ∈ WA) : (w.onTables && w.keeps) = true ∨ ∃ ty, w = .arrayClass ty := good_of_word (List.mem_filter.mp h).2
theorem ga_V {x : Cond} {own C : String} {index : Nat} {y : MethodName} {cc : ByteArray} {n : Nat} {r : Option FieldType} (h2 : Cond.methodLink own index y ∈ WA) (h3 : Cond.instanceMethod y ∈ WA) (h4 : Cond.selects C y y ∈ WA) (h1 : Cond.initialized C ∈ WA) (h5 : Cond.code y cc n r ∈ WA) : GoodIn (x :: WA) (wsV own index C y (.code y cc n r :: WA)) := by
  have key : ∀ w ∈ wsV own index C y (.code y cc n r :: WA), w ∈ WA := by
    intro w hw
    simp only [wsV, List.mem_append, List.mem_cons, List.not_mem_nil, or_false] at hw
    rcases hw with (rfl | rfl | rfl | rfl) | rfl | hw
    · exact h2
    · exact h3
    · exact h4
    · exact h1
    · exact h5
    · exact hw
  exact fun w hw => ⟨List.mem_cons_of_mem _ (key w hw), wa_good (key w hw)⟩
theorem ga_S {x : Cond} {own : String} {index : Nat} {y : MethodName} {cc : ByteArray} {n : Nat} {r : Option FieldType} (h2 : Cond.methodLink own index y ∈ WA) (h3 : Cond.static y ∈ WA) (h1 : Cond.initialized own ∈ WA) (h5 : Cond.code y cc n r ∈ WA) : GoodIn (x :: WA) (wsS own index y (.code y cc n r :: WA)) := by
  have key : ∀ w ∈ wsS own index y (.code y cc n r :: WA), w ∈ WA := by
    intro w hw
    simp only [wsS, List.mem_append, List.mem_cons, List.not_mem_nil, or_false] at hw
    rcases hw with (rfl | rfl | rfl) | rfl | hw
    · exact h2
    · exact h3
    · exact h1
    · exact h5
    · exact hw
  exact fun w hw => ⟨List.mem_cons_of_mem _ (key w hw), wa_good (key w hw)⟩
theorem wa_hts {x : Cond} {args : Array Value} {s : State} (hts : ∀ w ∈ x :: WA, w.before args s = true) {w : Cond} (h : w ∈ WA) : w.before args s = true := hts w (List.mem_cons_of_mem _ h)
abbrev cX2_init : ByteArray := prog_1_method_1_code
def yX2_init : MethodName := ⟨RX2, "<init>", "()V"⟩
abbrev wsX2_init : List Cond := .code yX2_init cX2_init 1 none :: WA
abbrev cX0_init : ByteArray := prog_2_method_1_code
def yX0_init : MethodName := ⟨RX0, "<init>", "()V"⟩
abbrev wsX0_init : List Cond := .code yX0_init cX0_init 1 none :: WA
abbrev cX1_init : ByteArray := prog_3_method_1_code
def yX1_init : MethodName := ⟨RX1, "<init>", "()V"⟩
abbrev wsX1_init : List Cond := .code yX1_init cX1_init 1 none :: WA
abbrev cL_begin : ByteArray := method_3_code
def yL_begin : MethodName := ⟨RL, "begin", "(LWarpSearch;I)I"⟩
abbrev wsL_begin : List Cond := .codeWith yL_begin cL_begin 3 (some .int) [(0, 5, 8, 13)] :: WA
abbrev cX2_begin : ByteArray := prog_1_method_2_code
def yX2_begin : MethodName := ⟨RX2, "begin", "(I)V"⟩
abbrev wsX2_begin : List Cond := .code yX2_begin cX2_begin 2 none :: WA
abbrev cJ7_fill : ByteArray := prog_15_method_103_code
def yJ7_fill : MethodName := ⟨RJ7, "fill", "([II)V"⟩
abbrev wsJ7_fill : List Cond := .code yJ7_fill cJ7_fill 4 none :: WA
abbrev cX1_startFor : ByteArray := prog_3_method_2_code
def yX1_startFor : MethodName := ⟨RX1, "startFor", "(I)V"⟩
abbrev wsX1_startFor : List Cond := .code yX1_startFor cX1_startFor 2 none :: WA
abbrev cL_ask : ByteArray := method_4_code
def yL_ask : MethodName := ⟨RL, "ask", "(LWarpSearch;II[J)I"⟩
abbrev wsL_ask : List Cond := .codeWith yL_ask cL_ask 5 (some .int) [(0, 10, 13, 19), (0, 10, 17, 13)] :: WA
abbrev cX2_ask : ByteArray := prog_1_method_3_code
def yX2_ask : MethodName := ⟨RX2, "ask", "(II)I"⟩
abbrev wsX2_ask : List Cond := .code yX2_ask cX2_ask 4 (some .int) :: WA
abbrev cX2_isValue : ByteArray := prog_1_method_18_code
def yX2_isValue : MethodName := ⟨RX2, "isValue", "(I)Z"⟩
abbrev wsX2_isValue : List Cond := .code yX2_isValue cX2_isValue 1 (some .boolean) :: WA
abbrev cL_keep : ByteArray := method_5_code
def yL_keep : MethodName := ⟨RL, "keep", "(LWarpSearch;I[J)I"⟩
abbrev wsL_keep : List Cond := .codeWith yL_keep cL_keep 4 (some .int) [(0, 9, 12, 13), (0, 9, 15, 25)] :: WA
abbrev cX2_keep : ByteArray := prog_1_method_4_code
def yX2_keep : MethodName := ⟨RX2, "keep", "(I)I"⟩
abbrev wsX2_keep : List Cond := .code yX2_keep cX2_keep 3 (some .int) :: WA
abbrev cL_recall : ByteArray := method_6_code
def yL_recall : MethodName := ⟨RL, "recall", "(LWarpSearch;I)I"⟩
abbrev wsL_recall : List Cond := .codeWith yL_recall cL_recall 3 (some .int) [(0, 5, 8, 19)] :: WA
abbrev cX2_recall : ByteArray := prog_1_method_5_code
def yX2_recall : MethodName := ⟨RX2, "recall", "(I)V"⟩
abbrev wsX2_recall : List Cond := .code yX2_recall cX2_recall 2 none :: WA
abbrev cX2_checkRow : ByteArray := prog_1_method_19_code
def yX2_checkRow : MethodName := ⟨RX2, "checkRow", "(I)V"⟩
abbrev wsX2_checkRow : List Cond := .code yX2_checkRow cX2_checkRow 2 none :: WA
abbrev cL_band : ByteArray := method_7_code
def yL_band : MethodName := ⟨RL, "band", "(LWarpSearch;I[J)I"⟩
abbrev wsL_band : List Cond := .codeWith yL_band cL_band 4 (some .int) [(0, 9, 12, 13)] :: WA
abbrev cX2_band : ByteArray := prog_1_method_6_code
def yX2_band : MethodName := ⟨RX2, "band", "(I)I"⟩
abbrev wsX2_band : List Cond := .code yX2_band cX2_band 3 (some .int) :: WA
abbrev cL_distance : ByteArray := method_8_code
def yL_distance : MethodName := ⟨RL, "distance", "(LWarpSearch;I[J)I"⟩
abbrev wsL_distance : List Cond := .codeWith yL_distance cL_distance 4 (some .int) [(0, 9, 12, 19)] :: WA
abbrev cX2_distance : ByteArray := prog_1_method_7_code
def yX2_distance : MethodName := ⟨RX2, "distance", "(I)I"⟩
abbrev wsX2_distance : List Cond := .code yX2_distance cX2_distance 2 (some .int) :: WA
abbrev cX2_placeRow : ByteArray := prog_1_method_22_code
def yX2_placeRow : MethodName := ⟨RX2, "placeRow", "(I)V"⟩
abbrev wsX2_placeRow : List Cond := .code yX2_placeRow cX2_placeRow 2 none :: WA
abbrev cX0_placeQuestion : ByteArray := prog_2_method_2_code
def yX0_placeQuestion : MethodName := ⟨RX0, "placeQuestion", "([III)V"⟩
abbrev wsX0_placeQuestion : List Cond := .code yX0_placeQuestion cX0_placeQuestion 4 none :: WA
abbrev cX0_placeBeside : ByteArray := prog_2_method_3_code
def yX0_placeBeside : MethodName := ⟨RX0, "placeBeside", "([II)V"⟩
abbrev wsX0_placeBeside : List Cond := .code yX0_placeBeside cX0_placeBeside 3 none :: WA
abbrev cX0_leastCost : ByteArray := prog_2_method_7_code
def yX0_leastCost : MethodName := ⟨RX0, "leastCost", "(I)I"⟩
abbrev wsX0_leastCost : List Cond := .code yX0_leastCost cX0_leastCost 4 (some .int) :: WA
abbrev cX0_fillLine : ByteArray := prog_2_method_8_code
def yX0_fillLine : MethodName := ⟨RX0, "fillLine", "(I)I"⟩
abbrev wsX0_fillLine : List Cond := .code yX0_fillLine cX0_fillLine 6 (some .int) :: WA
abbrev cX0_lastInBand : ByteArray := prog_2_method_14_code
def yX0_lastInBand : MethodName := ⟨RX0, "lastInBand", "(I)I"⟩
abbrev wsX0_lastInBand : List Cond := .code yX0_lastInBand cX0_lastInBand 2 (some .int) :: WA
abbrev cX0_firstInBand : ByteArray := prog_2_method_13_code
def yX0_firstInBand : MethodName := ⟨RX0, "firstInBand", "(I)I"⟩
abbrev wsX0_firstInBand : List Cond := .code yX0_firstInBand cX0_firstInBand 2 (some .int) :: WA
abbrev cX0_leastBefore : ByteArray := prog_2_method_9_code
def yX0_leastBefore : MethodName := ⟨RX0, "leastBefore", "(II)I"⟩
abbrev wsX0_leastBefore : List Cond := .code yX0_leastBefore cX0_leastBefore 3 (some .int) :: WA
abbrev cX0_costAt : ByteArray := prog_2_method_10_code
def yX0_costAt : MethodName := ⟨RX0, "costAt", "(II)I"⟩
abbrev wsX0_costAt : List Cond := .code yX0_costAt cX0_costAt 4 (some .int) :: WA
abbrev cX0_square : ByteArray := prog_2_method_15_code
def yX0_square : MethodName := ⟨RX0, "square", "(I)I"⟩
abbrev wsX0_square : List Cond := .code yX0_square cX0_square 1 (some .int) :: WA
abbrev cL_bound : ByteArray := method_9_code
def yL_bound : MethodName := ⟨RL, "bound", "(LWarpSearch;II[J)I"⟩
abbrev wsL_bound : List Cond := .codeWith yL_bound cL_bound 5 (some .int) [(0, 10, 13, 19), (0, 10, 17, 13)] :: WA
abbrev cX2_bound : ByteArray := prog_1_method_8_code
def yX2_bound : MethodName := ⟨RX2, "bound", "(II)I"⟩
abbrev wsX2_bound : List Cond := .code yX2_bound cX2_bound 3 (some .int) :: WA
abbrev cX0_lowerBound : ByteArray := prog_2_method_4_code
def yX0_lowerBound : MethodName := ⟨RX0, "lowerBound", "(I)I"⟩
abbrev wsX0_lowerBound : List Cond := .code yX0_lowerBound cX0_lowerBound 2 (some .int) :: WA
abbrev cX0_hullBound : ByteArray := prog_2_method_5_code
def yX0_hullBound : MethodName := ⟨RX0, "hullBound", "([I[I)I"⟩
abbrev wsX0_hullBound : List Cond := .code yX0_hullBound cX0_hullBound 9 (some .int) :: WA
abbrev cX0_gap : ByteArray := prog_2_method_6_code
def yX0_gap : MethodName := ⟨RX0, "gap", "(III)I"⟩
abbrev wsX0_gap : List Cond := .code yX0_gap cX0_gap 3 (some .int) :: WA
abbrev cL_steps : ByteArray := method_10_code
def yL_steps : MethodName := ⟨RL, "steps", "(LWarpSearch;I[J)I"⟩
abbrev wsL_steps : List Cond := .codeWith yL_steps cL_steps 4 (some .int) [(0, 9, 12, 19)] :: WA
abbrev cX2_steps : ByteArray := prog_1_method_9_code
def yX2_steps : MethodName := ⟨RX2, "steps", "(I)I"⟩
abbrev wsX2_steps : List Cond := .code yX2_steps cX2_steps 2 (some .int) :: WA
abbrev cX0_tracePath : ByteArray := prog_2_method_11_code
def yX0_tracePath : MethodName := ⟨RX0, "tracePath", "()I"⟩
abbrev wsX0_tracePath : List Cond := .code yX0_tracePath cX0_tracePath 9 (some .int) :: WA
abbrev cL_pair : ByteArray := method_11_code
def yL_pair : MethodName := ⟨RL, "pair", "(LWarpSearch;II[J)I"⟩
abbrev wsL_pair : List Cond := .codeWith yL_pair cL_pair 5 (some .int) [(0, 10, 13, 19)] :: WA
abbrev cX2_pair : ByteArray := prog_1_method_10_code
def yX2_pair : MethodName := ⟨RX2, "pair", "(II)I"⟩
abbrev wsX2_pair : List Cond := .code yX2_pair cX2_pair 4 (some .int) :: WA
abbrev cX0_pairOfPath : ByteArray := prog_2_method_12_code
def yX0_pairOfPath : MethodName := ⟨RX0, "pairOfPath", "(I)I"⟩
abbrev wsX0_pairOfPath : List Cond := .code yX0_pairOfPath cX0_pairOfPath 2 (some .int) :: WA
abbrev cL_search : ByteArray := method_12_code
def yL_search : MethodName := ⟨RL, "search", "(LWarpSearch;I[J)I"⟩
abbrev wsL_search : List Cond := .codeWith yL_search cL_search 4 (some .int) [(0, 9, 12, 13), (0, 9, 15, 25)] :: WA
abbrev cX2_search : ByteArray := prog_1_method_11_code
def yX2_search : MethodName := ⟨RX2, "search", "(I)I"⟩
abbrev wsX2_search : List Cond := .code yX2_search cX2_search 2 (some .int) :: WA
abbrev cX2_checkWanted : ByteArray := prog_1_method_21_code
def yX2_checkWanted : MethodName := ⟨RX2, "checkWanted", "(I)V"⟩
abbrev wsX2_checkWanted : List Cond := .code yX2_checkWanted cX2_checkWanted 1 none :: WA
abbrev cX2_checkAnyRow : ByteArray := prog_1_method_20_code
def yX2_checkAnyRow : MethodName := ⟨RX2, "checkAnyRow", "()V"⟩
abbrev wsX2_checkAnyRow : List Cond := .code yX2_checkAnyRow cX2_checkAnyRow 1 none :: WA
abbrev cX2_searchAmong : ByteArray := prog_1_method_23_code
def yX2_searchAmong : MethodName := ⟨RX2, "searchAmong", "([IIII)I"⟩
abbrev wsX2_searchAmong : List Cond := .code yX2_searchAmong cX2_searchAmong 6 (some .int) :: WA
abbrev cX2_weigh : ByteArray := prog_1_method_24_code
def yX2_weigh : MethodName := ⟨RX2, "weigh", "(I)V"⟩
abbrev wsX2_weigh : List Cond := .code yX2_weigh cX2_weigh 5 none :: WA
abbrev cX1_limit : ByteArray := prog_3_method_3_code
def yX1_limit : MethodName := ⟨RX1, "limit", "()I"⟩
abbrev wsX1_limit : List Cond := .code yX1_limit cX1_limit 1 (some .int) :: WA
abbrev cX2_passingBound : ByteArray := prog_1_method_25_code
def yX2_passingBound : MethodName := ⟨RX2, "passingBound", "(I)I"⟩
abbrev wsX2_passingBound : List Cond := .code yX2_passingBound cX2_passingBound 3 (some .int) :: WA
abbrev cX1_insert : ByteArray := prog_3_method_4_code
def yX1_insert : MethodName := ⟨RX1, "insert", "(II)V"⟩
abbrev wsX1_insert : List Cond := .code yX1_insert cX1_insert 4 none :: WA
abbrev cL_found : ByteArray := method_13_code
def yL_found : MethodName := ⟨RL, "found", "(LWarpSearch;IZ[J)I"⟩
abbrev wsL_found : List Cond := .codeWith yL_found cL_found 5 (some .int) [(0, 10, 13, 19)] :: WA
abbrev cX2_found : ByteArray := prog_1_method_12_code
def yX2_found : MethodName := ⟨RX2, "found", "(IZ)I"⟩
abbrev wsX2_found : List Cond := .code yX2_found cX2_found 3 (some .int) :: WA
abbrev cL_guess : ByteArray := method_14_code
def yL_guess : MethodName := ⟨RL, "guess", "(LWarpSearch;I[J)I"⟩
abbrev wsL_guess : List Cond := .codeWith yL_guess cL_guess 4 (some .int) [(0, 9, 12, 13), (0, 9, 15, 25)] :: WA
abbrev cX2_guess : ByteArray := prog_1_method_13_code
def yX2_guess : MethodName := ⟨RX2, "guess", "(I)I"⟩
abbrev wsX2_guess : List Cond := .code yX2_guess cX2_guess 8 (some .int) :: WA
abbrev cX2_votesFor : ByteArray := prog_1_method_26_code
def yX2_votesFor : MethodName := ⟨RX2, "votesFor", "(I)I"⟩
abbrev wsX2_votesFor : List Cond := .code yX2_votesFor cX2_votesFor 4 (some .int) :: WA
abbrev cL_count : ByteArray := method_15_code
def yL_count : MethodName := ⟨RL, "count", "(LWarpSearch;I[J)I"⟩
abbrev wsL_count : List Cond := .codeWith yL_count cL_count 4 (some .int) [(0, 9, 12, 13)] :: WA
abbrev cX2_count : ByteArray := prog_1_method_14_code
def yX2_count : MethodName := ⟨RX2, "count", "(I)I"⟩
abbrev wsX2_count : List Cond := .code yX2_count cX2_count 2 (some .int) :: WA
abbrev cL_push : ByteArray := method_16_code
def yL_push : MethodName := ⟨RL, "push", "(LWarpSearch;I[J)I"⟩
abbrev wsL_push : List Cond := .codeWith yL_push cL_push 4 (some .int) [(0, 9, 12, 13), (0, 9, 15, 25)] :: WA
abbrev cX2_push : ByteArray := prog_1_method_15_code
def yX2_push : MethodName := ⟨RX2, "push", "(I)I"⟩
abbrev wsX2_push : List Cond := .code yX2_push cX2_push 2 (some .int) :: WA
abbrev cL_scan : ByteArray := method_17_code
def yL_scan : MethodName := ⟨RL, "scan", "(LWarpSearch;I[J)I"⟩
abbrev wsL_scan : List Cond := .codeWith yL_scan cL_scan 4 (some .int) [(0, 9, 12, 13), (0, 9, 15, 25)] :: WA
abbrev cX2_scan : ByteArray := prog_1_method_16_code
def yX2_scan : MethodName := ⟨RX2, "scan", "(I)I"⟩
abbrev wsX2_scan : List Cond := .code yX2_scan cX2_scan 2 (some .int) :: WA
abbrev cL_shift : ByteArray := method_18_code
def yL_shift : MethodName := ⟨RL, "shift", "(LWarpSearch;I)I"⟩
abbrev wsL_shift : List Cond := .codeWith yL_shift cL_shift 3 (some .int) [(0, 5, 8, 13)] :: WA
abbrev cX2_shift : ByteArray := prog_1_method_17_code
def yX2_shift : MethodName := ⟨RX2, "shift", "(I)V"⟩
abbrev wsX2_shift : List Cond := .code yX2_shift cX2_shift 2 none :: WA
abbrev cX3_init : ByteArray := prog_5_method_1_code
def yX3_init : MethodName := ⟨RX3, "<init>", "()V"⟩
abbrev wsX3_init : List Cond := .code yX3_init cX3_init 1 none :: WA
abbrev cX3_thrown : ByteArray := prog_5_method_2_code
def yX3_thrown : MethodName := ⟨RX3, "thrown", "()I"⟩
abbrev wsX3_thrown : List Cond := .code yX3_thrown cX3_thrown 1 (some .int) :: WA
abbrev cX3_begin : ByteArray := prog_5_method_4_code
def yX3_begin : MethodName := ⟨RX3, "begin", "(I)V"⟩
abbrev wsX3_begin : List Cond := .code yX3_begin cX3_begin 3 none :: WA
abbrev cX3_within : ByteArray := prog_5_method_3_code
def yX3_within : MethodName := ⟨RX3, "within", "(III)Z"⟩
abbrev wsX3_within : List Cond := .code yX3_within cX3_within 3 (some .boolean) :: WA
abbrev cX3_ask : ByteArray := prog_5_method_5_code
def yX3_ask : MethodName := ⟨RX3, "ask", "(II)I"⟩
abbrev wsX3_ask : List Cond := .code yX3_ask cX3_ask 4 (some .int) :: WA
abbrev cX3_keep : ByteArray := prog_5_method_6_code
def yX3_keep : MethodName := ⟨RX3, "keep", "(I)I"⟩
abbrev wsX3_keep : List Cond := .code yX3_keep cX3_keep 3 (some .int) :: WA
abbrev cX3_recall : ByteArray := prog_5_method_8_code
def yX3_recall : MethodName := ⟨RX3, "recall", "(I)V"⟩
abbrev wsX3_recall : List Cond := .code yX3_recall cX3_recall 3 none :: WA
abbrev cX3_isRow : ByteArray := prog_5_method_7_code
def yX3_isRow : MethodName := ⟨RX3, "isRow", "(I)Z"⟩
abbrev wsX3_isRow : List Cond := .code yX3_isRow cX3_isRow 2 (some .boolean) :: WA
abbrev cX3_band : ByteArray := prog_5_method_9_code
def yX3_band : MethodName := ⟨RX3, "band", "(I)I"⟩
abbrev wsX3_band : List Cond := .code yX3_band cX3_band 3 (some .int) :: WA
abbrev cX3_distance : ByteArray := prog_5_method_16_code
def yX3_distance : MethodName := ⟨RX3, "distance", "(I)I"⟩
abbrev wsX3_distance : List Cond := .code yX3_distance cX3_distance 2 (some .int) :: WA
abbrev cX3_takeRow : ByteArray := prog_5_method_10_code
def yX3_takeRow : MethodName := ⟨RX3, "takeRow", "(I)V"⟩
abbrev wsX3_takeRow : List Cond := .code yX3_takeRow cX3_takeRow 3 none :: WA
abbrev cX3_fill : ByteArray := prog_5_method_15_code
def yX3_fill : MethodName := ⟨RX3, "fill", "()V"⟩
abbrev wsX3_fill : List Cond := .code yX3_fill cX3_fill 5 none :: WA
abbrev cX3_inBand : ByteArray := prog_5_method_12_code
def yX3_inBand : MethodName := ⟨RX3, "inBand", "(II)Z"⟩
abbrev wsX3_inBand : List Cond := .code yX3_inBand cX3_inBand 3 (some .boolean) :: WA
abbrev cX3_costAt : ByteArray := prog_5_method_13_code
def yX3_costAt : MethodName := ⟨RX3, "costAt", "(II)I"⟩
abbrev wsX3_costAt : List Cond := .code yX3_costAt cX3_costAt 3 (some .int) :: WA
abbrev cX3_lesser : ByteArray := prog_5_method_14_code
def yX3_lesser : MethodName := ⟨RX3, "lesser", "(II)I"⟩
abbrev wsX3_lesser : List Cond := .code yX3_lesser cX3_lesser 2 (some .int) :: WA
abbrev cX3_bound : ByteArray := prog_5_method_19_code
def yX3_bound : MethodName := ⟨RX3, "bound", "(II)I"⟩
abbrev wsX3_bound : List Cond := .code yX3_bound cX3_bound 3 (some .int) :: WA
abbrev cX3_boundOf : ByteArray := prog_5_method_18_code
def yX3_boundOf : MethodName := ⟨RX3, "boundOf", "(I)I"⟩
abbrev wsX3_boundOf : List Cond := .code yX3_boundOf cX3_boundOf 4 (some .int) :: WA
abbrev cX3_beyond : ByteArray := prog_5_method_17_code
def yX3_beyond : MethodName := ⟨RX3, "beyond", "(IIZ)I"⟩
abbrev wsX3_beyond : List Cond := .code yX3_beyond cX3_beyond 9 (some .int) :: WA
abbrev cX3_steps : ByteArray := prog_5_method_21_code
def yX3_steps : MethodName := ⟨RX3, "steps", "(I)I"⟩
abbrev wsX3_steps : List Cond := .code yX3_steps cX3_steps 2 (some .int) :: WA
abbrev cX3_walk : ByteArray := prog_5_method_20_code
def yX3_walk : MethodName := ⟨RX3, "walk", "()I"⟩
abbrev wsX3_walk : List Cond := .code yX3_walk cX3_walk 10 (some .int) :: WA
abbrev cX3_pair : ByteArray := prog_5_method_22_code
def yX3_pair : MethodName := ⟨RX3, "pair", "(II)I"⟩
abbrev wsX3_pair : List Cond := .code yX3_pair cX3_pair 4 (some .int) :: WA
abbrev cX3_search : ByteArray := prog_5_method_27_code
def yX3_search : MethodName := ⟨RX3, "search", "(I)I"⟩
abbrev wsX3_search : List Cond := .code yX3_search cX3_search 3 (some .int) :: WA
abbrev cX3_start : ByteArray := prog_5_method_23_code
def yX3_start : MethodName := ⟨RX3, "start", "(I)V"⟩
abbrev wsX3_start : List Cond := .code yX3_start cX3_start 3 none :: WA
abbrev cX3_turn : ByteArray := prog_5_method_26_code
def yX3_turn : MethodName := ⟨RX3, "turn", "(I)V"⟩
abbrev wsX3_turn : List Cond := .code yX3_turn cX3_turn 6 none :: WA
abbrev cX3_tally : ByteArray := prog_5_method_24_code
def yX3_tally : MethodName := ⟨RX3, "tally", "(I)V"⟩
abbrev wsX3_tally : List Cond := .code yX3_tally cX3_tally 2 none :: WA
abbrev cX3_givesUp : ByteArray := prog_5_method_25_code
def yX3_givesUp : MethodName := ⟨RX3, "givesUp", "(I)Z"⟩
abbrev wsX3_givesUp : List Cond := .code yX3_givesUp cX3_givesUp 5 (some .boolean) :: WA
abbrev cX3_scan : ByteArray := prog_5_method_28_code
def yX3_scan : MethodName := ⟨RX3, "scan", "(I)I"⟩
abbrev wsX3_scan : List Cond := .code yX3_scan cX3_scan 3 (some .int) :: WA
abbrev cX3_takeWindow : ByteArray := prog_5_method_11_code
def yX3_takeWindow : MethodName := ⟨RX3, "takeWindow", "(I)V"⟩
abbrev wsX3_takeWindow : List Cond := .code yX3_takeWindow cX3_takeWindow 3 none :: WA
abbrev cX3_found : ByteArray := prog_5_method_29_code
def yX3_found : MethodName := ⟨RX3, "found", "(IZ)I"⟩
abbrev wsX3_found : List Cond := .code yX3_found cX3_found 3 (some .int) :: WA
abbrev cX3_guess : ByteArray := prog_5_method_30_code
def yX3_guess : MethodName := ⟨RX3, "guess", "(I)I"⟩
abbrev wsX3_guess : List Cond := .code yX3_guess cX3_guess 8 (some .int) :: WA
abbrev cX3_count : ByteArray := prog_5_method_31_code
def yX3_count : MethodName := ⟨RX3, "count", "(I)I"⟩
abbrev wsX3_count : List Cond := .code yX3_count cX3_count 2 (some .int) :: WA
abbrev cX3_push : ByteArray := prog_5_method_32_code
def yX3_push : MethodName := ⟨RX3, "push", "(I)I"⟩
abbrev wsX3_push : List Cond := .code yX3_push cX3_push 2 (some .int) :: WA
abbrev cX3_shift : ByteArray := prog_5_method_33_code
def yX3_shift : MethodName := ⟨RX3, "shift", "(I)V"⟩
abbrev wsX3_shift : List Cond := .code yX3_shift cX3_shift 3 none :: WA
theorem wd_0 : (.selects "java/lang/Throwable" ⟨"java/lang/Throwable", "fillInStackTrace", "(I)Ljava/lang/Throwable;"⟩ ⟨"java/lang/Throwable", "fillInStackTrace", "(I)Ljava/lang/Throwable;"⟩ : Cond) ∈ WA := wa_in (i := 0) (by decide +kernel) (by decide +kernel)
theorem wd_1 : (.selects "WarpSearch" ⟨"WarpSearch", "checkRow", "(I)V"⟩ ⟨"WarpSearch", "checkRow", "(I)V"⟩ : Cond) ∈ WA := wa_in (i := 1) (by decide +kernel) (by decide +kernel)
theorem wd_2 : (.selects "WarpSearch" ⟨"WarpSearch", "placeRow", "(I)V"⟩ ⟨"WarpSearch", "placeRow", "(I)V"⟩ : Cond) ∈ WA := wa_in (i := 2) (by decide +kernel) (by decide +kernel)
theorem wd_3 : (.selects "WarpSearch$Comparison" ⟨"WarpSearch$Comparison", "fillLine", "(I)I"⟩ ⟨"WarpSearch$Comparison", "fillLine", "(I)I"⟩ : Cond) ∈ WA := wa_in (i := 3) (by decide +kernel) (by decide +kernel)
theorem wd_4 : (.selects "WarpSearch$Comparison" ⟨"WarpSearch$Comparison", "lastInBand", "(I)I"⟩ ⟨"WarpSearch$Comparison", "lastInBand", "(I)I"⟩ : Cond) ∈ WA := wa_in (i := 4) (by decide +kernel) (by decide +kernel)
theorem wd_5 : (.selects "WarpSearch$Comparison" ⟨"WarpSearch$Comparison", "firstInBand", "(I)I"⟩ ⟨"WarpSearch$Comparison", "firstInBand", "(I)I"⟩ : Cond) ∈ WA := wa_in (i := 5) (by decide +kernel) (by decide +kernel)
theorem wd_6 : (.selects "WarpSearch$Comparison" ⟨"WarpSearch$Comparison", "leastBefore", "(II)I"⟩ ⟨"WarpSearch$Comparison", "leastBefore", "(II)I"⟩ : Cond) ∈ WA := wa_in (i := 6) (by decide +kernel) (by decide +kernel)
theorem wd_7 : (.selects "WarpSearch$Comparison" ⟨"WarpSearch$Comparison", "costAt", "(II)I"⟩ ⟨"WarpSearch$Comparison", "costAt", "(II)I"⟩ : Cond) ∈ WA := wa_in (i := 7) (by decide +kernel) (by decide +kernel)
theorem wd_8 : (.selects "WarpSearch$Comparison" ⟨"WarpSearch$Comparison", "hullBound", "([I[I)I"⟩ ⟨"WarpSearch$Comparison", "hullBound", "([I[I)I"⟩ : Cond) ∈ WA := wa_in (i := 8) (by decide +kernel) (by decide +kernel)
theorem wd_9 : (.selects "WarpSearch" ⟨"WarpSearch", "checkAnyRow", "()V"⟩ ⟨"WarpSearch", "checkAnyRow", "()V"⟩ : Cond) ∈ WA := wa_in (i := 9) (by decide +kernel) (by decide +kernel)
theorem wd_10 : (.selects "WarpSearch" ⟨"WarpSearch", "searchAmong", "([IIII)I"⟩ ⟨"WarpSearch", "searchAmong", "([IIII)I"⟩ : Cond) ∈ WA := wa_in (i := 10) (by decide +kernel) (by decide +kernel)
theorem wd_11 : (.selects "WarpSearch" ⟨"WarpSearch", "weigh", "(I)V"⟩ ⟨"WarpSearch", "weigh", "(I)V"⟩ : Cond) ∈ WA := wa_in (i := 11) (by decide +kernel) (by decide +kernel)
theorem wd_12 : (.selects "WarpSearch" ⟨"WarpSearch", "passingBound", "(I)I"⟩ ⟨"WarpSearch", "passingBound", "(I)I"⟩ : Cond) ∈ WA := wa_in (i := 12) (by decide +kernel) (by decide +kernel)
theorem wd_13 : (.selects "WarpSearch" ⟨"WarpSearch", "votesFor", "(I)I"⟩ ⟨"WarpSearch", "votesFor", "(I)I"⟩ : Cond) ∈ WA := wa_in (i := 13) (by decide +kernel) (by decide +kernel)
theorem wd_14 : (.selects "WarpSearchModel" ⟨"WarpSearchModel", "isRow", "(I)Z"⟩ ⟨"WarpSearchModel", "isRow", "(I)Z"⟩ : Cond) ∈ WA := wa_in (i := 14) (by decide +kernel) (by decide +kernel)
theorem wd_15 : (.selects "WarpSearchModel" ⟨"WarpSearchModel", "takeRow", "(I)V"⟩ ⟨"WarpSearchModel", "takeRow", "(I)V"⟩ : Cond) ∈ WA := wa_in (i := 15) (by decide +kernel) (by decide +kernel)
theorem wd_16 : (.selects "WarpSearchModel" ⟨"WarpSearchModel", "fill", "()V"⟩ ⟨"WarpSearchModel", "fill", "()V"⟩ : Cond) ∈ WA := wa_in (i := 16) (by decide +kernel) (by decide +kernel)
theorem wd_17 : (.selects "WarpSearchModel" ⟨"WarpSearchModel", "inBand", "(II)Z"⟩ ⟨"WarpSearchModel", "inBand", "(II)Z"⟩ : Cond) ∈ WA := wa_in (i := 17) (by decide +kernel) (by decide +kernel)
theorem wd_18 : (.selects "WarpSearchModel" ⟨"WarpSearchModel", "costAt", "(II)I"⟩ ⟨"WarpSearchModel", "costAt", "(II)I"⟩ : Cond) ∈ WA := wa_in (i := 18) (by decide +kernel) (by decide +kernel)
theorem wd_19 : (.selects "WarpSearchModel" ⟨"WarpSearchModel", "boundOf", "(I)I"⟩ ⟨"WarpSearchModel", "boundOf", "(I)I"⟩ : Cond) ∈ WA := wa_in (i := 19) (by decide +kernel) (by decide +kernel)
theorem wd_20 : (.selects "WarpSearchModel" ⟨"WarpSearchModel", "beyond", "(IIZ)I"⟩ ⟨"WarpSearchModel", "beyond", "(IIZ)I"⟩ : Cond) ∈ WA := wa_in (i := 20) (by decide +kernel) (by decide +kernel)
theorem wd_21 : (.selects "WarpSearchModel" ⟨"WarpSearchModel", "walk", "()I"⟩ ⟨"WarpSearchModel", "walk", "()I"⟩ : Cond) ∈ WA := wa_in (i := 21) (by decide +kernel) (by decide +kernel)
theorem wd_22 : (.selects "WarpSearchModel" ⟨"WarpSearchModel", "start", "(I)V"⟩ ⟨"WarpSearchModel", "start", "(I)V"⟩ : Cond) ∈ WA := wa_in (i := 22) (by decide +kernel) (by decide +kernel)
theorem wd_23 : (.selects "WarpSearchModel" ⟨"WarpSearchModel", "turn", "(I)V"⟩ ⟨"WarpSearchModel", "turn", "(I)V"⟩ : Cond) ∈ WA := wa_in (i := 23) (by decide +kernel) (by decide +kernel)
theorem wd_24 : (.selects "WarpSearchModel" ⟨"WarpSearchModel", "tally", "(I)V"⟩ ⟨"WarpSearchModel", "tally", "(I)V"⟩ : Cond) ∈ WA := wa_in (i := 24) (by decide +kernel) (by decide +kernel)
theorem wd_25 : (.selects "WarpSearchModel" ⟨"WarpSearchModel", "givesUp", "(I)Z"⟩ ⟨"WarpSearchModel", "givesUp", "(I)Z"⟩ : Cond) ∈ WA := wa_in (i := 25) (by decide +kernel) (by decide +kernel)
theorem wd_26 : (.selects "WarpSearchModel" ⟨"WarpSearchModel", "takeWindow", "(I)V"⟩ ⟨"WarpSearchModel", "takeWindow", "(I)V"⟩ : Cond) ∈ WA := wa_in (i := 26) (by decide +kernel) (by decide +kernel)
theorem wd_27 : (.initialized "WarpSearchLaw" : Cond) ∈ WA := wa_in (i := 27) (by decide +kernel) (by decide +kernel)
theorem wd_28 : (.initialized "WarpSearch" : Cond) ∈ WA := wa_in (i := 28) (by decide +kernel) (by decide +kernel)
theorem wd_29 : (.initialized "WarpSearch$Comparison" : Cond) ∈ WA := wa_in (i := 29) (by decide +kernel) (by decide +kernel)
theorem wd_30 : (.initialized "WarpSearch$Nearest" : Cond) ∈ WA := wa_in (i := 30) (by decide +kernel) (by decide +kernel)
theorem wd_31 : (.initialized "WarpSearchModel" : Cond) ∈ WA := wa_in (i := 31) (by decide +kernel) (by decide +kernel)
theorem wd_32 : (.initialized "java/lang/Throwable" : Cond) ∈ WA := wa_in (i := 32) (by decide +kernel) (by decide +kernel)
theorem wd_33 : (.initialized "java/lang/Exception" : Cond) ∈ WA := wa_in (i := 33) (by decide +kernel) (by decide +kernel)
theorem wd_34 : (.initialized "java/lang/RuntimeException" : Cond) ∈ WA := wa_in (i := 34) (by decide +kernel) (by decide +kernel)
theorem wd_35 : (.initialized "java/lang/IllegalArgumentException" : Cond) ∈ WA := wa_in (i := 35) (by decide +kernel) (by decide +kernel)
theorem wd_36 : (.initialized "java/util/Arrays" : Cond) ∈ WA := wa_in (i := 36) (by decide +kernel) (by decide +kernel)
theorem wd_37 : (.initialized "java/lang/IndexOutOfBoundsException" : Cond) ∈ WA := wa_in (i := 37) (by decide +kernel) (by decide +kernel)
theorem wd_38 : (.initialized "java/lang/IllegalStateException" : Cond) ∈ WA := wa_in (i := 38) (by decide +kernel) (by decide +kernel)
theorem wd_39 : (.initialized "java/lang/System" : Cond) ∈ WA := wa_in (i := 39) (by decide +kernel) (by decide +kernel)
theorem wd_40 : (.initialized "java/lang/Math" : Cond) ∈ WA := wa_in (i := 40) (by decide +kernel) (by decide +kernel)
theorem wd_41 : (.classLink "WarpSearchLaw" 8 "WarpSearch" : Cond) ∈ WA := wa_in (i := 41) (by decide +kernel) (by decide +kernel)
theorem wd_42 : (.instantiable "WarpSearch" 11 : Cond) ∈ WA := wa_in (i := 42) (by decide +kernel) (by decide +kernel)
theorem wd_43 : (.methodLink "WarpSearchLaw" 67 ⟨"WarpSearch", "<init>", "()V"⟩ : Cond) ∈ WA := wa_in (i := 43) (by decide +kernel) (by decide +kernel)
theorem wd_44 : (.instanceMethod ⟨"WarpSearch", "<init>", "()V"⟩ : Cond) ∈ WA := wa_in (i := 44) (by decide +kernel) (by decide +kernel)
set_option maxRecDepth 20000 in
theorem wd_45 : (.code ⟨"WarpSearch", "<init>", "()V"⟩ prog_1_method_1_code 1 none : Cond) ∈ WA := wa_in (i := 45) rfl (by decide +kernel)
theorem wd_46 : (.methodLink "WarpSearch" 3 ⟨"java/lang/Object", "<init>", "()V"⟩ : Cond) ∈ WA := wa_in (i := 46) (by decide +kernel) (by decide +kernel)
theorem wd_47 : (.instanceMethod ⟨"java/lang/Object", "<init>", "()V"⟩ : Cond) ∈ WA := wa_in (i := 47) (by decide +kernel) (by decide +kernel)
set_option maxRecDepth 20000 in
theorem wd_48 : (.code ⟨"java/lang/Object", "<init>", "()V"⟩ object_method_1_code 1 none : Cond) ∈ WA := wa_in (i := 48) rfl (by decide +kernel)
theorem wd_49 : (.classLink "WarpSearch" 35 "WarpSearch$Comparison" : Cond) ∈ WA := wa_in (i := 49) (by decide +kernel) (by decide +kernel)
theorem wd_50 : (.instantiable "WarpSearch$Comparison" 7 : Cond) ∈ WA := wa_in (i := 50) (by decide +kernel) (by decide +kernel)
theorem wd_52 : (.instanceMethod ⟨"WarpSearch$Comparison", "<init>", "()V"⟩ : Cond) ∈ WA := wa_in (i := 52) (by decide +kernel) (by decide +kernel)
set_option maxRecDepth 20000 in
theorem wd_53 : (.code ⟨"WarpSearch$Comparison", "<init>", "()V"⟩ prog_2_method_1_code 1 none : Cond) ∈ WA := wa_in (i := 53) rfl (by decide +kernel)
theorem wd_54 : (.methodLink "WarpSearch$Comparison" 3 ⟨"java/lang/Object", "<init>", "()V"⟩ : Cond) ∈ WA := wa_in (i := 54) (by decide +kernel) (by decide +kernel)
theorem wd_55 : (.fieldLink "WarpSearch$Comparison" 9 "WarpSearch$Comparison" "question" "[I" : Cond) ∈ WA := wa_in (i := 55) (by decide +kernel) (by decide +kernel)
theorem wd_56 : (.fieldLink "WarpSearch$Comparison" 15 "WarpSearch$Comparison" "row" "[I" : Cond) ∈ WA := wa_in (i := 56) (by decide +kernel) (by decide +kernel)
theorem wd_57 : (.fieldLink "WarpSearch$Comparison" 18 "WarpSearch$Comparison" "costs" "[I" : Cond) ∈ WA := wa_in (i := 57) (by decide +kernel) (by decide +kernel)
theorem wd_58 : (.fieldLink "WarpSearch$Comparison" 21 "WarpSearch$Comparison" "path" "[I" : Cond) ∈ WA := wa_in (i := 58) (by decide +kernel) (by decide +kernel)
theorem wd_59 : (.fieldLink "WarpSearch$Comparison" 24 "WarpSearch$Comparison" "pathStart" "I" : Cond) ∈ WA := wa_in (i := 59) (by decide +kernel) (by decide +kernel)
theorem wd_60 : (.fieldLink "WarpSearch$Comparison" 28 "WarpSearch$Comparison" "length" "I" : Cond) ∈ WA := wa_in (i := 60) (by decide +kernel) (by decide +kernel)
theorem wd_61 : (.fieldLink "WarpSearch$Comparison" 31 "WarpSearch$Comparison" "width" "I" : Cond) ∈ WA := wa_in (i := 61) (by decide +kernel) (by decide +kernel)
theorem wd_62 : (.laysFinal "WarpSearch$Comparison" "WarpSearch$Comparison" "question" "[I" : Cond) ∈ WA := wa_in (i := 62) (by decide +kernel) (by decide +kernel)
theorem wd_64 : (.laysFinal "WarpSearch$Comparison" "WarpSearch$Comparison" "row" "[I" : Cond) ∈ WA := wa_in (i := 64) (by decide +kernel) (by decide +kernel)
theorem wd_66 : (.laysFinal "WarpSearch$Comparison" "WarpSearch$Comparison" "costs" "[I" : Cond) ∈ WA := wa_in (i := 66) (by decide +kernel) (by decide +kernel)
theorem wd_68 : (.laysFinal "WarpSearch$Comparison" "WarpSearch$Comparison" "path" "[I" : Cond) ∈ WA := wa_in (i := 68) (by decide +kernel) (by decide +kernel)
theorem wd_70 : (.lays "WarpSearch$Comparison" "WarpSearch$Comparison" "pathStart" "I" : Cond) ∈ WA := wa_in (i := 70) (by decide +kernel) (by decide +kernel)
theorem wd_72 : (.lays "WarpSearch$Comparison" "WarpSearch$Comparison" "length" "I" : Cond) ∈ WA := wa_in (i := 72) (by decide +kernel) (by decide +kernel)
theorem wd_74 : (.lays "WarpSearch$Comparison" "WarpSearch$Comparison" "width" "I" : Cond) ∈ WA := wa_in (i := 74) (by decide +kernel) (by decide +kernel)
theorem wd_77 : (.arrayClass .int : Cond) ∈ WA := wa_in (i := 77) (by decide +kernel) (by decide +kernel)
theorem wd_78 : (.classLink "WarpSearch" 42 "WarpSearch$Nearest" : Cond) ∈ WA := wa_in (i := 78) (by decide +kernel) (by decide +kernel)
theorem wd_79 : (.instantiable "WarpSearch$Nearest" 4 : Cond) ∈ WA := wa_in (i := 79) (by decide +kernel) (by decide +kernel)
theorem wd_81 : (.instanceMethod ⟨"WarpSearch$Nearest", "<init>", "()V"⟩ : Cond) ∈ WA := wa_in (i := 81) (by decide +kernel) (by decide +kernel)
set_option maxRecDepth 20000 in
theorem wd_82 : (.code ⟨"WarpSearch$Nearest", "<init>", "()V"⟩ prog_3_method_1_code 1 none : Cond) ∈ WA := wa_in (i := 82) rfl (by decide +kernel)
theorem wd_83 : (.methodLink "WarpSearch$Nearest" 3 ⟨"java/lang/Object", "<init>", "()V"⟩ : Cond) ∈ WA := wa_in (i := 83) (by decide +kernel) (by decide +kernel)
theorem wd_84 : (.fieldLink "WarpSearch$Nearest" 9 "WarpSearch$Nearest" "places" "[I" : Cond) ∈ WA := wa_in (i := 84) (by decide +kernel) (by decide +kernel)
theorem wd_86 : (.fieldLink "WarpSearch$Nearest" 15 "WarpSearch$Nearest" "distances" "[I" : Cond) ∈ WA := wa_in (i := 86) (by decide +kernel) (by decide +kernel)
theorem wd_88 : (.fieldLink "WarpSearch$Nearest" 18 "WarpSearch$Nearest" "size" "I" : Cond) ∈ WA := wa_in (i := 88) (by decide +kernel) (by decide +kernel)
theorem wd_90 : (.fieldLink "WarpSearch$Nearest" 22 "WarpSearch$Nearest" "wanted" "I" : Cond) ∈ WA := wa_in (i := 90) (by decide +kernel) (by decide +kernel)
theorem wd_91 : (.laysFinal "WarpSearch$Nearest" "WarpSearch$Nearest" "places" "[I" : Cond) ∈ WA := wa_in (i := 91) (by decide +kernel) (by decide +kernel)
theorem wd_93 : (.laysFinal "WarpSearch$Nearest" "WarpSearch$Nearest" "distances" "[I" : Cond) ∈ WA := wa_in (i := 93) (by decide +kernel) (by decide +kernel)
theorem wd_95 : (.lays "WarpSearch$Nearest" "WarpSearch$Nearest" "size" "I" : Cond) ∈ WA := wa_in (i := 95) (by decide +kernel) (by decide +kernel)
theorem wd_97 : (.lays "WarpSearch$Nearest" "WarpSearch$Nearest" "wanted" "I" : Cond) ∈ WA := wa_in (i := 97) (by decide +kernel) (by decide +kernel)
theorem wd_100 : (.fieldLink "WarpSearch" 9 "WarpSearch" "length" "I" : Cond) ∈ WA := wa_in (i := 100) (by decide +kernel) (by decide +kernel)
theorem wd_101 : (.fieldLink "WarpSearch" 13 "WarpSearch" "width" "I" : Cond) ∈ WA := wa_in (i := 101) (by decide +kernel) (by decide +kernel)
theorem wd_102 : (.fieldLink "WarpSearch" 16 "WarpSearch" "question" "[I" : Cond) ∈ WA := wa_in (i := 102) (by decide +kernel) (by decide +kernel)
theorem wd_103 : (.fieldLink "WarpSearch" 20 "WarpSearch" "rows" "[I" : Cond) ∈ WA := wa_in (i := 103) (by decide +kernel) (by decide +kernel)
theorem wd_104 : (.fieldLink "WarpSearch" 23 "WarpSearch" "labels" "[I" : Cond) ∈ WA := wa_in (i := 104) (by decide +kernel) (by decide +kernel)
theorem wd_105 : (.fieldLink "WarpSearch" 26 "WarpSearch" "rowCount" "I" : Cond) ∈ WA := wa_in (i := 105) (by decide +kernel) (by decide +kernel)
theorem wd_106 : (.fieldLink "WarpSearch" 29 "WarpSearch" "stream" "[I" : Cond) ∈ WA := wa_in (i := 106) (by decide +kernel) (by decide +kernel)
theorem wd_107 : (.fieldLink "WarpSearch" 32 "WarpSearch" "streamCount" "I" : Cond) ∈ WA := wa_in (i := 107) (by decide +kernel) (by decide +kernel)
theorem wd_108 : (.fieldLink "WarpSearch" 38 "WarpSearch" "comparison" "LWarpSearch$Comparison;" : Cond) ∈ WA := wa_in (i := 108) (by decide +kernel) (by decide +kernel)
theorem wd_109 : (.fieldLink "WarpSearch" 45 "WarpSearch" "nearest" "LWarpSearch$Nearest;" : Cond) ∈ WA := wa_in (i := 109) (by decide +kernel) (by decide +kernel)
theorem wd_110 : (.fieldLink "WarpSearch" 49 "WarpSearch" "counts" "[I" : Cond) ∈ WA := wa_in (i := 110) (by decide +kernel) (by decide +kernel)
theorem wd_111 : (.lays "WarpSearch" "WarpSearch" "length" "I" : Cond) ∈ WA := wa_in (i := 111) (by decide +kernel) (by decide +kernel)
theorem wd_113 : (.lays "WarpSearch" "WarpSearch" "width" "I" : Cond) ∈ WA := wa_in (i := 113) (by decide +kernel) (by decide +kernel)
theorem wd_115 : (.laysFinal "WarpSearch" "WarpSearch" "question" "[I" : Cond) ∈ WA := wa_in (i := 115) (by decide +kernel) (by decide +kernel)
theorem wd_117 : (.laysFinal "WarpSearch" "WarpSearch" "rows" "[I" : Cond) ∈ WA := wa_in (i := 117) (by decide +kernel) (by decide +kernel)
theorem wd_119 : (.laysFinal "WarpSearch" "WarpSearch" "labels" "[I" : Cond) ∈ WA := wa_in (i := 119) (by decide +kernel) (by decide +kernel)
theorem wd_121 : (.lays "WarpSearch" "WarpSearch" "rowCount" "I" : Cond) ∈ WA := wa_in (i := 121) (by decide +kernel) (by decide +kernel)
theorem wd_123 : (.laysFinal "WarpSearch" "WarpSearch" "stream" "[I" : Cond) ∈ WA := wa_in (i := 123) (by decide +kernel) (by decide +kernel)
theorem wd_125 : (.lays "WarpSearch" "WarpSearch" "streamCount" "I" : Cond) ∈ WA := wa_in (i := 125) (by decide +kernel) (by decide +kernel)
theorem wd_127 : (.laysFinal "WarpSearch" "WarpSearch" "comparison" "LWarpSearch$Comparison;" : Cond) ∈ WA := wa_in (i := 127) (by decide +kernel) (by decide +kernel)
theorem wd_129 : (.laysFinal "WarpSearch" "WarpSearch" "nearest" "LWarpSearch$Nearest;" : Cond) ∈ WA := wa_in (i := 129) (by decide +kernel) (by decide +kernel)
theorem wd_131 : (.laysFinal "WarpSearch" "WarpSearch" "counts" "[I" : Cond) ∈ WA := wa_in (i := 131) (by decide +kernel) (by decide +kernel)
theorem wd_134 : (.methodLink "WarpSearchLaw" 71 ⟨"WarpSearchLaw", "begin", "(LWarpSearch;I)I"⟩ : Cond) ∈ WA := wa_in (i := 134) (by decide +kernel) (by decide +kernel)
theorem wd_135 : (.static ⟨"WarpSearchLaw", "begin", "(LWarpSearch;I)I"⟩ : Cond) ∈ WA := wa_in (i := 135) (by decide +kernel) (by decide +kernel)
set_option maxRecDepth 20000 in
theorem wd_136 : (.codeWith ⟨"WarpSearchLaw", "begin", "(LWarpSearch;I)I"⟩ method_3_code 3 (some .int) [(0, 5, 8, 13)] : Cond) ∈ WA := wa_in (i := 136) rfl (by decide +kernel)
theorem wd_137 : (.classLink "WarpSearchLaw" 13 "java/lang/IllegalArgumentException" : Cond) ∈ WA := wa_in (i := 137) (by decide +kernel) (by decide +kernel)
theorem wd_138 : (.methodLink "WarpSearchLaw" 7 ⟨"WarpSearch", "begin", "(I)V"⟩ : Cond) ∈ WA := wa_in (i := 138) (by decide +kernel) (by decide +kernel)
theorem wd_139 : (.instanceMethod ⟨"WarpSearch", "begin", "(I)V"⟩ : Cond) ∈ WA := wa_in (i := 139) (by decide +kernel) (by decide +kernel)
theorem wd_140 : (.selects "WarpSearch" ⟨"WarpSearch", "begin", "(I)V"⟩ ⟨"WarpSearch", "begin", "(I)V"⟩ : Cond) ∈ WA := wa_in (i := 140) (by decide +kernel) (by decide +kernel)
set_option maxRecDepth 20000 in
theorem wd_141 : (.code ⟨"WarpSearch", "begin", "(I)V"⟩ prog_1_method_2_code 2 none : Cond) ∈ WA := wa_in (i := 141) rfl (by decide +kernel)
theorem wd_142 : (.classLink "WarpSearch" 52 "java/lang/IllegalArgumentException" : Cond) ∈ WA := wa_in (i := 142) (by decide +kernel) (by decide +kernel)
theorem wd_143 : (.instantiable "java/lang/IllegalArgumentException" 6 : Cond) ∈ WA := wa_in (i := 143) (by decide +kernel) (by decide +kernel)
theorem wd_151 : (.selects "java/lang/IllegalArgumentException" ⟨"java/lang/Throwable", "fillInStackTrace", "(I)Ljava/lang/Throwable;"⟩ ⟨"java/lang/Throwable", "fillInStackTrace", "(I)Ljava/lang/Throwable;"⟩ : Cond) ∈ WA := wa_in (i := 151) (by decide +kernel) (by decide +kernel)
theorem wd_152 : (.selects "java/lang/IllegalArgumentException" ⟨"java/lang/Throwable", "fillInStackTrace", "()Ljava/lang/Throwable;"⟩ ⟨"java/lang/Throwable", "fillInStackTrace", "()Ljava/lang/Throwable;"⟩ : Cond) ∈ WA := wa_in (i := 152) (by decide +kernel) (by decide +kernel)
theorem wd_153 : (.lays "java/lang/IllegalArgumentException" "java/lang/Throwable" "cause" "Ljava/lang/Throwable;" : Cond) ∈ WA := wa_in (i := 153) (by decide +kernel) (by decide +kernel)
theorem wd_154 : (.lays "java/lang/Throwable" "java/lang/Throwable" "cause" "Ljava/lang/Throwable;" : Cond) ∈ WA := wa_in (i := 154) (by decide +kernel) (by decide +kernel)
theorem wd_155 : (.lays "java/lang/IllegalArgumentException" "java/lang/Throwable" "stackTrace" "[Ljava/lang/StackTraceElement;" : Cond) ∈ WA := wa_in (i := 155) (by decide +kernel) (by decide +kernel)
theorem wd_156 : (.lays "java/lang/Throwable" "java/lang/Throwable" "stackTrace" "[Ljava/lang/StackTraceElement;" : Cond) ∈ WA := wa_in (i := 156) (by decide +kernel) (by decide +kernel)
theorem wd_157 : (.lays "java/lang/IllegalArgumentException" "java/lang/Throwable" "suppressedExceptions" "Ljava/util/List;" : Cond) ∈ WA := wa_in (i := 157) (by decide +kernel) (by decide +kernel)
theorem wd_158 : (.lays "java/lang/Throwable" "java/lang/Throwable" "suppressedExceptions" "Ljava/util/List;" : Cond) ∈ WA := wa_in (i := 158) (by decide +kernel) (by decide +kernel)
theorem wd_159 : (.lays "java/lang/IllegalArgumentException" "java/lang/Throwable" "detailMessage" "Ljava/lang/String;" : Cond) ∈ WA := wa_in (i := 159) (by decide +kernel) (by decide +kernel)
theorem wd_160 : (.lays "java/lang/Throwable" "java/lang/Throwable" "detailMessage" "Ljava/lang/String;" : Cond) ∈ WA := wa_in (i := 160) (by decide +kernel) (by decide +kernel)
theorem wd_161 : (.lays "java/lang/IllegalArgumentException" "java/lang/Throwable" "backtrace" "Ljava/lang/Object;" : Cond) ∈ WA := wa_in (i := 161) (by decide +kernel) (by decide +kernel)
theorem wd_162 : (.lays "java/lang/Throwable" "java/lang/Throwable" "backtrace" "Ljava/lang/Object;" : Cond) ∈ WA := wa_in (i := 162) (by decide +kernel) (by decide +kernel)
theorem wd_163 : (.fieldLink "java/lang/Throwable" 198 "java/lang/Throwable" "backtrace" "Ljava/lang/Object;" : Cond) ∈ WA := wa_in (i := 163) (by decide +kernel) (by decide +kernel)
theorem wd_165 : (.instanceMethod ⟨"java/lang/Throwable", "<init>", "()V"⟩ : Cond) ∈ WA := wa_in (i := 165) (by decide +kernel) (by decide +kernel)
set_option maxRecDepth 20000 in
theorem wd_166 : (.code ⟨"java/lang/Throwable", "<init>", "()V"⟩ prog_14_method_1_code 1 none : Cond) ∈ WA := wa_in (i := 166) rfl (by decide +kernel)
theorem wd_167 : (.methodLink "java/lang/Throwable" 1 ⟨"java/lang/Object", "<init>", "()V"⟩ : Cond) ∈ WA := wa_in (i := 167) (by decide +kernel) (by decide +kernel)
theorem wd_168 : (.fieldLink "java/lang/Throwable" 13 "java/lang/Throwable" "UNASSIGNED_STACK" "[Ljava/lang/StackTraceElement;" : Cond) ∈ WA := wa_in (i := 168) (by decide +kernel) (by decide +kernel)
theorem wd_170 : (.fieldLink "java/lang/Throwable" 20 "java/lang/Throwable" "SUPPRESSED_SENTINEL" "Ljava/util/List;" : Cond) ∈ WA := wa_in (i := 170) (by decide +kernel) (by decide +kernel)
theorem wd_172 : (.methodLink "java/lang/Throwable" 27 ⟨"java/lang/Throwable", "fillInStackTrace", "()Ljava/lang/Throwable;"⟩ : Cond) ∈ WA := wa_in (i := 172) (by decide +kernel) (by decide +kernel)
theorem wd_173 : (.instanceMethod ⟨"java/lang/Throwable", "fillInStackTrace", "()Ljava/lang/Throwable;"⟩ : Cond) ∈ WA := wa_in (i := 173) (by decide +kernel) (by decide +kernel)
theorem wd_175 : (.selects "java/lang/IllegalStateException" ⟨"java/lang/Throwable", "fillInStackTrace", "()Ljava/lang/Throwable;"⟩ ⟨"java/lang/Throwable", "fillInStackTrace", "()Ljava/lang/Throwable;"⟩ : Cond) ∈ WA := wa_in (i := 175) (by decide +kernel) (by decide +kernel)
theorem wd_176 : (.selects "java/lang/IndexOutOfBoundsException" ⟨"java/lang/Throwable", "fillInStackTrace", "()Ljava/lang/Throwable;"⟩ ⟨"java/lang/Throwable", "fillInStackTrace", "()Ljava/lang/Throwable;"⟩ : Cond) ∈ WA := wa_in (i := 176) (by decide +kernel) (by decide +kernel)
theorem wd_178 : (.methodLink "java/lang/Throwable" 202 ⟨"java/lang/Throwable", "fillInStackTrace", "(I)Ljava/lang/Throwable;"⟩ : Cond) ∈ WA := wa_in (i := 178) (by decide +kernel) (by decide +kernel)
theorem wd_180 : (.instanceMethod ⟨"java/lang/Throwable", "fillInStackTrace", "(I)Ljava/lang/Throwable;"⟩ : Cond) ∈ WA := wa_in (i := 180) (by decide +kernel) (by decide +kernel)
theorem wd_181 : (.instantiable "java/lang/Throwable" 6 : Cond) ∈ WA := wa_in (i := 181) (by decide +kernel) (by decide +kernel)
theorem wd_182 : (.native ⟨"java/lang/Throwable", "fillInStackTrace", "(I)Ljava/lang/Throwable;"⟩ : Cond) ∈ WA := wa_in (i := 182) (by decide +kernel) (by decide +kernel)
theorem wd_184 : (.methodLink "WarpSearch" 56 ⟨"java/lang/IllegalArgumentException", "<init>", "(Ljava/lang/String;)V"⟩ : Cond) ∈ WA := wa_in (i := 184) (by decide +kernel) (by decide +kernel)
theorem wd_185 : (.instanceMethod ⟨"java/lang/IllegalArgumentException", "<init>", "(Ljava/lang/String;)V"⟩ : Cond) ∈ WA := wa_in (i := 185) (by decide +kernel) (by decide +kernel)
set_option maxRecDepth 20000 in
theorem wd_186 : (.code ⟨"java/lang/IllegalArgumentException", "<init>", "(Ljava/lang/String;)V"⟩ prog_7_method_2_code 2 none : Cond) ∈ WA := wa_in (i := 186) rfl (by decide +kernel)
theorem wd_187 : (.methodLink "java/lang/IllegalArgumentException" 7 ⟨"java/lang/RuntimeException", "<init>", "(Ljava/lang/String;)V"⟩ : Cond) ∈ WA := wa_in (i := 187) (by decide +kernel) (by decide +kernel)
theorem wd_188 : (.instanceMethod ⟨"java/lang/RuntimeException", "<init>", "(Ljava/lang/String;)V"⟩ : Cond) ∈ WA := wa_in (i := 188) (by decide +kernel) (by decide +kernel)
set_option maxRecDepth 20000 in
theorem wd_189 : (.code ⟨"java/lang/RuntimeException", "<init>", "(Ljava/lang/String;)V"⟩ prog_11_method_2_code 2 none : Cond) ∈ WA := wa_in (i := 189) rfl (by decide +kernel)
theorem wd_190 : (.methodLink "java/lang/RuntimeException" 7 ⟨"java/lang/Exception", "<init>", "(Ljava/lang/String;)V"⟩ : Cond) ∈ WA := wa_in (i := 190) (by decide +kernel) (by decide +kernel)
theorem wd_191 : (.instanceMethod ⟨"java/lang/Exception", "<init>", "(Ljava/lang/String;)V"⟩ : Cond) ∈ WA := wa_in (i := 191) (by decide +kernel) (by decide +kernel)
set_option maxRecDepth 20000 in
theorem wd_192 : (.code ⟨"java/lang/Exception", "<init>", "(Ljava/lang/String;)V"⟩ prog_6_method_2_code 2 none : Cond) ∈ WA := wa_in (i := 192) rfl (by decide +kernel)
theorem wd_193 : (.methodLink "java/lang/Exception" 7 ⟨"java/lang/Throwable", "<init>", "(Ljava/lang/String;)V"⟩ : Cond) ∈ WA := wa_in (i := 193) (by decide +kernel) (by decide +kernel)
theorem wd_194 : (.instanceMethod ⟨"java/lang/Throwable", "<init>", "(Ljava/lang/String;)V"⟩ : Cond) ∈ WA := wa_in (i := 194) (by decide +kernel) (by decide +kernel)
set_option maxRecDepth 20000 in
theorem wd_195 : (.code ⟨"java/lang/Throwable", "<init>", "(Ljava/lang/String;)V"⟩ prog_14_method_2_code 2 none : Cond) ∈ WA := wa_in (i := 195) rfl (by decide +kernel)
theorem wd_196 : (.fieldLink "java/lang/Throwable" 198 "java/lang/Throwable" "backtrace" "Ljava/lang/Object;" : Cond) ∈ WA := wa_in (i := 196) (by decide +kernel) (by decide +kernel)
theorem wd_197 : (.fieldLink "java/lang/Throwable" 31 "java/lang/Throwable" "detailMessage" "Ljava/lang/String;" : Cond) ∈ WA := wa_in (i := 197) (by decide +kernel) (by decide +kernel)
theorem wd_198 : (.fieldLink "java/lang/Throwable" 7 "java/lang/Throwable" "cause" "Ljava/lang/Throwable;" : Cond) ∈ WA := wa_in (i := 198) (by decide +kernel) (by decide +kernel)
theorem wd_199 : (.fieldLink "java/lang/Throwable" 17 "java/lang/Throwable" "stackTrace" "[Ljava/lang/StackTraceElement;" : Cond) ∈ WA := wa_in (i := 199) (by decide +kernel) (by decide +kernel)
theorem wd_200 : (.fieldLink "java/lang/Throwable" 24 "java/lang/Throwable" "suppressedExceptions" "Ljava/util/List;" : Cond) ∈ WA := wa_in (i := 200) (by decide +kernel) (by decide +kernel)
theorem wd_205 : (.lays "java/lang/IllegalArgumentException" "java/lang/Throwable" "depth" "I" : Cond) ∈ WA := wa_in (i := 205) (by decide +kernel) (by decide +kernel)
theorem wd_209 : (.arrayClass .byte : Cond) ∈ WA := wa_in (i := 209) (by decide +kernel) (by decide +kernel)
theorem wd_210 : (.methodLink "WarpSearch" 59 ⟨"java/util/Arrays", "fill", "([II)V"⟩ : Cond) ∈ WA := wa_in (i := 210) (by decide +kernel) (by decide +kernel)
theorem wd_211 : (.static ⟨"java/util/Arrays", "fill", "([II)V"⟩ : Cond) ∈ WA := wa_in (i := 211) (by decide +kernel) (by decide +kernel)
set_option maxRecDepth 20000 in
theorem wd_212 : (.code ⟨"java/util/Arrays", "fill", "([II)V"⟩ prog_15_method_103_code 4 none : Cond) ∈ WA := wa_in (i := 212) rfl (by decide +kernel)
theorem wd_213 : (.methodLink "WarpSearch" 65 ⟨"WarpSearch$Nearest", "startFor", "(I)V"⟩ : Cond) ∈ WA := wa_in (i := 213) (by decide +kernel) (by decide +kernel)
theorem wd_214 : (.instanceMethod ⟨"WarpSearch$Nearest", "startFor", "(I)V"⟩ : Cond) ∈ WA := wa_in (i := 214) (by decide +kernel) (by decide +kernel)
theorem wd_215 : (.selects "WarpSearch$Nearest" ⟨"WarpSearch$Nearest", "startFor", "(I)V"⟩ ⟨"WarpSearch$Nearest", "startFor", "(I)V"⟩ : Cond) ∈ WA := wa_in (i := 215) (by decide +kernel) (by decide +kernel)
set_option maxRecDepth 20000 in
theorem wd_216 : (.code ⟨"WarpSearch$Nearest", "startFor", "(I)V"⟩ prog_3_method_2_code 2 none : Cond) ∈ WA := wa_in (i := 216) rfl (by decide +kernel)
theorem wd_217 : (.methodLink "WarpSearchLaw" 81 ⟨"WarpSearchLaw", "ask", "(LWarpSearch;II[J)I"⟩ : Cond) ∈ WA := wa_in (i := 217) (by decide +kernel) (by decide +kernel)
theorem wd_218 : (.static ⟨"WarpSearchLaw", "ask", "(LWarpSearch;II[J)I"⟩ : Cond) ∈ WA := wa_in (i := 218) (by decide +kernel) (by decide +kernel)
set_option maxRecDepth 20000 in
theorem wd_219 : (.codeWith ⟨"WarpSearchLaw", "ask", "(LWarpSearch;II[J)I"⟩ method_4_code 5 (some .int) [(0, 10, 13, 19), (0, 10, 17, 13)] : Cond) ∈ WA := wa_in (i := 219) rfl (by decide +kernel)
theorem wd_220 : (.classLink "WarpSearchLaw" 19 "java/lang/IndexOutOfBoundsException" : Cond) ∈ WA := wa_in (i := 220) (by decide +kernel) (by decide +kernel)
theorem wd_221 : (.methodLink "WarpSearchLaw" 15 ⟨"WarpSearch", "ask", "(II)I"⟩ : Cond) ∈ WA := wa_in (i := 221) (by decide +kernel) (by decide +kernel)
theorem wd_222 : (.instanceMethod ⟨"WarpSearch", "ask", "(II)I"⟩ : Cond) ∈ WA := wa_in (i := 222) (by decide +kernel) (by decide +kernel)
theorem wd_223 : (.selects "WarpSearch" ⟨"WarpSearch", "ask", "(II)I"⟩ ⟨"WarpSearch", "ask", "(II)I"⟩ : Cond) ∈ WA := wa_in (i := 223) (by decide +kernel) (by decide +kernel)
set_option maxRecDepth 20000 in
theorem wd_224 : (.code ⟨"WarpSearch", "ask", "(II)I"⟩ prog_1_method_3_code 4 (some .int) : Cond) ∈ WA := wa_in (i := 224) rfl (by decide +kernel)
theorem wd_225 : (.classLink "WarpSearch" 69 "java/lang/IndexOutOfBoundsException" : Cond) ∈ WA := wa_in (i := 225) (by decide +kernel) (by decide +kernel)
theorem wd_226 : (.instantiable "java/lang/IndexOutOfBoundsException" 6 : Cond) ∈ WA := wa_in (i := 226) (by decide +kernel) (by decide +kernel)
theorem wd_228 : (.selects "java/lang/IndexOutOfBoundsException" ⟨"java/lang/Throwable", "fillInStackTrace", "(I)Ljava/lang/Throwable;"⟩ ⟨"java/lang/Throwable", "fillInStackTrace", "(I)Ljava/lang/Throwable;"⟩ : Cond) ∈ WA := wa_in (i := 228) (by decide +kernel) (by decide +kernel)
theorem wd_229 : (.lays "java/lang/IndexOutOfBoundsException" "java/lang/Throwable" "cause" "Ljava/lang/Throwable;" : Cond) ∈ WA := wa_in (i := 229) (by decide +kernel) (by decide +kernel)
theorem wd_230 : (.lays "java/lang/IndexOutOfBoundsException" "java/lang/Throwable" "stackTrace" "[Ljava/lang/StackTraceElement;" : Cond) ∈ WA := wa_in (i := 230) (by decide +kernel) (by decide +kernel)
theorem wd_231 : (.lays "java/lang/IndexOutOfBoundsException" "java/lang/Throwable" "suppressedExceptions" "Ljava/util/List;" : Cond) ∈ WA := wa_in (i := 231) (by decide +kernel) (by decide +kernel)
theorem wd_232 : (.lays "java/lang/IndexOutOfBoundsException" "java/lang/Throwable" "detailMessage" "Ljava/lang/String;" : Cond) ∈ WA := wa_in (i := 232) (by decide +kernel) (by decide +kernel)
theorem wd_233 : (.lays "java/lang/IndexOutOfBoundsException" "java/lang/Throwable" "backtrace" "Ljava/lang/Object;" : Cond) ∈ WA := wa_in (i := 233) (by decide +kernel) (by decide +kernel)
theorem wd_235 : (.methodLink "WarpSearch" 73 ⟨"java/lang/IndexOutOfBoundsException", "<init>", "(Ljava/lang/String;)V"⟩ : Cond) ∈ WA := wa_in (i := 235) (by decide +kernel) (by decide +kernel)
theorem wd_236 : (.instanceMethod ⟨"java/lang/IndexOutOfBoundsException", "<init>", "(Ljava/lang/String;)V"⟩ : Cond) ∈ WA := wa_in (i := 236) (by decide +kernel) (by decide +kernel)
set_option maxRecDepth 20000 in
theorem wd_237 : (.code ⟨"java/lang/IndexOutOfBoundsException", "<init>", "(Ljava/lang/String;)V"⟩ prog_9_method_2_code 2 none : Cond) ∈ WA := wa_in (i := 237) rfl (by decide +kernel)
theorem wd_238 : (.methodLink "java/lang/IndexOutOfBoundsException" 7 ⟨"java/lang/RuntimeException", "<init>", "(Ljava/lang/String;)V"⟩ : Cond) ∈ WA := wa_in (i := 238) (by decide +kernel) (by decide +kernel)
theorem wd_239 : (.lays "java/lang/IndexOutOfBoundsException" "java/lang/Throwable" "depth" "I" : Cond) ∈ WA := wa_in (i := 239) (by decide +kernel) (by decide +kernel)
theorem wd_241 : (.methodLink "WarpSearch" 74 ⟨"WarpSearch", "isValue", "(I)Z"⟩ : Cond) ∈ WA := wa_in (i := 241) (by decide +kernel) (by decide +kernel)
theorem wd_242 : (.static ⟨"WarpSearch", "isValue", "(I)Z"⟩ : Cond) ∈ WA := wa_in (i := 242) (by decide +kernel) (by decide +kernel)
set_option maxRecDepth 20000 in
theorem wd_243 : (.code ⟨"WarpSearch", "isValue", "(I)Z"⟩ prog_1_method_18_code 1 (some .boolean) : Cond) ∈ WA := wa_in (i := 243) rfl (by decide +kernel)
theorem wd_245 : (.methodLink "WarpSearchLaw" 85 ⟨"WarpSearchLaw", "keep", "(LWarpSearch;I[J)I"⟩ : Cond) ∈ WA := wa_in (i := 245) (by decide +kernel) (by decide +kernel)
theorem wd_246 : (.static ⟨"WarpSearchLaw", "keep", "(LWarpSearch;I[J)I"⟩ : Cond) ∈ WA := wa_in (i := 246) (by decide +kernel) (by decide +kernel)
set_option maxRecDepth 20000 in
theorem wd_247 : (.codeWith ⟨"WarpSearchLaw", "keep", "(LWarpSearch;I[J)I"⟩ method_5_code 4 (some .int) [(0, 9, 12, 13), (0, 9, 15, 25)] : Cond) ∈ WA := wa_in (i := 247) rfl (by decide +kernel)
theorem wd_248 : (.classLink "WarpSearchLaw" 25 "java/lang/IllegalStateException" : Cond) ∈ WA := wa_in (i := 248) (by decide +kernel) (by decide +kernel)
theorem wd_249 : (.methodLink "WarpSearchLaw" 21 ⟨"WarpSearch", "keep", "(I)I"⟩ : Cond) ∈ WA := wa_in (i := 249) (by decide +kernel) (by decide +kernel)
theorem wd_250 : (.instanceMethod ⟨"WarpSearch", "keep", "(I)I"⟩ : Cond) ∈ WA := wa_in (i := 250) (by decide +kernel) (by decide +kernel)
theorem wd_251 : (.selects "WarpSearch" ⟨"WarpSearch", "keep", "(I)I"⟩ ⟨"WarpSearch", "keep", "(I)I"⟩ : Cond) ∈ WA := wa_in (i := 251) (by decide +kernel) (by decide +kernel)
set_option maxRecDepth 20000 in
theorem wd_252 : (.code ⟨"WarpSearch", "keep", "(I)I"⟩ prog_1_method_4_code 3 (some .int) : Cond) ∈ WA := wa_in (i := 252) rfl (by decide +kernel)
theorem wd_254 : (.classLink "WarpSearch" 82 "java/lang/IllegalStateException" : Cond) ∈ WA := wa_in (i := 254) (by decide +kernel) (by decide +kernel)
theorem wd_255 : (.instantiable "java/lang/IllegalStateException" 6 : Cond) ∈ WA := wa_in (i := 255) (by decide +kernel) (by decide +kernel)
theorem wd_257 : (.selects "java/lang/IllegalStateException" ⟨"java/lang/Throwable", "fillInStackTrace", "(I)Ljava/lang/Throwable;"⟩ ⟨"java/lang/Throwable", "fillInStackTrace", "(I)Ljava/lang/Throwable;"⟩ : Cond) ∈ WA := wa_in (i := 257) (by decide +kernel) (by decide +kernel)
theorem wd_258 : (.lays "java/lang/IllegalStateException" "java/lang/Throwable" "cause" "Ljava/lang/Throwable;" : Cond) ∈ WA := wa_in (i := 258) (by decide +kernel) (by decide +kernel)
theorem wd_259 : (.lays "java/lang/IllegalStateException" "java/lang/Throwable" "stackTrace" "[Ljava/lang/StackTraceElement;" : Cond) ∈ WA := wa_in (i := 259) (by decide +kernel) (by decide +kernel)
theorem wd_260 : (.lays "java/lang/IllegalStateException" "java/lang/Throwable" "suppressedExceptions" "Ljava/util/List;" : Cond) ∈ WA := wa_in (i := 260) (by decide +kernel) (by decide +kernel)
theorem wd_261 : (.lays "java/lang/IllegalStateException" "java/lang/Throwable" "detailMessage" "Ljava/lang/String;" : Cond) ∈ WA := wa_in (i := 261) (by decide +kernel) (by decide +kernel)
theorem wd_262 : (.lays "java/lang/IllegalStateException" "java/lang/Throwable" "backtrace" "Ljava/lang/Object;" : Cond) ∈ WA := wa_in (i := 262) (by decide +kernel) (by decide +kernel)
theorem wd_264 : (.methodLink "WarpSearch" 86 ⟨"java/lang/IllegalStateException", "<init>", "(Ljava/lang/String;)V"⟩ : Cond) ∈ WA := wa_in (i := 264) (by decide +kernel) (by decide +kernel)
theorem wd_265 : (.instanceMethod ⟨"java/lang/IllegalStateException", "<init>", "(Ljava/lang/String;)V"⟩ : Cond) ∈ WA := wa_in (i := 265) (by decide +kernel) (by decide +kernel)
set_option maxRecDepth 20000 in
theorem wd_266 : (.code ⟨"java/lang/IllegalStateException", "<init>", "(Ljava/lang/String;)V"⟩ prog_8_method_2_code 2 none : Cond) ∈ WA := wa_in (i := 266) rfl (by decide +kernel)
theorem wd_267 : (.methodLink "java/lang/IllegalStateException" 7 ⟨"java/lang/RuntimeException", "<init>", "(Ljava/lang/String;)V"⟩ : Cond) ∈ WA := wa_in (i := 267) (by decide +kernel) (by decide +kernel)
theorem wd_268 : (.lays "java/lang/IllegalStateException" "java/lang/Throwable" "depth" "I" : Cond) ∈ WA := wa_in (i := 268) (by decide +kernel) (by decide +kernel)
theorem wd_270 : (.methodLink "WarpSearch" 87 ⟨"java/lang/System", "arraycopy", "(Ljava/lang/Object;ILjava/lang/Object;II)V"⟩ : Cond) ∈ WA := wa_in (i := 270) (by decide +kernel) (by decide +kernel)
theorem wd_271 : (.static ⟨"java/lang/System", "arraycopy", "(Ljava/lang/Object;ILjava/lang/Object;II)V"⟩ : Cond) ∈ WA := wa_in (i := 271) (by decide +kernel) (by decide +kernel)
theorem wd_272 : (.native ⟨"java/lang/System", "arraycopy", "(Ljava/lang/Object;ILjava/lang/Object;II)V"⟩ : Cond) ∈ WA := wa_in (i := 272) (by decide +kernel) (by decide +kernel)
theorem wd_273 : (.methodLink "WarpSearchLaw" 89 ⟨"WarpSearchLaw", "recall", "(LWarpSearch;I)I"⟩ : Cond) ∈ WA := wa_in (i := 273) (by decide +kernel) (by decide +kernel)
theorem wd_274 : (.static ⟨"WarpSearchLaw", "recall", "(LWarpSearch;I)I"⟩ : Cond) ∈ WA := wa_in (i := 274) (by decide +kernel) (by decide +kernel)
set_option maxRecDepth 20000 in
theorem wd_275 : (.codeWith ⟨"WarpSearchLaw", "recall", "(LWarpSearch;I)I"⟩ method_6_code 3 (some .int) [(0, 5, 8, 19)] : Cond) ∈ WA := wa_in (i := 275) rfl (by decide +kernel)
theorem wd_276 : (.methodLink "WarpSearchLaw" 27 ⟨"WarpSearch", "recall", "(I)V"⟩ : Cond) ∈ WA := wa_in (i := 276) (by decide +kernel) (by decide +kernel)
theorem wd_277 : (.instanceMethod ⟨"WarpSearch", "recall", "(I)V"⟩ : Cond) ∈ WA := wa_in (i := 277) (by decide +kernel) (by decide +kernel)
theorem wd_278 : (.selects "WarpSearch" ⟨"WarpSearch", "recall", "(I)V"⟩ ⟨"WarpSearch", "recall", "(I)V"⟩ : Cond) ∈ WA := wa_in (i := 278) (by decide +kernel) (by decide +kernel)
set_option maxRecDepth 20000 in
theorem wd_279 : (.code ⟨"WarpSearch", "recall", "(I)V"⟩ prog_1_method_5_code 2 none : Cond) ∈ WA := wa_in (i := 279) rfl (by decide +kernel)
theorem wd_280 : (.methodLink "WarpSearch" 93 ⟨"WarpSearch", "checkRow", "(I)V"⟩ : Cond) ∈ WA := wa_in (i := 280) (by decide +kernel) (by decide +kernel)
theorem wd_282 : (.instanceMethod ⟨"WarpSearch", "checkRow", "(I)V"⟩ : Cond) ∈ WA := wa_in (i := 282) (by decide +kernel) (by decide +kernel)
set_option maxRecDepth 20000 in
theorem wd_283 : (.code ⟨"WarpSearch", "checkRow", "(I)V"⟩ prog_1_method_19_code 2 none : Cond) ∈ WA := wa_in (i := 283) rfl (by decide +kernel)
theorem wd_285 : (.methodLink "WarpSearchLaw" 92 ⟨"WarpSearchLaw", "band", "(LWarpSearch;I[J)I"⟩ : Cond) ∈ WA := wa_in (i := 285) (by decide +kernel) (by decide +kernel)
theorem wd_286 : (.static ⟨"WarpSearchLaw", "band", "(LWarpSearch;I[J)I"⟩ : Cond) ∈ WA := wa_in (i := 286) (by decide +kernel) (by decide +kernel)
set_option maxRecDepth 20000 in
theorem wd_287 : (.codeWith ⟨"WarpSearchLaw", "band", "(LWarpSearch;I[J)I"⟩ method_7_code 4 (some .int) [(0, 9, 12, 13)] : Cond) ∈ WA := wa_in (i := 287) rfl (by decide +kernel)
theorem wd_288 : (.methodLink "WarpSearchLaw" 30 ⟨"WarpSearch", "band", "(I)I"⟩ : Cond) ∈ WA := wa_in (i := 288) (by decide +kernel) (by decide +kernel)
theorem wd_289 : (.instanceMethod ⟨"WarpSearch", "band", "(I)I"⟩ : Cond) ∈ WA := wa_in (i := 289) (by decide +kernel) (by decide +kernel)
theorem wd_290 : (.selects "WarpSearch" ⟨"WarpSearch", "band", "(I)I"⟩ ⟨"WarpSearch", "band", "(I)I"⟩ : Cond) ∈ WA := wa_in (i := 290) (by decide +kernel) (by decide +kernel)
set_option maxRecDepth 20000 in
theorem wd_291 : (.code ⟨"WarpSearch", "band", "(I)I"⟩ prog_1_method_6_code 3 (some .int) : Cond) ∈ WA := wa_in (i := 291) rfl (by decide +kernel)
theorem wd_293 : (.methodLink "WarpSearchLaw" 95 ⟨"WarpSearchLaw", "distance", "(LWarpSearch;I[J)I"⟩ : Cond) ∈ WA := wa_in (i := 293) (by decide +kernel) (by decide +kernel)
theorem wd_294 : (.static ⟨"WarpSearchLaw", "distance", "(LWarpSearch;I[J)I"⟩ : Cond) ∈ WA := wa_in (i := 294) (by decide +kernel) (by decide +kernel)
set_option maxRecDepth 20000 in
theorem wd_295 : (.codeWith ⟨"WarpSearchLaw", "distance", "(LWarpSearch;I[J)I"⟩ method_8_code 4 (some .int) [(0, 9, 12, 19)] : Cond) ∈ WA := wa_in (i := 295) rfl (by decide +kernel)
theorem wd_296 : (.methodLink "WarpSearchLaw" 33 ⟨"WarpSearch", "distance", "(I)I"⟩ : Cond) ∈ WA := wa_in (i := 296) (by decide +kernel) (by decide +kernel)
theorem wd_297 : (.instanceMethod ⟨"WarpSearch", "distance", "(I)I"⟩ : Cond) ∈ WA := wa_in (i := 297) (by decide +kernel) (by decide +kernel)
theorem wd_298 : (.selects "WarpSearch" ⟨"WarpSearch", "distance", "(I)I"⟩ ⟨"WarpSearch", "distance", "(I)I"⟩ : Cond) ∈ WA := wa_in (i := 298) (by decide +kernel) (by decide +kernel)
set_option maxRecDepth 20000 in
theorem wd_299 : (.code ⟨"WarpSearch", "distance", "(I)I"⟩ prog_1_method_7_code 2 (some .int) : Cond) ∈ WA := wa_in (i := 299) rfl (by decide +kernel)
theorem wd_300 : (.methodLink "WarpSearch" 98 ⟨"WarpSearch", "placeRow", "(I)V"⟩ : Cond) ∈ WA := wa_in (i := 300) (by decide +kernel) (by decide +kernel)
theorem wd_302 : (.instanceMethod ⟨"WarpSearch", "placeRow", "(I)V"⟩ : Cond) ∈ WA := wa_in (i := 302) (by decide +kernel) (by decide +kernel)
set_option maxRecDepth 20000 in
theorem wd_303 : (.code ⟨"WarpSearch", "placeRow", "(I)V"⟩ prog_1_method_22_code 2 none : Cond) ∈ WA := wa_in (i := 303) rfl (by decide +kernel)
theorem wd_304 : (.methodLink "WarpSearch" 157 ⟨"WarpSearch$Comparison", "placeQuestion", "([III)V"⟩ : Cond) ∈ WA := wa_in (i := 304) (by decide +kernel) (by decide +kernel)
theorem wd_305 : (.instanceMethod ⟨"WarpSearch$Comparison", "placeQuestion", "([III)V"⟩ : Cond) ∈ WA := wa_in (i := 305) (by decide +kernel) (by decide +kernel)
theorem wd_306 : (.selects "WarpSearch$Comparison" ⟨"WarpSearch$Comparison", "placeQuestion", "([III)V"⟩ ⟨"WarpSearch$Comparison", "placeQuestion", "([III)V"⟩ : Cond) ∈ WA := wa_in (i := 306) (by decide +kernel) (by decide +kernel)
set_option maxRecDepth 20000 in
theorem wd_307 : (.code ⟨"WarpSearch$Comparison", "placeQuestion", "([III)V"⟩ prog_2_method_2_code 4 none : Cond) ∈ WA := wa_in (i := 307) rfl (by decide +kernel)
theorem wd_308 : (.methodLink "WarpSearch$Comparison" 34 ⟨"java/lang/System", "arraycopy", "(Ljava/lang/Object;ILjava/lang/Object;II)V"⟩ : Cond) ∈ WA := wa_in (i := 308) (by decide +kernel) (by decide +kernel)
theorem wd_309 : (.methodLink "WarpSearch" 161 ⟨"WarpSearch$Comparison", "placeBeside", "([II)V"⟩ : Cond) ∈ WA := wa_in (i := 309) (by decide +kernel) (by decide +kernel)
theorem wd_310 : (.instanceMethod ⟨"WarpSearch$Comparison", "placeBeside", "([II)V"⟩ : Cond) ∈ WA := wa_in (i := 310) (by decide +kernel) (by decide +kernel)
theorem wd_311 : (.selects "WarpSearch$Comparison" ⟨"WarpSearch$Comparison", "placeBeside", "([II)V"⟩ ⟨"WarpSearch$Comparison", "placeBeside", "([II)V"⟩ : Cond) ∈ WA := wa_in (i := 311) (by decide +kernel) (by decide +kernel)
set_option maxRecDepth 20000 in
theorem wd_312 : (.code ⟨"WarpSearch$Comparison", "placeBeside", "([II)V"⟩ prog_2_method_3_code 3 none : Cond) ∈ WA := wa_in (i := 312) rfl (by decide +kernel)
theorem wd_313 : (.methodLink "WarpSearch" 101 ⟨"WarpSearch$Comparison", "leastCost", "(I)I"⟩ : Cond) ∈ WA := wa_in (i := 313) (by decide +kernel) (by decide +kernel)
theorem wd_314 : (.instanceMethod ⟨"WarpSearch$Comparison", "leastCost", "(I)I"⟩ : Cond) ∈ WA := wa_in (i := 314) (by decide +kernel) (by decide +kernel)
theorem wd_315 : (.selects "WarpSearch$Comparison" ⟨"WarpSearch$Comparison", "leastCost", "(I)I"⟩ ⟨"WarpSearch$Comparison", "leastCost", "(I)I"⟩ : Cond) ∈ WA := wa_in (i := 315) (by decide +kernel) (by decide +kernel)
set_option maxRecDepth 20000 in
theorem wd_316 : (.code ⟨"WarpSearch$Comparison", "leastCost", "(I)I"⟩ prog_2_method_7_code 4 (some .int) : Cond) ∈ WA := wa_in (i := 316) rfl (by decide +kernel)
theorem wd_317 : (.methodLink "WarpSearch$Comparison" 67 ⟨"WarpSearch$Comparison", "fillLine", "(I)I"⟩ : Cond) ∈ WA := wa_in (i := 317) (by decide +kernel) (by decide +kernel)
theorem wd_319 : (.instanceMethod ⟨"WarpSearch$Comparison", "fillLine", "(I)I"⟩ : Cond) ∈ WA := wa_in (i := 319) (by decide +kernel) (by decide +kernel)
set_option maxRecDepth 20000 in
theorem wd_320 : (.code ⟨"WarpSearch$Comparison", "fillLine", "(I)I"⟩ prog_2_method_8_code 6 (some .int) : Cond) ∈ WA := wa_in (i := 320) rfl (by decide +kernel)
theorem wd_321 : (.constant "WarpSearch$Comparison" 73 1000000000 : Cond) ∈ WA := wa_in (i := 321) (by decide +kernel) (by decide +kernel)
theorem wd_322 : (.methodLink "WarpSearch$Comparison" 48 ⟨"WarpSearch$Comparison", "lastInBand", "(I)I"⟩ : Cond) ∈ WA := wa_in (i := 322) (by decide +kernel) (by decide +kernel)
theorem wd_324 : (.instanceMethod ⟨"WarpSearch$Comparison", "lastInBand", "(I)I"⟩ : Cond) ∈ WA := wa_in (i := 324) (by decide +kernel) (by decide +kernel)
set_option maxRecDepth 20000 in
theorem wd_325 : (.code ⟨"WarpSearch$Comparison", "lastInBand", "(I)I"⟩ prog_2_method_14_code 2 (some .int) : Cond) ∈ WA := wa_in (i := 325) rfl (by decide +kernel)
theorem wd_326 : (.methodLink "WarpSearch$Comparison" 51 ⟨"WarpSearch$Comparison", "firstInBand", "(I)I"⟩ : Cond) ∈ WA := wa_in (i := 326) (by decide +kernel) (by decide +kernel)
theorem wd_328 : (.instanceMethod ⟨"WarpSearch$Comparison", "firstInBand", "(I)I"⟩ : Cond) ∈ WA := wa_in (i := 328) (by decide +kernel) (by decide +kernel)
set_option maxRecDepth 20000 in
theorem wd_329 : (.code ⟨"WarpSearch$Comparison", "firstInBand", "(I)I"⟩ prog_2_method_13_code 2 (some .int) : Cond) ∈ WA := wa_in (i := 329) rfl (by decide +kernel)
theorem wd_330 : (.methodLink "WarpSearch$Comparison" 74 ⟨"WarpSearch$Comparison", "leastBefore", "(II)I"⟩ : Cond) ∈ WA := wa_in (i := 330) (by decide +kernel) (by decide +kernel)
theorem wd_332 : (.instanceMethod ⟨"WarpSearch$Comparison", "leastBefore", "(II)I"⟩ : Cond) ∈ WA := wa_in (i := 332) (by decide +kernel) (by decide +kernel)
set_option maxRecDepth 20000 in
theorem wd_333 : (.code ⟨"WarpSearch$Comparison", "leastBefore", "(II)I"⟩ prog_2_method_9_code 3 (some .int) : Cond) ∈ WA := wa_in (i := 333) rfl (by decide +kernel)
theorem wd_334 : (.methodLink "WarpSearch$Comparison" 70 ⟨"WarpSearch$Comparison", "costAt", "(II)I"⟩ : Cond) ∈ WA := wa_in (i := 334) (by decide +kernel) (by decide +kernel)
theorem wd_336 : (.instanceMethod ⟨"WarpSearch$Comparison", "costAt", "(II)I"⟩ : Cond) ∈ WA := wa_in (i := 336) (by decide +kernel) (by decide +kernel)
set_option maxRecDepth 20000 in
theorem wd_337 : (.code ⟨"WarpSearch$Comparison", "costAt", "(II)I"⟩ prog_2_method_10_code 4 (some .int) : Cond) ∈ WA := wa_in (i := 337) rfl (by decide +kernel)
theorem wd_338 : (.methodLink "WarpSearch$Comparison" 54 ⟨"java/lang/Math", "min", "(II)I"⟩ : Cond) ∈ WA := wa_in (i := 338) (by decide +kernel) (by decide +kernel)
theorem wd_339 : (.static ⟨"java/lang/Math", "min", "(II)I"⟩ : Cond) ∈ WA := wa_in (i := 339) (by decide +kernel) (by decide +kernel)
set_option maxRecDepth 20000 in
theorem wd_340 : (.code ⟨"java/lang/Math", "min", "(II)I"⟩ prog_10_method_69_code 2 (some .int) : Cond) ∈ WA := wa_in (i := 340) rfl (by decide +kernel)
theorem wd_341 : (.methodLink "WarpSearch$Comparison" 40 ⟨"WarpSearch$Comparison", "square", "(I)I"⟩ : Cond) ∈ WA := wa_in (i := 341) (by decide +kernel) (by decide +kernel)
theorem wd_342 : (.static ⟨"WarpSearch$Comparison", "square", "(I)I"⟩ : Cond) ∈ WA := wa_in (i := 342) (by decide +kernel) (by decide +kernel)
set_option maxRecDepth 20000 in
theorem wd_343 : (.code ⟨"WarpSearch$Comparison", "square", "(I)I"⟩ prog_2_method_15_code 1 (some .int) : Cond) ∈ WA := wa_in (i := 343) rfl (by decide +kernel)
theorem wd_344 : (.methodLink "WarpSearchLaw" 98 ⟨"WarpSearchLaw", "bound", "(LWarpSearch;II[J)I"⟩ : Cond) ∈ WA := wa_in (i := 344) (by decide +kernel) (by decide +kernel)
theorem wd_345 : (.static ⟨"WarpSearchLaw", "bound", "(LWarpSearch;II[J)I"⟩ : Cond) ∈ WA := wa_in (i := 345) (by decide +kernel) (by decide +kernel)
set_option maxRecDepth 20000 in
theorem wd_346 : (.codeWith ⟨"WarpSearchLaw", "bound", "(LWarpSearch;II[J)I"⟩ method_9_code 5 (some .int) [(0, 10, 13, 19), (0, 10, 17, 13)] : Cond) ∈ WA := wa_in (i := 346) rfl (by decide +kernel)
theorem wd_347 : (.methodLink "WarpSearchLaw" 36 ⟨"WarpSearch", "bound", "(II)I"⟩ : Cond) ∈ WA := wa_in (i := 347) (by decide +kernel) (by decide +kernel)
theorem wd_348 : (.instanceMethod ⟨"WarpSearch", "bound", "(II)I"⟩ : Cond) ∈ WA := wa_in (i := 348) (by decide +kernel) (by decide +kernel)
theorem wd_349 : (.selects "WarpSearch" ⟨"WarpSearch", "bound", "(II)I"⟩ ⟨"WarpSearch", "bound", "(II)I"⟩ : Cond) ∈ WA := wa_in (i := 349) (by decide +kernel) (by decide +kernel)
set_option maxRecDepth 20000 in
theorem wd_350 : (.code ⟨"WarpSearch", "bound", "(II)I"⟩ prog_1_method_8_code 3 (some .int) : Cond) ∈ WA := wa_in (i := 350) rfl (by decide +kernel)
theorem wd_352 : (.methodLink "WarpSearch" 107 ⟨"WarpSearch$Comparison", "lowerBound", "(I)I"⟩ : Cond) ∈ WA := wa_in (i := 352) (by decide +kernel) (by decide +kernel)
theorem wd_353 : (.instanceMethod ⟨"WarpSearch$Comparison", "lowerBound", "(I)I"⟩ : Cond) ∈ WA := wa_in (i := 353) (by decide +kernel) (by decide +kernel)
theorem wd_354 : (.selects "WarpSearch$Comparison" ⟨"WarpSearch$Comparison", "lowerBound", "(I)I"⟩ ⟨"WarpSearch$Comparison", "lowerBound", "(I)I"⟩ : Cond) ∈ WA := wa_in (i := 354) (by decide +kernel) (by decide +kernel)
set_option maxRecDepth 20000 in
theorem wd_355 : (.code ⟨"WarpSearch$Comparison", "lowerBound", "(I)I"⟩ prog_2_method_4_code 2 (some .int) : Cond) ∈ WA := wa_in (i := 355) rfl (by decide +kernel)
theorem wd_356 : (.methodLink "WarpSearch$Comparison" 44 ⟨"WarpSearch$Comparison", "hullBound", "([I[I)I"⟩ : Cond) ∈ WA := wa_in (i := 356) (by decide +kernel) (by decide +kernel)
theorem wd_358 : (.instanceMethod ⟨"WarpSearch$Comparison", "hullBound", "([I[I)I"⟩ : Cond) ∈ WA := wa_in (i := 358) (by decide +kernel) (by decide +kernel)
set_option maxRecDepth 20000 in
theorem wd_359 : (.code ⟨"WarpSearch$Comparison", "hullBound", "([I[I)I"⟩ prog_2_method_5_code 9 (some .int) : Cond) ∈ WA := wa_in (i := 359) rfl (by decide +kernel)
theorem wd_360 : (.methodLink "WarpSearch$Comparison" 60 ⟨"java/lang/Math", "max", "(II)I"⟩ : Cond) ∈ WA := wa_in (i := 360) (by decide +kernel) (by decide +kernel)
theorem wd_361 : (.static ⟨"java/lang/Math", "max", "(II)I"⟩ : Cond) ∈ WA := wa_in (i := 361) (by decide +kernel) (by decide +kernel)
set_option maxRecDepth 20000 in
theorem wd_362 : (.code ⟨"java/lang/Math", "max", "(II)I"⟩ prog_10_method_65_code 2 (some .int) : Cond) ∈ WA := wa_in (i := 362) rfl (by decide +kernel)
theorem wd_363 : (.methodLink "WarpSearch$Comparison" 63 ⟨"WarpSearch$Comparison", "gap", "(III)I"⟩ : Cond) ∈ WA := wa_in (i := 363) (by decide +kernel) (by decide +kernel)
theorem wd_364 : (.static ⟨"WarpSearch$Comparison", "gap", "(III)I"⟩ : Cond) ∈ WA := wa_in (i := 364) (by decide +kernel) (by decide +kernel)
set_option maxRecDepth 20000 in
theorem wd_365 : (.code ⟨"WarpSearch$Comparison", "gap", "(III)I"⟩ prog_2_method_6_code 3 (some .int) : Cond) ∈ WA := wa_in (i := 365) rfl (by decide +kernel)
theorem wd_366 : (.methodLink "WarpSearchLaw" 101 ⟨"WarpSearchLaw", "steps", "(LWarpSearch;I[J)I"⟩ : Cond) ∈ WA := wa_in (i := 366) (by decide +kernel) (by decide +kernel)
theorem wd_367 : (.static ⟨"WarpSearchLaw", "steps", "(LWarpSearch;I[J)I"⟩ : Cond) ∈ WA := wa_in (i := 367) (by decide +kernel) (by decide +kernel)
set_option maxRecDepth 20000 in
theorem wd_368 : (.codeWith ⟨"WarpSearchLaw", "steps", "(LWarpSearch;I[J)I"⟩ method_10_code 4 (some .int) [(0, 9, 12, 19)] : Cond) ∈ WA := wa_in (i := 368) rfl (by decide +kernel)
theorem wd_369 : (.methodLink "WarpSearchLaw" 39 ⟨"WarpSearch", "steps", "(I)I"⟩ : Cond) ∈ WA := wa_in (i := 369) (by decide +kernel) (by decide +kernel)
theorem wd_370 : (.instanceMethod ⟨"WarpSearch", "steps", "(I)I"⟩ : Cond) ∈ WA := wa_in (i := 370) (by decide +kernel) (by decide +kernel)
theorem wd_371 : (.selects "WarpSearch" ⟨"WarpSearch", "steps", "(I)I"⟩ ⟨"WarpSearch", "steps", "(I)I"⟩ : Cond) ∈ WA := wa_in (i := 371) (by decide +kernel) (by decide +kernel)
set_option maxRecDepth 20000 in
theorem wd_372 : (.code ⟨"WarpSearch", "steps", "(I)I"⟩ prog_1_method_9_code 2 (some .int) : Cond) ∈ WA := wa_in (i := 372) rfl (by decide +kernel)
theorem wd_373 : (.methodLink "WarpSearch" 110 ⟨"WarpSearch$Comparison", "tracePath", "()I"⟩ : Cond) ∈ WA := wa_in (i := 373) (by decide +kernel) (by decide +kernel)
theorem wd_374 : (.instanceMethod ⟨"WarpSearch$Comparison", "tracePath", "()I"⟩ : Cond) ∈ WA := wa_in (i := 374) (by decide +kernel) (by decide +kernel)
theorem wd_375 : (.selects "WarpSearch$Comparison" ⟨"WarpSearch$Comparison", "tracePath", "()I"⟩ ⟨"WarpSearch$Comparison", "tracePath", "()I"⟩ : Cond) ∈ WA := wa_in (i := 375) (by decide +kernel) (by decide +kernel)
set_option maxRecDepth 20000 in
theorem wd_376 : (.code ⟨"WarpSearch$Comparison", "tracePath", "()I"⟩ prog_2_method_11_code 9 (some .int) : Cond) ∈ WA := wa_in (i := 376) rfl (by decide +kernel)
theorem wd_377 : (.methodLink "WarpSearch$Comparison" 77 ⟨"WarpSearch$Comparison", "leastCost", "(I)I"⟩ : Cond) ∈ WA := wa_in (i := 377) (by decide +kernel) (by decide +kernel)
theorem wd_378 : (.methodLink "WarpSearchLaw" 104 ⟨"WarpSearchLaw", "pair", "(LWarpSearch;II[J)I"⟩ : Cond) ∈ WA := wa_in (i := 378) (by decide +kernel) (by decide +kernel)
theorem wd_379 : (.static ⟨"WarpSearchLaw", "pair", "(LWarpSearch;II[J)I"⟩ : Cond) ∈ WA := wa_in (i := 379) (by decide +kernel) (by decide +kernel)
set_option maxRecDepth 20000 in
theorem wd_380 : (.codeWith ⟨"WarpSearchLaw", "pair", "(LWarpSearch;II[J)I"⟩ method_11_code 5 (some .int) [(0, 10, 13, 19)] : Cond) ∈ WA := wa_in (i := 380) rfl (by decide +kernel)
theorem wd_381 : (.methodLink "WarpSearchLaw" 42 ⟨"WarpSearch", "pair", "(II)I"⟩ : Cond) ∈ WA := wa_in (i := 381) (by decide +kernel) (by decide +kernel)
theorem wd_382 : (.instanceMethod ⟨"WarpSearch", "pair", "(II)I"⟩ : Cond) ∈ WA := wa_in (i := 382) (by decide +kernel) (by decide +kernel)
theorem wd_383 : (.selects "WarpSearch" ⟨"WarpSearch", "pair", "(II)I"⟩ ⟨"WarpSearch", "pair", "(II)I"⟩ : Cond) ∈ WA := wa_in (i := 383) (by decide +kernel) (by decide +kernel)
set_option maxRecDepth 20000 in
theorem wd_384 : (.code ⟨"WarpSearch", "pair", "(II)I"⟩ prog_1_method_10_code 4 (some .int) : Cond) ∈ WA := wa_in (i := 384) rfl (by decide +kernel)
theorem wd_386 : (.methodLink "WarpSearch" 116 ⟨"WarpSearch$Comparison", "pairOfPath", "(I)I"⟩ : Cond) ∈ WA := wa_in (i := 386) (by decide +kernel) (by decide +kernel)
theorem wd_387 : (.instanceMethod ⟨"WarpSearch$Comparison", "pairOfPath", "(I)I"⟩ : Cond) ∈ WA := wa_in (i := 387) (by decide +kernel) (by decide +kernel)
theorem wd_388 : (.selects "WarpSearch$Comparison" ⟨"WarpSearch$Comparison", "pairOfPath", "(I)I"⟩ ⟨"WarpSearch$Comparison", "pairOfPath", "(I)I"⟩ : Cond) ∈ WA := wa_in (i := 388) (by decide +kernel) (by decide +kernel)
set_option maxRecDepth 20000 in
theorem wd_389 : (.code ⟨"WarpSearch$Comparison", "pairOfPath", "(I)I"⟩ prog_2_method_12_code 2 (some .int) : Cond) ∈ WA := wa_in (i := 389) rfl (by decide +kernel)
theorem wd_390 : (.methodLink "WarpSearchLaw" 107 ⟨"WarpSearchLaw", "search", "(LWarpSearch;I[J)I"⟩ : Cond) ∈ WA := wa_in (i := 390) (by decide +kernel) (by decide +kernel)
theorem wd_391 : (.static ⟨"WarpSearchLaw", "search", "(LWarpSearch;I[J)I"⟩ : Cond) ∈ WA := wa_in (i := 391) (by decide +kernel) (by decide +kernel)
set_option maxRecDepth 20000 in
theorem wd_392 : (.codeWith ⟨"WarpSearchLaw", "search", "(LWarpSearch;I[J)I"⟩ method_12_code 4 (some .int) [(0, 9, 12, 13), (0, 9, 15, 25)] : Cond) ∈ WA := wa_in (i := 392) rfl (by decide +kernel)
theorem wd_393 : (.methodLink "WarpSearchLaw" 45 ⟨"WarpSearch", "search", "(I)I"⟩ : Cond) ∈ WA := wa_in (i := 393) (by decide +kernel) (by decide +kernel)
theorem wd_394 : (.instanceMethod ⟨"WarpSearch", "search", "(I)I"⟩ : Cond) ∈ WA := wa_in (i := 394) (by decide +kernel) (by decide +kernel)
theorem wd_395 : (.selects "WarpSearch" ⟨"WarpSearch", "search", "(I)I"⟩ ⟨"WarpSearch", "search", "(I)I"⟩ : Cond) ∈ WA := wa_in (i := 395) (by decide +kernel) (by decide +kernel)
set_option maxRecDepth 20000 in
theorem wd_396 : (.code ⟨"WarpSearch", "search", "(I)I"⟩ prog_1_method_11_code 2 (some .int) : Cond) ∈ WA := wa_in (i := 396) rfl (by decide +kernel)
theorem wd_397 : (.methodLink "WarpSearch" 119 ⟨"WarpSearch", "checkWanted", "(I)V"⟩ : Cond) ∈ WA := wa_in (i := 397) (by decide +kernel) (by decide +kernel)
theorem wd_398 : (.static ⟨"WarpSearch", "checkWanted", "(I)V"⟩ : Cond) ∈ WA := wa_in (i := 398) (by decide +kernel) (by decide +kernel)
set_option maxRecDepth 20000 in
theorem wd_399 : (.code ⟨"WarpSearch", "checkWanted", "(I)V"⟩ prog_1_method_21_code 1 none : Cond) ∈ WA := wa_in (i := 399) rfl (by decide +kernel)
theorem wd_401 : (.methodLink "WarpSearch" 122 ⟨"WarpSearch", "checkAnyRow", "()V"⟩ : Cond) ∈ WA := wa_in (i := 401) (by decide +kernel) (by decide +kernel)
theorem wd_403 : (.instanceMethod ⟨"WarpSearch", "checkAnyRow", "()V"⟩ : Cond) ∈ WA := wa_in (i := 403) (by decide +kernel) (by decide +kernel)
set_option maxRecDepth 20000 in
theorem wd_404 : (.code ⟨"WarpSearch", "checkAnyRow", "()V"⟩ prog_1_method_20_code 1 none : Cond) ∈ WA := wa_in (i := 404) rfl (by decide +kernel)
theorem wd_406 : (.methodLink "WarpSearch" 125 ⟨"WarpSearch", "searchAmong", "([IIII)I"⟩ : Cond) ∈ WA := wa_in (i := 406) (by decide +kernel) (by decide +kernel)
theorem wd_408 : (.instanceMethod ⟨"WarpSearch", "searchAmong", "([IIII)I"⟩ : Cond) ∈ WA := wa_in (i := 408) (by decide +kernel) (by decide +kernel)
set_option maxRecDepth 20000 in
theorem wd_409 : (.code ⟨"WarpSearch", "searchAmong", "([IIII)I"⟩ prog_1_method_23_code 6 (some .int) : Cond) ∈ WA := wa_in (i := 409) rfl (by decide +kernel)
theorem wd_410 : (.methodLink "WarpSearch" 164 ⟨"WarpSearch", "weigh", "(I)V"⟩ : Cond) ∈ WA := wa_in (i := 410) (by decide +kernel) (by decide +kernel)
theorem wd_412 : (.instanceMethod ⟨"WarpSearch", "weigh", "(I)V"⟩ : Cond) ∈ WA := wa_in (i := 412) (by decide +kernel) (by decide +kernel)
set_option maxRecDepth 20000 in
theorem wd_413 : (.code ⟨"WarpSearch", "weigh", "(I)V"⟩ prog_1_method_24_code 5 none : Cond) ∈ WA := wa_in (i := 413) rfl (by decide +kernel)
theorem wd_414 : (.methodLink "WarpSearch" 167 ⟨"WarpSearch$Nearest", "limit", "()I"⟩ : Cond) ∈ WA := wa_in (i := 414) (by decide +kernel) (by decide +kernel)
theorem wd_415 : (.instanceMethod ⟨"WarpSearch$Nearest", "limit", "()I"⟩ : Cond) ∈ WA := wa_in (i := 415) (by decide +kernel) (by decide +kernel)
theorem wd_416 : (.selects "WarpSearch$Nearest" ⟨"WarpSearch$Nearest", "limit", "()I"⟩ ⟨"WarpSearch$Nearest", "limit", "()I"⟩ : Cond) ∈ WA := wa_in (i := 416) (by decide +kernel) (by decide +kernel)
set_option maxRecDepth 20000 in
theorem wd_417 : (.code ⟨"WarpSearch$Nearest", "limit", "()I"⟩ prog_3_method_3_code 1 (some .int) : Cond) ∈ WA := wa_in (i := 417) rfl (by decide +kernel)
theorem wd_418 : (.methodLink "WarpSearch" 170 ⟨"WarpSearch", "passingBound", "(I)I"⟩ : Cond) ∈ WA := wa_in (i := 418) (by decide +kernel) (by decide +kernel)
theorem wd_420 : (.instanceMethod ⟨"WarpSearch", "passingBound", "(I)I"⟩ : Cond) ∈ WA := wa_in (i := 420) (by decide +kernel) (by decide +kernel)
set_option maxRecDepth 20000 in
theorem wd_421 : (.code ⟨"WarpSearch", "passingBound", "(I)I"⟩ prog_1_method_25_code 3 (some .int) : Cond) ∈ WA := wa_in (i := 421) rfl (by decide +kernel)
theorem wd_422 : (.methodLink "WarpSearch" 173 ⟨"WarpSearch$Nearest", "insert", "(II)V"⟩ : Cond) ∈ WA := wa_in (i := 422) (by decide +kernel) (by decide +kernel)
theorem wd_423 : (.instanceMethod ⟨"WarpSearch$Nearest", "insert", "(II)V"⟩ : Cond) ∈ WA := wa_in (i := 423) (by decide +kernel) (by decide +kernel)
theorem wd_424 : (.selects "WarpSearch$Nearest" ⟨"WarpSearch$Nearest", "insert", "(II)V"⟩ ⟨"WarpSearch$Nearest", "insert", "(II)V"⟩ : Cond) ∈ WA := wa_in (i := 424) (by decide +kernel) (by decide +kernel)
set_option maxRecDepth 20000 in
theorem wd_425 : (.code ⟨"WarpSearch$Nearest", "insert", "(II)V"⟩ prog_3_method_4_code 4 none : Cond) ∈ WA := wa_in (i := 425) rfl (by decide +kernel)
theorem wd_426 : (.methodLink "WarpSearch$Nearest" 25 ⟨"java/lang/Math", "min", "(II)I"⟩ : Cond) ∈ WA := wa_in (i := 426) (by decide +kernel) (by decide +kernel)
theorem wd_427 : (.methodLink "WarpSearchLaw" 110 ⟨"WarpSearchLaw", "found", "(LWarpSearch;IZ[J)I"⟩ : Cond) ∈ WA := wa_in (i := 427) (by decide +kernel) (by decide +kernel)
theorem wd_428 : (.static ⟨"WarpSearchLaw", "found", "(LWarpSearch;IZ[J)I"⟩ : Cond) ∈ WA := wa_in (i := 428) (by decide +kernel) (by decide +kernel)
set_option maxRecDepth 20000 in
theorem wd_429 : (.codeWith ⟨"WarpSearchLaw", "found", "(LWarpSearch;IZ[J)I"⟩ method_13_code 5 (some .int) [(0, 10, 13, 19)] : Cond) ∈ WA := wa_in (i := 429) rfl (by decide +kernel)
theorem wd_430 : (.methodLink "WarpSearchLaw" 48 ⟨"WarpSearch", "found", "(IZ)I"⟩ : Cond) ∈ WA := wa_in (i := 430) (by decide +kernel) (by decide +kernel)
theorem wd_431 : (.instanceMethod ⟨"WarpSearch", "found", "(IZ)I"⟩ : Cond) ∈ WA := wa_in (i := 431) (by decide +kernel) (by decide +kernel)
theorem wd_432 : (.selects "WarpSearch" ⟨"WarpSearch", "found", "(IZ)I"⟩ ⟨"WarpSearch", "found", "(IZ)I"⟩ : Cond) ∈ WA := wa_in (i := 432) (by decide +kernel) (by decide +kernel)
set_option maxRecDepth 20000 in
theorem wd_433 : (.code ⟨"WarpSearch", "found", "(IZ)I"⟩ prog_1_method_12_code 3 (some .int) : Cond) ∈ WA := wa_in (i := 433) rfl (by decide +kernel)
theorem wd_435 : (.methodLink "WarpSearchLaw" 114 ⟨"WarpSearchLaw", "guess", "(LWarpSearch;I[J)I"⟩ : Cond) ∈ WA := wa_in (i := 435) (by decide +kernel) (by decide +kernel)
theorem wd_436 : (.static ⟨"WarpSearchLaw", "guess", "(LWarpSearch;I[J)I"⟩ : Cond) ∈ WA := wa_in (i := 436) (by decide +kernel) (by decide +kernel)
set_option maxRecDepth 20000 in
theorem wd_437 : (.codeWith ⟨"WarpSearchLaw", "guess", "(LWarpSearch;I[J)I"⟩ method_14_code 4 (some .int) [(0, 9, 12, 13), (0, 9, 15, 25)] : Cond) ∈ WA := wa_in (i := 437) rfl (by decide +kernel)
theorem wd_438 : (.methodLink "WarpSearchLaw" 52 ⟨"WarpSearch", "guess", "(I)I"⟩ : Cond) ∈ WA := wa_in (i := 438) (by decide +kernel) (by decide +kernel)
theorem wd_439 : (.instanceMethod ⟨"WarpSearch", "guess", "(I)I"⟩ : Cond) ∈ WA := wa_in (i := 439) (by decide +kernel) (by decide +kernel)
theorem wd_440 : (.selects "WarpSearch" ⟨"WarpSearch", "guess", "(I)I"⟩ ⟨"WarpSearch", "guess", "(I)I"⟩ : Cond) ∈ WA := wa_in (i := 440) (by decide +kernel) (by decide +kernel)
set_option maxRecDepth 20000 in
theorem wd_441 : (.code ⟨"WarpSearch", "guess", "(I)I"⟩ prog_1_method_13_code 8 (some .int) : Cond) ∈ WA := wa_in (i := 441) rfl (by decide +kernel)
theorem wd_442 : (.methodLink "WarpSearch" 140 ⟨"WarpSearch", "votesFor", "(I)I"⟩ : Cond) ∈ WA := wa_in (i := 442) (by decide +kernel) (by decide +kernel)
theorem wd_444 : (.instanceMethod ⟨"WarpSearch", "votesFor", "(I)I"⟩ : Cond) ∈ WA := wa_in (i := 444) (by decide +kernel) (by decide +kernel)
set_option maxRecDepth 20000 in
theorem wd_445 : (.code ⟨"WarpSearch", "votesFor", "(I)I"⟩ prog_1_method_26_code 4 (some .int) : Cond) ∈ WA := wa_in (i := 445) rfl (by decide +kernel)
theorem wd_446 : (.methodLink "WarpSearchLaw" 117 ⟨"WarpSearchLaw", "count", "(LWarpSearch;I[J)I"⟩ : Cond) ∈ WA := wa_in (i := 446) (by decide +kernel) (by decide +kernel)
theorem wd_447 : (.static ⟨"WarpSearchLaw", "count", "(LWarpSearch;I[J)I"⟩ : Cond) ∈ WA := wa_in (i := 447) (by decide +kernel) (by decide +kernel)
set_option maxRecDepth 20000 in
theorem wd_448 : (.codeWith ⟨"WarpSearchLaw", "count", "(LWarpSearch;I[J)I"⟩ method_15_code 4 (some .int) [(0, 9, 12, 13)] : Cond) ∈ WA := wa_in (i := 448) rfl (by decide +kernel)
theorem wd_449 : (.methodLink "WarpSearchLaw" 55 ⟨"WarpSearch", "count", "(I)I"⟩ : Cond) ∈ WA := wa_in (i := 449) (by decide +kernel) (by decide +kernel)
theorem wd_450 : (.instanceMethod ⟨"WarpSearch", "count", "(I)I"⟩ : Cond) ∈ WA := wa_in (i := 450) (by decide +kernel) (by decide +kernel)
theorem wd_451 : (.selects "WarpSearch" ⟨"WarpSearch", "count", "(I)I"⟩ ⟨"WarpSearch", "count", "(I)I"⟩ : Cond) ∈ WA := wa_in (i := 451) (by decide +kernel) (by decide +kernel)
set_option maxRecDepth 20000 in
theorem wd_452 : (.code ⟨"WarpSearch", "count", "(I)I"⟩ prog_1_method_14_code 2 (some .int) : Cond) ∈ WA := wa_in (i := 452) rfl (by decide +kernel)
theorem wd_454 : (.methodLink "WarpSearchLaw" 120 ⟨"WarpSearchLaw", "push", "(LWarpSearch;I[J)I"⟩ : Cond) ∈ WA := wa_in (i := 454) (by decide +kernel) (by decide +kernel)
theorem wd_455 : (.static ⟨"WarpSearchLaw", "push", "(LWarpSearch;I[J)I"⟩ : Cond) ∈ WA := wa_in (i := 455) (by decide +kernel) (by decide +kernel)
set_option maxRecDepth 20000 in
theorem wd_456 : (.codeWith ⟨"WarpSearchLaw", "push", "(LWarpSearch;I[J)I"⟩ method_16_code 4 (some .int) [(0, 9, 12, 13), (0, 9, 15, 25)] : Cond) ∈ WA := wa_in (i := 456) rfl (by decide +kernel)
theorem wd_457 : (.methodLink "WarpSearchLaw" 58 ⟨"WarpSearch", "push", "(I)I"⟩ : Cond) ∈ WA := wa_in (i := 457) (by decide +kernel) (by decide +kernel)
theorem wd_458 : (.instanceMethod ⟨"WarpSearch", "push", "(I)I"⟩ : Cond) ∈ WA := wa_in (i := 458) (by decide +kernel) (by decide +kernel)
theorem wd_459 : (.selects "WarpSearch" ⟨"WarpSearch", "push", "(I)I"⟩ ⟨"WarpSearch", "push", "(I)I"⟩ : Cond) ∈ WA := wa_in (i := 459) (by decide +kernel) (by decide +kernel)
set_option maxRecDepth 20000 in
theorem wd_460 : (.code ⟨"WarpSearch", "push", "(I)I"⟩ prog_1_method_15_code 2 (some .int) : Cond) ∈ WA := wa_in (i := 460) rfl (by decide +kernel)
theorem wd_462 : (.methodLink "WarpSearchLaw" 123 ⟨"WarpSearchLaw", "scan", "(LWarpSearch;I[J)I"⟩ : Cond) ∈ WA := wa_in (i := 462) (by decide +kernel) (by decide +kernel)
theorem wd_463 : (.static ⟨"WarpSearchLaw", "scan", "(LWarpSearch;I[J)I"⟩ : Cond) ∈ WA := wa_in (i := 463) (by decide +kernel) (by decide +kernel)
set_option maxRecDepth 20000 in
theorem wd_464 : (.codeWith ⟨"WarpSearchLaw", "scan", "(LWarpSearch;I[J)I"⟩ method_17_code 4 (some .int) [(0, 9, 12, 13), (0, 9, 15, 25)] : Cond) ∈ WA := wa_in (i := 464) rfl (by decide +kernel)
theorem wd_465 : (.methodLink "WarpSearchLaw" 61 ⟨"WarpSearch", "scan", "(I)I"⟩ : Cond) ∈ WA := wa_in (i := 465) (by decide +kernel) (by decide +kernel)
theorem wd_466 : (.instanceMethod ⟨"WarpSearch", "scan", "(I)I"⟩ : Cond) ∈ WA := wa_in (i := 466) (by decide +kernel) (by decide +kernel)
theorem wd_467 : (.selects "WarpSearch" ⟨"WarpSearch", "scan", "(I)I"⟩ ⟨"WarpSearch", "scan", "(I)I"⟩ : Cond) ∈ WA := wa_in (i := 467) (by decide +kernel) (by decide +kernel)
set_option maxRecDepth 20000 in
theorem wd_468 : (.code ⟨"WarpSearch", "scan", "(I)I"⟩ prog_1_method_16_code 2 (some .int) : Cond) ∈ WA := wa_in (i := 468) rfl (by decide +kernel)
theorem wd_470 : (.methodLink "WarpSearchLaw" 126 ⟨"WarpSearchLaw", "shift", "(LWarpSearch;I)I"⟩ : Cond) ∈ WA := wa_in (i := 470) (by decide +kernel) (by decide +kernel)
theorem wd_471 : (.static ⟨"WarpSearchLaw", "shift", "(LWarpSearch;I)I"⟩ : Cond) ∈ WA := wa_in (i := 471) (by decide +kernel) (by decide +kernel)
set_option maxRecDepth 20000 in
theorem wd_472 : (.codeWith ⟨"WarpSearchLaw", "shift", "(LWarpSearch;I)I"⟩ method_18_code 3 (some .int) [(0, 5, 8, 13)] : Cond) ∈ WA := wa_in (i := 472) rfl (by decide +kernel)
theorem wd_473 : (.methodLink "WarpSearchLaw" 64 ⟨"WarpSearch", "shift", "(I)V"⟩ : Cond) ∈ WA := wa_in (i := 473) (by decide +kernel) (by decide +kernel)
theorem wd_474 : (.instanceMethod ⟨"WarpSearch", "shift", "(I)V"⟩ : Cond) ∈ WA := wa_in (i := 474) (by decide +kernel) (by decide +kernel)
theorem wd_475 : (.selects "WarpSearch" ⟨"WarpSearch", "shift", "(I)V"⟩ ⟨"WarpSearch", "shift", "(I)V"⟩ : Cond) ∈ WA := wa_in (i := 475) (by decide +kernel) (by decide +kernel)
set_option maxRecDepth 20000 in
theorem wd_476 : (.code ⟨"WarpSearch", "shift", "(I)V"⟩ prog_1_method_17_code 2 none : Cond) ∈ WA := wa_in (i := 476) rfl (by decide +kernel)
theorem wd_478 : (.classLink "WarpSearchLaw" 68 "WarpSearchModel" : Cond) ∈ WA := wa_in (i := 478) (by decide +kernel) (by decide +kernel)
theorem wd_479 : (.instantiable "WarpSearchModel" 17 : Cond) ∈ WA := wa_in (i := 479) (by decide +kernel) (by decide +kernel)
theorem wd_480 : (.methodLink "WarpSearchLaw" 70 ⟨"WarpSearchModel", "<init>", "()V"⟩ : Cond) ∈ WA := wa_in (i := 480) (by decide +kernel) (by decide +kernel)
theorem wd_481 : (.instanceMethod ⟨"WarpSearchModel", "<init>", "()V"⟩ : Cond) ∈ WA := wa_in (i := 481) (by decide +kernel) (by decide +kernel)
set_option maxRecDepth 20000 in
theorem wd_482 : (.code ⟨"WarpSearchModel", "<init>", "()V"⟩ prog_5_method_1_code 1 none : Cond) ∈ WA := wa_in (i := 482) rfl (by decide +kernel)
theorem wd_483 : (.methodLink "WarpSearchModel" 1 ⟨"java/lang/Object", "<init>", "()V"⟩ : Cond) ∈ WA := wa_in (i := 483) (by decide +kernel) (by decide +kernel)
theorem wd_484 : (.fieldLink "WarpSearchModel" 44 "WarpSearchModel" "code" "I" : Cond) ∈ WA := wa_in (i := 484) (by decide +kernel) (by decide +kernel)
theorem wd_485 : (.fieldLink "WarpSearchModel" 7 "WarpSearchModel" "n" "I" : Cond) ∈ WA := wa_in (i := 485) (by decide +kernel) (by decide +kernel)
theorem wd_486 : (.fieldLink "WarpSearchModel" 61 "WarpSearchModel" "w" "I" : Cond) ∈ WA := wa_in (i := 486) (by decide +kernel) (by decide +kernel)
theorem wd_487 : (.fieldLink "WarpSearchModel" 13 "WarpSearchModel" "question" "[I" : Cond) ∈ WA := wa_in (i := 487) (by decide +kernel) (by decide +kernel)
theorem wd_488 : (.fieldLink "WarpSearchModel" 51 "WarpSearchModel" "rows" "I" : Cond) ∈ WA := wa_in (i := 488) (by decide +kernel) (by decide +kernel)
theorem wd_489 : (.fieldLink "WarpSearchModel" 17 "WarpSearchModel" "numbers" "[I" : Cond) ∈ WA := wa_in (i := 489) (by decide +kernel) (by decide +kernel)
theorem wd_490 : (.fieldLink "WarpSearchModel" 20 "WarpSearchModel" "labels" "[I" : Cond) ∈ WA := wa_in (i := 490) (by decide +kernel) (by decide +kernel)
theorem wd_491 : (.fieldLink "WarpSearchModel" 109 "WarpSearchModel" "length" "I" : Cond) ∈ WA := wa_in (i := 491) (by decide +kernel) (by decide +kernel)
theorem wd_492 : (.fieldLink "WarpSearchModel" 23 "WarpSearchModel" "stream" "[I" : Cond) ∈ WA := wa_in (i := 492) (by decide +kernel) (by decide +kernel)
theorem wd_493 : (.fieldLink "WarpSearchModel" 26 "WarpSearchModel" "row" "[I" : Cond) ∈ WA := wa_in (i := 493) (by decide +kernel) (by decide +kernel)
theorem wd_494 : (.fieldLink "WarpSearchModel" 29 "WarpSearchModel" "grid" "[I" : Cond) ∈ WA := wa_in (i := 494) (by decide +kernel) (by decide +kernel)
theorem wd_495 : (.fieldLink "WarpSearchModel" 32 "WarpSearchModel" "path" "[I" : Cond) ∈ WA := wa_in (i := 495) (by decide +kernel) (by decide +kernel)
theorem wd_496 : (.fieldLink "WarpSearchModel" 94 "WarpSearchModel" "most" "I" : Cond) ∈ WA := wa_in (i := 496) (by decide +kernel) (by decide +kernel)
theorem wd_497 : (.fieldLink "WarpSearchModel" 54 "WarpSearchModel" "found" "I" : Cond) ∈ WA := wa_in (i := 497) (by decide +kernel) (by decide +kernel)
theorem wd_498 : (.fieldLink "WarpSearchModel" 35 "WarpSearchModel" "places" "[I" : Cond) ∈ WA := wa_in (i := 498) (by decide +kernel) (by decide +kernel)
theorem wd_499 : (.fieldLink "WarpSearchModel" 38 "WarpSearchModel" "distances" "[I" : Cond) ∈ WA := wa_in (i := 499) (by decide +kernel) (by decide +kernel)
theorem wd_500 : (.fieldLink "WarpSearchModel" 41 "WarpSearchModel" "counts" "[I" : Cond) ∈ WA := wa_in (i := 500) (by decide +kernel) (by decide +kernel)
theorem wd_501 : (.lays "WarpSearchModel" "WarpSearchModel" "code" "I" : Cond) ∈ WA := wa_in (i := 501) (by decide +kernel) (by decide +kernel)
theorem wd_503 : (.lays "WarpSearchModel" "WarpSearchModel" "n" "I" : Cond) ∈ WA := wa_in (i := 503) (by decide +kernel) (by decide +kernel)
theorem wd_505 : (.lays "WarpSearchModel" "WarpSearchModel" "w" "I" : Cond) ∈ WA := wa_in (i := 505) (by decide +kernel) (by decide +kernel)
theorem wd_507 : (.lays "WarpSearchModel" "WarpSearchModel" "question" "[I" : Cond) ∈ WA := wa_in (i := 507) (by decide +kernel) (by decide +kernel)
theorem wd_509 : (.lays "WarpSearchModel" "WarpSearchModel" "rows" "I" : Cond) ∈ WA := wa_in (i := 509) (by decide +kernel) (by decide +kernel)
theorem wd_511 : (.lays "WarpSearchModel" "WarpSearchModel" "numbers" "[I" : Cond) ∈ WA := wa_in (i := 511) (by decide +kernel) (by decide +kernel)
theorem wd_513 : (.lays "WarpSearchModel" "WarpSearchModel" "labels" "[I" : Cond) ∈ WA := wa_in (i := 513) (by decide +kernel) (by decide +kernel)
theorem wd_515 : (.lays "WarpSearchModel" "WarpSearchModel" "length" "I" : Cond) ∈ WA := wa_in (i := 515) (by decide +kernel) (by decide +kernel)
theorem wd_517 : (.lays "WarpSearchModel" "WarpSearchModel" "stream" "[I" : Cond) ∈ WA := wa_in (i := 517) (by decide +kernel) (by decide +kernel)
theorem wd_519 : (.lays "WarpSearchModel" "WarpSearchModel" "row" "[I" : Cond) ∈ WA := wa_in (i := 519) (by decide +kernel) (by decide +kernel)
theorem wd_521 : (.lays "WarpSearchModel" "WarpSearchModel" "grid" "[I" : Cond) ∈ WA := wa_in (i := 521) (by decide +kernel) (by decide +kernel)
theorem wd_523 : (.lays "WarpSearchModel" "WarpSearchModel" "path" "[I" : Cond) ∈ WA := wa_in (i := 523) (by decide +kernel) (by decide +kernel)
theorem wd_525 : (.lays "WarpSearchModel" "WarpSearchModel" "most" "I" : Cond) ∈ WA := wa_in (i := 525) (by decide +kernel) (by decide +kernel)
theorem wd_527 : (.lays "WarpSearchModel" "WarpSearchModel" "found" "I" : Cond) ∈ WA := wa_in (i := 527) (by decide +kernel) (by decide +kernel)
theorem wd_529 : (.lays "WarpSearchModel" "WarpSearchModel" "places" "[I" : Cond) ∈ WA := wa_in (i := 529) (by decide +kernel) (by decide +kernel)
theorem wd_531 : (.lays "WarpSearchModel" "WarpSearchModel" "distances" "[I" : Cond) ∈ WA := wa_in (i := 531) (by decide +kernel) (by decide +kernel)
theorem wd_533 : (.lays "WarpSearchModel" "WarpSearchModel" "counts" "[I" : Cond) ∈ WA := wa_in (i := 533) (by decide +kernel) (by decide +kernel)
theorem wd_536 : (.methodLink "WarpSearchLaw" 77 ⟨"WarpSearchModel", "thrown", "()I"⟩ : Cond) ∈ WA := wa_in (i := 536) (by decide +kernel) (by decide +kernel)
theorem wd_537 : (.instanceMethod ⟨"WarpSearchModel", "thrown", "()I"⟩ : Cond) ∈ WA := wa_in (i := 537) (by decide +kernel) (by decide +kernel)
theorem wd_538 : (.selects "WarpSearchModel" ⟨"WarpSearchModel", "thrown", "()I"⟩ ⟨"WarpSearchModel", "thrown", "()I"⟩ : Cond) ∈ WA := wa_in (i := 538) (by decide +kernel) (by decide +kernel)
set_option maxRecDepth 20000 in
theorem wd_539 : (.code ⟨"WarpSearchModel", "thrown", "()I"⟩ prog_5_method_2_code 1 (some .int) : Cond) ∈ WA := wa_in (i := 539) rfl (by decide +kernel)
theorem wd_540 : (.methodLink "WarpSearchLaw" 76 ⟨"WarpSearchModel", "begin", "(I)V"⟩ : Cond) ∈ WA := wa_in (i := 540) (by decide +kernel) (by decide +kernel)
theorem wd_541 : (.instanceMethod ⟨"WarpSearchModel", "begin", "(I)V"⟩ : Cond) ∈ WA := wa_in (i := 541) (by decide +kernel) (by decide +kernel)
theorem wd_542 : (.selects "WarpSearchModel" ⟨"WarpSearchModel", "begin", "(I)V"⟩ ⟨"WarpSearchModel", "begin", "(I)V"⟩ : Cond) ∈ WA := wa_in (i := 542) (by decide +kernel) (by decide +kernel)
set_option maxRecDepth 20000 in
theorem wd_543 : (.code ⟨"WarpSearchModel", "begin", "(I)V"⟩ prog_5_method_4_code 3 none : Cond) ∈ WA := wa_in (i := 543) rfl (by decide +kernel)
theorem wd_544 : (.methodLink "WarpSearchModel" 47 ⟨"WarpSearchModel", "within", "(III)Z"⟩ : Cond) ∈ WA := wa_in (i := 544) (by decide +kernel) (by decide +kernel)
theorem wd_545 : (.static ⟨"WarpSearchModel", "within", "(III)Z"⟩ : Cond) ∈ WA := wa_in (i := 545) (by decide +kernel) (by decide +kernel)
set_option maxRecDepth 20000 in
theorem wd_546 : (.code ⟨"WarpSearchModel", "within", "(III)Z"⟩ prog_5_method_3_code 3 (some .boolean) : Cond) ∈ WA := wa_in (i := 546) rfl (by decide +kernel)
theorem wd_547 : (.methodLink "WarpSearchLaw" 84 ⟨"WarpSearchModel", "ask", "(II)I"⟩ : Cond) ∈ WA := wa_in (i := 547) (by decide +kernel) (by decide +kernel)
theorem wd_548 : (.instanceMethod ⟨"WarpSearchModel", "ask", "(II)I"⟩ : Cond) ∈ WA := wa_in (i := 548) (by decide +kernel) (by decide +kernel)
theorem wd_549 : (.selects "WarpSearchModel" ⟨"WarpSearchModel", "ask", "(II)I"⟩ ⟨"WarpSearchModel", "ask", "(II)I"⟩ : Cond) ∈ WA := wa_in (i := 549) (by decide +kernel) (by decide +kernel)
set_option maxRecDepth 20000 in
theorem wd_550 : (.code ⟨"WarpSearchModel", "ask", "(II)I"⟩ prog_5_method_5_code 4 (some .int) : Cond) ∈ WA := wa_in (i := 550) rfl (by decide +kernel)
theorem wd_551 : (.methodLink "WarpSearchLaw" 88 ⟨"WarpSearchModel", "keep", "(I)I"⟩ : Cond) ∈ WA := wa_in (i := 551) (by decide +kernel) (by decide +kernel)
theorem wd_552 : (.instanceMethod ⟨"WarpSearchModel", "keep", "(I)I"⟩ : Cond) ∈ WA := wa_in (i := 552) (by decide +kernel) (by decide +kernel)
theorem wd_553 : (.selects "WarpSearchModel" ⟨"WarpSearchModel", "keep", "(I)I"⟩ ⟨"WarpSearchModel", "keep", "(I)I"⟩ : Cond) ∈ WA := wa_in (i := 553) (by decide +kernel) (by decide +kernel)
set_option maxRecDepth 20000 in
theorem wd_554 : (.code ⟨"WarpSearchModel", "keep", "(I)I"⟩ prog_5_method_6_code 3 (some .int) : Cond) ∈ WA := wa_in (i := 554) rfl (by decide +kernel)
theorem wd_555 : (.methodLink "WarpSearchLaw" 91 ⟨"WarpSearchModel", "recall", "(I)V"⟩ : Cond) ∈ WA := wa_in (i := 555) (by decide +kernel) (by decide +kernel)
theorem wd_556 : (.instanceMethod ⟨"WarpSearchModel", "recall", "(I)V"⟩ : Cond) ∈ WA := wa_in (i := 556) (by decide +kernel) (by decide +kernel)
theorem wd_557 : (.selects "WarpSearchModel" ⟨"WarpSearchModel", "recall", "(I)V"⟩ ⟨"WarpSearchModel", "recall", "(I)V"⟩ : Cond) ∈ WA := wa_in (i := 557) (by decide +kernel) (by decide +kernel)
set_option maxRecDepth 20000 in
theorem wd_558 : (.code ⟨"WarpSearchModel", "recall", "(I)V"⟩ prog_5_method_8_code 3 none : Cond) ∈ WA := wa_in (i := 558) rfl (by decide +kernel)
theorem wd_559 : (.methodLink "WarpSearchModel" 57 ⟨"WarpSearchModel", "isRow", "(I)Z"⟩ : Cond) ∈ WA := wa_in (i := 559) (by decide +kernel) (by decide +kernel)
theorem wd_561 : (.instanceMethod ⟨"WarpSearchModel", "isRow", "(I)Z"⟩ : Cond) ∈ WA := wa_in (i := 561) (by decide +kernel) (by decide +kernel)
set_option maxRecDepth 20000 in
theorem wd_562 : (.code ⟨"WarpSearchModel", "isRow", "(I)Z"⟩ prog_5_method_7_code 2 (some .boolean) : Cond) ∈ WA := wa_in (i := 562) rfl (by decide +kernel)
theorem wd_563 : (.methodLink "WarpSearchLaw" 94 ⟨"WarpSearchModel", "band", "(I)I"⟩ : Cond) ∈ WA := wa_in (i := 563) (by decide +kernel) (by decide +kernel)
theorem wd_564 : (.instanceMethod ⟨"WarpSearchModel", "band", "(I)I"⟩ : Cond) ∈ WA := wa_in (i := 564) (by decide +kernel) (by decide +kernel)
theorem wd_565 : (.selects "WarpSearchModel" ⟨"WarpSearchModel", "band", "(I)I"⟩ ⟨"WarpSearchModel", "band", "(I)I"⟩ : Cond) ∈ WA := wa_in (i := 565) (by decide +kernel) (by decide +kernel)
set_option maxRecDepth 20000 in
theorem wd_566 : (.code ⟨"WarpSearchModel", "band", "(I)I"⟩ prog_5_method_9_code 3 (some .int) : Cond) ∈ WA := wa_in (i := 566) rfl (by decide +kernel)
theorem wd_567 : (.methodLink "WarpSearchLaw" 97 ⟨"WarpSearchModel", "distance", "(I)I"⟩ : Cond) ∈ WA := wa_in (i := 567) (by decide +kernel) (by decide +kernel)
theorem wd_568 : (.instanceMethod ⟨"WarpSearchModel", "distance", "(I)I"⟩ : Cond) ∈ WA := wa_in (i := 568) (by decide +kernel) (by decide +kernel)
theorem wd_569 : (.selects "WarpSearchModel" ⟨"WarpSearchModel", "distance", "(I)I"⟩ ⟨"WarpSearchModel", "distance", "(I)I"⟩ : Cond) ∈ WA := wa_in (i := 569) (by decide +kernel) (by decide +kernel)
set_option maxRecDepth 20000 in
theorem wd_570 : (.code ⟨"WarpSearchModel", "distance", "(I)I"⟩ prog_5_method_16_code 2 (some .int) : Cond) ∈ WA := wa_in (i := 570) rfl (by decide +kernel)
theorem wd_571 : (.methodLink "WarpSearchModel" 75 ⟨"WarpSearchModel", "takeRow", "(I)V"⟩ : Cond) ∈ WA := wa_in (i := 571) (by decide +kernel) (by decide +kernel)
theorem wd_573 : (.instanceMethod ⟨"WarpSearchModel", "takeRow", "(I)V"⟩ : Cond) ∈ WA := wa_in (i := 573) (by decide +kernel) (by decide +kernel)
set_option maxRecDepth 20000 in
theorem wd_574 : (.code ⟨"WarpSearchModel", "takeRow", "(I)V"⟩ prog_5_method_10_code 3 none : Cond) ∈ WA := wa_in (i := 574) rfl (by decide +kernel)
theorem wd_575 : (.methodLink "WarpSearchModel" 79 ⟨"WarpSearchModel", "fill", "()V"⟩ : Cond) ∈ WA := wa_in (i := 575) (by decide +kernel) (by decide +kernel)
theorem wd_577 : (.instanceMethod ⟨"WarpSearchModel", "fill", "()V"⟩ : Cond) ∈ WA := wa_in (i := 577) (by decide +kernel) (by decide +kernel)
set_option maxRecDepth 20000 in
theorem wd_578 : (.code ⟨"WarpSearchModel", "fill", "()V"⟩ prog_5_method_15_code 5 none : Cond) ∈ WA := wa_in (i := 578) rfl (by decide +kernel)
theorem wd_579 : (.methodLink "WarpSearchModel" 64 ⟨"WarpSearchModel", "inBand", "(II)Z"⟩ : Cond) ∈ WA := wa_in (i := 579) (by decide +kernel) (by decide +kernel)
theorem wd_581 : (.instanceMethod ⟨"WarpSearchModel", "inBand", "(II)Z"⟩ : Cond) ∈ WA := wa_in (i := 581) (by decide +kernel) (by decide +kernel)
set_option maxRecDepth 20000 in
theorem wd_582 : (.code ⟨"WarpSearchModel", "inBand", "(II)Z"⟩ prog_5_method_12_code 3 (some .boolean) : Cond) ∈ WA := wa_in (i := 582) rfl (by decide +kernel)
theorem wd_583 : (.methodLink "WarpSearchModel" 68 ⟨"WarpSearchModel", "costAt", "(II)I"⟩ : Cond) ∈ WA := wa_in (i := 583) (by decide +kernel) (by decide +kernel)
theorem wd_585 : (.instanceMethod ⟨"WarpSearchModel", "costAt", "(II)I"⟩ : Cond) ∈ WA := wa_in (i := 585) (by decide +kernel) (by decide +kernel)
set_option maxRecDepth 20000 in
theorem wd_586 : (.code ⟨"WarpSearchModel", "costAt", "(II)I"⟩ prog_5_method_13_code 3 (some .int) : Cond) ∈ WA := wa_in (i := 586) rfl (by decide +kernel)
theorem wd_587 : (.methodLink "WarpSearchModel" 72 ⟨"WarpSearchModel", "lesser", "(II)I"⟩ : Cond) ∈ WA := wa_in (i := 587) (by decide +kernel) (by decide +kernel)
theorem wd_588 : (.static ⟨"WarpSearchModel", "lesser", "(II)I"⟩ : Cond) ∈ WA := wa_in (i := 588) (by decide +kernel) (by decide +kernel)
set_option maxRecDepth 20000 in
theorem wd_589 : (.code ⟨"WarpSearchModel", "lesser", "(II)I"⟩ prog_5_method_14_code 2 (some .int) : Cond) ∈ WA := wa_in (i := 589) rfl (by decide +kernel)
theorem wd_590 : (.methodLink "WarpSearchLaw" 100 ⟨"WarpSearchModel", "bound", "(II)I"⟩ : Cond) ∈ WA := wa_in (i := 590) (by decide +kernel) (by decide +kernel)
theorem wd_591 : (.instanceMethod ⟨"WarpSearchModel", "bound", "(II)I"⟩ : Cond) ∈ WA := wa_in (i := 591) (by decide +kernel) (by decide +kernel)
theorem wd_592 : (.selects "WarpSearchModel" ⟨"WarpSearchModel", "bound", "(II)I"⟩ ⟨"WarpSearchModel", "bound", "(II)I"⟩ : Cond) ∈ WA := wa_in (i := 592) (by decide +kernel) (by decide +kernel)
set_option maxRecDepth 20000 in
theorem wd_593 : (.code ⟨"WarpSearchModel", "bound", "(II)I"⟩ prog_5_method_19_code 3 (some .int) : Cond) ∈ WA := wa_in (i := 593) rfl (by decide +kernel)
theorem wd_594 : (.methodLink "WarpSearchModel" 86 ⟨"WarpSearchModel", "boundOf", "(I)I"⟩ : Cond) ∈ WA := wa_in (i := 594) (by decide +kernel) (by decide +kernel)
theorem wd_596 : (.instanceMethod ⟨"WarpSearchModel", "boundOf", "(I)I"⟩ : Cond) ∈ WA := wa_in (i := 596) (by decide +kernel) (by decide +kernel)
set_option maxRecDepth 20000 in
theorem wd_597 : (.code ⟨"WarpSearchModel", "boundOf", "(I)I"⟩ prog_5_method_18_code 4 (some .int) : Cond) ∈ WA := wa_in (i := 597) rfl (by decide +kernel)
theorem wd_598 : (.methodLink "WarpSearchModel" 82 ⟨"WarpSearchModel", "beyond", "(IIZ)I"⟩ : Cond) ∈ WA := wa_in (i := 598) (by decide +kernel) (by decide +kernel)
theorem wd_600 : (.instanceMethod ⟨"WarpSearchModel", "beyond", "(IIZ)I"⟩ : Cond) ∈ WA := wa_in (i := 600) (by decide +kernel) (by decide +kernel)
set_option maxRecDepth 20000 in
theorem wd_601 : (.code ⟨"WarpSearchModel", "beyond", "(IIZ)I"⟩ prog_5_method_17_code 9 (some .int) : Cond) ∈ WA := wa_in (i := 601) rfl (by decide +kernel)
theorem wd_602 : (.methodLink "WarpSearchLaw" 103 ⟨"WarpSearchModel", "steps", "(I)I"⟩ : Cond) ∈ WA := wa_in (i := 602) (by decide +kernel) (by decide +kernel)
theorem wd_603 : (.instanceMethod ⟨"WarpSearchModel", "steps", "(I)I"⟩ : Cond) ∈ WA := wa_in (i := 603) (by decide +kernel) (by decide +kernel)
theorem wd_604 : (.selects "WarpSearchModel" ⟨"WarpSearchModel", "steps", "(I)I"⟩ ⟨"WarpSearchModel", "steps", "(I)I"⟩ : Cond) ∈ WA := wa_in (i := 604) (by decide +kernel) (by decide +kernel)
set_option maxRecDepth 20000 in
theorem wd_605 : (.code ⟨"WarpSearchModel", "steps", "(I)I"⟩ prog_5_method_21_code 2 (some .int) : Cond) ∈ WA := wa_in (i := 605) rfl (by decide +kernel)
theorem wd_606 : (.methodLink "WarpSearchModel" 90 ⟨"WarpSearchModel", "walk", "()I"⟩ : Cond) ∈ WA := wa_in (i := 606) (by decide +kernel) (by decide +kernel)
theorem wd_608 : (.instanceMethod ⟨"WarpSearchModel", "walk", "()I"⟩ : Cond) ∈ WA := wa_in (i := 608) (by decide +kernel) (by decide +kernel)
set_option maxRecDepth 20000 in
theorem wd_609 : (.code ⟨"WarpSearchModel", "walk", "()I"⟩ prog_5_method_20_code 10 (some .int) : Cond) ∈ WA := wa_in (i := 609) rfl (by decide +kernel)
theorem wd_610 : (.methodLink "WarpSearchLaw" 106 ⟨"WarpSearchModel", "pair", "(II)I"⟩ : Cond) ∈ WA := wa_in (i := 610) (by decide +kernel) (by decide +kernel)
theorem wd_611 : (.instanceMethod ⟨"WarpSearchModel", "pair", "(II)I"⟩ : Cond) ∈ WA := wa_in (i := 611) (by decide +kernel) (by decide +kernel)
theorem wd_612 : (.selects "WarpSearchModel" ⟨"WarpSearchModel", "pair", "(II)I"⟩ ⟨"WarpSearchModel", "pair", "(II)I"⟩ : Cond) ∈ WA := wa_in (i := 612) (by decide +kernel) (by decide +kernel)
set_option maxRecDepth 20000 in
theorem wd_613 : (.code ⟨"WarpSearchModel", "pair", "(II)I"⟩ prog_5_method_22_code 4 (some .int) : Cond) ∈ WA := wa_in (i := 613) rfl (by decide +kernel)
theorem wd_614 : (.methodLink "WarpSearchLaw" 109 ⟨"WarpSearchModel", "search", "(I)I"⟩ : Cond) ∈ WA := wa_in (i := 614) (by decide +kernel) (by decide +kernel)
theorem wd_615 : (.instanceMethod ⟨"WarpSearchModel", "search", "(I)I"⟩ : Cond) ∈ WA := wa_in (i := 615) (by decide +kernel) (by decide +kernel)
theorem wd_616 : (.selects "WarpSearchModel" ⟨"WarpSearchModel", "search", "(I)I"⟩ ⟨"WarpSearchModel", "search", "(I)I"⟩ : Cond) ∈ WA := wa_in (i := 616) (by decide +kernel) (by decide +kernel)
set_option maxRecDepth 20000 in
theorem wd_617 : (.code ⟨"WarpSearchModel", "search", "(I)I"⟩ prog_5_method_27_code 3 (some .int) : Cond) ∈ WA := wa_in (i := 617) rfl (by decide +kernel)
theorem wd_618 : (.methodLink "WarpSearchModel" 103 ⟨"WarpSearchModel", "start", "(I)V"⟩ : Cond) ∈ WA := wa_in (i := 618) (by decide +kernel) (by decide +kernel)
theorem wd_620 : (.instanceMethod ⟨"WarpSearchModel", "start", "(I)V"⟩ : Cond) ∈ WA := wa_in (i := 620) (by decide +kernel) (by decide +kernel)
set_option maxRecDepth 20000 in
theorem wd_621 : (.code ⟨"WarpSearchModel", "start", "(I)V"⟩ prog_5_method_23_code 3 none : Cond) ∈ WA := wa_in (i := 621) rfl (by decide +kernel)
theorem wd_622 : (.methodLink "WarpSearchModel" 106 ⟨"WarpSearchModel", "turn", "(I)V"⟩ : Cond) ∈ WA := wa_in (i := 622) (by decide +kernel) (by decide +kernel)
theorem wd_624 : (.instanceMethod ⟨"WarpSearchModel", "turn", "(I)V"⟩ : Cond) ∈ WA := wa_in (i := 624) (by decide +kernel) (by decide +kernel)
set_option maxRecDepth 20000 in
theorem wd_625 : (.code ⟨"WarpSearchModel", "turn", "(I)V"⟩ prog_5_method_26_code 6 none : Cond) ∈ WA := wa_in (i := 625) rfl (by decide +kernel)
theorem wd_626 : (.methodLink "WarpSearchModel" 97 ⟨"WarpSearchModel", "tally", "(I)V"⟩ : Cond) ∈ WA := wa_in (i := 626) (by decide +kernel) (by decide +kernel)
theorem wd_628 : (.instanceMethod ⟨"WarpSearchModel", "tally", "(I)V"⟩ : Cond) ∈ WA := wa_in (i := 628) (by decide +kernel) (by decide +kernel)
set_option maxRecDepth 20000 in
theorem wd_629 : (.code ⟨"WarpSearchModel", "tally", "(I)V"⟩ prog_5_method_24_code 2 none : Cond) ∈ WA := wa_in (i := 629) rfl (by decide +kernel)
theorem wd_630 : (.methodLink "WarpSearchModel" 100 ⟨"WarpSearchModel", "givesUp", "(I)Z"⟩ : Cond) ∈ WA := wa_in (i := 630) (by decide +kernel) (by decide +kernel)
theorem wd_632 : (.instanceMethod ⟨"WarpSearchModel", "givesUp", "(I)Z"⟩ : Cond) ∈ WA := wa_in (i := 632) (by decide +kernel) (by decide +kernel)
set_option maxRecDepth 20000 in
theorem wd_633 : (.code ⟨"WarpSearchModel", "givesUp", "(I)Z"⟩ prog_5_method_25_code 5 (some .boolean) : Cond) ∈ WA := wa_in (i := 633) rfl (by decide +kernel)
theorem wd_634 : (.methodLink "WarpSearchLaw" 125 ⟨"WarpSearchModel", "scan", "(I)I"⟩ : Cond) ∈ WA := wa_in (i := 634) (by decide +kernel) (by decide +kernel)
theorem wd_635 : (.instanceMethod ⟨"WarpSearchModel", "scan", "(I)I"⟩ : Cond) ∈ WA := wa_in (i := 635) (by decide +kernel) (by decide +kernel)
theorem wd_636 : (.selects "WarpSearchModel" ⟨"WarpSearchModel", "scan", "(I)I"⟩ ⟨"WarpSearchModel", "scan", "(I)I"⟩ : Cond) ∈ WA := wa_in (i := 636) (by decide +kernel) (by decide +kernel)
set_option maxRecDepth 20000 in
theorem wd_637 : (.code ⟨"WarpSearchModel", "scan", "(I)I"⟩ prog_5_method_28_code 3 (some .int) : Cond) ∈ WA := wa_in (i := 637) rfl (by decide +kernel)
theorem wd_638 : (.methodLink "WarpSearchModel" 112 ⟨"WarpSearchModel", "takeWindow", "(I)V"⟩ : Cond) ∈ WA := wa_in (i := 638) (by decide +kernel) (by decide +kernel)
theorem wd_640 : (.instanceMethod ⟨"WarpSearchModel", "takeWindow", "(I)V"⟩ : Cond) ∈ WA := wa_in (i := 640) (by decide +kernel) (by decide +kernel)
set_option maxRecDepth 20000 in
theorem wd_641 : (.code ⟨"WarpSearchModel", "takeWindow", "(I)V"⟩ prog_5_method_11_code 3 none : Cond) ∈ WA := wa_in (i := 641) rfl (by decide +kernel)
theorem wd_642 : (.methodLink "WarpSearchLaw" 113 ⟨"WarpSearchModel", "found", "(IZ)I"⟩ : Cond) ∈ WA := wa_in (i := 642) (by decide +kernel) (by decide +kernel)
theorem wd_643 : (.instanceMethod ⟨"WarpSearchModel", "found", "(IZ)I"⟩ : Cond) ∈ WA := wa_in (i := 643) (by decide +kernel) (by decide +kernel)
theorem wd_644 : (.selects "WarpSearchModel" ⟨"WarpSearchModel", "found", "(IZ)I"⟩ ⟨"WarpSearchModel", "found", "(IZ)I"⟩ : Cond) ∈ WA := wa_in (i := 644) (by decide +kernel) (by decide +kernel)
set_option maxRecDepth 20000 in
theorem wd_645 : (.code ⟨"WarpSearchModel", "found", "(IZ)I"⟩ prog_5_method_29_code 3 (some .int) : Cond) ∈ WA := wa_in (i := 645) rfl (by decide +kernel)
theorem wd_646 : (.methodLink "WarpSearchLaw" 116 ⟨"WarpSearchModel", "guess", "(I)I"⟩ : Cond) ∈ WA := wa_in (i := 646) (by decide +kernel) (by decide +kernel)
theorem wd_647 : (.instanceMethod ⟨"WarpSearchModel", "guess", "(I)I"⟩ : Cond) ∈ WA := wa_in (i := 647) (by decide +kernel) (by decide +kernel)
theorem wd_648 : (.selects "WarpSearchModel" ⟨"WarpSearchModel", "guess", "(I)I"⟩ ⟨"WarpSearchModel", "guess", "(I)I"⟩ : Cond) ∈ WA := wa_in (i := 648) (by decide +kernel) (by decide +kernel)
set_option maxRecDepth 20000 in
theorem wd_649 : (.code ⟨"WarpSearchModel", "guess", "(I)I"⟩ prog_5_method_30_code 8 (some .int) : Cond) ∈ WA := wa_in (i := 649) rfl (by decide +kernel)
theorem wd_650 : (.methodLink "WarpSearchModel" 115 ⟨"WarpSearchModel", "search", "(I)I"⟩ : Cond) ∈ WA := wa_in (i := 650) (by decide +kernel) (by decide +kernel)
theorem wd_651 : (.methodLink "WarpSearchLaw" 119 ⟨"WarpSearchModel", "count", "(I)I"⟩ : Cond) ∈ WA := wa_in (i := 651) (by decide +kernel) (by decide +kernel)
theorem wd_652 : (.instanceMethod ⟨"WarpSearchModel", "count", "(I)I"⟩ : Cond) ∈ WA := wa_in (i := 652) (by decide +kernel) (by decide +kernel)
theorem wd_653 : (.selects "WarpSearchModel" ⟨"WarpSearchModel", "count", "(I)I"⟩ ⟨"WarpSearchModel", "count", "(I)I"⟩ : Cond) ∈ WA := wa_in (i := 653) (by decide +kernel) (by decide +kernel)
set_option maxRecDepth 20000 in
theorem wd_654 : (.code ⟨"WarpSearchModel", "count", "(I)I"⟩ prog_5_method_31_code 2 (some .int) : Cond) ∈ WA := wa_in (i := 654) rfl (by decide +kernel)
theorem wd_655 : (.methodLink "WarpSearchLaw" 122 ⟨"WarpSearchModel", "push", "(I)I"⟩ : Cond) ∈ WA := wa_in (i := 655) (by decide +kernel) (by decide +kernel)
theorem wd_656 : (.instanceMethod ⟨"WarpSearchModel", "push", "(I)I"⟩ : Cond) ∈ WA := wa_in (i := 656) (by decide +kernel) (by decide +kernel)
theorem wd_657 : (.selects "WarpSearchModel" ⟨"WarpSearchModel", "push", "(I)I"⟩ ⟨"WarpSearchModel", "push", "(I)I"⟩ : Cond) ∈ WA := wa_in (i := 657) (by decide +kernel) (by decide +kernel)
set_option maxRecDepth 20000 in
theorem wd_658 : (.code ⟨"WarpSearchModel", "push", "(I)I"⟩ prog_5_method_32_code 2 (some .int) : Cond) ∈ WA := wa_in (i := 658) rfl (by decide +kernel)
theorem wd_659 : (.methodLink "WarpSearchLaw" 128 ⟨"WarpSearchModel", "shift", "(I)V"⟩ : Cond) ∈ WA := wa_in (i := 659) (by decide +kernel) (by decide +kernel)
theorem wd_660 : (.instanceMethod ⟨"WarpSearchModel", "shift", "(I)V"⟩ : Cond) ∈ WA := wa_in (i := 660) (by decide +kernel) (by decide +kernel)
theorem wd_661 : (.selects "WarpSearchModel" ⟨"WarpSearchModel", "shift", "(I)V"⟩ ⟨"WarpSearchModel", "shift", "(I)V"⟩ : Cond) ∈ WA := wa_in (i := 661) (by decide +kernel) (by decide +kernel)
set_option maxRecDepth 20000 in
theorem wd_662 : (.code ⟨"WarpSearchModel", "shift", "(I)V"⟩ prog_5_method_33_code 3 none : Cond) ∈ WA := wa_in (i := 662) rfl (by decide +kernel)
theorem wd_663 : (.arrayClass .long : Cond) ∈ WA := wa_in (i := 663) (by decide +kernel) (by decide +kernel)
theorem inW_X0 : ∀ w ∈ u_ws RX0 TX0 7, w ∈ WA := List.forall_mem_cons.mpr ⟨wd_62, List.forall_mem_cons.mpr ⟨wd_64, List.forall_mem_cons.mpr ⟨wd_66, List.forall_mem_cons.mpr ⟨wd_68, List.forall_mem_cons.mpr ⟨wd_70, List.forall_mem_cons.mpr ⟨wd_72, List.forall_mem_cons.mpr ⟨wd_74, fun _ h => absurd h List.not_mem_nil⟩⟩⟩⟩⟩⟩⟩
theorem inW_X1 : ∀ w ∈ u_ws RX1 TX1 4, w ∈ WA := List.forall_mem_cons.mpr ⟨wd_91, List.forall_mem_cons.mpr ⟨wd_93, List.forall_mem_cons.mpr ⟨wd_95, List.forall_mem_cons.mpr ⟨wd_97, fun _ h => absurd h List.not_mem_nil⟩⟩⟩⟩
theorem inW_X2 : ∀ w ∈ u_ws RX2 TX2 11, w ∈ WA := List.forall_mem_cons.mpr ⟨wd_111, List.forall_mem_cons.mpr ⟨wd_113, List.forall_mem_cons.mpr ⟨wd_115, List.forall_mem_cons.mpr ⟨wd_117, List.forall_mem_cons.mpr ⟨wd_119, List.forall_mem_cons.mpr ⟨wd_121, List.forall_mem_cons.mpr ⟨wd_123, List.forall_mem_cons.mpr ⟨wd_125, List.forall_mem_cons.mpr ⟨wd_127, List.forall_mem_cons.mpr ⟨wd_129, List.forall_mem_cons.mpr ⟨wd_131, fun _ h => absurd h List.not_mem_nil⟩⟩⟩⟩⟩⟩⟩⟩⟩⟩⟩
theorem inW_X3 : ∀ w ∈ u_ws RX3 TX3 17, w ∈ WA := List.forall_mem_cons.mpr ⟨wd_501, List.forall_mem_cons.mpr ⟨wd_503, List.forall_mem_cons.mpr ⟨wd_505, List.forall_mem_cons.mpr ⟨wd_507, List.forall_mem_cons.mpr ⟨wd_509, List.forall_mem_cons.mpr ⟨wd_511, List.forall_mem_cons.mpr ⟨wd_513, List.forall_mem_cons.mpr ⟨wd_515, List.forall_mem_cons.mpr ⟨wd_517, List.forall_mem_cons.mpr ⟨wd_519, List.forall_mem_cons.mpr ⟨wd_521, List.forall_mem_cons.mpr ⟨wd_523, List.forall_mem_cons.mpr ⟨wd_525, List.forall_mem_cons.mpr ⟨wd_527, List.forall_mem_cons.mpr ⟨wd_529, List.forall_mem_cons.mpr ⟨wd_531, List.forall_mem_cons.mpr ⟨wd_533, fun _ h => absurd h List.not_mem_nil⟩⟩⟩⟩⟩⟩⟩⟩⟩⟩⟩⟩⟩⟩⟩⟩⟩
