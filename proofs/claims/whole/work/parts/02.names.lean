-- names, fields, words
abbrev zN_L : String := "SpanBoard$Letter"
def zT_L : u_T := fun k => match k with
  | 0 => ("SpanBoard$Letter", "kind", "I", false)
  | 1 => ("SpanBoard$Letter", "recorder", "I", false)
  | 2 => ("SpanBoard$Letter", "point", "I", false)
  | 3 => ("SpanBoard$Letter", "reader", "I", false)
  | 4 => ("SpanBoard$Letter", "number", "I", false)
  | _ => ("SpanBoard$Letter", "pair", "LSpanBoard$Pair;", false)
def zt_L : Nat → FieldType := fun k => match k with
  | 0 => .int
  | 1 => .int
  | 2 => .int
  | 3 => .int
  | 4 => .int
  | _ => .object "SpanBoard$Pair"
theorem znm_L : ∀ a, a < 6 → ∀ b, b < 6 → a ≠ b → (zT_L a).2.1 ≠ (zT_L b).2.1 := by decide +kernel
theorem zto_L : ∀ k, k < 6 → parseFieldDescriptor (zT_L k).2.2.1 = some (zt_L k) := by decide +kernel
abbrev zN_P : String := "SpanBoard$Pair"
def zT_P : u_T := fun k => match k with
  | 0 => ("SpanBoard$Pair", "number", "I", true)
  | 1 => ("SpanBoard$Pair", "low", "I", true)
  | _ => ("SpanBoard$Pair", "high", "I", true)
def zt_P : Nat → FieldType := fun k => match k with
  | 0 => .int
  | 1 => .int
  | _ => .int
theorem znm_P : ∀ a, a < 3 → ∀ b, b < 3 → a ≠ b → (zT_P a).2.1 ≠ (zT_P b).2.1 := by decide +kernel
theorem zto_P : ∀ k, k < 3 → parseFieldDescriptor (zT_P k).2.2.1 = some (zt_P k) := by decide +kernel
abbrev zN_O : String := "SpanBoard$Post"
def zT_O : u_T := fun k => match k with
  | 0 => ("SpanBoard$Post", "row", "[LSpanBoard$Letter;", true)
  | _ => ("SpanBoard$Post", "count", "I", false)
def zt_O : Nat → FieldType := fun k => match k with
  | 0 => .array (.object "SpanBoard$Letter")
  | _ => .int
theorem znm_O : ∀ a, a < 2 → ∀ b, b < 2 → a ≠ b → (zT_O a).2.1 ≠ (zT_O b).2.1 := by decide +kernel
theorem zto_O : ∀ k, k < 2 → parseFieldDescriptor (zT_O k).2.2.1 = some (zt_O k) := by decide +kernel
abbrev zN_D : String := "SpanBoard$Reader"
def zT_D : u_T := fun k => match k with
  | 0 => ("SpanBoard$Reader", "told", "[LSpanBoard$Pair;", true)
  | 1 => ("SpanBoard$Reader", "remembered", "[LSpanBoard$Pair;", true)
  | 2 => ("SpanBoard$Reader", "toldCount", "I", false)
  | 3 => ("SpanBoard$Reader", "state", "I", false)
  | 4 => ("SpanBoard$Reader", "question", "I", false)
  | 5 => ("SpanBoard$Reader", "round", "I", false)
  | 6 => ("SpanBoard$Reader", "point", "I", false)
  | 7 => ("SpanBoard$Reader", "answeredPoint", "I", false)
  | _ => ("SpanBoard$Reader", "answer", "LSpanBoard$Pair;", false)
def zt_D : Nat → FieldType := fun k => match k with
  | 0 => .array (.object "SpanBoard$Pair")
  | 1 => .array (.object "SpanBoard$Pair")
  | 2 => .int
  | 3 => .int
  | 4 => .int
  | 5 => .int
  | 6 => .int
  | 7 => .int
  | _ => .object "SpanBoard$Pair"
theorem znm_D : ∀ a, a < 9 → ∀ b, b < 9 → a ≠ b → (zT_D a).2.1 ≠ (zT_D b).2.1 := by decide +kernel
theorem zto_D : ∀ k, k < 9 → parseFieldDescriptor (zT_D k).2.2.1 = some (zt_D k) := by decide +kernel
abbrev zN_R : String := "SpanBoard$Recorder"
def zT_R : u_T := fun k => match k with
  | 0 => ("SpanBoard$Recorder", "pairs", "[LSpanBoard$Pair;", true)
  | 1 => ("SpanBoard$Recorder", "up", "Z", false)
  | _ => ("SpanBoard$Recorder", "liar", "Z", false)
def zt_R : Nat → FieldType := fun k => match k with
  | 0 => .array (.object "SpanBoard$Pair")
  | 1 => .boolean
  | _ => .boolean
theorem znm_R : ∀ a, a < 3 → ∀ b, b < 3 → a ≠ b → (zT_R a).2.1 ≠ (zT_R b).2.1 := by decide +kernel
theorem zto_R : ∀ k, k < 3 → parseFieldDescriptor (zT_R k).2.2.1 = some (zt_R k) := by decide +kernel
abbrev zN_W : String := "SpanBoard$Writer"
def zT_W : u_T := fun k => match k with
  | 0 => ("SpanBoard$Writer", "receipts", "[Z", true)
  | 1 => ("SpanBoard$Writer", "receiptCount", "I", false)
  | 2 => ("SpanBoard$Writer", "latest", "LSpanBoard$Pair;", false)
  | 3 => ("SpanBoard$Writer", "open", "Z", false)
  | _ => ("SpanBoard$Writer", "finished", "I", false)
def zt_W : Nat → FieldType := fun k => match k with
  | 0 => .array .boolean
  | 1 => .int
  | 2 => .object "SpanBoard$Pair"
  | 3 => .boolean
  | _ => .int
theorem znm_W : ∀ a, a < 5 → ∀ b, b < 5 → a ≠ b → (zT_W a).2.1 ≠ (zT_W b).2.1 := by decide +kernel
theorem zto_W : ∀ k, k < 5 → parseFieldDescriptor (zT_W k).2.2.1 = some (zt_W k) := by decide +kernel
abbrev zN_X : String := "SpanBoard"
def zT_X : u_T := fun k => match k with
  | 0 => ("SpanBoard", "rounds", "I", true)
  | 1 => ("SpanBoard", "recorders", "[LSpanBoard$Recorder;", true)
  | 2 => ("SpanBoard", "writers", "[LSpanBoard$Writer;", true)
  | 3 => ("SpanBoard", "readers", "[LSpanBoard$Reader;", true)
  | 4 => ("SpanBoard", "post", "LSpanBoard$Post;", true)
  | 5 => ("SpanBoard", "hallOfPoint", "[I", true)
  | 6 => ("SpanBoard", "latestAnswers", "[LSpanBoard$Pair;", true)
  | 7 => ("SpanBoard", "hasValue", "[Z", true)
  | _ => ("SpanBoard", "values", "[I", true)
def zt_X : Nat → FieldType := fun k => match k with
  | 0 => .int
  | 1 => .array (.object "SpanBoard$Recorder")
  | 2 => .array (.object "SpanBoard$Writer")
  | 3 => .array (.object "SpanBoard$Reader")
  | 4 => .object "SpanBoard$Post"
  | 5 => .array .int
  | 6 => .array (.object "SpanBoard$Pair")
  | 7 => .array .boolean
  | _ => .array .int
theorem znm_X : ∀ a, a < 9 → ∀ b, b < 9 → a ≠ b → (zT_X a).2.1 ≠ (zT_X b).2.1 := by decide +kernel
theorem zto_X : ∀ k, k < 9 → parseFieldDescriptor (zT_X k).2.2.1 = some (zt_X k) := by decide +kernel
abbrev zN_M : String := "SpanBoardModel"
def zT_M : u_T := fun k => match k with
  | 0 => ("SpanBoardModel", "rounds", "I", true)
  | 1 => ("SpanBoardModel", "hallOf", "[I", true)
  | 2 => ("SpanBoardModel", "measured", "[Z", true)
  | 3 => ("SpanBoardModel", "value", "[I", true)
  | 4 => ("SpanBoardModel", "down", "[Z", true)
  | 5 => ("SpanBoardModel", "liar", "[Z", true)
  | 6 => ("SpanBoardModel", "heldNumber", "[I", true)
  | 7 => ("SpanBoardModel", "heldLow", "[I", true)
  | 8 => ("SpanBoardModel", "heldHigh", "[I", true)
  | 9 => ("SpanBoardModel", "writes", "[I", true)
  | 10 => ("SpanBoardModel", "writesLow", "[I", true)
  | 11 => ("SpanBoardModel", "writesHigh", "[I", true)
  | 12 => ("SpanBoardModel", "open", "[Z", true)
  | 13 => ("SpanBoardModel", "finished", "[I", true)
  | 14 => ("SpanBoardModel", "receipted", "[Z", true)
  | 15 => ("SpanBoardModel", "question", "[I", true)
  | 16 => ("SpanBoardModel", "asks", "[I", true)
  | 17 => ("SpanBoardModel", "round", "[I", true)
  | 18 => ("SpanBoardModel", "outcome", "[I", true)
  | 19 => ("SpanBoardModel", "told", "[Z", true)
  | 20 => ("SpanBoardModel", "toldNumber", "[I", true)
  | 21 => ("SpanBoardModel", "toldLow", "[I", true)
  | 22 => ("SpanBoardModel", "toldHigh", "[I", true)
  | 23 => ("SpanBoardModel", "knownNumber", "[I", true)
  | 24 => ("SpanBoardModel", "knownLow", "[I", true)
  | 25 => ("SpanBoardModel", "knownHigh", "[I", true)
  | 26 => ("SpanBoardModel", "hasAnswered", "[Z", true)
  | 27 => ("SpanBoardModel", "answered", "[I", true)
  | 28 => ("SpanBoardModel", "seen", "[Z", true)
  | 29 => ("SpanBoardModel", "seenLow", "[I", true)
  | 30 => ("SpanBoardModel", "seenHigh", "[I", true)
  | 31 => ("SpanBoardModel", "letters", "I", false)
  | 32 => ("SpanBoardModel", "kind", "[I", true)
  | 33 => ("SpanBoardModel", "recorder", "[I", true)
  | 34 => ("SpanBoardModel", "point", "[I", true)
  | 35 => ("SpanBoardModel", "reader", "[I", true)
  | 36 => ("SpanBoardModel", "number", "[I", true)
  | 37 => ("SpanBoardModel", "pairNumber", "[I", true)
  | 38 => ("SpanBoardModel", "pairLow", "[I", true)
  | _ => ("SpanBoardModel", "pairHigh", "[I", true)
def zt_M : Nat → FieldType := fun k => match k with
  | 0 => .int
  | 1 => .array .int
  | 2 => .array .boolean
  | 3 => .array .int
  | 4 => .array .boolean
  | 5 => .array .boolean
  | 6 => .array .int
  | 7 => .array .int
  | 8 => .array .int
  | 9 => .array .int
  | 10 => .array .int
  | 11 => .array .int
  | 12 => .array .boolean
  | 13 => .array .int
  | 14 => .array .boolean
  | 15 => .array .int
  | 16 => .array .int
  | 17 => .array .int
  | 18 => .array .int
  | 19 => .array .boolean
  | 20 => .array .int
  | 21 => .array .int
  | 22 => .array .int
  | 23 => .array .int
  | 24 => .array .int
  | 25 => .array .int
  | 26 => .array .boolean
  | 27 => .array .int
  | 28 => .array .boolean
  | 29 => .array .int
  | 30 => .array .int
  | 31 => .int
  | 32 => .array .int
  | 33 => .array .int
  | 34 => .array .int
  | 35 => .array .int
  | 36 => .array .int
  | 37 => .array .int
  | 38 => .array .int
  | _ => .array .int
theorem znm_M : ∀ a, a < 40 → ∀ b, b < 40 → a ≠ b → (zT_M a).2.1 ≠ (zT_M b).2.1 := by decide +kernel
theorem zto_M : ∀ k, k < 40 → parseFieldDescriptor (zT_M k).2.2.1 = some (zt_M k) := by decide +kernel
abbrev zN_J : String := "SpanBoardLaw"
abbrev vwCl : List vw_C := [(zN_L, zT_L, 6), (zN_P, zT_P, 3), (zN_O, zT_O, 2), (zN_D, zT_D, 9), (zN_R, zT_R, 3), (zN_W, zT_W, 5), (zN_X, zT_X, 9), (zN_M, zT_M, 40)]
abbrev zciL : Nat := 0
abbrev zciP : Nat := 1
abbrev zciO : Nat := 2
abbrev zciD : Nat := 3
abbrev zciR : Nat := 4
abbrev zciW : Nat := 5
abbrev zciX : Nat := 6
abbrev zciM : Nat := 7
def zAll : List Cond := lw_tbl.filter goodWord
theorem z_goodAll : GoodIn zAll zAll := fun w h => ⟨h, good_of_word (List.mem_filter.mp h).2⟩
theorem z_all {args : Array Value} {s : State} (hts : ∀ w ∈ lw_tbl, w.before args s = true) : ∀ w ∈ zAll, w.before args s = true := fun w h => hts w (List.mem_filter.mp h).1
theorem z_mem {w : Cond} (i : Nat) (h : tables_1[i]? = some w) (hg : goodWord w = true) : w ∈ zAll := List.mem_filter.mpr ⟨List.mem_append_right _ (List.mem_of_getElem? h), hg⟩
theorem z_memp {w : Cond} (i : Nat) (h : (k2_sels lw_privs)[i]? = some w) (hg : goodWord w = true) : w ∈ zAll := List.mem_filter.mpr ⟨List.mem_append_left _ (List.mem_of_getElem? h), hg⟩
theorem zin_L : ∀ w ∈ u_ws zN_L zT_L 6, w ∈ zAll := by
  intro w hw
  obtain ⟨k, hk, rfl⟩ := List.mem_map.mp hw
  have hk := List.mem_range.mp hk
  match k, hk with
  | 0, _ => exact z_mem 163 (by decide +kernel) rfl
  | 1, _ => exact z_mem 165 (by decide +kernel) rfl
  | 2, _ => exact z_mem 167 (by decide +kernel) rfl
  | 3, _ => exact z_mem 169 (by decide +kernel) rfl
  | 4, _ => exact z_mem 171 (by decide +kernel) rfl
  | 5, _ => exact z_mem 173 (by decide +kernel) rfl
  | k + 6, hk => omega
theorem zin_P : ∀ w ∈ u_ws zN_P zT_P 3, w ∈ zAll := by
  intro w hw
  obtain ⟨k, hk, rfl⟩ := List.mem_map.mp hw
  have hk := List.mem_range.mp hk
  match k, hk with
  | 0, _ => exact z_mem 36 (by decide +kernel) rfl
  | 1, _ => exact z_mem 38 (by decide +kernel) rfl
  | 2, _ => exact z_mem 40 (by decide +kernel) rfl
  | k + 3, hk => omega
theorem zin_O : ∀ w ∈ u_ws zN_O zT_O 2, w ∈ zAll := by
  intro w hw
  obtain ⟨k, hk, rfl⟩ := List.mem_map.mp hw
  have hk := List.mem_range.mp hk
  match k, hk with
  | 0, _ => exact z_mem 180 (by decide +kernel) rfl
  | 1, _ => exact z_mem 182 (by decide +kernel) rfl
  | k + 2, hk => omega
theorem zin_D : ∀ w ∈ u_ws zN_D zT_D 9, w ∈ zAll := by
  intro w hw
  obtain ⟨k, hk, rfl⟩ := List.mem_map.mp hw
  have hk := List.mem_range.mp hk
  match k, hk with
  | 0, _ => exact z_mem 119 (by decide +kernel) rfl
  | 1, _ => exact z_mem 121 (by decide +kernel) rfl
  | 2, _ => exact z_mem 123 (by decide +kernel) rfl
  | 3, _ => exact z_mem 125 (by decide +kernel) rfl
  | 4, _ => exact z_mem 127 (by decide +kernel) rfl
  | 5, _ => exact z_mem 129 (by decide +kernel) rfl
  | 6, _ => exact z_mem 131 (by decide +kernel) rfl
  | 7, _ => exact z_mem 133 (by decide +kernel) rfl
  | 8, _ => exact z_mem 135 (by decide +kernel) rfl
  | k + 9, hk => omega
theorem zin_R : ∀ w ∈ u_ws zN_R zT_R 3, w ∈ zAll := by
  intro w hw
  obtain ⟨k, hk, rfl⟩ := List.mem_map.mp hw
  have hk := List.mem_range.mp hk
  match k, hk with
  | 0, _ => exact z_mem 58 (by decide +kernel) rfl
  | 1, _ => exact z_mem 60 (by decide +kernel) rfl
  | 2, _ => exact z_mem 62 (by decide +kernel) rfl
  | k + 3, hk => omega
theorem zin_W : ∀ w ∈ u_ws zN_W zT_W 5, w ∈ zAll := by
  intro w hw
  obtain ⟨k, hk, rfl⟩ := List.mem_map.mp hw
  have hk := List.mem_range.mp hk
  match k, hk with
  | 0, _ => exact z_mem 82 (by decide +kernel) rfl
  | 1, _ => exact z_mem 84 (by decide +kernel) rfl
  | 2, _ => exact z_mem 86 (by decide +kernel) rfl
  | 3, _ => exact z_mem 88 (by decide +kernel) rfl
  | 4, _ => exact z_mem 90 (by decide +kernel) rfl
  | k + 5, hk => omega
theorem zin_X : ∀ w ∈ u_ws zN_X zT_X 9, w ∈ zAll := by
  intro w hw
  obtain ⟨k, hk, rfl⟩ := List.mem_map.mp hw
  have hk := List.mem_range.mp hk
  match k, hk with
  | 0, _ => exact z_mem 194 (by decide +kernel) rfl
  | 1, _ => exact z_mem 196 (by decide +kernel) rfl
  | 2, _ => exact z_mem 198 (by decide +kernel) rfl
  | 3, _ => exact z_mem 200 (by decide +kernel) rfl
  | 4, _ => exact z_mem 202 (by decide +kernel) rfl
  | 5, _ => exact z_mem 204 (by decide +kernel) rfl
  | 6, _ => exact z_mem 206 (by decide +kernel) rfl
  | 7, _ => exact z_mem 208 (by decide +kernel) rfl
  | 8, _ => exact z_mem 210 (by decide +kernel) rfl
  | k + 9, hk => omega
theorem zin_M : ∀ w ∈ u_ws zN_M zT_M 40, w ∈ zAll := by
  intro w hw
  obtain ⟨k, hk, rfl⟩ := List.mem_map.mp hw
  have hk := List.mem_range.mp hk
  match k, hk with
  | 0, _ => exact z_mem 489 (by decide +kernel) rfl
  | 1, _ => exact z_mem 491 (by decide +kernel) rfl
  | 2, _ => exact z_mem 493 (by decide +kernel) rfl
  | 3, _ => exact z_mem 495 (by decide +kernel) rfl
  | 4, _ => exact z_mem 497 (by decide +kernel) rfl
  | 5, _ => exact z_mem 499 (by decide +kernel) rfl
  | 6, _ => exact z_mem 501 (by decide +kernel) rfl
  | 7, _ => exact z_mem 503 (by decide +kernel) rfl
  | 8, _ => exact z_mem 505 (by decide +kernel) rfl
  | 9, _ => exact z_mem 507 (by decide +kernel) rfl
  | 10, _ => exact z_mem 509 (by decide +kernel) rfl
  | 11, _ => exact z_mem 511 (by decide +kernel) rfl
  | 12, _ => exact z_mem 513 (by decide +kernel) rfl
  | 13, _ => exact z_mem 515 (by decide +kernel) rfl
  | 14, _ => exact z_mem 517 (by decide +kernel) rfl
  | 15, _ => exact z_mem 519 (by decide +kernel) rfl
  | 16, _ => exact z_mem 521 (by decide +kernel) rfl
  | 17, _ => exact z_mem 523 (by decide +kernel) rfl
  | 18, _ => exact z_mem 525 (by decide +kernel) rfl
  | 19, _ => exact z_mem 527 (by decide +kernel) rfl
  | 20, _ => exact z_mem 529 (by decide +kernel) rfl
  | 21, _ => exact z_mem 531 (by decide +kernel) rfl
  | 22, _ => exact z_mem 533 (by decide +kernel) rfl
  | 23, _ => exact z_mem 535 (by decide +kernel) rfl
  | 24, _ => exact z_mem 537 (by decide +kernel) rfl
  | 25, _ => exact z_mem 539 (by decide +kernel) rfl
  | 26, _ => exact z_mem 541 (by decide +kernel) rfl
  | 27, _ => exact z_mem 543 (by decide +kernel) rfl
  | 28, _ => exact z_mem 545 (by decide +kernel) rfl
  | 29, _ => exact z_mem 547 (by decide +kernel) rfl
  | 30, _ => exact z_mem 549 (by decide +kernel) rfl
  | 31, _ => exact z_mem 551 (by decide +kernel) rfl
  | 32, _ => exact z_mem 553 (by decide +kernel) rfl
  | 33, _ => exact z_mem 555 (by decide +kernel) rfl
  | 34, _ => exact z_mem 557 (by decide +kernel) rfl
  | 35, _ => exact z_mem 559 (by decide +kernel) rfl
  | 36, _ => exact z_mem 561 (by decide +kernel) rfl
  | 37, _ => exact z_mem 563 (by decide +kernel) rfl
  | 38, _ => exact z_mem 565 (by decide +kernel) rfl
  | 39, _ => exact z_mem 567 (by decide +kernel) rfl
  | k + 40, hk => omega
theorem z_goodV {own C : String} {index : Nat} {y : MethodName} {b : ByteArray} {n : Nat} {r : Option FieldType} (h0 : Cond.code y b n r ∈ zAll) (h2 : Cond.instanceMethod y ∈ zAll) (h3 : Cond.selects C y y ∈ zAll) (h4 : Cond.initialized C ∈ zAll) (h1 : Cond.methodLink own index y ∈ zAll) : GoodIn zAll (wsV own index C y (.code y b n r :: zAll)) := by
  intro w hw
  simp only [wsV, List.cons_append, List.nil_append, List.mem_cons] at hw
  rcases hw with rfl | rfl | rfl | rfl | rfl | hw
  · exact z_goodAll _ h1
  · exact z_goodAll _ h2
  · exact z_goodAll _ h3
  · exact z_goodAll _ h4
  · exact z_goodAll _ h0
  · exact z_goodAll _ hw
theorem z_goodS {own : String} {index : Nat} {y : MethodName} {b : ByteArray} {n : Nat} {r : Option FieldType} (h0 : Cond.code y b n r ∈ zAll) (h2 : Cond.static y ∈ zAll) (h4 : Cond.initialized own ∈ zAll) (h1 : Cond.methodLink own index y ∈ zAll) : GoodIn zAll (wsS own index y (.code y b n r :: zAll)) := by
  intro w hw
  simp only [wsS, List.cons_append, List.nil_append, List.mem_cons] at hw
  rcases hw with rfl | rfl | rfl | rfl | hw
  · exact z_goodAll _ h1
  · exact z_goodAll _ h2
  · exact z_goodAll _ h4
  · exact z_goodAll _ h0
  · exact z_goodAll _ hw
theorem z_goodI {y : MethodName} {b : ByteArray} {n : Nat} {r : Option FieldType} (h0 : Cond.code y b n r ∈ zAll) : GoodIn zAll (.code y b n r :: zAll) := by
  intro w hw
  rcases List.mem_cons.mp hw with rfl | hw
  · exact z_goodAll _ h0
  · exact z_goodAll _ hw
abbrev zc_X_init : ByteArray := prog_1_method_1_code
abbrev zy_X_init : MethodName := ⟨"SpanBoard", "<init>", "(I)V"⟩
set_option maxRecDepth 100000 in
theorem zh_X_init : Cond.code zy_X_init zc_X_init 4 none ∈ zAll := z_mem 14 rfl rfl
abbrev zc_X_hall : ByteArray := prog_1_method_2_code
abbrev zy_X_hall : MethodName := ⟨"SpanBoard", "hall", "(II)Z"⟩
set_option maxRecDepth 100000 in
theorem zh_X_hall : Cond.code zy_X_hall zc_X_hall 3 (some .boolean) ∈ zAll := z_mem 217 rfl rfl
theorem zg_X_hall {own : String} {index : Nat} (h1 : Cond.methodLink own index zy_X_hall ∈ zAll) : GoodIn zAll (wsV own index zN_X zy_X_hall (.code zy_X_hall zc_X_hall 3 (some .boolean) :: zAll)) := z_goodV zh_X_hall (z_mem 215 (by decide +kernel) rfl) (z_mem 216 (by decide +kernel) rfl) (z_mem 1 (by decide +kernel) rfl) h1
abbrev zc_X_write : ByteArray := prog_1_method_3_code
abbrev zy_X_write : MethodName := ⟨"SpanBoard", "write", "(III)I"⟩
set_option maxRecDepth 100000 in
theorem zh_X_write : Cond.code zy_X_write zc_X_write 4 (some .int) ∈ zAll := z_mem 227 rfl rfl
theorem zg_X_write {own : String} {index : Nat} (h1 : Cond.methodLink own index zy_X_write ∈ zAll) : GoodIn zAll (wsV own index zN_X zy_X_write (.code zy_X_write zc_X_write 4 (some .int) :: zAll)) := z_goodV zh_X_write (z_mem 225 (by decide +kernel) rfl) (z_mem 226 (by decide +kernel) rfl) (z_mem 1 (by decide +kernel) rfl) h1
abbrev zc_X_read : ByteArray := prog_1_method_4_code
abbrev zy_X_read : MethodName := ⟨"SpanBoard", "read", "(II)I"⟩
set_option maxRecDepth 100000 in
theorem zh_X_read : Cond.code zy_X_read zc_X_read 3 (some .int) ∈ zAll := z_mem 253 rfl rfl
theorem zg_X_read {own : String} {index : Nat} (h1 : Cond.methodLink own index zy_X_read ∈ zAll) : GoodIn zAll (wsV own index zN_X zy_X_read (.code zy_X_read zc_X_read 3 (some .int) :: zAll)) := z_goodV zh_X_read (z_mem 251 (by decide +kernel) rfl) (z_mem 252 (by decide +kernel) rfl) (z_mem 1 (by decide +kernel) rfl) h1
abbrev zc_X_storeAgain : ByteArray := prog_1_method_5_code
abbrev zy_X_storeAgain : MethodName := ⟨"SpanBoard", "storeAgain", "(I)I"⟩
set_option maxRecDepth 100000 in
theorem zh_X_storeAgain : Cond.code zy_X_storeAgain zc_X_storeAgain 2 (some .int) ∈ zAll := z_mem 276 rfl rfl
theorem zg_X_storeAgain {own : String} {index : Nat} (h1 : Cond.methodLink own index zy_X_storeAgain ∈ zAll) : GoodIn zAll (wsV own index zN_X zy_X_storeAgain (.code zy_X_storeAgain zc_X_storeAgain 2 (some .int) :: zAll)) := z_goodV zh_X_storeAgain (z_mem 274 (by decide +kernel) rfl) (z_mem 275 (by decide +kernel) rfl) (z_mem 1 (by decide +kernel) rfl) h1
abbrev zc_X_askAgain : ByteArray := prog_1_method_6_code
abbrev zy_X_askAgain : MethodName := ⟨"SpanBoard", "askAgain", "(I)I"⟩
set_option maxRecDepth 100000 in
theorem zh_X_askAgain : Cond.code zy_X_askAgain zc_X_askAgain 2 (some .int) ∈ zAll := z_mem 280 rfl rfl
theorem zg_X_askAgain {own : String} {index : Nat} (h1 : Cond.methodLink own index zy_X_askAgain ∈ zAll) : GoodIn zAll (wsV own index zN_X zy_X_askAgain (.code zy_X_askAgain zc_X_askAgain 2 (some .int) :: zAll)) := z_goodV zh_X_askAgain (z_mem 278 (by decide +kernel) rfl) (z_mem 279 (by decide +kernel) rfl) (z_mem 1 (by decide +kernel) rfl) h1
abbrev zc_X_letters : ByteArray := prog_1_method_7_code
abbrev zy_X_letters : MethodName := ⟨"SpanBoard", "letters", "()I"⟩
set_option maxRecDepth 100000 in
theorem zh_X_letters : Cond.code zy_X_letters zc_X_letters 1 (some .int) ∈ zAll := z_mem 284 rfl rfl
theorem zg_X_letters {own : String} {index : Nat} (h1 : Cond.methodLink own index zy_X_letters ∈ zAll) : GoodIn zAll (wsV own index zN_X zy_X_letters (.code zy_X_letters zc_X_letters 1 (some .int) :: zAll)) := z_goodV zh_X_letters (z_mem 282 (by decide +kernel) rfl) (z_mem 283 (by decide +kernel) rfl) (z_mem 1 (by decide +kernel) rfl) h1
abbrev zc_X_letter : ByteArray := prog_1_method_8_code
abbrev zy_X_letter : MethodName := ⟨"SpanBoard", "letter", "(II)I"⟩
set_option maxRecDepth 100000 in
theorem zh_X_letter : Cond.code zy_X_letter zc_X_letter 4 (some .int) ∈ zAll := z_mem 288 rfl rfl
theorem zg_X_letter {own : String} {index : Nat} (h1 : Cond.methodLink own index zy_X_letter ∈ zAll) : GoodIn zAll (wsV own index zN_X zy_X_letter (.code zy_X_letter zc_X_letter 4 (some .int) :: zAll)) := z_goodV zh_X_letter (z_mem 286 (by decide +kernel) rfl) (z_mem 287 (by decide +kernel) rfl) (z_mem 1 (by decide +kernel) rfl) h1
abbrev zc_X_deliver : ByteArray := prog_1_method_9_code
abbrev zy_X_deliver : MethodName := ⟨"SpanBoard", "deliver", "(I)Z"⟩
set_option maxRecDepth 100000 in
theorem zh_X_deliver : Cond.code zy_X_deliver zc_X_deliver 2 (some .boolean) ∈ zAll := z_mem 296 rfl rfl
theorem zg_X_deliver {own : String} {index : Nat} (h1 : Cond.methodLink own index zy_X_deliver ∈ zAll) : GoodIn zAll (wsV own index zN_X zy_X_deliver (.code zy_X_deliver zc_X_deliver 2 (some .boolean) :: zAll)) := z_goodV zh_X_deliver (z_mem 294 (by decide +kernel) rfl) (z_mem 295 (by decide +kernel) rfl) (z_mem 1 (by decide +kernel) rfl) h1
abbrev zc_X_deliverAll : ByteArray := prog_1_method_10_code
abbrev zy_X_deliverAll : MethodName := ⟨"SpanBoard", "deliverAll", "(I)I"⟩
set_option maxRecDepth 100000 in
theorem zh_X_deliverAll : Cond.code zy_X_deliverAll zc_X_deliverAll 3 (some .int) ∈ zAll := z_mem 354 rfl rfl
theorem zg_X_deliverAll {own : String} {index : Nat} (h1 : Cond.methodLink own index zy_X_deliverAll ∈ zAll) : GoodIn zAll (wsV own index zN_X zy_X_deliverAll (.code zy_X_deliverAll zc_X_deliverAll 3 (some .int) :: zAll)) := z_goodV zh_X_deliverAll (z_mem 352 (by decide +kernel) rfl) (z_mem 353 (by decide +kernel) rfl) (z_mem 1 (by decide +kernel) rfl) h1
abbrev zc_X_lose : ByteArray := prog_1_method_11_code
abbrev zy_X_lose : MethodName := ⟨"SpanBoard", "lose", "(I)Z"⟩
set_option maxRecDepth 100000 in
theorem zh_X_lose : Cond.code zy_X_lose zc_X_lose 2 (some .boolean) ∈ zAll := z_mem 358 rfl rfl
theorem zg_X_lose {own : String} {index : Nat} (h1 : Cond.methodLink own index zy_X_lose ∈ zAll) : GoodIn zAll (wsV own index zN_X zy_X_lose (.code zy_X_lose zc_X_lose 2 (some .boolean) :: zAll)) := z_goodV zh_X_lose (z_mem 356 (by decide +kernel) rfl) (z_mem 357 (by decide +kernel) rfl) (z_mem 1 (by decide +kernel) rfl) h1
abbrev zc_X_twin : ByteArray := prog_1_method_12_code
abbrev zy_X_twin : MethodName := ⟨"SpanBoard", "twin", "(I)Z"⟩
set_option maxRecDepth 100000 in
theorem zh_X_twin : Cond.code zy_X_twin zc_X_twin 3 (some .boolean) ∈ zAll := z_mem 362 rfl rfl
theorem zg_X_twin {own : String} {index : Nat} (h1 : Cond.methodLink own index zy_X_twin ∈ zAll) : GoodIn zAll (wsV own index zN_X zy_X_twin (.code zy_X_twin zc_X_twin 3 (some .boolean) :: zAll)) := z_goodV zh_X_twin (z_mem 360 (by decide +kernel) rfl) (z_mem 361 (by decide +kernel) rfl) (z_mem 1 (by decide +kernel) rfl) h1
abbrev zc_X_lie : ByteArray := prog_1_method_13_code
abbrev zy_X_lie : MethodName := ⟨"SpanBoard", "lie", "(I)Z"⟩
set_option maxRecDepth 100000 in
theorem zh_X_lie : Cond.code zy_X_lie zc_X_lie 2 (some .boolean) ∈ zAll := z_mem 367 rfl rfl
theorem zg_X_lie {own : String} {index : Nat} (h1 : Cond.methodLink own index zy_X_lie ∈ zAll) : GoodIn zAll (wsV own index zN_X zy_X_lie (.code zy_X_lie zc_X_lie 2 (some .boolean) :: zAll)) := z_goodV zh_X_lie (z_mem 365 (by decide +kernel) rfl) (z_mem 366 (by decide +kernel) rfl) (z_mem 1 (by decide +kernel) rfl) h1
abbrev zc_X_tell : ByteArray := prog_1_method_14_code
abbrev zy_X_tell : MethodName := ⟨"SpanBoard", "tell", "(IIIII)Z"⟩
set_option maxRecDepth 100000 in
theorem zh_X_tell : Cond.code zy_X_tell zc_X_tell 7 (some .boolean) ∈ zAll := z_mem 378 rfl rfl
theorem zg_X_tell {own : String} {index : Nat} (h1 : Cond.methodLink own index zy_X_tell ∈ zAll) : GoodIn zAll (wsV own index zN_X zy_X_tell (.code zy_X_tell zc_X_tell 7 (some .boolean) :: zAll)) := z_goodV zh_X_tell (z_mem 376 (by decide +kernel) rfl) (z_mem 377 (by decide +kernel) rfl) (z_mem 1 (by decide +kernel) rfl) h1
abbrev zc_X_receipt : ByteArray := prog_1_method_15_code
abbrev zy_X_receipt : MethodName := ⟨"SpanBoard", "receipt", "(II)Z"⟩
set_option maxRecDepth 100000 in
theorem zh_X_receipt : Cond.code zy_X_receipt zc_X_receipt 3 (some .boolean) ∈ zAll := z_mem 386 rfl rfl
theorem zg_X_receipt {own : String} {index : Nat} (h1 : Cond.methodLink own index zy_X_receipt ∈ zAll) : GoodIn zAll (wsV own index zN_X zy_X_receipt (.code zy_X_receipt zc_X_receipt 3 (some .boolean) :: zAll)) := z_goodV zh_X_receipt (z_mem 384 (by decide +kernel) rfl) (z_mem 385 (by decide +kernel) rfl) (z_mem 1 (by decide +kernel) rfl) h1
abbrev zc_X_crash : ByteArray := prog_1_method_16_code
abbrev zy_X_crash : MethodName := ⟨"SpanBoard", "crash", "(I)Z"⟩
set_option maxRecDepth 100000 in
theorem zh_X_crash : Cond.code zy_X_crash zc_X_crash 2 (some .boolean) ∈ zAll := z_mem 390 rfl rfl
theorem zg_X_crash {own : String} {index : Nat} (h1 : Cond.methodLink own index zy_X_crash ∈ zAll) : GoodIn zAll (wsV own index zN_X zy_X_crash (.code zy_X_crash zc_X_crash 2 (some .boolean) :: zAll)) := z_goodV zh_X_crash (z_mem 388 (by decide +kernel) rfl) (z_mem 389 (by decide +kernel) rfl) (z_mem 1 (by decide +kernel) rfl) h1
abbrev zc_X_restart : ByteArray := prog_1_method_17_code
abbrev zy_X_restart : MethodName := ⟨"SpanBoard", "restart", "(I)Z"⟩
set_option maxRecDepth 100000 in
theorem zh_X_restart : Cond.code zy_X_restart zc_X_restart 2 (some .boolean) ∈ zAll := z_mem 394 rfl rfl
theorem zg_X_restart {own : String} {index : Nat} (h1 : Cond.methodLink own index zy_X_restart ∈ zAll) : GoodIn zAll (wsV own index zN_X zy_X_restart (.code zy_X_restart zc_X_restart 2 (some .boolean) :: zAll)) := z_goodV zh_X_restart (z_mem 392 (by decide +kernel) rfl) (z_mem 393 (by decide +kernel) rfl) (z_mem 1 (by decide +kernel) rfl) h1
abbrev zc_X_forget : ByteArray := prog_1_method_18_code
abbrev zy_X_forget : MethodName := ⟨"SpanBoard", "forget", "(I)Z"⟩
set_option maxRecDepth 100000 in
theorem zh_X_forget : Cond.code zy_X_forget zc_X_forget 2 (some .boolean) ∈ zAll := z_mem 398 rfl rfl
theorem zg_X_forget {own : String} {index : Nat} (h1 : Cond.methodLink own index zy_X_forget ∈ zAll) : GoodIn zAll (wsV own index zN_X zy_X_forget (.code zy_X_forget zc_X_forget 2 (some .boolean) :: zAll)) := z_goodV zh_X_forget (z_mem 396 (by decide +kernel) rfl) (z_mem 397 (by decide +kernel) rfl) (z_mem 1 (by decide +kernel) rfl) h1
abbrev zc_X_outcome : ByteArray := prog_1_method_19_code
abbrev zy_X_outcome : MethodName := ⟨"SpanBoard", "outcome", "(I)I"⟩
set_option maxRecDepth 100000 in
theorem zh_X_outcome : Cond.code zy_X_outcome zc_X_outcome 2 (some .int) ∈ zAll := z_mem 403 rfl rfl
theorem zg_X_outcome {own : String} {index : Nat} (h1 : Cond.methodLink own index zy_X_outcome ∈ zAll) : GoodIn zAll (wsV own index zN_X zy_X_outcome (.code zy_X_outcome zc_X_outcome 2 (some .int) :: zAll)) := z_goodV zh_X_outcome (z_mem 401 (by decide +kernel) rfl) (z_mem 402 (by decide +kernel) rfl) (z_mem 1 (by decide +kernel) rfl) h1
abbrev zc_X_answered : ByteArray := prog_1_method_20_code
abbrev zy_X_answered : MethodName := ⟨"SpanBoard", "answered", "(II)I"⟩
set_option maxRecDepth 100000 in
theorem zh_X_answered : Cond.code zy_X_answered zc_X_answered 3 (some .int) ∈ zAll := z_mem 407 rfl rfl
theorem zg_X_answered {own : String} {index : Nat} (h1 : Cond.methodLink own index zy_X_answered ∈ zAll) : GoodIn zAll (wsV own index zN_X zy_X_answered (.code zy_X_answered zc_X_answered 3 (some .int) :: zAll)) := z_goodV zh_X_answered (z_mem 405 (by decide +kernel) rfl) (z_mem 406 (by decide +kernel) rfl) (z_mem 1 (by decide +kernel) rfl) h1
abbrev zc_X_reader : ByteArray := prog_1_method_21_code
abbrev zy_X_reader : MethodName := ⟨"SpanBoard", "reader", "(II)I"⟩
set_option maxRecDepth 100000 in
theorem zh_X_reader : Cond.code zy_X_reader zc_X_reader 4 (some .int) ∈ zAll := z_mem 415 rfl rfl
theorem zg_X_reader {own : String} {index : Nat} (h1 : Cond.methodLink own index zy_X_reader ∈ zAll) : GoodIn zAll (wsV own index zN_X zy_X_reader (.code zy_X_reader zc_X_reader 4 (some .int) :: zAll)) := z_goodV zh_X_reader (z_mem 413 (by decide +kernel) rfl) (z_mem 414 (by decide +kernel) rfl) (z_mem 1 (by decide +kernel) rfl) h1
abbrev zc_X_writer : ByteArray := prog_1_method_22_code
abbrev zy_X_writer : MethodName := ⟨"SpanBoard", "writer", "(II)I"⟩
set_option maxRecDepth 100000 in
theorem zh_X_writer : Cond.code zy_X_writer zc_X_writer 4 (some .int) ∈ zAll := z_mem 419 rfl rfl
theorem zg_X_writer {own : String} {index : Nat} (h1 : Cond.methodLink own index zy_X_writer ∈ zAll) : GoodIn zAll (wsV own index zN_X zy_X_writer (.code zy_X_writer zc_X_writer 4 (some .int) :: zAll)) := z_goodV zh_X_writer (z_mem 417 (by decide +kernel) rfl) (z_mem 418 (by decide +kernel) rfl) (z_mem 1 (by decide +kernel) rfl) h1
abbrev zc_X_held : ByteArray := prog_1_method_23_code
abbrev zy_X_held : MethodName := ⟨"SpanBoard", "held", "(III)I"⟩
set_option maxRecDepth 100000 in
theorem zh_X_held : Cond.code zy_X_held zc_X_held 4 (some .int) ∈ zAll := z_mem 423 rfl rfl
theorem zg_X_held {own : String} {index : Nat} (h1 : Cond.methodLink own index zy_X_held ∈ zAll) : GoodIn zAll (wsV own index zN_X zy_X_held (.code zy_X_held zc_X_held 4 (some .int) :: zAll)) := z_goodV zh_X_held (z_mem 421 (by decide +kernel) rfl) (z_mem 422 (by decide +kernel) rfl) (z_mem 1 (by decide +kernel) rfl) h1
abbrev zc_X_measured : ByteArray := prog_1_method_24_code
abbrev zy_X_measured : MethodName := ⟨"SpanBoard", "measured", "(II)Z"⟩
set_option maxRecDepth 100000 in
theorem zh_X_measured : Cond.code zy_X_measured zc_X_measured 3 (some .boolean) ∈ zAll := z_mem 427 rfl rfl
theorem zg_X_measured {own : String} {index : Nat} (h1 : Cond.methodLink own index zy_X_measured ∈ zAll) : GoodIn zAll (wsV own index zN_X zy_X_measured (.code zy_X_measured zc_X_measured 3 (some .boolean) :: zAll)) := z_goodV zh_X_measured (z_mem 425 (by decide +kernel) rfl) (z_mem 426 (by decide +kernel) rfl) (z_mem 1 (by decide +kernel) rfl) h1
abbrev zc_X_alarm : ByteArray := prog_1_method_25_code
abbrev zy_X_alarm : MethodName := ⟨"SpanBoard", "alarm", "(I)I"⟩
set_option maxRecDepth 100000 in
theorem zh_X_alarm : Cond.code zy_X_alarm zc_X_alarm 4 (some .int) ∈ zAll := z_mem 431 rfl rfl
theorem zg_X_alarm {own : String} {index : Nat} (h1 : Cond.methodLink own index zy_X_alarm ∈ zAll) : GoodIn zAll (wsV own index zN_X zy_X_alarm (.code zy_X_alarm zc_X_alarm 4 (some .int) :: zAll)) := z_goodV zh_X_alarm (z_mem 429 (by decide +kernel) rfl) (z_mem 430 (by decide +kernel) rfl) (z_mem 1 (by decide +kernel) rfl) h1
abbrev zc_X_isPoint : ByteArray := prog_1_method_26_code
abbrev zy_X_isPoint : MethodName := ⟨"SpanBoard", "isPoint", "(I)Z"⟩
set_option maxRecDepth 100000 in
theorem zh_X_isPoint : Cond.code zy_X_isPoint zc_X_isPoint 1 (some .boolean) ∈ zAll := z_mem 220 rfl rfl
theorem zg_X_isPoint {index : Nat} (h1 : Cond.methodLink zN_X index zy_X_isPoint ∈ zAll) : GoodIn zAll (wsS zN_X index zy_X_isPoint (.code zy_X_isPoint zc_X_isPoint 1 (some .boolean) :: zAll)) := z_goodS zh_X_isPoint (z_mem 219 (by decide +kernel) rfl) (z_mem 1 (by decide +kernel) rfl) h1
abbrev zc_X_isRecorder : ByteArray := prog_1_method_27_code
abbrev zy_X_isRecorder : MethodName := ⟨"SpanBoard", "isRecorder", "(I)Z"⟩
set_option maxRecDepth 100000 in
theorem zh_X_isRecorder : Cond.code zy_X_isRecorder zc_X_isRecorder 1 (some .boolean) ∈ zAll := z_mem 370 rfl rfl
theorem zg_X_isRecorder {index : Nat} (h1 : Cond.methodLink zN_X index zy_X_isRecorder ∈ zAll) : GoodIn zAll (wsS zN_X index zy_X_isRecorder (.code zy_X_isRecorder zc_X_isRecorder 1 (some .boolean) :: zAll)) := z_goodS zh_X_isRecorder (z_mem 369 (by decide +kernel) rfl) (z_mem 1 (by decide +kernel) rfl) h1
abbrev zc_X_isReader : ByteArray := prog_1_method_28_code
abbrev zy_X_isReader : MethodName := ⟨"SpanBoard", "isReader", "(I)Z"⟩
set_option maxRecDepth 100000 in
theorem zh_X_isReader : Cond.code zy_X_isReader zc_X_isReader 1 (some .boolean) ∈ zAll := z_mem 256 rfl rfl
theorem zg_X_isReader {index : Nat} (h1 : Cond.methodLink zN_X index zy_X_isReader ∈ zAll) : GoodIn zAll (wsS zN_X index zy_X_isReader (.code zy_X_isReader zc_X_isReader 1 (some .boolean) :: zAll)) := z_goodS zh_X_isReader (z_mem 255 (by decide +kernel) rfl) (z_mem 1 (by decide +kernel) rfl) h1
abbrev zc_X_isHall : ByteArray := prog_1_method_29_code
abbrev zy_X_isHall : MethodName := ⟨"SpanBoard", "isHall", "(I)Z"⟩
set_option maxRecDepth 100000 in
theorem zh_X_isHall : Cond.code zy_X_isHall zc_X_isHall 1 (some .boolean) ∈ zAll := z_mem 223 rfl rfl
theorem zg_X_isHall {index : Nat} (h1 : Cond.methodLink zN_X index zy_X_isHall ∈ zAll) : GoodIn zAll (wsS zN_X index zy_X_isHall (.code zy_X_isHall zc_X_isHall 1 (some .boolean) :: zAll)) := z_goodS zh_X_isHall (z_mem 222 (by decide +kernel) rfl) (z_mem 1 (by decide +kernel) rfl) h1
abbrev zc_X_canLie : ByteArray := prog_1_method_30_code
abbrev zy_X_canLie : MethodName := ⟨"SpanBoard", "canLie", "(I)Z"⟩
set_option maxRecDepth 100000 in
theorem zh_X_canLie : Cond.code zy_X_canLie zc_X_canLie 2 (some .boolean) ∈ zAll := z_mem 382 rfl rfl
theorem zg_X_canLie {own : String} {index : Nat} (h1 : Cond.methodLink own index zy_X_canLie ∈ zAll) : GoodIn zAll (wsV own index zN_X zy_X_canLie (.code zy_X_canLie zc_X_canLie 2 (some .boolean) :: zAll)) := z_goodV zh_X_canLie (z_mem 381 (by decide +kernel) rfl) (z_memp 8 (by decide +kernel) rfl) (z_mem 1 (by decide +kernel) rfl) h1
abbrev zc_X_countLiars : ByteArray := prog_1_method_31_code
abbrev zy_X_countLiars : MethodName := ⟨"SpanBoard", "countLiars", "()I"⟩
set_option maxRecDepth 100000 in
theorem zh_X_countLiars : Cond.code zy_X_countLiars zc_X_countLiars 3 (some .int) ∈ zAll := z_mem 374 rfl rfl
theorem zg_X_countLiars {own : String} {index : Nat} (h1 : Cond.methodLink own index zy_X_countLiars ∈ zAll) : GoodIn zAll (wsV own index zN_X zy_X_countLiars (.code zy_X_countLiars zc_X_countLiars 3 (some .int) :: zAll)) := z_goodV zh_X_countLiars (z_mem 373 (by decide +kernel) rfl) (z_memp 7 (by decide +kernel) rfl) (z_mem 1 (by decide +kernel) rfl) h1
abbrev zc_X_isAlarmed : ByteArray := prog_1_method_32_code
abbrev zy_X_isAlarmed : MethodName := ⟨"SpanBoard", "isAlarmed", "(I)Z"⟩
set_option maxRecDepth 100000 in
theorem zh_X_isAlarmed : Cond.code zy_X_isAlarmed zc_X_isAlarmed 4 (some .boolean) ∈ zAll := z_mem 435 rfl rfl
theorem zg_X_isAlarmed {own : String} {index : Nat} (h1 : Cond.methodLink own index zy_X_isAlarmed ∈ zAll) : GoodIn zAll (wsV own index zN_X zy_X_isAlarmed (.code zy_X_isAlarmed zc_X_isAlarmed 4 (some .boolean) :: zAll)) := z_goodV zh_X_isAlarmed (z_mem 434 (by decide +kernel) rfl) (z_memp 9 (by decide +kernel) rfl) (z_mem 1 (by decide +kernel) rfl) h1
abbrev zc_X_sendStores : ByteArray := prog_1_method_33_code
abbrev zy_X_sendStores : MethodName := ⟨"SpanBoard", "sendStores", "(I)I"⟩
set_option maxRecDepth 100000 in
theorem zh_X_sendStores : Cond.code zy_X_sendStores zc_X_sendStores 5 (some .int) ∈ zAll := z_mem 241 rfl rfl
theorem zg_X_sendStores {own : String} {index : Nat} (h1 : Cond.methodLink own index zy_X_sendStores ∈ zAll) : GoodIn zAll (wsV own index zN_X zy_X_sendStores (.code zy_X_sendStores zc_X_sendStores 5 (some .int) :: zAll)) := z_goodV zh_X_sendStores (z_mem 240 (by decide +kernel) rfl) (z_memp 0 (by decide +kernel) rfl) (z_mem 1 (by decide +kernel) rfl) h1
abbrev zc_X_sendAsks : ByteArray := prog_1_method_34_code
abbrev zy_X_sendAsks : MethodName := ⟨"SpanBoard", "sendAsks", "(I)I"⟩
set_option maxRecDepth 100000 in
theorem zh_X_sendAsks : Cond.code zy_X_sendAsks zc_X_sendAsks 5 (some .int) ∈ zAll := z_mem 272 rfl rfl
theorem zg_X_sendAsks {own : String} {index : Nat} (h1 : Cond.methodLink own index zy_X_sendAsks ∈ zAll) : GoodIn zAll (wsV own index zN_X zy_X_sendAsks (.code zy_X_sendAsks zc_X_sendAsks 5 (some .int) :: zAll)) := z_goodV zh_X_sendAsks (z_mem 271 (by decide +kernel) rfl) (z_memp 1 (by decide +kernel) rfl) (z_mem 1 (by decide +kernel) rfl) h1
abbrev zc_X_bring : ByteArray := prog_1_method_35_code
abbrev zy_X_bring : MethodName := ⟨"SpanBoard", "bring", "(LSpanBoard$Letter;)V"⟩
set_option maxRecDepth 100000 in
theorem zh_X_bring : Cond.code zy_X_bring zc_X_bring 2 none ∈ zAll := z_mem 304 rfl rfl
theorem zg_X_bring {own : String} {index : Nat} (h1 : Cond.methodLink own index zy_X_bring ∈ zAll) : GoodIn zAll (wsV own index zN_X zy_X_bring (.code zy_X_bring zc_X_bring 2 none :: zAll)) := z_goodV zh_X_bring (z_mem 303 (by decide +kernel) rfl) (z_memp 2 (by decide +kernel) rfl) (z_mem 1 (by decide +kernel) rfl) h1
abbrev zc_X_bringStore : ByteArray := prog_1_method_36_code
abbrev zy_X_bringStore : MethodName := ⟨"SpanBoard", "bringStore", "(IIILSpanBoard$Pair;)V"⟩
set_option maxRecDepth 100000 in
theorem zh_X_bringStore : Cond.code zy_X_bringStore zc_X_bringStore 5 none ∈ zAll := z_mem 308 rfl rfl
theorem zg_X_bringStore {own : String} {index : Nat} (h1 : Cond.methodLink own index zy_X_bringStore ∈ zAll) : GoodIn zAll (wsV own index zN_X zy_X_bringStore (.code zy_X_bringStore zc_X_bringStore 5 none :: zAll)) := z_goodV zh_X_bringStore (z_mem 307 (by decide +kernel) rfl) (z_memp 3 (by decide +kernel) rfl) (z_mem 1 (by decide +kernel) rfl) h1
abbrev zc_X_bringAsk : ByteArray := prog_1_method_37_code
abbrev zy_X_bringAsk : MethodName := ⟨"SpanBoard", "bringAsk", "(IIII)V"⟩
set_option maxRecDepth 100000 in
theorem zh_X_bringAsk : Cond.code zy_X_bringAsk zc_X_bringAsk 6 none ∈ zAll := z_mem 320 rfl rfl
theorem zg_X_bringAsk {own : String} {index : Nat} (h1 : Cond.methodLink own index zy_X_bringAsk ∈ zAll) : GoodIn zAll (wsV own index zN_X zy_X_bringAsk (.code zy_X_bringAsk zc_X_bringAsk 6 none :: zAll)) := z_goodV zh_X_bringAsk (z_mem 319 (by decide +kernel) rfl) (z_memp 4 (by decide +kernel) rfl) (z_mem 1 (by decide +kernel) rfl) h1
abbrev zc_X_bringTell : ByteArray := prog_1_method_38_code
abbrev zy_X_bringTell : MethodName := ⟨"SpanBoard", "bringTell", "(IIILSpanBoard$Pair;)V"⟩
set_option maxRecDepth 100000 in
theorem zh_X_bringTell : Cond.code zy_X_bringTell zc_X_bringTell 7 none ∈ zAll := z_mem 324 rfl rfl
theorem zg_X_bringTell {own : String} {index : Nat} (h1 : Cond.methodLink own index zy_X_bringTell ∈ zAll) : GoodIn zAll (wsV own index zN_X zy_X_bringTell (.code zy_X_bringTell zc_X_bringTell 7 none :: zAll)) := z_goodV zh_X_bringTell (z_mem 323 (by decide +kernel) rfl) (z_memp 5 (by decide +kernel) rfl) (z_mem 1 (by decide +kernel) rfl) h1
abbrev zc_M_init : ByteArray := prog_9_method_1_code
abbrev zy_M_init : MethodName := ⟨"SpanBoardModel", "<init>", "(I)V"⟩
set_option maxRecDepth 100000 in
theorem zh_M_init : Cond.code zy_M_init zc_M_init 2 none ∈ zAll := z_mem 447 rfl rfl
abbrev zc_M_below : ByteArray := prog_9_method_2_code
abbrev zy_M_below : MethodName := ⟨"SpanBoardModel", "below", "(II)Z"⟩
set_option maxRecDepth 100000 in
theorem zh_M_below : Cond.code zy_M_below zc_M_below 2 (some .boolean) ∈ zAll := z_mem 576 rfl rfl
theorem zg_M_below {index : Nat} (h1 : Cond.methodLink zN_M index zy_M_below ∈ zAll) : GoodIn zAll (wsS zN_M index zy_M_below (.code zy_M_below zc_M_below 2 (some .boolean) :: zAll)) := z_goodS zh_M_below (z_mem 575 (by decide +kernel) rfl) (z_mem 9 (by decide +kernel) rfl) h1
abbrev zc_M_hall : ByteArray := prog_9_method_3_code
abbrev zy_M_hall : MethodName := ⟨"SpanBoardModel", "hall", "(II)Z"⟩
set_option maxRecDepth 100000 in
theorem zh_M_hall : Cond.code zy_M_hall zc_M_hall 3 (some .boolean) ∈ zAll := z_mem 573 rfl rfl
theorem zg_M_hall {own : String} {index : Nat} (h1 : Cond.methodLink own index zy_M_hall ∈ zAll) : GoodIn zAll (wsV own index zN_M zy_M_hall (.code zy_M_hall zc_M_hall 3 (some .boolean) :: zAll)) := z_goodV zh_M_hall (z_mem 571 (by decide +kernel) rfl) (z_mem 572 (by decide +kernel) rfl) (z_mem 9 (by decide +kernel) rfl) h1
abbrev zc_M_send : ByteArray := prog_9_method_4_code
abbrev zy_M_send : MethodName := ⟨"SpanBoardModel", "send", "(IIIIIII)V"⟩
set_option maxRecDepth 100000 in
theorem zh_M_send : Cond.code zy_M_send zc_M_send 8 none ∈ zAll := z_mem 612 rfl rfl
theorem zg_M_send {own : String} {index : Nat} (h1 : Cond.methodLink own index zy_M_send ∈ zAll) : GoodIn zAll (wsV own index zN_M zy_M_send (.code zy_M_send zc_M_send 8 none :: zAll)) := z_goodV zh_M_send (z_mem 611 (by decide +kernel) rfl) (z_memp 13 (by decide +kernel) rfl) (z_mem 9 (by decide +kernel) rfl) h1
abbrev zc_M_sendTell : ByteArray := prog_9_method_5_code
abbrev zy_M_sendTell : MethodName := ⟨"SpanBoardModel", "sendTell", "(IIIIIII)V"⟩
set_option maxRecDepth 100000 in
theorem zh_M_sendTell : Cond.code zy_M_sendTell zc_M_sendTell 9 none ∈ zAll := z_mem 656 rfl rfl
theorem zg_M_sendTell {own : String} {index : Nat} (h1 : Cond.methodLink own index zy_M_sendTell ∈ zAll) : GoodIn zAll (wsV own index zN_M zy_M_sendTell (.code zy_M_sendTell zc_M_sendTell 9 none :: zAll)) := z_goodV zh_M_sendTell (z_mem 655 (by decide +kernel) rfl) (z_memp 19 (by decide +kernel) rfl) (z_mem 9 (by decide +kernel) rfl) h1
abbrev zc_M_copyLetter : ByteArray := prog_9_method_6_code
abbrev zy_M_copyLetter : MethodName := ⟨"SpanBoardModel", "copyLetter", "(II)V"⟩
set_option maxRecDepth 100000 in
theorem zh_M_copyLetter : Cond.code zy_M_copyLetter zc_M_copyLetter 3 none ∈ zAll := z_mem 596 rfl rfl
theorem zg_M_copyLetter {own : String} {index : Nat} (h1 : Cond.methodLink own index zy_M_copyLetter ∈ zAll) : GoodIn zAll (wsV own index zN_M zy_M_copyLetter (.code zy_M_copyLetter zc_M_copyLetter 3 none :: zAll)) := z_goodV zh_M_copyLetter (z_mem 595 (by decide +kernel) rfl) (z_memp 11 (by decide +kernel) rfl) (z_mem 9 (by decide +kernel) rfl) h1
abbrev zc_M_takeOut : ByteArray := prog_9_method_7_code
abbrev zy_M_takeOut : MethodName := ⟨"SpanBoardModel", "takeOut", "(I)Z"⟩
set_option maxRecDepth 100000 in
theorem zh_M_takeOut : Cond.code zy_M_takeOut zc_M_takeOut 3 (some .boolean) ∈ zAll := z_mem 592 rfl rfl
theorem zg_M_takeOut {own : String} {index : Nat} (h1 : Cond.methodLink own index zy_M_takeOut ∈ zAll) : GoodIn zAll (wsV own index zN_M zy_M_takeOut (.code zy_M_takeOut zc_M_takeOut 3 (some .boolean) :: zAll)) := z_goodV zh_M_takeOut (z_mem 591 (by decide +kernel) rfl) (z_memp 10 (by decide +kernel) rfl) (z_mem 9 (by decide +kernel) rfl) h1
abbrev zc_M_letters : ByteArray := prog_9_method_8_code
abbrev zy_M_letters : MethodName := ⟨"SpanBoardModel", "letters", "()I"⟩
set_option maxRecDepth 100000 in
theorem zh_M_letters : Cond.code zy_M_letters zc_M_letters 1 (some .int) ∈ zAll := z_mem 580 rfl rfl
theorem zg_M_letters {own : String} {index : Nat} (h1 : Cond.methodLink own index zy_M_letters ∈ zAll) : GoodIn zAll (wsV own index zN_M zy_M_letters (.code zy_M_letters zc_M_letters 1 (some .int) :: zAll)) := z_goodV zh_M_letters (z_mem 578 (by decide +kernel) rfl) (z_mem 579 (by decide +kernel) rfl) (z_mem 9 (by decide +kernel) rfl) h1
abbrev zc_M_letter : ByteArray := prog_9_method_9_code
abbrev zy_M_letter : MethodName := ⟨"SpanBoardModel", "letter", "(II)I"⟩
set_option maxRecDepth 100000 in
theorem zh_M_letter : Cond.code zy_M_letter zc_M_letter 3 (some .int) ∈ zAll := z_mem 584 rfl rfl
theorem zg_M_letter {own : String} {index : Nat} (h1 : Cond.methodLink own index zy_M_letter ∈ zAll) : GoodIn zAll (wsV own index zN_M zy_M_letter (.code zy_M_letter zc_M_letter 3 (some .int) :: zAll)) := z_goodV zh_M_letter (z_mem 582 (by decide +kernel) rfl) (z_mem 583 (by decide +kernel) rfl) (z_mem 9 (by decide +kernel) rfl) h1
abbrev zc_M_lose : ByteArray := prog_9_method_10_code
abbrev zy_M_lose : MethodName := ⟨"SpanBoardModel", "lose", "(I)Z"⟩
set_option maxRecDepth 100000 in
theorem zh_M_lose : Cond.code zy_M_lose zc_M_lose 2 (some .boolean) ∈ zAll := z_mem 588 rfl rfl
theorem zg_M_lose {own : String} {index : Nat} (h1 : Cond.methodLink own index zy_M_lose ∈ zAll) : GoodIn zAll (wsV own index zN_M zy_M_lose (.code zy_M_lose zc_M_lose 2 (some .boolean) :: zAll)) := z_goodV zh_M_lose (z_mem 586 (by decide +kernel) rfl) (z_mem 587 (by decide +kernel) rfl) (z_mem 9 (by decide +kernel) rfl) h1
abbrev zc_M_twin : ByteArray := prog_9_method_11_code
abbrev zy_M_twin : MethodName := ⟨"SpanBoardModel", "twin", "(I)Z"⟩
set_option maxRecDepth 100000 in
theorem zh_M_twin : Cond.code zy_M_twin zc_M_twin 2 (some .boolean) ∈ zAll := z_mem 600 rfl rfl
theorem zg_M_twin {own : String} {index : Nat} (h1 : Cond.methodLink own index zy_M_twin ∈ zAll) : GoodIn zAll (wsV own index zN_M zy_M_twin (.code zy_M_twin zc_M_twin 2 (some .boolean) :: zAll)) := z_goodV zh_M_twin (z_mem 598 (by decide +kernel) rfl) (z_mem 599 (by decide +kernel) rfl) (z_mem 9 (by decide +kernel) rfl) h1
abbrev zc_M_storeTo : ByteArray := prog_9_method_12_code
abbrev zy_M_storeTo : MethodName := ⟨"SpanBoardModel", "storeTo", "(II)V"⟩
set_option maxRecDepth 100000 in
theorem zh_M_storeTo : Cond.code zy_M_storeTo zc_M_storeTo 3 none ∈ zAll := z_mem 608 rfl rfl
theorem zg_M_storeTo {own : String} {index : Nat} (h1 : Cond.methodLink own index zy_M_storeTo ∈ zAll) : GoodIn zAll (wsV own index zN_M zy_M_storeTo (.code zy_M_storeTo zc_M_storeTo 3 none :: zAll)) := z_goodV zh_M_storeTo (z_mem 607 (by decide +kernel) rfl) (z_memp 12 (by decide +kernel) rfl) (z_mem 9 (by decide +kernel) rfl) h1
abbrev zc_M_write : ByteArray := prog_9_method_13_code
abbrev zy_M_write : MethodName := ⟨"SpanBoardModel", "write", "(III)I"⟩
set_option maxRecDepth 100000 in
theorem zh_M_write : Cond.code zy_M_write zc_M_write 5 (some .int) ∈ zAll := z_mem 604 rfl rfl
theorem zg_M_write {own : String} {index : Nat} (h1 : Cond.methodLink own index zy_M_write ∈ zAll) : GoodIn zAll (wsV own index zN_M zy_M_write (.code zy_M_write zc_M_write 5 (some .int) :: zAll)) := z_goodV zh_M_write (z_mem 602 (by decide +kernel) rfl) (z_mem 603 (by decide +kernel) rfl) (z_mem 9 (by decide +kernel) rfl) h1
abbrev zc_M_storeAgain : ByteArray := prog_9_method_14_code
abbrev zy_M_storeAgain : MethodName := ⟨"SpanBoardModel", "storeAgain", "(I)I"⟩
set_option maxRecDepth 100000 in
theorem zh_M_storeAgain : Cond.code zy_M_storeAgain zc_M_storeAgain 4 (some .int) ∈ zAll := z_mem 616 rfl rfl
theorem zg_M_storeAgain {own : String} {index : Nat} (h1 : Cond.methodLink own index zy_M_storeAgain ∈ zAll) : GoodIn zAll (wsV own index zN_M zy_M_storeAgain (.code zy_M_storeAgain zc_M_storeAgain 4 (some .int) :: zAll)) := z_goodV zh_M_storeAgain (z_mem 614 (by decide +kernel) rfl) (z_mem 615 (by decide +kernel) rfl) (z_mem 9 (by decide +kernel) rfl) h1
abbrev zc_M_receipts : ByteArray := prog_9_method_15_code
abbrev zy_M_receipts : MethodName := ⟨"SpanBoardModel", "receipts", "(I)I"⟩
set_option maxRecDepth 100000 in
theorem zh_M_receipts : Cond.code zy_M_receipts zc_M_receipts 4 (some .int) ∈ zAll := z_mem 652 rfl rfl
theorem zg_M_receipts {own : String} {index : Nat} (h1 : Cond.methodLink own index zy_M_receipts ∈ zAll) : GoodIn zAll (wsV own index zN_M zy_M_receipts (.code zy_M_receipts zc_M_receipts 4 (some .int) :: zAll)) := z_goodV zh_M_receipts (z_mem 651 (by decide +kernel) rfl) (z_memp 18 (by decide +kernel) rfl) (z_mem 9 (by decide +kernel) rfl) h1
abbrev zc_M_receiptComes : ByteArray := prog_9_method_16_code
abbrev zy_M_receiptComes : MethodName := ⟨"SpanBoardModel", "receiptComes", "(III)V"⟩
set_option maxRecDepth 100000 in
theorem zh_M_receiptComes : Cond.code zy_M_receiptComes zc_M_receiptComes 4 none ∈ zAll := z_mem 648 rfl rfl
theorem zg_M_receiptComes {own : String} {index : Nat} (h1 : Cond.methodLink own index zy_M_receiptComes ∈ zAll) : GoodIn zAll (wsV own index zN_M zy_M_receiptComes (.code zy_M_receiptComes zc_M_receiptComes 4 none :: zAll)) := z_goodV zh_M_receiptComes (z_mem 647 (by decide +kernel) rfl) (z_memp 17 (by decide +kernel) rfl) (z_mem 9 (by decide +kernel) rfl) h1
abbrev zc_M_forget : ByteArray := prog_9_method_17_code
abbrev zy_M_forget : MethodName := ⟨"SpanBoardModel", "forget", "(I)Z"⟩
set_option maxRecDepth 100000 in
theorem zh_M_forget : Cond.code zy_M_forget zc_M_forget 3 (some .boolean) ∈ zAll := z_mem 620 rfl rfl
theorem zg_M_forget {own : String} {index : Nat} (h1 : Cond.methodLink own index zy_M_forget ∈ zAll) : GoodIn zAll (wsV own index zN_M zy_M_forget (.code zy_M_forget zc_M_forget 3 (some .boolean) :: zAll)) := z_goodV zh_M_forget (z_mem 618 (by decide +kernel) rfl) (z_mem 619 (by decide +kernel) rfl) (z_mem 9 (by decide +kernel) rfl) h1
abbrev zc_M_askAll : ByteArray := prog_9_method_18_code
abbrev zy_M_askAll : MethodName := ⟨"SpanBoardModel", "askAll", "(I)V"⟩
set_option maxRecDepth 100000 in
theorem zh_M_askAll : Cond.code zy_M_askAll zc_M_askAll 3 none ∈ zAll := z_mem 628 rfl rfl
theorem zg_M_askAll {own : String} {index : Nat} (h1 : Cond.methodLink own index zy_M_askAll ∈ zAll) : GoodIn zAll (wsV own index zN_M zy_M_askAll (.code zy_M_askAll zc_M_askAll 3 none :: zAll)) := z_goodV zh_M_askAll (z_mem 627 (by decide +kernel) rfl) (z_memp 14 (by decide +kernel) rfl) (z_mem 9 (by decide +kernel) rfl) h1
abbrev zc_M_read : ByteArray := prog_9_method_19_code
abbrev zy_M_read : MethodName := ⟨"SpanBoardModel", "read", "(II)I"⟩
set_option maxRecDepth 100000 in
theorem zh_M_read : Cond.code zy_M_read zc_M_read 3 (some .int) ∈ zAll := z_mem 624 rfl rfl
theorem zg_M_read {own : String} {index : Nat} (h1 : Cond.methodLink own index zy_M_read ∈ zAll) : GoodIn zAll (wsV own index zN_M zy_M_read (.code zy_M_read zc_M_read 3 (some .int) :: zAll)) := z_goodV zh_M_read (z_mem 622 (by decide +kernel) rfl) (z_mem 623 (by decide +kernel) rfl) (z_mem 9 (by decide +kernel) rfl) h1
abbrev zc_M_askAgain : ByteArray := prog_9_method_20_code
abbrev zy_M_askAgain : MethodName := ⟨"SpanBoardModel", "askAgain", "(I)I"⟩
set_option maxRecDepth 100000 in
theorem zh_M_askAgain : Cond.code zy_M_askAgain zc_M_askAgain 4 (some .int) ∈ zAll := z_mem 632 rfl rfl
theorem zg_M_askAgain {own : String} {index : Nat} (h1 : Cond.methodLink own index zy_M_askAgain ∈ zAll) : GoodIn zAll (wsV own index zN_M zy_M_askAgain (.code zy_M_askAgain zc_M_askAgain 4 (some .int) :: zAll)) := z_goodV zh_M_askAgain (z_mem 630 (by decide +kernel) rfl) (z_mem 631 (by decide +kernel) rfl) (z_mem 9 (by decide +kernel) rfl) h1
abbrev zc_M_answers : ByteArray := prog_9_method_21_code
abbrev zy_M_answers : MethodName := ⟨"SpanBoardModel", "answers", "(I)I"⟩
set_option maxRecDepth 100000 in
theorem zh_M_answers : Cond.code zy_M_answers zc_M_answers 4 (some .int) ∈ zAll := z_mem 664 rfl rfl
theorem zg_M_answers {own : String} {index : Nat} (h1 : Cond.methodLink own index zy_M_answers ∈ zAll) : GoodIn zAll (wsV own index zN_M zy_M_answers (.code zy_M_answers zc_M_answers 4 (some .int) :: zAll)) := z_goodV zh_M_answers (z_mem 663 (by decide +kernel) rfl) (z_memp 21 (by decide +kernel) rfl) (z_mem 9 (by decide +kernel) rfl) h1
abbrev zc_M_same : ByteArray := prog_9_method_22_code
abbrev zy_M_same : MethodName := ⟨"SpanBoardModel", "same", "(II)Z"⟩
set_option maxRecDepth 100000 in
theorem zh_M_same : Cond.code zy_M_same zc_M_same 3 (some .boolean) ∈ zAll := z_mem 676 rfl rfl
theorem zg_M_same {own : String} {index : Nat} (h1 : Cond.methodLink own index zy_M_same ∈ zAll) : GoodIn zAll (wsV own index zN_M zy_M_same (.code zy_M_same zc_M_same 3 (some .boolean) :: zAll)) := z_goodV zh_M_same (z_mem 675 (by decide +kernel) rfl) (z_memp 24 (by decide +kernel) rfl) (z_mem 9 (by decide +kernel) rfl) h1
abbrev zc_M_believed : ByteArray := prog_9_method_23_code
abbrev zy_M_believed : MethodName := ⟨"SpanBoardModel", "believed", "(II)Z"⟩
set_option maxRecDepth 100000 in
theorem zh_M_believed : Cond.code zy_M_believed zc_M_believed 5 (some .boolean) ∈ zAll := z_mem 672 rfl rfl
theorem zg_M_believed {own : String} {index : Nat} (h1 : Cond.methodLink own index zy_M_believed ∈ zAll) : GoodIn zAll (wsV own index zN_M zy_M_believed (.code zy_M_believed zc_M_believed 5 (some .boolean) :: zAll)) := z_goodV zh_M_believed (z_mem 671 (by decide +kernel) rfl) (z_memp 23 (by decide +kernel) rfl) (z_mem 9 (by decide +kernel) rfl) h1
abbrev zc_M_better : ByteArray := prog_9_method_24_code
abbrev zy_M_better : MethodName := ⟨"SpanBoardModel", "better", "(II)Z"⟩
set_option maxRecDepth 100000 in
theorem zh_M_better : Cond.code zy_M_better zc_M_better 3 (some .boolean) ∈ zAll := z_mem 680 rfl rfl
theorem zg_M_better {own : String} {index : Nat} (h1 : Cond.methodLink own index zy_M_better ∈ zAll) : GoodIn zAll (wsV own index zN_M zy_M_better (.code zy_M_better zc_M_better 3 (some .boolean) :: zAll)) := z_goodV zh_M_better (z_mem 679 (by decide +kernel) rfl) (z_memp 25 (by decide +kernel) rfl) (z_mem 9 (by decide +kernel) rfl) h1
abbrev zc_M_answer : ByteArray := prog_9_method_25_code
abbrev zy_M_answer : MethodName := ⟨"SpanBoardModel", "answer", "(II)V"⟩
set_option maxRecDepth 100000 in
theorem zh_M_answer : Cond.code zy_M_answer zc_M_answer 5 none ∈ zAll := z_mem 684 rfl rfl
theorem zg_M_answer {own : String} {index : Nat} (h1 : Cond.methodLink own index zy_M_answer ∈ zAll) : GoodIn zAll (wsV own index zN_M zy_M_answer (.code zy_M_answer zc_M_answer 5 none :: zAll)) := z_goodV zh_M_answer (z_mem 683 (by decide +kernel) rfl) (z_memp 26 (by decide +kernel) rfl) (z_mem 9 (by decide +kernel) rfl) h1
abbrev zc_M_looks : ByteArray := prog_9_method_26_code
abbrev zy_M_looks : MethodName := ⟨"SpanBoardModel", "looks", "(I)V"⟩
set_option maxRecDepth 100000 in
theorem zh_M_looks : Cond.code zy_M_looks zc_M_looks 4 none ∈ zAll := z_mem 668 rfl rfl
theorem zg_M_looks {own : String} {index : Nat} (h1 : Cond.methodLink own index zy_M_looks ∈ zAll) : GoodIn zAll (wsV own index zN_M zy_M_looks (.code zy_M_looks zc_M_looks 4 none :: zAll)) := z_goodV zh_M_looks (z_mem 667 (by decide +kernel) rfl) (z_memp 22 (by decide +kernel) rfl) (z_mem 9 (by decide +kernel) rfl) h1
abbrev zc_M_tellComes : ByteArray := prog_9_method_27_code
abbrev zy_M_tellComes : MethodName := ⟨"SpanBoardModel", "tellComes", "()V"⟩
set_option maxRecDepth 100000 in
theorem zh_M_tellComes : Cond.code zy_M_tellComes zc_M_tellComes 3 none ∈ zAll := z_mem 660 rfl rfl
theorem zg_M_tellComes {own : String} {index : Nat} (h1 : Cond.methodLink own index zy_M_tellComes ∈ zAll) : GoodIn zAll (wsV own index zN_M zy_M_tellComes (.code zy_M_tellComes zc_M_tellComes 3 none :: zAll)) := z_goodV zh_M_tellComes (z_mem 659 (by decide +kernel) rfl) (z_memp 20 (by decide +kernel) rfl) (z_mem 9 (by decide +kernel) rfl) h1
abbrev zc_M_storeComes : ByteArray := prog_9_method_28_code
abbrev zy_M_storeComes : MethodName := ⟨"SpanBoardModel", "storeComes", "(I)V"⟩
set_option maxRecDepth 100000 in
theorem zh_M_storeComes : Cond.code zy_M_storeComes zc_M_storeComes 2 none ∈ zAll := z_mem 644 rfl rfl
theorem zg_M_storeComes {own : String} {index : Nat} (h1 : Cond.methodLink own index zy_M_storeComes ∈ zAll) : GoodIn zAll (wsV own index zN_M zy_M_storeComes (.code zy_M_storeComes zc_M_storeComes 2 none :: zAll)) := z_goodV zh_M_storeComes (z_mem 643 (by decide +kernel) rfl) (z_memp 16 (by decide +kernel) rfl) (z_mem 9 (by decide +kernel) rfl) h1
abbrev zc_M_comes : ByteArray := prog_9_method_29_code
abbrev zy_M_comes : MethodName := ⟨"SpanBoardModel", "comes", "()V"⟩
set_option maxRecDepth 100000 in
theorem zh_M_comes : Cond.code zy_M_comes zc_M_comes 4 none ∈ zAll := z_mem 640 rfl rfl
theorem zg_M_comes {own : String} {index : Nat} (h1 : Cond.methodLink own index zy_M_comes ∈ zAll) : GoodIn zAll (wsV own index zN_M zy_M_comes (.code zy_M_comes zc_M_comes 4 none :: zAll)) := z_goodV zh_M_comes (z_mem 639 (by decide +kernel) rfl) (z_memp 15 (by decide +kernel) rfl) (z_mem 9 (by decide +kernel) rfl) h1
abbrev zc_M_deliver : ByteArray := prog_9_method_30_code
abbrev zy_M_deliver : MethodName := ⟨"SpanBoardModel", "deliver", "(I)Z"⟩
set_option maxRecDepth 100000 in
theorem zh_M_deliver : Cond.code zy_M_deliver zc_M_deliver 2 (some .boolean) ∈ zAll := z_mem 636 rfl rfl
theorem zg_M_deliver {own : String} {index : Nat} (h1 : Cond.methodLink own index zy_M_deliver ∈ zAll) : GoodIn zAll (wsV own index zN_M zy_M_deliver (.code zy_M_deliver zc_M_deliver 2 (some .boolean) :: zAll)) := z_goodV zh_M_deliver (z_mem 634 (by decide +kernel) rfl) (z_mem 635 (by decide +kernel) rfl) (z_mem 9 (by decide +kernel) rfl) h1
abbrev zc_M_deliverAll : ByteArray := prog_9_method_31_code
abbrev zy_M_deliverAll : MethodName := ⟨"SpanBoardModel", "deliverAll", "(I)I"⟩
set_option maxRecDepth 100000 in
theorem zh_M_deliverAll : Cond.code zy_M_deliverAll zc_M_deliverAll 3 (some .int) ∈ zAll := z_mem 688 rfl rfl
theorem zg_M_deliverAll {own : String} {index : Nat} (h1 : Cond.methodLink own index zy_M_deliverAll ∈ zAll) : GoodIn zAll (wsV own index zN_M zy_M_deliverAll (.code zy_M_deliverAll zc_M_deliverAll 3 (some .int) :: zAll)) := z_goodV zh_M_deliverAll (z_mem 686 (by decide +kernel) rfl) (z_mem 687 (by decide +kernel) rfl) (z_mem 9 (by decide +kernel) rfl) h1
abbrev zc_M_lie : ByteArray := prog_9_method_32_code
abbrev zy_M_lie : MethodName := ⟨"SpanBoardModel", "lie", "(I)Z"⟩
set_option maxRecDepth 100000 in
theorem zh_M_lie : Cond.code zy_M_lie zc_M_lie 4 (some .boolean) ∈ zAll := z_mem 693 rfl rfl
theorem zg_M_lie {own : String} {index : Nat} (h1 : Cond.methodLink own index zy_M_lie ∈ zAll) : GoodIn zAll (wsV own index zN_M zy_M_lie (.code zy_M_lie zc_M_lie 4 (some .boolean) :: zAll)) := z_goodV zh_M_lie (z_mem 691 (by decide +kernel) rfl) (z_mem 692 (by decide +kernel) rfl) (z_mem 9 (by decide +kernel) rfl) h1
abbrev zc_M_lies : ByteArray := prog_9_method_33_code
abbrev zy_M_lies : MethodName := ⟨"SpanBoardModel", "lies", "(I)Z"⟩
set_option maxRecDepth 100000 in
theorem zh_M_lies : Cond.code zy_M_lies zc_M_lies 2 (some .boolean) ∈ zAll := z_mem 701 rfl rfl
theorem zg_M_lies {own : String} {index : Nat} (h1 : Cond.methodLink own index zy_M_lies ∈ zAll) : GoodIn zAll (wsV own index zN_M zy_M_lies (.code zy_M_lies zc_M_lies 2 (some .boolean) :: zAll)) := z_goodV zh_M_lies (z_mem 700 (by decide +kernel) rfl) (z_memp 27 (by decide +kernel) rfl) (z_mem 9 (by decide +kernel) rfl) h1
abbrev zc_M_tell : ByteArray := prog_9_method_34_code
abbrev zy_M_tell : MethodName := ⟨"SpanBoardModel", "tell", "(IIIII)Z"⟩
set_option maxRecDepth 100000 in
theorem zh_M_tell : Cond.code zy_M_tell zc_M_tell 6 (some .boolean) ∈ zAll := z_mem 697 rfl rfl
theorem zg_M_tell {own : String} {index : Nat} (h1 : Cond.methodLink own index zy_M_tell ∈ zAll) : GoodIn zAll (wsV own index zN_M zy_M_tell (.code zy_M_tell zc_M_tell 6 (some .boolean) :: zAll)) := z_goodV zh_M_tell (z_mem 695 (by decide +kernel) rfl) (z_mem 696 (by decide +kernel) rfl) (z_mem 9 (by decide +kernel) rfl) h1
abbrev zc_M_receipt : ByteArray := prog_9_method_35_code
abbrev zy_M_receipt : MethodName := ⟨"SpanBoardModel", "receipt", "(II)Z"⟩
set_option maxRecDepth 100000 in
theorem zh_M_receipt : Cond.code zy_M_receipt zc_M_receipt 3 (some .boolean) ∈ zAll := z_mem 705 rfl rfl
theorem zg_M_receipt {own : String} {index : Nat} (h1 : Cond.methodLink own index zy_M_receipt ∈ zAll) : GoodIn zAll (wsV own index zN_M zy_M_receipt (.code zy_M_receipt zc_M_receipt 3 (some .boolean) :: zAll)) := z_goodV zh_M_receipt (z_mem 703 (by decide +kernel) rfl) (z_mem 704 (by decide +kernel) rfl) (z_mem 9 (by decide +kernel) rfl) h1
abbrev zc_M_crash : ByteArray := prog_9_method_36_code
abbrev zy_M_crash : MethodName := ⟨"SpanBoardModel", "crash", "(I)Z"⟩
set_option maxRecDepth 100000 in
theorem zh_M_crash : Cond.code zy_M_crash zc_M_crash 2 (some .boolean) ∈ zAll := z_mem 709 rfl rfl
theorem zg_M_crash {own : String} {index : Nat} (h1 : Cond.methodLink own index zy_M_crash ∈ zAll) : GoodIn zAll (wsV own index zN_M zy_M_crash (.code zy_M_crash zc_M_crash 2 (some .boolean) :: zAll)) := z_goodV zh_M_crash (z_mem 707 (by decide +kernel) rfl) (z_mem 708 (by decide +kernel) rfl) (z_mem 9 (by decide +kernel) rfl) h1
abbrev zc_M_restart : ByteArray := prog_9_method_37_code
abbrev zy_M_restart : MethodName := ⟨"SpanBoardModel", "restart", "(I)Z"⟩
set_option maxRecDepth 100000 in
theorem zh_M_restart : Cond.code zy_M_restart zc_M_restart 2 (some .boolean) ∈ zAll := z_mem 713 rfl rfl
theorem zg_M_restart {own : String} {index : Nat} (h1 : Cond.methodLink own index zy_M_restart ∈ zAll) : GoodIn zAll (wsV own index zN_M zy_M_restart (.code zy_M_restart zc_M_restart 2 (some .boolean) :: zAll)) := z_goodV zh_M_restart (z_mem 711 (by decide +kernel) rfl) (z_mem 712 (by decide +kernel) rfl) (z_mem 9 (by decide +kernel) rfl) h1
abbrev zc_M_outcome : ByteArray := prog_9_method_38_code
abbrev zy_M_outcome : MethodName := ⟨"SpanBoardModel", "outcome", "(I)I"⟩
set_option maxRecDepth 100000 in
theorem zh_M_outcome : Cond.code zy_M_outcome zc_M_outcome 2 (some .int) ∈ zAll := z_mem 717 rfl rfl
theorem zg_M_outcome {own : String} {index : Nat} (h1 : Cond.methodLink own index zy_M_outcome ∈ zAll) : GoodIn zAll (wsV own index zN_M zy_M_outcome (.code zy_M_outcome zc_M_outcome 2 (some .int) :: zAll)) := z_goodV zh_M_outcome (z_mem 715 (by decide +kernel) rfl) (z_mem 716 (by decide +kernel) rfl) (z_mem 9 (by decide +kernel) rfl) h1
abbrev zc_M_answered : ByteArray := prog_9_method_39_code
abbrev zy_M_answered : MethodName := ⟨"SpanBoardModel", "answered", "(II)I"⟩
set_option maxRecDepth 100000 in
theorem zh_M_answered : Cond.code zy_M_answered zc_M_answered 3 (some .int) ∈ zAll := z_mem 721 rfl rfl
theorem zg_M_answered {own : String} {index : Nat} (h1 : Cond.methodLink own index zy_M_answered ∈ zAll) : GoodIn zAll (wsV own index zN_M zy_M_answered (.code zy_M_answered zc_M_answered 3 (some .int) :: zAll)) := z_goodV zh_M_answered (z_mem 719 (by decide +kernel) rfl) (z_mem 720 (by decide +kernel) rfl) (z_mem 9 (by decide +kernel) rfl) h1
abbrev zc_M_reader : ByteArray := prog_9_method_40_code
abbrev zy_M_reader : MethodName := ⟨"SpanBoardModel", "reader", "(II)I"⟩
set_option maxRecDepth 100000 in
theorem zh_M_reader : Cond.code zy_M_reader zc_M_reader 3 (some .int) ∈ zAll := z_mem 725 rfl rfl
theorem zg_M_reader {own : String} {index : Nat} (h1 : Cond.methodLink own index zy_M_reader ∈ zAll) : GoodIn zAll (wsV own index zN_M zy_M_reader (.code zy_M_reader zc_M_reader 3 (some .int) :: zAll)) := z_goodV zh_M_reader (z_mem 723 (by decide +kernel) rfl) (z_mem 724 (by decide +kernel) rfl) (z_mem 9 (by decide +kernel) rfl) h1
abbrev zc_M_writer : ByteArray := prog_9_method_41_code
abbrev zy_M_writer : MethodName := ⟨"SpanBoardModel", "writer", "(II)I"⟩
set_option maxRecDepth 100000 in
theorem zh_M_writer : Cond.code zy_M_writer zc_M_writer 3 (some .int) ∈ zAll := z_mem 729 rfl rfl
theorem zg_M_writer {own : String} {index : Nat} (h1 : Cond.methodLink own index zy_M_writer ∈ zAll) : GoodIn zAll (wsV own index zN_M zy_M_writer (.code zy_M_writer zc_M_writer 3 (some .int) :: zAll)) := z_goodV zh_M_writer (z_mem 727 (by decide +kernel) rfl) (z_mem 728 (by decide +kernel) rfl) (z_mem 9 (by decide +kernel) rfl) h1
abbrev zc_M_held : ByteArray := prog_9_method_42_code
abbrev zy_M_held : MethodName := ⟨"SpanBoardModel", "held", "(III)I"⟩
set_option maxRecDepth 100000 in
theorem zh_M_held : Cond.code zy_M_held zc_M_held 5 (some .int) ∈ zAll := z_mem 733 rfl rfl
theorem zg_M_held {own : String} {index : Nat} (h1 : Cond.methodLink own index zy_M_held ∈ zAll) : GoodIn zAll (wsV own index zN_M zy_M_held (.code zy_M_held zc_M_held 5 (some .int) :: zAll)) := z_goodV zh_M_held (z_mem 731 (by decide +kernel) rfl) (z_mem 732 (by decide +kernel) rfl) (z_mem 9 (by decide +kernel) rfl) h1
abbrev zc_M_measured : ByteArray := prog_9_method_43_code
abbrev zy_M_measured : MethodName := ⟨"SpanBoardModel", "measured", "(II)Z"⟩
set_option maxRecDepth 100000 in
theorem zh_M_measured : Cond.code zy_M_measured zc_M_measured 3 (some .boolean) ∈ zAll := z_mem 737 rfl rfl
theorem zg_M_measured {own : String} {index : Nat} (h1 : Cond.methodLink own index zy_M_measured ∈ zAll) : GoodIn zAll (wsV own index zN_M zy_M_measured (.code zy_M_measured zc_M_measured 3 (some .boolean) :: zAll)) := z_goodV zh_M_measured (z_mem 735 (by decide +kernel) rfl) (z_mem 736 (by decide +kernel) rfl) (z_mem 9 (by decide +kernel) rfl) h1
abbrev zc_M_alarming : ByteArray := prog_9_method_44_code
abbrev zy_M_alarming : MethodName := ⟨"SpanBoardModel", "alarming", "(I)Z"⟩
set_option maxRecDepth 100000 in
theorem zh_M_alarming : Cond.code zy_M_alarming zc_M_alarming 3 (some .boolean) ∈ zAll := z_mem 745 rfl rfl
theorem zg_M_alarming {own : String} {index : Nat} (h1 : Cond.methodLink own index zy_M_alarming ∈ zAll) : GoodIn zAll (wsV own index zN_M zy_M_alarming (.code zy_M_alarming zc_M_alarming 3 (some .boolean) :: zAll)) := z_goodV zh_M_alarming (z_mem 744 (by decide +kernel) rfl) (z_memp 28 (by decide +kernel) rfl) (z_mem 9 (by decide +kernel) rfl) h1
abbrev zc_M_alarm : ByteArray := prog_9_method_45_code
abbrev zy_M_alarm : MethodName := ⟨"SpanBoardModel", "alarm", "(I)I"⟩
set_option maxRecDepth 100000 in
theorem zh_M_alarm : Cond.code zy_M_alarm zc_M_alarm 4 (some .int) ∈ zAll := z_mem 741 rfl rfl
theorem zg_M_alarm {own : String} {index : Nat} (h1 : Cond.methodLink own index zy_M_alarm ∈ zAll) : GoodIn zAll (wsV own index zN_M zy_M_alarm (.code zy_M_alarm zc_M_alarm 4 (some .int) :: zAll)) := z_goodV zh_M_alarm (z_mem 739 (by decide +kernel) rfl) (z_mem 740 (by decide +kernel) rfl) (z_mem 9 (by decide +kernel) rfl) h1
abbrev zc_L_init : ByteArray := prog_2_method_1_code
abbrev zy_L_init : MethodName := ⟨"SpanBoard$Letter", "<init>", "()V"⟩
set_option maxRecDepth 100000 in
theorem zh_L_init : Cond.code zy_L_init zc_L_init 1 none ∈ zAll := z_mem 149 rfl rfl
abbrev zc_P_init : ByteArray := prog_3_method_1_code
abbrev zy_P_init : MethodName := ⟨"SpanBoard$Pair", "<init>", "(III)V"⟩
set_option maxRecDepth 100000 in
theorem zh_P_init : Cond.code zy_P_init zc_P_init 4 none ∈ zAll := z_mem 28 rfl rfl
abbrev zc_P_part : ByteArray := prog_3_method_2_code
abbrev zy_P_part : MethodName := ⟨"SpanBoard$Pair", "part", "(I)I"⟩
set_option maxRecDepth 100000 in
theorem zh_P_part : Cond.code zy_P_part zc_P_part 2 (some .int) ∈ zAll := z_mem 411 rfl rfl
theorem zg_P_part {own : String} {index : Nat} (h1 : Cond.methodLink own index zy_P_part ∈ zAll) : GoodIn zAll (wsV own index zN_P zy_P_part (.code zy_P_part zc_P_part 2 (some .int) :: zAll)) := z_goodV zh_P_part (z_mem 409 (by decide +kernel) rfl) (z_mem 410 (by decide +kernel) rfl) (z_mem 3 (by decide +kernel) rfl) h1
abbrev zc_P_spans : ByteArray := prog_3_method_3_code
abbrev zy_P_spans : MethodName := ⟨"SpanBoard$Pair", "spans", "(I)Z"⟩
set_option maxRecDepth 100000 in
theorem zh_P_spans : Cond.code zy_P_spans zc_P_spans 2 (some .boolean) ∈ zAll := z_mem 439 rfl rfl
theorem zg_P_spans {own : String} {index : Nat} (h1 : Cond.methodLink own index zy_P_spans ∈ zAll) : GoodIn zAll (wsV own index zN_P zy_P_spans (.code zy_P_spans zc_P_spans 2 (some .boolean) :: zAll)) := z_goodV zh_P_spans (z_mem 437 (by decide +kernel) rfl) (z_mem 438 (by decide +kernel) rfl) (z_mem 3 (by decide +kernel) rfl) h1
abbrev zc_P_isLike : ByteArray := prog_3_method_4_code
abbrev zy_P_isLike : MethodName := ⟨"SpanBoard$Pair", "isLike", "(LSpanBoard$Pair;)Z"⟩
set_option maxRecDepth 100000 in
theorem zh_P_isLike : Cond.code zy_P_isLike zc_P_isLike 2 (some .boolean) ∈ zAll := z_mem 341 rfl rfl
theorem zg_P_isLike {own : String} {index : Nat} (h1 : Cond.methodLink own index zy_P_isLike ∈ zAll) : GoodIn zAll (wsV own index zN_P zy_P_isLike (.code zy_P_isLike zc_P_isLike 2 (some .boolean) :: zAll)) := z_goodV zh_P_isLike (z_mem 339 (by decide +kernel) rfl) (z_mem 340 (by decide +kernel) rfl) (z_mem 3 (by decide +kernel) rfl) h1
abbrev zc_P_isPreferredTo : ByteArray := prog_3_method_5_code
abbrev zy_P_isPreferredTo : MethodName := ⟨"SpanBoard$Pair", "isPreferredTo", "(LSpanBoard$Pair;)Z"⟩
set_option maxRecDepth 100000 in
theorem zh_P_isPreferredTo : Cond.code zy_P_isPreferredTo zc_P_isPreferredTo 2 (some .boolean) ∈ zAll := z_mem 345 rfl rfl
theorem zg_P_isPreferredTo {own : String} {index : Nat} (h1 : Cond.methodLink own index zy_P_isPreferredTo ∈ zAll) : GoodIn zAll (wsV own index zN_P zy_P_isPreferredTo (.code zy_P_isPreferredTo zc_P_isPreferredTo 2 (some .boolean) :: zAll)) := z_goodV zh_P_isPreferredTo (z_mem 343 (by decide +kernel) rfl) (z_mem 344 (by decide +kernel) rfl) (z_mem 3 (by decide +kernel) rfl) h1
abbrev zc_O_init : ByteArray := prog_4_method_1_code
abbrev zy_O_init : MethodName := ⟨"SpanBoard$Post", "<init>", "()V"⟩
set_option maxRecDepth 100000 in
theorem zh_O_init : Cond.code zy_O_init zc_O_init 2 none ∈ zAll := z_mem 142 rfl rfl
abbrev zc_O_has : ByteArray := prog_4_method_2_code
abbrev zy_O_has : MethodName := ⟨"SpanBoard$Post", "has", "(I)Z"⟩
set_option maxRecDepth 100000 in
theorem zh_O_has : Cond.code zy_O_has zc_O_has 2 (some .boolean) ∈ zAll := z_mem 292 rfl rfl
theorem zg_O_has {own : String} {index : Nat} (h1 : Cond.methodLink own index zy_O_has ∈ zAll) : GoodIn zAll (wsV own index zN_O zy_O_has (.code zy_O_has zc_O_has 2 (some .boolean) :: zAll)) := z_goodV zh_O_has (z_mem 290 (by decide +kernel) rfl) (z_mem 291 (by decide +kernel) rfl) (z_mem 7 (by decide +kernel) rfl) h1
abbrev zc_O_isFull : ByteArray := prog_4_method_3_code
abbrev zy_O_isFull : MethodName := ⟨"SpanBoard$Post", "isFull", "()Z"⟩
set_option maxRecDepth 100000 in
theorem zh_O_isFull : Cond.code zy_O_isFull zc_O_isFull 1 (some .boolean) ∈ zAll := z_mem 249 rfl rfl
theorem zg_O_isFull {own : String} {index : Nat} (h1 : Cond.methodLink own index zy_O_isFull ∈ zAll) : GoodIn zAll (wsV own index zN_O zy_O_isFull (.code zy_O_isFull zc_O_isFull 1 (some .boolean) :: zAll)) := z_goodV zh_O_isFull (z_mem 247 (by decide +kernel) rfl) (z_mem 248 (by decide +kernel) rfl) (z_mem 7 (by decide +kernel) rfl) h1
abbrev zc_O_send : ByteArray := prog_4_method_4_code
abbrev zy_O_send : MethodName := ⟨"SpanBoard$Post", "send", "(IIIIILSpanBoard$Pair;)V"⟩
set_option maxRecDepth 100000 in
theorem zh_O_send : Cond.code zy_O_send zc_O_send 8 none ∈ zAll := z_mem 245 rfl rfl
theorem zg_O_send {own : String} {index : Nat} (h1 : Cond.methodLink own index zy_O_send ∈ zAll) : GoodIn zAll (wsV own index zN_O zy_O_send (.code zy_O_send zc_O_send 8 none :: zAll)) := z_goodV zh_O_send (z_mem 243 (by decide +kernel) rfl) (z_mem 244 (by decide +kernel) rfl) (z_mem 7 (by decide +kernel) rfl) h1
abbrev zc_O_take : ByteArray := prog_4_method_5_code
abbrev zy_O_take : MethodName := ⟨"SpanBoard$Post", "take", "(I)LSpanBoard$Letter;"⟩
set_option maxRecDepth 100000 in
theorem zh_O_take : Cond.code zy_O_take zc_O_take 4 (some (.object "SpanBoard$Letter")) ∈ zAll := z_mem 300 rfl rfl
theorem zg_O_take {own : String} {index : Nat} (h1 : Cond.methodLink own index zy_O_take ∈ zAll) : GoodIn zAll (wsV own index zN_O zy_O_take (.code zy_O_take zc_O_take 4 (some (.object "SpanBoard$Letter")) :: zAll)) := z_goodV zh_O_take (z_mem 298 (by decide +kernel) rfl) (z_mem 299 (by decide +kernel) rfl) (z_mem 7 (by decide +kernel) rfl) h1
abbrev zc_D_init : ByteArray := prog_5_method_1_code
abbrev zy_D_init : MethodName := ⟨"SpanBoard$Reader", "<init>", "(LSpanBoard$Pair;)V"⟩
set_option maxRecDepth 100000 in
theorem zh_D_init : Cond.code zy_D_init zc_D_init 3 none ∈ zAll := z_mem 99 rfl rfl
abbrev zc_D_isReading : ByteArray := prog_5_method_2_code
abbrev zy_D_isReading : MethodName := ⟨"SpanBoard$Reader", "isReading", "()Z"⟩
set_option maxRecDepth 100000 in
theorem zh_D_isReading : Cond.code zy_D_isReading zc_D_isReading 1 (some .boolean) ∈ zAll := z_mem 260 rfl rfl
theorem zg_D_isReading {own : String} {index : Nat} (h1 : Cond.methodLink own index zy_D_isReading ∈ zAll) : GoodIn zAll (wsV own index zN_D zy_D_isReading (.code zy_D_isReading zc_D_isReading 1 (some .boolean) :: zAll)) := z_goodV zh_D_isReading (z_mem 258 (by decide +kernel) rfl) (z_mem 259 (by decide +kernel) rfl) (z_mem 6 (by decide +kernel) rfl) h1
abbrev zc_D_begin : ByteArray := prog_5_method_3_code
abbrev zy_D_begin : MethodName := ⟨"SpanBoard$Reader", "begin", "(I)V"⟩
set_option maxRecDepth 100000 in
theorem zh_D_begin : Cond.code zy_D_begin zc_D_begin 2 none ∈ zAll := z_mem 264 rfl rfl
theorem zg_D_begin {own : String} {index : Nat} (h1 : Cond.methodLink own index zy_D_begin ∈ zAll) : GoodIn zAll (wsV own index zN_D zy_D_begin (.code zy_D_begin zc_D_begin 2 none :: zAll)) := z_goodV zh_D_begin (z_mem 262 (by decide +kernel) rfl) (z_mem 263 (by decide +kernel) rfl) (z_mem 6 (by decide +kernel) rfl) h1
abbrev zc_D_beginRound : ByteArray := prog_5_method_4_code
abbrev zy_D_beginRound : MethodName := ⟨"SpanBoard$Reader", "beginRound", "(I)V"⟩
set_option maxRecDepth 100000 in
theorem zh_D_beginRound : Cond.code zy_D_beginRound zc_D_beginRound 3 none ∈ zAll := z_mem 268 rfl rfl
theorem zg_D_beginRound {own : String} {index : Nat} (h1 : Cond.methodLink own index zy_D_beginRound ∈ zAll) : GoodIn zAll (wsV own index zN_D zy_D_beginRound (.code zy_D_beginRound zc_D_beginRound 3 none :: zAll)) := z_goodV zh_D_beginRound (z_mem 266 (by decide +kernel) rfl) (z_mem 267 (by decide +kernel) rfl) (z_mem 6 (by decide +kernel) rfl) h1
abbrev zc_D_hear : ByteArray := prog_5_method_5_code
abbrev zy_D_hear : MethodName := ⟨"SpanBoard$Reader", "hear", "(IILSpanBoard$Pair;)V"⟩
set_option maxRecDepth 100000 in
theorem zh_D_hear : Cond.code zy_D_hear zc_D_hear 4 none ∈ zAll := z_mem 328 rfl rfl
theorem zg_D_hear {own : String} {index : Nat} (h1 : Cond.methodLink own index zy_D_hear ∈ zAll) : GoodIn zAll (wsV own index zN_D zy_D_hear (.code zy_D_hear zc_D_hear 4 none :: zAll)) := z_goodV zh_D_hear (z_mem 326 (by decide +kernel) rfl) (z_mem 327 (by decide +kernel) rfl) (z_mem 6 (by decide +kernel) rfl) h1
abbrev zc_D_findBelieved : ByteArray := prog_5_method_6_code
abbrev zy_D_findBelieved : MethodName := ⟨"SpanBoard$Reader", "findBelieved", "()LSpanBoard$Pair;"⟩
set_option maxRecDepth 100000 in
theorem zh_D_findBelieved : Cond.code zy_D_findBelieved zc_D_findBelieved 4 (some (.object "SpanBoard$Pair")) ∈ zAll := z_mem 333 rfl rfl
theorem zg_D_findBelieved {own : String} {index : Nat} (h1 : Cond.methodLink own index zy_D_findBelieved ∈ zAll) : GoodIn zAll (wsV own index zN_D zy_D_findBelieved (.code zy_D_findBelieved zc_D_findBelieved 4 (some (.object "SpanBoard$Pair")) :: zAll)) := z_goodV zh_D_findBelieved (z_mem 331 (by decide +kernel) rfl) (z_mem 332 (by decide +kernel) rfl) (z_mem 6 (by decide +kernel) rfl) h1
abbrev zc_D_countAlike : ByteArray := prog_5_method_7_code
abbrev zy_D_countAlike : MethodName := ⟨"SpanBoard$Reader", "countAlike", "(LSpanBoard$Pair;)I"⟩
set_option maxRecDepth 100000 in
theorem zh_D_countAlike : Cond.code zy_D_countAlike zc_D_countAlike 4 (some .int) ∈ zAll := z_mem 337 rfl rfl
theorem zg_D_countAlike {own : String} {index : Nat} (h1 : Cond.methodLink own index zy_D_countAlike ∈ zAll) : GoodIn zAll (wsV own index zN_D zy_D_countAlike (.code zy_D_countAlike zc_D_countAlike 4 (some .int) :: zAll)) := z_goodV zh_D_countAlike (z_mem 336 (by decide +kernel) rfl) (z_memp 6 (by decide +kernel) rfl) (z_mem 6 (by decide +kernel) rfl) h1
abbrev zc_D_settle : ByteArray := prog_5_method_8_code
abbrev zy_D_settle : MethodName := ⟨"SpanBoard$Reader", "settle", "(LSpanBoard$Pair;)V"⟩
set_option maxRecDepth 100000 in
theorem zh_D_settle : Cond.code zy_D_settle zc_D_settle 3 none ∈ zAll := z_mem 349 rfl rfl
theorem zg_D_settle {own : String} {index : Nat} (h1 : Cond.methodLink own index zy_D_settle ∈ zAll) : GoodIn zAll (wsV own index zN_D zy_D_settle (.code zy_D_settle zc_D_settle 3 none :: zAll)) := z_goodV zh_D_settle (z_mem 347 (by decide +kernel) rfl) (z_mem 348 (by decide +kernel) rfl) (z_mem 6 (by decide +kernel) rfl) h1
abbrev zc_R_init : ByteArray := prog_6_method_1_code
abbrev zy_R_init : MethodName := ⟨"SpanBoard$Recorder", "<init>", "(LSpanBoard$Pair;)V"⟩
set_option maxRecDepth 100000 in
theorem zh_R_init : Cond.code zy_R_init zc_R_init 3 none ∈ zAll := z_mem 48 rfl rfl
abbrev zc_R_heeds : ByteArray := prog_6_method_2_code
abbrev zy_R_heeds : MethodName := ⟨"SpanBoard$Recorder", "heeds", "()Z"⟩
set_option maxRecDepth 100000 in
theorem zh_R_heeds : Cond.code zy_R_heeds zc_R_heeds 1 (some .boolean) ∈ zAll := z_mem 312 rfl rfl
theorem zg_R_heeds {own : String} {index : Nat} (h1 : Cond.methodLink own index zy_R_heeds ∈ zAll) : GoodIn zAll (wsV own index zN_R zy_R_heeds (.code zy_R_heeds zc_R_heeds 1 (some .boolean) :: zAll)) := z_goodV zh_R_heeds (z_mem 310 (by decide +kernel) rfl) (z_mem 311 (by decide +kernel) rfl) (z_mem 4 (by decide +kernel) rfl) h1
abbrev zc_W_init : ByteArray := prog_7_method_1_code
abbrev zy_W_init : MethodName := ⟨"SpanBoard$Writer", "<init>", "(LSpanBoard$Pair;)V"⟩
set_option maxRecDepth 100000 in
theorem zh_W_init : Cond.code zy_W_init zc_W_init 2 none ∈ zAll := z_mem 70 rfl rfl
abbrev zc_W_begin : ByteArray := prog_7_method_2_code
abbrev zy_W_begin : MethodName := ⟨"SpanBoard$Writer", "begin", "(II)V"⟩
set_option maxRecDepth 100000 in
theorem zh_W_begin : Cond.code zy_W_begin zc_W_begin 3 none ∈ zAll := z_mem 231 rfl rfl
theorem zg_W_begin {own : String} {index : Nat} (h1 : Cond.methodLink own index zy_W_begin ∈ zAll) : GoodIn zAll (wsV own index zN_W zy_W_begin (.code zy_W_begin zc_W_begin 3 none :: zAll)) := z_goodV zh_W_begin (z_mem 229 (by decide +kernel) rfl) (z_mem 230 (by decide +kernel) rfl) (z_mem 5 (by decide +kernel) rfl) h1
abbrev zc_W_clearReceipts : ByteArray := prog_7_method_3_code
abbrev zy_W_clearReceipts : MethodName := ⟨"SpanBoard$Writer", "clearReceipts", "()V"⟩
set_option maxRecDepth 100000 in
theorem zh_W_clearReceipts : Cond.code zy_W_clearReceipts zc_W_clearReceipts 2 none ∈ zAll := z_mem 237 rfl rfl
theorem zg_W_clearReceipts {own : String} {index : Nat} (h1 : Cond.methodLink own index zy_W_clearReceipts ∈ zAll) : GoodIn zAll (wsV own index zN_W zy_W_clearReceipts (.code zy_W_clearReceipts zc_W_clearReceipts 2 none :: zAll)) := z_goodV zh_W_clearReceipts (z_mem 235 (by decide +kernel) rfl) (z_mem 236 (by decide +kernel) rfl) (z_mem 5 (by decide +kernel) rfl) h1
abbrev zc_W_hear : ByteArray := prog_7_method_4_code
abbrev zy_W_hear : MethodName := ⟨"SpanBoard$Writer", "hear", "(II)V"⟩
set_option maxRecDepth 100000 in
theorem zh_W_hear : Cond.code zy_W_hear zc_W_hear 3 none ∈ zAll := z_mem 316 rfl rfl
theorem zg_W_hear {own : String} {index : Nat} (h1 : Cond.methodLink own index zy_W_hear ∈ zAll) : GoodIn zAll (wsV own index zN_W zy_W_hear (.code zy_W_hear zc_W_hear 3 none :: zAll)) := z_goodV zh_W_hear (z_mem 314 (by decide +kernel) rfl) (z_mem 315 (by decide +kernel) rfl) (z_mem 5 (by decide +kernel) rfl) h1
abbrev zc_J_cell : ByteArray := method_2_code
abbrev zy_J_cell : MethodName := ⟨"SpanBoardLaw", "cell", "([II)I"⟩
set_option maxRecDepth 100000 in
theorem zh_J_cell : Cond.code zy_J_cell zc_J_cell 2 (some .int) ∈ zAll := z_mem 442 rfl rfl
theorem zg_J_cell {index : Nat} (h1 : Cond.methodLink zN_J index zy_J_cell ∈ zAll) : GoodIn zAll (wsS zN_J index zy_J_cell (.code zy_J_cell zc_J_cell 2 (some .int) :: zAll)) := z_goodS zh_J_cell (z_mem 441 (by decide +kernel) rfl) (z_mem 0 (by decide +kernel) rfl) h1
theorem zk_J_15 : Cond.methodLink "SpanBoardLaw" 15 zy_X_init ∈ zAll := z_mem 12 (by decide +kernel) rfl
theorem zk_X_1 : Cond.methodLink "SpanBoard" 1 ⟨"java/lang/Object", "<init>", "()V"⟩ ∈ zAll := z_mem 15 (by decide +kernel) rfl
theorem zk_X_9 : Cond.methodLink "SpanBoard" 9 ⟨"java/lang/Math", "min", "(II)I"⟩ ∈ zAll := z_mem 18 (by decide +kernel) rfl
theorem zk_X_15 : Cond.methodLink "SpanBoard" 15 ⟨"java/lang/Math", "max", "(II)I"⟩ ∈ zAll := z_mem 21 (by decide +kernel) rfl
theorem zk_X_24 : Cond.methodLink "SpanBoard" 24 zy_P_init ∈ zAll := z_mem 26 (by decide +kernel) rfl
theorem zk_P_3 : Cond.methodLink "SpanBoard$Pair" 3 ⟨"java/lang/Object", "<init>", "()V"⟩ ∈ zAll := z_mem 29 (by decide +kernel) rfl
theorem zl_P_9 {args : Array Value} {s : State} (hts : ∀ w ∈ zAll, w.before args s = true) : (Cond.fieldLink "SpanBoard$Pair" 9 "SpanBoard$Pair" "number" "I").before args s = true := hts _ (z_mem 30 (by decide +kernel) rfl)
theorem zl_W_21 {args : Array Value} {s : State} (hts : ∀ w ∈ zAll, w.before args s = true) : (Cond.fieldLink "SpanBoard$Writer" 21 "SpanBoard$Pair" "number" "I").before args s = true := hts _ (z_mem 31 (by decide +kernel) rfl)
theorem zl_X_95 {args : Array Value} {s : State} (hts : ∀ w ∈ zAll, w.before args s = true) : (Cond.fieldLink "SpanBoard" 95 "SpanBoard$Pair" "number" "I").before args s = true := hts _ (z_mem 32 (by decide +kernel) rfl)
theorem zl_D_55 {args : Array Value} {s : State} (hts : ∀ w ∈ zAll, w.before args s = true) : (Cond.fieldLink "SpanBoard$Reader" 55 "SpanBoard$Pair" "number" "I").before args s = true := hts _ (z_mem 33 (by decide +kernel) rfl)
theorem zl_P_15 {args : Array Value} {s : State} (hts : ∀ w ∈ zAll, w.before args s = true) : (Cond.fieldLink "SpanBoard$Pair" 15 "SpanBoard$Pair" "low" "I").before args s = true := hts _ (z_mem 34 (by decide +kernel) rfl)
theorem zl_P_18 {args : Array Value} {s : State} (hts : ∀ w ∈ zAll, w.before args s = true) : (Cond.fieldLink "SpanBoard$Pair" 18 "SpanBoard$Pair" "high" "I").before args s = true := hts _ (z_mem 35 (by decide +kernel) rfl)
theorem zk_X_33 : Cond.methodLink "SpanBoard" 33 zy_R_init ∈ zAll := z_mem 46 (by decide +kernel) rfl
theorem zk_R_3 : Cond.methodLink "SpanBoard$Recorder" 3 ⟨"java/lang/Object", "<init>", "()V"⟩ ∈ zAll := z_mem 49 (by decide +kernel) rfl
theorem zl_R_11 {args : Array Value} {s : State} (hts : ∀ w ∈ zAll, w.before args s = true) : (Cond.fieldLink "SpanBoard$Recorder" 11 "SpanBoard$Recorder" "pairs" "[LSpanBoard$Pair;").before args s = true := hts _ (z_mem 52 (by decide +kernel) rfl)
theorem zl_X_201 {args : Array Value} {s : State} (hts : ∀ w ∈ zAll, w.before args s = true) : (Cond.fieldLink "SpanBoard" 201 "SpanBoard$Recorder" "pairs" "[LSpanBoard$Pair;").before args s = true := hts _ (z_mem 53 (by decide +kernel) rfl)
theorem zl_R_17 {args : Array Value} {s : State} (hts : ∀ w ∈ zAll, w.before args s = true) : (Cond.fieldLink "SpanBoard$Recorder" 17 "SpanBoard$Recorder" "up" "Z").before args s = true := hts _ (z_mem 54 (by decide +kernel) rfl)
theorem zl_X_171 {args : Array Value} {s : State} (hts : ∀ w ∈ zAll, w.before args s = true) : (Cond.fieldLink "SpanBoard" 171 "SpanBoard$Recorder" "up" "Z").before args s = true := hts _ (z_mem 55 (by decide +kernel) rfl)
theorem zl_R_21 {args : Array Value} {s : State} (hts : ∀ w ∈ zAll, w.before args s = true) : (Cond.fieldLink "SpanBoard$Recorder" 21 "SpanBoard$Recorder" "liar" "Z").before args s = true := hts _ (z_mem 56 (by decide +kernel) rfl)
theorem zl_X_160 {args : Array Value} {s : State} (hts : ∀ w ∈ zAll, w.before args s = true) : (Cond.fieldLink "SpanBoard" 160 "SpanBoard$Recorder" "liar" "Z").before args s = true := hts _ (z_mem 57 (by decide +kernel) rfl)
theorem zk_X_42 : Cond.methodLink "SpanBoard" 42 zy_W_init ∈ zAll := z_mem 68 (by decide +kernel) rfl
theorem zk_W_3 : Cond.methodLink "SpanBoard$Writer" 3 ⟨"java/lang/Object", "<init>", "()V"⟩ ∈ zAll := z_mem 71 (by decide +kernel) rfl
theorem zl_W_9 {args : Array Value} {s : State} (hts : ∀ w ∈ zAll, w.before args s = true) : (Cond.fieldLink "SpanBoard$Writer" 9 "SpanBoard$Writer" "receipts" "[Z").before args s = true := hts _ (z_mem 72 (by decide +kernel) rfl)
theorem zl_X_210 {args : Array Value} {s : State} (hts : ∀ w ∈ zAll, w.before args s = true) : (Cond.fieldLink "SpanBoard" 210 "SpanBoard$Writer" "receipts" "[Z").before args s = true := hts _ (z_mem 73 (by decide +kernel) rfl)
theorem zl_W_35 {args : Array Value} {s : State} (hts : ∀ w ∈ zAll, w.before args s = true) : (Cond.fieldLink "SpanBoard$Writer" 35 "SpanBoard$Writer" "receiptCount" "I").before args s = true := hts _ (z_mem 74 (by decide +kernel) rfl)
theorem zl_X_195 {args : Array Value} {s : State} (hts : ∀ w ∈ zAll, w.before args s = true) : (Cond.fieldLink "SpanBoard" 195 "SpanBoard$Writer" "receiptCount" "I").before args s = true := hts _ (z_mem 75 (by decide +kernel) rfl)
theorem zl_W_15 {args : Array Value} {s : State} (hts : ∀ w ∈ zAll, w.before args s = true) : (Cond.fieldLink "SpanBoard$Writer" 15 "SpanBoard$Writer" "latest" "LSpanBoard$Pair;").before args s = true := hts _ (z_mem 76 (by decide +kernel) rfl)
theorem zl_X_91 {args : Array Value} {s : State} (hts : ∀ w ∈ zAll, w.before args s = true) : (Cond.fieldLink "SpanBoard" 91 "SpanBoard$Writer" "latest" "LSpanBoard$Pair;").before args s = true := hts _ (z_mem 77 (by decide +kernel) rfl)
theorem zl_W_28 {args : Array Value} {s : State} (hts : ∀ w ∈ zAll, w.before args s = true) : (Cond.fieldLink "SpanBoard$Writer" 28 "SpanBoard$Writer" "open" "Z").before args s = true := hts _ (z_mem 78 (by decide +kernel) rfl)
theorem zl_X_79 {args : Array Value} {s : State} (hts : ∀ w ∈ zAll, w.before args s = true) : (Cond.fieldLink "SpanBoard" 79 "SpanBoard$Writer" "open" "Z").before args s = true := hts _ (z_mem 79 (by decide +kernel) rfl)
theorem zl_W_38 {args : Array Value} {s : State} (hts : ∀ w ∈ zAll, w.before args s = true) : (Cond.fieldLink "SpanBoard$Writer" 38 "SpanBoard$Writer" "finished" "I").before args s = true := hts _ (z_mem 80 (by decide +kernel) rfl)
theorem zl_X_198 {args : Array Value} {s : State} (hts : ∀ w ∈ zAll, w.before args s = true) : (Cond.fieldLink "SpanBoard" 198 "SpanBoard$Writer" "finished" "I").before args s = true := hts _ (z_mem 81 (by decide +kernel) rfl)
theorem zk_X_49 : Cond.methodLink "SpanBoard" 49 zy_D_init ∈ zAll := z_mem 97 (by decide +kernel) rfl
theorem zk_D_3 : Cond.methodLink "SpanBoard$Reader" 3 ⟨"java/lang/Object", "<init>", "()V"⟩ ∈ zAll := z_mem 100 (by decide +kernel) rfl
theorem zl_D_11 {args : Array Value} {s : State} (hts : ∀ w ∈ zAll, w.before args s = true) : (Cond.fieldLink "SpanBoard$Reader" 11 "SpanBoard$Reader" "told" "[LSpanBoard$Pair;").before args s = true := hts _ (z_mem 102 (by decide +kernel) rfl)
theorem zl_X_213 {args : Array Value} {s : State} (hts : ∀ w ∈ zAll, w.before args s = true) : (Cond.fieldLink "SpanBoard" 213 "SpanBoard$Reader" "told" "[LSpanBoard$Pair;").before args s = true := hts _ (z_mem 103 (by decide +kernel) rfl)
theorem zl_D_17 {args : Array Value} {s : State} (hts : ∀ w ∈ zAll, w.before args s = true) : (Cond.fieldLink "SpanBoard$Reader" 17 "SpanBoard$Reader" "remembered" "[LSpanBoard$Pair;").before args s = true := hts _ (z_mem 104 (by decide +kernel) rfl)
theorem zl_D_37 {args : Array Value} {s : State} (hts : ∀ w ∈ zAll, w.before args s = true) : (Cond.fieldLink "SpanBoard$Reader" 37 "SpanBoard$Reader" "toldCount" "I").before args s = true := hts _ (z_mem 105 (by decide +kernel) rfl)
theorem zl_X_192 {args : Array Value} {s : State} (hts : ∀ w ∈ zAll, w.before args s = true) : (Cond.fieldLink "SpanBoard" 192 "SpanBoard$Reader" "toldCount" "I").before args s = true := hts _ (z_mem 106 (by decide +kernel) rfl)
theorem zl_D_20 {args : Array Value} {s : State} (hts : ∀ w ∈ zAll, w.before args s = true) : (Cond.fieldLink "SpanBoard$Reader" 20 "SpanBoard$Reader" "state" "I").before args s = true := hts _ (z_mem 107 (by decide +kernel) rfl)
theorem zl_X_177 {args : Array Value} {s : State} (hts : ∀ w ∈ zAll, w.before args s = true) : (Cond.fieldLink "SpanBoard" 177 "SpanBoard$Reader" "state" "I").before args s = true := hts _ (z_mem 108 (by decide +kernel) rfl)
theorem zl_D_34 {args : Array Value} {s : State} (hts : ∀ w ∈ zAll, w.before args s = true) : (Cond.fieldLink "SpanBoard$Reader" 34 "SpanBoard$Reader" "question" "I").before args s = true := hts _ (z_mem 109 (by decide +kernel) rfl)
theorem zl_X_111 {args : Array Value} {s : State} (hts : ∀ w ∈ zAll, w.before args s = true) : (Cond.fieldLink "SpanBoard" 111 "SpanBoard$Reader" "question" "I").before args s = true := hts _ (z_mem 110 (by decide +kernel) rfl)
theorem zl_D_31 {args : Array Value} {s : State} (hts : ∀ w ∈ zAll, w.before args s = true) : (Cond.fieldLink "SpanBoard$Reader" 31 "SpanBoard$Reader" "round" "I").before args s = true := hts _ (z_mem 111 (by decide +kernel) rfl)
theorem zl_X_189 {args : Array Value} {s : State} (hts : ∀ w ∈ zAll, w.before args s = true) : (Cond.fieldLink "SpanBoard" 189 "SpanBoard$Reader" "round" "I").before args s = true := hts _ (z_mem 112 (by decide +kernel) rfl)
theorem zl_D_24 {args : Array Value} {s : State} (hts : ∀ w ∈ zAll, w.before args s = true) : (Cond.fieldLink "SpanBoard$Reader" 24 "SpanBoard$Reader" "point" "I").before args s = true := hts _ (z_mem 113 (by decide +kernel) rfl)
theorem zl_X_170 {args : Array Value} {s : State} (hts : ∀ w ∈ zAll, w.before args s = true) : (Cond.fieldLink "SpanBoard" 170 "SpanBoard$Reader" "point" "I").before args s = true := hts _ (z_mem 114 (by decide +kernel) rfl)
theorem zl_D_62 {args : Array Value} {s : State} (hts : ∀ w ∈ zAll, w.before args s = true) : (Cond.fieldLink "SpanBoard$Reader" 62 "SpanBoard$Reader" "answeredPoint" "I").before args s = true := hts _ (z_mem 115 (by decide +kernel) rfl)
theorem zl_X_183 {args : Array Value} {s : State} (hts : ∀ w ∈ zAll, w.before args s = true) : (Cond.fieldLink "SpanBoard" 183 "SpanBoard$Reader" "answeredPoint" "I").before args s = true := hts _ (z_mem 116 (by decide +kernel) rfl)
theorem zl_D_58 {args : Array Value} {s : State} (hts : ∀ w ∈ zAll, w.before args s = true) : (Cond.fieldLink "SpanBoard$Reader" 58 "SpanBoard$Reader" "answer" "LSpanBoard$Pair;").before args s = true := hts _ (z_mem 117 (by decide +kernel) rfl)
theorem zl_X_180 {args : Array Value} {s : State} (hts : ∀ w ∈ zAll, w.before args s = true) : (Cond.fieldLink "SpanBoard" 180 "SpanBoard$Reader" "answer" "LSpanBoard$Pair;").before args s = true := hts _ (z_mem 118 (by decide +kernel) rfl)
theorem zk_X_52 : Cond.methodLink "SpanBoard" 52 zy_O_init ∈ zAll := z_mem 140 (by decide +kernel) rfl
theorem zk_O_3 : Cond.methodLink "SpanBoard$Post" 3 ⟨"java/lang/Object", "<init>", "()V"⟩ ∈ zAll := z_mem 143 (by decide +kernel) rfl
theorem zk_L_1 : Cond.methodLink "SpanBoard$Letter" 1 ⟨"java/lang/Object", "<init>", "()V"⟩ ∈ zAll := z_mem 150 (by decide +kernel) rfl
theorem zl_O_26 {args : Array Value} {s : State} (hts : ∀ w ∈ zAll, w.before args s = true) : (Cond.fieldLink "SpanBoard$Post" 26 "SpanBoard$Letter" "kind" "I").before args s = true := hts _ (z_mem 151 (by decide +kernel) rfl)
theorem zl_X_124 {args : Array Value} {s : State} (hts : ∀ w ∈ zAll, w.before args s = true) : (Cond.fieldLink "SpanBoard" 124 "SpanBoard$Letter" "kind" "I").before args s = true := hts _ (z_mem 152 (by decide +kernel) rfl)
theorem zl_O_29 {args : Array Value} {s : State} (hts : ∀ w ∈ zAll, w.before args s = true) : (Cond.fieldLink "SpanBoard$Post" 29 "SpanBoard$Letter" "recorder" "I").before args s = true := hts _ (z_mem 153 (by decide +kernel) rfl)
theorem zl_X_129 {args : Array Value} {s : State} (hts : ∀ w ∈ zAll, w.before args s = true) : (Cond.fieldLink "SpanBoard" 129 "SpanBoard$Letter" "recorder" "I").before args s = true := hts _ (z_mem 154 (by decide +kernel) rfl)
theorem zl_O_32 {args : Array Value} {s : State} (hts : ∀ w ∈ zAll, w.before args s = true) : (Cond.fieldLink "SpanBoard$Post" 32 "SpanBoard$Letter" "point" "I").before args s = true := hts _ (z_mem 155 (by decide +kernel) rfl)
theorem zl_X_132 {args : Array Value} {s : State} (hts : ∀ w ∈ zAll, w.before args s = true) : (Cond.fieldLink "SpanBoard" 132 "SpanBoard$Letter" "point" "I").before args s = true := hts _ (z_mem 156 (by decide +kernel) rfl)
theorem zl_O_35 {args : Array Value} {s : State} (hts : ∀ w ∈ zAll, w.before args s = true) : (Cond.fieldLink "SpanBoard$Post" 35 "SpanBoard$Letter" "reader" "I").before args s = true := hts _ (z_mem 157 (by decide +kernel) rfl)
theorem zl_X_135 {args : Array Value} {s : State} (hts : ∀ w ∈ zAll, w.before args s = true) : (Cond.fieldLink "SpanBoard" 135 "SpanBoard$Letter" "reader" "I").before args s = true := hts _ (z_mem 158 (by decide +kernel) rfl)
theorem zl_O_38 {args : Array Value} {s : State} (hts : ∀ w ∈ zAll, w.before args s = true) : (Cond.fieldLink "SpanBoard$Post" 38 "SpanBoard$Letter" "number" "I").before args s = true := hts _ (z_mem 159 (by decide +kernel) rfl)
theorem zl_X_138 {args : Array Value} {s : State} (hts : ∀ w ∈ zAll, w.before args s = true) : (Cond.fieldLink "SpanBoard" 138 "SpanBoard$Letter" "number" "I").before args s = true := hts _ (z_mem 160 (by decide +kernel) rfl)
theorem zl_O_41 {args : Array Value} {s : State} (hts : ∀ w ∈ zAll, w.before args s = true) : (Cond.fieldLink "SpanBoard$Post" 41 "SpanBoard$Letter" "pair" "LSpanBoard$Pair;").before args s = true := hts _ (z_mem 161 (by decide +kernel) rfl)
theorem zl_X_150 {args : Array Value} {s : State} (hts : ∀ w ∈ zAll, w.before args s = true) : (Cond.fieldLink "SpanBoard" 150 "SpanBoard$Letter" "pair" "LSpanBoard$Pair;").before args s = true := hts _ (z_mem 162 (by decide +kernel) rfl)
theorem zl_O_11 {args : Array Value} {s : State} (hts : ∀ w ∈ zAll, w.before args s = true) : (Cond.fieldLink "SpanBoard$Post" 11 "SpanBoard$Post" "row" "[LSpanBoard$Letter;").before args s = true := hts _ (z_mem 176 (by decide +kernel) rfl)
theorem zl_X_120 {args : Array Value} {s : State} (hts : ∀ w ∈ zAll, w.before args s = true) : (Cond.fieldLink "SpanBoard" 120 "SpanBoard$Post" "row" "[LSpanBoard$Letter;").before args s = true := hts _ (z_mem 177 (by decide +kernel) rfl)
theorem zl_O_18 {args : Array Value} {s : State} (hts : ∀ w ∈ zAll, w.before args s = true) : (Cond.fieldLink "SpanBoard$Post" 18 "SpanBoard$Post" "count" "I").before args s = true := hts _ (z_mem 178 (by decide +kernel) rfl)
theorem zl_X_114 {args : Array Value} {s : State} (hts : ∀ w ∈ zAll, w.before args s = true) : (Cond.fieldLink "SpanBoard" 114 "SpanBoard$Post" "count" "I").before args s = true := hts _ (z_mem 179 (by decide +kernel) rfl)
theorem zl_X_18 {args : Array Value} {s : State} (hts : ∀ w ∈ zAll, w.before args s = true) : (Cond.fieldLink "SpanBoard" 18 "SpanBoard" "rounds" "I").before args s = true := hts _ (z_mem 185 (by decide +kernel) rfl)
theorem zl_X_29 {args : Array Value} {s : State} (hts : ∀ w ∈ zAll, w.before args s = true) : (Cond.fieldLink "SpanBoard" 29 "SpanBoard" "recorders" "[LSpanBoard$Recorder;").before args s = true := hts _ (z_mem 186 (by decide +kernel) rfl)
theorem zl_X_38 {args : Array Value} {s : State} (hts : ∀ w ∈ zAll, w.before args s = true) : (Cond.fieldLink "SpanBoard" 38 "SpanBoard" "writers" "[LSpanBoard$Writer;").before args s = true := hts _ (z_mem 187 (by decide +kernel) rfl)
theorem zl_X_45 {args : Array Value} {s : State} (hts : ∀ w ∈ zAll, w.before args s = true) : (Cond.fieldLink "SpanBoard" 45 "SpanBoard" "readers" "[LSpanBoard$Reader;").before args s = true := hts _ (z_mem 188 (by decide +kernel) rfl)
theorem zl_X_53 {args : Array Value} {s : State} (hts : ∀ w ∈ zAll, w.before args s = true) : (Cond.fieldLink "SpanBoard" 53 "SpanBoard" "post" "LSpanBoard$Post;").before args s = true := hts _ (z_mem 189 (by decide +kernel) rfl)
theorem zl_X_57 {args : Array Value} {s : State} (hts : ∀ w ∈ zAll, w.before args s = true) : (Cond.fieldLink "SpanBoard" 57 "SpanBoard" "hallOfPoint" "[I").before args s = true := hts _ (z_mem 190 (by decide +kernel) rfl)
theorem zl_X_61 {args : Array Value} {s : State} (hts : ∀ w ∈ zAll, w.before args s = true) : (Cond.fieldLink "SpanBoard" 61 "SpanBoard" "latestAnswers" "[LSpanBoard$Pair;").before args s = true := hts _ (z_mem 191 (by decide +kernel) rfl)
theorem zl_X_65 {args : Array Value} {s : State} (hts : ∀ w ∈ zAll, w.before args s = true) : (Cond.fieldLink "SpanBoard" 65 "SpanBoard" "hasValue" "[Z").before args s = true := hts _ (z_mem 192 (by decide +kernel) rfl)
theorem zl_X_69 {args : Array Value} {s : State} (hts : ∀ w ∈ zAll, w.before args s = true) : (Cond.fieldLink "SpanBoard" 69 "SpanBoard" "values" "[I").before args s = true := hts _ (z_mem 193 (by decide +kernel) rfl)
theorem zk_J_21 : Cond.methodLink "SpanBoardLaw" 21 zy_X_hall ∈ zAll := z_mem 214 (by decide +kernel) rfl
theorem zk_X_72 : Cond.methodLink "SpanBoard" 72 zy_X_isPoint ∈ zAll := z_mem 218 (by decide +kernel) rfl
theorem zk_X_76 : Cond.methodLink "SpanBoard" 76 zy_X_isHall ∈ zAll := z_mem 221 (by decide +kernel) rfl
theorem zk_J_26 : Cond.methodLink "SpanBoardLaw" 26 zy_X_write ∈ zAll := z_mem 224 (by decide +kernel) rfl
theorem zk_X_83 : Cond.methodLink "SpanBoard" 83 zy_W_begin ∈ zAll := z_mem 228 (by decide +kernel) rfl
theorem zk_W_25 : Cond.methodLink "SpanBoard$Writer" 25 zy_P_init ∈ zAll := z_mem 233 (by decide +kernel) rfl
theorem zk_W_32 : Cond.methodLink "SpanBoard$Writer" 32 zy_W_clearReceipts ∈ zAll := z_mem 234 (by decide +kernel) rfl
theorem zk_X_87 : Cond.methodLink "SpanBoard" 87 zy_X_sendStores ∈ zAll := z_mem 238 (by decide +kernel) rfl
theorem zk_X_153 : Cond.methodLink "SpanBoard" 153 zy_O_send ∈ zAll := z_mem 242 (by decide +kernel) rfl
theorem zk_O_22 : Cond.methodLink "SpanBoard$Post" 22 zy_O_isFull ∈ zAll := z_mem 246 (by decide +kernel) rfl
theorem zk_J_31 : Cond.methodLink "SpanBoardLaw" 31 zy_X_read ∈ zAll := z_mem 250 (by decide +kernel) rfl
theorem zk_X_98 : Cond.methodLink "SpanBoard" 98 zy_X_isReader ∈ zAll := z_mem 254 (by decide +kernel) rfl
theorem zk_X_101 : Cond.methodLink "SpanBoard" 101 zy_D_isReading ∈ zAll := z_mem 257 (by decide +kernel) rfl
theorem zk_X_105 : Cond.methodLink "SpanBoard" 105 zy_D_begin ∈ zAll := z_mem 261 (by decide +kernel) rfl
theorem zk_D_27 : Cond.methodLink "SpanBoard$Reader" 27 zy_D_beginRound ∈ zAll := z_mem 265 (by decide +kernel) rfl
theorem zk_X_108 : Cond.methodLink "SpanBoard" 108 zy_X_sendAsks ∈ zAll := z_mem 269 (by decide +kernel) rfl
theorem zk_J_36 : Cond.methodLink "SpanBoardLaw" 36 zy_X_storeAgain ∈ zAll := z_mem 273 (by decide +kernel) rfl
theorem zk_J_41 : Cond.methodLink "SpanBoardLaw" 41 zy_X_askAgain ∈ zAll := z_mem 277 (by decide +kernel) rfl
theorem zk_J_45 : Cond.methodLink "SpanBoardLaw" 45 zy_X_letters ∈ zAll := z_mem 281 (by decide +kernel) rfl
theorem zk_J_50 : Cond.methodLink "SpanBoardLaw" 50 zy_X_letter ∈ zAll := z_mem 285 (by decide +kernel) rfl
theorem zk_X_117 : Cond.methodLink "SpanBoard" 117 zy_O_has ∈ zAll := z_mem 289 (by decide +kernel) rfl
theorem zk_J_54 : Cond.methodLink "SpanBoardLaw" 54 zy_X_deliver ∈ zAll := z_mem 293 (by decide +kernel) rfl
theorem zk_X_139 : Cond.methodLink "SpanBoard" 139 zy_O_take ∈ zAll := z_mem 297 (by decide +kernel) rfl
theorem zk_X_143 : Cond.methodLink "SpanBoard" 143 zy_X_bring ∈ zAll := z_mem 301 (by decide +kernel) rfl
theorem zk_X_216 : Cond.methodLink "SpanBoard" 216 zy_X_bringStore ∈ zAll := z_mem 305 (by decide +kernel) rfl
theorem zk_X_230 : Cond.methodLink "SpanBoard" 230 zy_R_heeds ∈ zAll := z_mem 309 (by decide +kernel) rfl
theorem zk_X_220 : Cond.methodLink "SpanBoard" 220 zy_W_hear ∈ zAll := z_mem 313 (by decide +kernel) rfl
theorem zk_X_223 : Cond.methodLink "SpanBoard" 223 zy_X_bringAsk ∈ zAll := z_mem 317 (by decide +kernel) rfl
theorem zk_X_227 : Cond.methodLink "SpanBoard" 227 zy_X_bringTell ∈ zAll := z_mem 321 (by decide +kernel) rfl
theorem zk_X_233 : Cond.methodLink "SpanBoard" 233 zy_D_hear ∈ zAll := z_mem 325 (by decide +kernel) rfl
theorem zk_D_40 : Cond.methodLink "SpanBoard$Reader" 40 zy_D_isReading ∈ zAll := z_mem 329 (by decide +kernel) rfl
theorem zk_X_236 : Cond.methodLink "SpanBoard" 236 zy_D_findBelieved ∈ zAll := z_mem 330 (by decide +kernel) rfl
theorem zk_D_44 : Cond.methodLink "SpanBoard$Reader" 44 zy_D_countAlike ∈ zAll := z_mem 334 (by decide +kernel) rfl
theorem zk_D_52 : Cond.methodLink "SpanBoard$Reader" 52 zy_P_isLike ∈ zAll := z_mem 338 (by decide +kernel) rfl
theorem zk_D_48 : Cond.methodLink "SpanBoard$Reader" 48 zy_P_isPreferredTo ∈ zAll := z_mem 342 (by decide +kernel) rfl
theorem zk_X_240 : Cond.methodLink "SpanBoard" 240 zy_D_settle ∈ zAll := z_mem 346 (by decide +kernel) rfl
theorem zk_X_243 : Cond.methodLink "SpanBoard" 243 zy_D_beginRound ∈ zAll := z_mem 350 (by decide +kernel) rfl
theorem zk_J_59 : Cond.methodLink "SpanBoardLaw" 59 zy_X_deliverAll ∈ zAll := z_mem 351 (by decide +kernel) rfl
theorem zk_J_63 : Cond.methodLink "SpanBoardLaw" 63 zy_X_lose ∈ zAll := z_mem 355 (by decide +kernel) rfl
theorem zk_J_67 : Cond.methodLink "SpanBoardLaw" 67 zy_X_twin ∈ zAll := z_mem 359 (by decide +kernel) rfl
theorem zk_X_147 : Cond.methodLink "SpanBoard" 147 zy_O_isFull ∈ zAll := z_mem 363 (by decide +kernel) rfl
theorem zk_J_71 : Cond.methodLink "SpanBoardLaw" 71 zy_X_lie ∈ zAll := z_mem 364 (by decide +kernel) rfl
theorem zk_X_157 : Cond.methodLink "SpanBoard" 157 zy_X_isRecorder ∈ zAll := z_mem 368 (by decide +kernel) rfl
theorem zk_X_163 : Cond.methodLink "SpanBoard" 163 zy_X_countLiars ∈ zAll := z_mem 371 (by decide +kernel) rfl
theorem zk_J_75 : Cond.methodLink "SpanBoardLaw" 75 zy_X_tell ∈ zAll := z_mem 375 (by decide +kernel) rfl
theorem zk_X_167 : Cond.methodLink "SpanBoard" 167 zy_X_canLie ∈ zAll := z_mem 379 (by decide +kernel) rfl
theorem zk_J_80 : Cond.methodLink "SpanBoardLaw" 80 zy_X_receipt ∈ zAll := z_mem 383 (by decide +kernel) rfl
theorem zk_J_84 : Cond.methodLink "SpanBoardLaw" 84 zy_X_crash ∈ zAll := z_mem 387 (by decide +kernel) rfl
theorem zk_J_88 : Cond.methodLink "SpanBoardLaw" 88 zy_X_restart ∈ zAll := z_mem 391 (by decide +kernel) rfl
theorem zk_J_92 : Cond.methodLink "SpanBoardLaw" 92 zy_X_forget ∈ zAll := z_mem 395 (by decide +kernel) rfl
theorem zk_X_174 : Cond.methodLink "SpanBoard" 174 zy_W_clearReceipts ∈ zAll := z_mem 399 (by decide +kernel) rfl
theorem zk_J_96 : Cond.methodLink "SpanBoardLaw" 96 zy_X_outcome ∈ zAll := z_mem 400 (by decide +kernel) rfl
theorem zk_J_100 : Cond.methodLink "SpanBoardLaw" 100 zy_X_answered ∈ zAll := z_mem 404 (by decide +kernel) rfl
theorem zk_X_186 : Cond.methodLink "SpanBoard" 186 zy_P_part ∈ zAll := z_mem 408 (by decide +kernel) rfl
theorem zk_J_104 : Cond.methodLink "SpanBoardLaw" 104 zy_X_reader ∈ zAll := z_mem 412 (by decide +kernel) rfl
theorem zk_J_108 : Cond.methodLink "SpanBoardLaw" 108 zy_X_writer ∈ zAll := z_mem 416 (by decide +kernel) rfl
theorem zk_J_112 : Cond.methodLink "SpanBoardLaw" 112 zy_X_held ∈ zAll := z_mem 420 (by decide +kernel) rfl
theorem zk_J_116 : Cond.methodLink "SpanBoardLaw" 116 zy_X_measured ∈ zAll := z_mem 424 (by decide +kernel) rfl
theorem zk_J_120 : Cond.methodLink "SpanBoardLaw" 120 zy_X_alarm ∈ zAll := z_mem 428 (by decide +kernel) rfl
theorem zk_X_204 : Cond.methodLink "SpanBoard" 204 zy_X_isAlarmed ∈ zAll := z_mem 432 (by decide +kernel) rfl
theorem zk_X_207 : Cond.methodLink "SpanBoard" 207 zy_P_spans ∈ zAll := z_mem 436 (by decide +kernel) rfl
theorem zk_J_9 : Cond.methodLink "SpanBoardLaw" 9 zy_J_cell ∈ zAll := z_mem 440 (by decide +kernel) rfl
theorem zk_J_20 : Cond.methodLink "SpanBoardLaw" 20 zy_M_init ∈ zAll := z_mem 445 (by decide +kernel) rfl
theorem zk_M_1 : Cond.methodLink "SpanBoardModel" 1 ⟨"java/lang/Object", "<init>", "()V"⟩ ∈ zAll := z_mem 448 (by decide +kernel) rfl
theorem zl_M_125 {args : Array Value} {s : State} (hts : ∀ w ∈ zAll, w.before args s = true) : (Cond.fieldLink "SpanBoardModel" 125 "SpanBoardModel" "rounds" "I").before args s = true := hts _ (z_mem 449 (by decide +kernel) rfl)
theorem zl_M_7 {args : Array Value} {s : State} (hts : ∀ w ∈ zAll, w.before args s = true) : (Cond.fieldLink "SpanBoardModel" 7 "SpanBoardModel" "hallOf" "[I").before args s = true := hts _ (z_mem 450 (by decide +kernel) rfl)
theorem zl_M_13 {args : Array Value} {s : State} (hts : ∀ w ∈ zAll, w.before args s = true) : (Cond.fieldLink "SpanBoardModel" 13 "SpanBoardModel" "measured" "[Z").before args s = true := hts _ (z_mem 451 (by decide +kernel) rfl)
theorem zl_M_17 {args : Array Value} {s : State} (hts : ∀ w ∈ zAll, w.before args s = true) : (Cond.fieldLink "SpanBoardModel" 17 "SpanBoardModel" "value" "[I").before args s = true := hts _ (z_mem 452 (by decide +kernel) rfl)
theorem zl_M_20 {args : Array Value} {s : State} (hts : ∀ w ∈ zAll, w.before args s = true) : (Cond.fieldLink "SpanBoardModel" 20 "SpanBoardModel" "down" "[Z").before args s = true := hts _ (z_mem 453 (by decide +kernel) rfl)
theorem zl_M_23 {args : Array Value} {s : State} (hts : ∀ w ∈ zAll, w.before args s = true) : (Cond.fieldLink "SpanBoardModel" 23 "SpanBoardModel" "liar" "[Z").before args s = true := hts _ (z_mem 454 (by decide +kernel) rfl)
theorem zl_M_26 {args : Array Value} {s : State} (hts : ∀ w ∈ zAll, w.before args s = true) : (Cond.fieldLink "SpanBoardModel" 26 "SpanBoardModel" "heldNumber" "[I").before args s = true := hts _ (z_mem 455 (by decide +kernel) rfl)
theorem zl_M_29 {args : Array Value} {s : State} (hts : ∀ w ∈ zAll, w.before args s = true) : (Cond.fieldLink "SpanBoardModel" 29 "SpanBoardModel" "heldLow" "[I").before args s = true := hts _ (z_mem 456 (by decide +kernel) rfl)
theorem zl_M_32 {args : Array Value} {s : State} (hts : ∀ w ∈ zAll, w.before args s = true) : (Cond.fieldLink "SpanBoardModel" 32 "SpanBoardModel" "heldHigh" "[I").before args s = true := hts _ (z_mem 457 (by decide +kernel) rfl)
theorem zl_M_35 {args : Array Value} {s : State} (hts : ∀ w ∈ zAll, w.before args s = true) : (Cond.fieldLink "SpanBoardModel" 35 "SpanBoardModel" "writes" "[I").before args s = true := hts _ (z_mem 458 (by decide +kernel) rfl)
theorem zl_M_38 {args : Array Value} {s : State} (hts : ∀ w ∈ zAll, w.before args s = true) : (Cond.fieldLink "SpanBoardModel" 38 "SpanBoardModel" "writesLow" "[I").before args s = true := hts _ (z_mem 459 (by decide +kernel) rfl)
theorem zl_M_41 {args : Array Value} {s : State} (hts : ∀ w ∈ zAll, w.before args s = true) : (Cond.fieldLink "SpanBoardModel" 41 "SpanBoardModel" "writesHigh" "[I").before args s = true := hts _ (z_mem 460 (by decide +kernel) rfl)
theorem zl_M_44 {args : Array Value} {s : State} (hts : ∀ w ∈ zAll, w.before args s = true) : (Cond.fieldLink "SpanBoardModel" 44 "SpanBoardModel" "open" "[Z").before args s = true := hts _ (z_mem 461 (by decide +kernel) rfl)
theorem zl_M_47 {args : Array Value} {s : State} (hts : ∀ w ∈ zAll, w.before args s = true) : (Cond.fieldLink "SpanBoardModel" 47 "SpanBoardModel" "finished" "[I").before args s = true := hts _ (z_mem 462 (by decide +kernel) rfl)
theorem zl_M_50 {args : Array Value} {s : State} (hts : ∀ w ∈ zAll, w.before args s = true) : (Cond.fieldLink "SpanBoardModel" 50 "SpanBoardModel" "receipted" "[Z").before args s = true := hts _ (z_mem 463 (by decide +kernel) rfl)
theorem zl_M_53 {args : Array Value} {s : State} (hts : ∀ w ∈ zAll, w.before args s = true) : (Cond.fieldLink "SpanBoardModel" 53 "SpanBoardModel" "question" "[I").before args s = true := hts _ (z_mem 464 (by decide +kernel) rfl)
theorem zl_M_56 {args : Array Value} {s : State} (hts : ∀ w ∈ zAll, w.before args s = true) : (Cond.fieldLink "SpanBoardModel" 56 "SpanBoardModel" "asks" "[I").before args s = true := hts _ (z_mem 465 (by decide +kernel) rfl)
theorem zl_M_59 {args : Array Value} {s : State} (hts : ∀ w ∈ zAll, w.before args s = true) : (Cond.fieldLink "SpanBoardModel" 59 "SpanBoardModel" "round" "[I").before args s = true := hts _ (z_mem 466 (by decide +kernel) rfl)
theorem zl_M_62 {args : Array Value} {s : State} (hts : ∀ w ∈ zAll, w.before args s = true) : (Cond.fieldLink "SpanBoardModel" 62 "SpanBoardModel" "outcome" "[I").before args s = true := hts _ (z_mem 467 (by decide +kernel) rfl)
theorem zl_M_65 {args : Array Value} {s : State} (hts : ∀ w ∈ zAll, w.before args s = true) : (Cond.fieldLink "SpanBoardModel" 65 "SpanBoardModel" "told" "[Z").before args s = true := hts _ (z_mem 468 (by decide +kernel) rfl)
theorem zl_M_68 {args : Array Value} {s : State} (hts : ∀ w ∈ zAll, w.before args s = true) : (Cond.fieldLink "SpanBoardModel" 68 "SpanBoardModel" "toldNumber" "[I").before args s = true := hts _ (z_mem 469 (by decide +kernel) rfl)
theorem zl_M_71 {args : Array Value} {s : State} (hts : ∀ w ∈ zAll, w.before args s = true) : (Cond.fieldLink "SpanBoardModel" 71 "SpanBoardModel" "toldLow" "[I").before args s = true := hts _ (z_mem 470 (by decide +kernel) rfl)
theorem zl_M_74 {args : Array Value} {s : State} (hts : ∀ w ∈ zAll, w.before args s = true) : (Cond.fieldLink "SpanBoardModel" 74 "SpanBoardModel" "toldHigh" "[I").before args s = true := hts _ (z_mem 471 (by decide +kernel) rfl)
theorem zl_M_77 {args : Array Value} {s : State} (hts : ∀ w ∈ zAll, w.before args s = true) : (Cond.fieldLink "SpanBoardModel" 77 "SpanBoardModel" "knownNumber" "[I").before args s = true := hts _ (z_mem 472 (by decide +kernel) rfl)
theorem zl_M_80 {args : Array Value} {s : State} (hts : ∀ w ∈ zAll, w.before args s = true) : (Cond.fieldLink "SpanBoardModel" 80 "SpanBoardModel" "knownLow" "[I").before args s = true := hts _ (z_mem 473 (by decide +kernel) rfl)
theorem zl_M_83 {args : Array Value} {s : State} (hts : ∀ w ∈ zAll, w.before args s = true) : (Cond.fieldLink "SpanBoardModel" 83 "SpanBoardModel" "knownHigh" "[I").before args s = true := hts _ (z_mem 474 (by decide +kernel) rfl)
theorem zl_M_86 {args : Array Value} {s : State} (hts : ∀ w ∈ zAll, w.before args s = true) : (Cond.fieldLink "SpanBoardModel" 86 "SpanBoardModel" "hasAnswered" "[Z").before args s = true := hts _ (z_mem 475 (by decide +kernel) rfl)
theorem zl_M_89 {args : Array Value} {s : State} (hts : ∀ w ∈ zAll, w.before args s = true) : (Cond.fieldLink "SpanBoardModel" 89 "SpanBoardModel" "answered" "[I").before args s = true := hts _ (z_mem 476 (by decide +kernel) rfl)
theorem zl_M_92 {args : Array Value} {s : State} (hts : ∀ w ∈ zAll, w.before args s = true) : (Cond.fieldLink "SpanBoardModel" 92 "SpanBoardModel" "seen" "[Z").before args s = true := hts _ (z_mem 477 (by decide +kernel) rfl)
theorem zl_M_95 {args : Array Value} {s : State} (hts : ∀ w ∈ zAll, w.before args s = true) : (Cond.fieldLink "SpanBoardModel" 95 "SpanBoardModel" "seenLow" "[I").before args s = true := hts _ (z_mem 478 (by decide +kernel) rfl)
theorem zl_M_98 {args : Array Value} {s : State} (hts : ∀ w ∈ zAll, w.before args s = true) : (Cond.fieldLink "SpanBoardModel" 98 "SpanBoardModel" "seenHigh" "[I").before args s = true := hts _ (z_mem 479 (by decide +kernel) rfl)
theorem zl_M_133 {args : Array Value} {s : State} (hts : ∀ w ∈ zAll, w.before args s = true) : (Cond.fieldLink "SpanBoardModel" 133 "SpanBoardModel" "letters" "I").before args s = true := hts _ (z_mem 480 (by decide +kernel) rfl)
theorem zl_M_101 {args : Array Value} {s : State} (hts : ∀ w ∈ zAll, w.before args s = true) : (Cond.fieldLink "SpanBoardModel" 101 "SpanBoardModel" "kind" "[I").before args s = true := hts _ (z_mem 481 (by decide +kernel) rfl)
theorem zl_M_104 {args : Array Value} {s : State} (hts : ∀ w ∈ zAll, w.before args s = true) : (Cond.fieldLink "SpanBoardModel" 104 "SpanBoardModel" "recorder" "[I").before args s = true := hts _ (z_mem 482 (by decide +kernel) rfl)
theorem zl_M_107 {args : Array Value} {s : State} (hts : ∀ w ∈ zAll, w.before args s = true) : (Cond.fieldLink "SpanBoardModel" 107 "SpanBoardModel" "point" "[I").before args s = true := hts _ (z_mem 483 (by decide +kernel) rfl)
theorem zl_M_110 {args : Array Value} {s : State} (hts : ∀ w ∈ zAll, w.before args s = true) : (Cond.fieldLink "SpanBoardModel" 110 "SpanBoardModel" "reader" "[I").before args s = true := hts _ (z_mem 484 (by decide +kernel) rfl)
theorem zl_M_113 {args : Array Value} {s : State} (hts : ∀ w ∈ zAll, w.before args s = true) : (Cond.fieldLink "SpanBoardModel" 113 "SpanBoardModel" "number" "[I").before args s = true := hts _ (z_mem 485 (by decide +kernel) rfl)
theorem zl_M_116 {args : Array Value} {s : State} (hts : ∀ w ∈ zAll, w.before args s = true) : (Cond.fieldLink "SpanBoardModel" 116 "SpanBoardModel" "pairNumber" "[I").before args s = true := hts _ (z_mem 486 (by decide +kernel) rfl)
theorem zl_M_119 {args : Array Value} {s : State} (hts : ∀ w ∈ zAll, w.before args s = true) : (Cond.fieldLink "SpanBoardModel" 119 "SpanBoardModel" "pairLow" "[I").before args s = true := hts _ (z_mem 487 (by decide +kernel) rfl)
theorem zl_M_122 {args : Array Value} {s : State} (hts : ∀ w ∈ zAll, w.before args s = true) : (Cond.fieldLink "SpanBoardModel" 122 "SpanBoardModel" "pairHigh" "[I").before args s = true := hts _ (z_mem 488 (by decide +kernel) rfl)
theorem zk_J_25 : Cond.methodLink "SpanBoardLaw" 25 zy_M_hall ∈ zAll := z_mem 570 (by decide +kernel) rfl
theorem zk_M_129 : Cond.methodLink "SpanBoardModel" 129 zy_M_below ∈ zAll := z_mem 574 (by decide +kernel) rfl
theorem zk_J_49 : Cond.methodLink "SpanBoardLaw" 49 zy_M_letters ∈ zAll := z_mem 577 (by decide +kernel) rfl
theorem zk_J_53 : Cond.methodLink "SpanBoardLaw" 53 zy_M_letter ∈ zAll := z_mem 581 (by decide +kernel) rfl
theorem zk_J_66 : Cond.methodLink "SpanBoardLaw" 66 zy_M_lose ∈ zAll := z_mem 585 (by decide +kernel) rfl
theorem zk_M_144 : Cond.methodLink "SpanBoardModel" 144 zy_M_takeOut ∈ zAll := z_mem 589 (by decide +kernel) rfl
theorem zk_M_140 : Cond.methodLink "SpanBoardModel" 140 zy_M_copyLetter ∈ zAll := z_mem 593 (by decide +kernel) rfl
theorem zk_J_70 : Cond.methodLink "SpanBoardLaw" 70 zy_M_twin ∈ zAll := z_mem 597 (by decide +kernel) rfl
theorem zk_J_30 : Cond.methodLink "SpanBoardLaw" 30 zy_M_write ∈ zAll := z_mem 601 (by decide +kernel) rfl
theorem zk_M_148 : Cond.methodLink "SpanBoardModel" 148 zy_M_storeTo ∈ zAll := z_mem 605 (by decide +kernel) rfl
theorem zk_M_136 : Cond.methodLink "SpanBoardModel" 136 zy_M_send ∈ zAll := z_mem 609 (by decide +kernel) rfl
theorem zk_J_40 : Cond.methodLink "SpanBoardLaw" 40 zy_M_storeAgain ∈ zAll := z_mem 613 (by decide +kernel) rfl
theorem zk_J_95 : Cond.methodLink "SpanBoardLaw" 95 zy_M_forget ∈ zAll := z_mem 617 (by decide +kernel) rfl
theorem zk_J_35 : Cond.methodLink "SpanBoardLaw" 35 zy_M_read ∈ zAll := z_mem 621 (by decide +kernel) rfl
theorem zk_M_155 : Cond.methodLink "SpanBoardModel" 155 zy_M_askAll ∈ zAll := z_mem 625 (by decide +kernel) rfl
theorem zk_J_44 : Cond.methodLink "SpanBoardLaw" 44 zy_M_askAgain ∈ zAll := z_mem 629 (by decide +kernel) rfl
theorem zk_J_58 : Cond.methodLink "SpanBoardLaw" 58 zy_M_deliver ∈ zAll := z_mem 633 (by decide +kernel) rfl
theorem zk_M_190 : Cond.methodLink "SpanBoardModel" 190 zy_M_comes ∈ zAll := z_mem 637 (by decide +kernel) rfl
theorem zk_M_177 : Cond.methodLink "SpanBoardModel" 177 zy_M_storeComes ∈ zAll := z_mem 641 (by decide +kernel) rfl
theorem zk_M_180 : Cond.methodLink "SpanBoardModel" 180 zy_M_receiptComes ∈ zAll := z_mem 645 (by decide +kernel) rfl
theorem zk_M_151 : Cond.methodLink "SpanBoardModel" 151 zy_M_receipts ∈ zAll := z_mem 649 (by decide +kernel) rfl
theorem zk_M_184 : Cond.methodLink "SpanBoardModel" 184 zy_M_sendTell ∈ zAll := z_mem 653 (by decide +kernel) rfl
theorem zk_M_187 : Cond.methodLink "SpanBoardModel" 187 zy_M_tellComes ∈ zAll := z_mem 657 (by decide +kernel) rfl
theorem zk_M_171 : Cond.methodLink "SpanBoardModel" 171 zy_M_answers ∈ zAll := z_mem 661 (by decide +kernel) rfl
theorem zk_M_174 : Cond.methodLink "SpanBoardModel" 174 zy_M_looks ∈ zAll := z_mem 665 (by decide +kernel) rfl
theorem zk_M_162 : Cond.methodLink "SpanBoardModel" 162 zy_M_believed ∈ zAll := z_mem 669 (by decide +kernel) rfl
theorem zk_M_159 : Cond.methodLink "SpanBoardModel" 159 zy_M_same ∈ zAll := z_mem 673 (by decide +kernel) rfl
theorem zk_M_165 : Cond.methodLink "SpanBoardModel" 165 zy_M_better ∈ zAll := z_mem 677 (by decide +kernel) rfl
theorem zk_M_168 : Cond.methodLink "SpanBoardModel" 168 zy_M_answer ∈ zAll := z_mem 681 (by decide +kernel) rfl
theorem zk_J_62 : Cond.methodLink "SpanBoardLaw" 62 zy_M_deliverAll ∈ zAll := z_mem 685 (by decide +kernel) rfl
theorem zk_M_193 : Cond.methodLink "SpanBoardModel" 193 zy_M_deliver ∈ zAll := z_mem 689 (by decide +kernel) rfl
theorem zk_J_74 : Cond.methodLink "SpanBoardLaw" 74 zy_M_lie ∈ zAll := z_mem 690 (by decide +kernel) rfl
theorem zk_J_79 : Cond.methodLink "SpanBoardLaw" 79 zy_M_tell ∈ zAll := z_mem 694 (by decide +kernel) rfl
theorem zk_M_196 : Cond.methodLink "SpanBoardModel" 196 zy_M_lies ∈ zAll := z_mem 698 (by decide +kernel) rfl
theorem zk_J_83 : Cond.methodLink "SpanBoardLaw" 83 zy_M_receipt ∈ zAll := z_mem 702 (by decide +kernel) rfl
theorem zk_J_87 : Cond.methodLink "SpanBoardLaw" 87 zy_M_crash ∈ zAll := z_mem 706 (by decide +kernel) rfl
theorem zk_J_91 : Cond.methodLink "SpanBoardLaw" 91 zy_M_restart ∈ zAll := z_mem 710 (by decide +kernel) rfl
theorem zk_J_99 : Cond.methodLink "SpanBoardLaw" 99 zy_M_outcome ∈ zAll := z_mem 714 (by decide +kernel) rfl
theorem zk_J_103 : Cond.methodLink "SpanBoardLaw" 103 zy_M_answered ∈ zAll := z_mem 718 (by decide +kernel) rfl
theorem zk_J_107 : Cond.methodLink "SpanBoardLaw" 107 zy_M_reader ∈ zAll := z_mem 722 (by decide +kernel) rfl
theorem zk_J_111 : Cond.methodLink "SpanBoardLaw" 111 zy_M_writer ∈ zAll := z_mem 726 (by decide +kernel) rfl
theorem zk_J_115 : Cond.methodLink "SpanBoardLaw" 115 zy_M_held ∈ zAll := z_mem 730 (by decide +kernel) rfl
theorem zk_J_119 : Cond.methodLink "SpanBoardLaw" 119 zy_M_measured ∈ zAll := z_mem 734 (by decide +kernel) rfl
theorem zk_J_123 : Cond.methodLink "SpanBoardLaw" 123 zy_M_alarm ∈ zAll := z_mem 738 (by decide +kernel) rfl
theorem zk_M_199 : Cond.methodLink "SpanBoardModel" 199 zy_M_alarming ∈ zAll := z_mem 742 (by decide +kernel) rfl
