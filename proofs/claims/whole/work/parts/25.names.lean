/-! names of the system, by program (wip/whole/tools/gen_tables.py): classes, fields, words, methods -/
def kF_Dk : u_T := fun k => match k with
  | 0 => ("DirectoryDesk", "in", "LDirectoryDesk$Reader;", true)
  | 1 => ("DirectoryDesk", "out", "LDirectoryDesk$Writer;", true)
  | 2 => ("DirectoryDesk", "tree", "LDirectoryDesk$Tree;", true)
  | 3 => ("DirectoryDesk", "target", "LDirectoryDesk$Name;", true)
  | 4 => ("DirectoryDesk", "changes", "LDirectoryDesk$Changes;", true)
  | 5 => ("DirectoryDesk", "query", "LDirectoryDesk$Query;", true)
  | 6 => ("DirectoryDesk", "filters", "LDirectoryDesk$Filters;", true)
  | 7 => ("DirectoryDesk", "draft", "LDirectoryDesk$Pairs;", true)
  | 8 => ("DirectoryDesk", "lineOpen", "Z", false)
  | _ => ("DirectoryDesk", "signedOn", "Z", false)
def kty_Dk : Nat → FieldType := fun k => match k with
  | 0 => .object "DirectoryDesk$Reader"
  | 1 => .object "DirectoryDesk$Writer"
  | 2 => .object "DirectoryDesk$Tree"
  | 3 => .object "DirectoryDesk$Name"
  | 4 => .object "DirectoryDesk$Changes"
  | 5 => .object "DirectoryDesk$Query"
  | 6 => .object "DirectoryDesk$Filters"
  | 7 => .object "DirectoryDesk$Pairs"
  | 8 => .boolean
  | _ => .boolean
def kF_Rd : u_T := fun k => match k with
  | 0 => ("DirectoryDesk$Reader", "bytes", "[I", true)
  | 1 => ("DirectoryDesk$Reader", "size", "I", false)
  | 2 => ("DirectoryDesk$Reader", "at", "I", false)
  | 3 => ("DirectoryDesk$Reader", "end", "I", false)
  | 4 => ("DirectoryDesk$Reader", "wrong", "Z", false)
  | 5 => ("DirectoryDesk$Reader", "id", "I", false)
  | 6 => ("DirectoryDesk$Reader", "spanFrom", "I", false)
  | _ => ("DirectoryDesk$Reader", "spanTo", "I", false)
def kty_Rd : Nat → FieldType := fun k => match k with
  | 0 => .array .int
  | 1 => .int
  | 2 => .int
  | 3 => .int
  | 4 => .boolean
  | 5 => .int
  | 6 => .int
  | _ => .int
def kF_Wr : u_T := fun k => match k with
  | 0 => ("DirectoryDesk$Writer", "bytes", "[I", true)
  | _ => ("DirectoryDesk$Writer", "size", "I", false)
def kty_Wr : Nat → FieldType := fun k => match k with
  | 0 => .array .int
  | _ => .int
def kF_Tr : u_T := fun k => match k with
  | 0 => ("DirectoryDesk$Tree", "rows", "[LDirectoryDesk$Entry;", true)
  | _ => ("DirectoryDesk$Tree", "count", "I", false)
def kty_Tr : Nat → FieldType := fun k => match k with
  | 0 => .array (.object "DirectoryDesk$Entry")
  | _ => .int
def kF_En : u_T := fun k => match k with
  | 0 => ("DirectoryDesk$Entry", "name", "LDirectoryDesk$Name;", true)
  | _ => ("DirectoryDesk$Entry", "pairs", "LDirectoryDesk$Pairs;", true)
def kty_En : Nat → FieldType := fun k => match k with
  | 0 => .object "DirectoryDesk$Name"
  | _ => .object "DirectoryDesk$Pairs"
def kF_Nm : u_T := fun k => match k with
  | 0 => ("DirectoryDesk$Name", "types", "[I", true)
  | 1 => ("DirectoryDesk$Name", "values", "[J", true)
  | _ => ("DirectoryDesk$Name", "parts", "I", false)
def kty_Nm : Nat → FieldType := fun k => match k with
  | 0 => .array .int
  | 1 => .array .long
  | _ => .int
def kF_Pa : u_T := fun k => match k with
  | 0 => ("DirectoryDesk$Pairs", "types", "[I", true)
  | 1 => ("DirectoryDesk$Pairs", "values", "[J", true)
  | _ => ("DirectoryDesk$Pairs", "count", "I", false)
def kty_Pa : Nat → FieldType := fun k => match k with
  | 0 => .array .int
  | 1 => .array .long
  | _ => .int
def kF_Ch : u_T := fun k => match k with
  | 0 => ("DirectoryDesk$Changes", "kinds", "[I", true)
  | 1 => ("DirectoryDesk$Changes", "types", "[I", true)
  | 2 => ("DirectoryDesk$Changes", "valueEnds", "[I", true)
  | 3 => ("DirectoryDesk$Changes", "values", "[J", true)
  | 4 => ("DirectoryDesk$Changes", "count", "I", false)
  | _ => ("DirectoryDesk$Changes", "valueCount", "I", false)
def kty_Ch : Nat → FieldType := fun k => match k with
  | 0 => .array .int
  | 1 => .array .int
  | 2 => .array .int
  | 3 => .array .long
  | 4 => .int
  | _ => .int
def kF_Qu : u_T := fun k => match k with
  | 0 => ("DirectoryDesk$Query", "scope", "I", false)
  | 1 => ("DirectoryDesk$Query", "limit", "I", false)
  | 2 => ("DirectoryDesk$Query", "typesAlone", "Z", false)
  | _ => ("DirectoryDesk$Query", "wantedTypes", "I", false)
def kty_Qu : Nat → FieldType := fun k => match k with
  | 0 => .int
  | 1 => .int
  | 2 => .boolean
  | _ => .int
def kF_Fi : u_T := fun k => match k with
  | 0 => ("DirectoryDesk$Filters", "kinds", "[I", true)
  | 1 => ("DirectoryDesk$Filters", "types", "[I", true)
  | 2 => ("DirectoryDesk$Filters", "values", "[J", true)
  | 3 => ("DirectoryDesk$Filters", "ends", "[I", true)
  | _ => ("DirectoryDesk$Filters", "count", "I", false)
def kty_Fi : Nat → FieldType := fun k => match k with
  | 0 => .array .int
  | 1 => .array .int
  | 2 => .array .long
  | 3 => .array .int
  | _ => .int
def kF_Md : u_T := fun k => match k with
  | 0 => ("DirectoryDeskModel", "closed", "Z", false)
  | 1 => ("DirectoryDeskModel", "signed", "Z", false)
  | 2 => ("DirectoryDeskModel", "typed", "[I", true)
  | 3 => ("DirectoryDeskModel", "count", "I", false)
  | 4 => ("DirectoryDeskModel", "out", "[I", true)
  | 5 => ("DirectoryDeskModel", "size", "I", false)
  | 6 => ("DirectoryDeskModel", "entries", "I", false)
  | 7 => ("DirectoryDeskModel", "parts", "[I", true)
  | 8 => ("DirectoryDeskModel", "partType", "[I", true)
  | 9 => ("DirectoryDeskModel", "partValue", "[J", true)
  | 10 => ("DirectoryDeskModel", "pairs", "[I", true)
  | 11 => ("DirectoryDeskModel", "pairType", "[I", true)
  | 12 => ("DirectoryDeskModel", "pairValue", "[J", true)
  | 13 => ("DirectoryDeskModel", "tag", "I", false)
  | 14 => ("DirectoryDeskModel", "start", "I", false)
  | 15 => ("DirectoryDeskModel", "end", "I", false)
  | 16 => ("DirectoryDeskModel", "id", "I", false)
  | 17 => ("DirectoryDeskModel", "operation", "I", false)
  | 18 => ("DirectoryDeskModel", "from", "I", false)
  | 19 => ("DirectoryDeskModel", "to", "I", false)
  | 20 => ("DirectoryDeskModel", "nameParts", "I", false)
  | 21 => ("DirectoryDeskModel", "nameType", "[I", true)
  | 22 => ("DirectoryDeskModel", "nameValue", "[J", true)
  | 23 => ("DirectoryDeskModel", "nameAt", "I", false)
  | 24 => ("DirectoryDeskModel", "nameEnd", "I", false)
  | 25 => ("DirectoryDeskModel", "version", "I", false)
  | 26 => ("DirectoryDeskModel", "wordAt", "I", false)
  | 27 => ("DirectoryDeskModel", "wordEnd", "I", false)
  | 28 => ("DirectoryDeskModel", "scope", "I", false)
  | 29 => ("DirectoryDeskModel", "limit", "I", false)
  | 30 => ("DirectoryDeskModel", "bare", "Z", false)
  | 31 => ("DirectoryDeskModel", "wanted", "I", false)
  | 32 => ("DirectoryDeskModel", "wants", "I", false)
  | 33 => ("DirectoryDeskModel", "attributes", "I", false)
  | 34 => ("DirectoryDeskModel", "kind", "[I", true)
  | 35 => ("DirectoryDeskModel", "attributeType", "[I", true)
  | 36 => ("DirectoryDeskModel", "firstValue", "[I", true)
  | 37 => ("DirectoryDeskModel", "valueCount", "[I", true)
  | 38 => ("DirectoryDeskModel", "values", "I", false)
  | 39 => ("DirectoryDeskModel", "value", "[J", true)
  | 40 => ("DirectoryDeskModel", "filters", "I", false)
  | 41 => ("DirectoryDeskModel", "what", "[I", true)
  | 42 => ("DirectoryDeskModel", "around", "[I", true)
  | 43 => ("DirectoryDeskModel", "filterType", "[I", true)
  | 44 => ("DirectoryDeskModel", "filterValue", "[J", true)
  | 45 => ("DirectoryDeskModel", "verdict", "[I", true)
  | 46 => ("DirectoryDeskModel", "deep", "I", false)
  | 47 => ("DirectoryDeskModel", "openEnd", "[I", true)
  | 48 => ("DirectoryDeskModel", "openFilter", "[I", true)
  | 49 => ("DirectoryDeskModel", "works", "I", false)
  | 50 => ("DirectoryDeskModel", "workType", "[I", true)
  | _ => ("DirectoryDeskModel", "workValue", "[J", true)
def kty_Md : Nat → FieldType := fun k => match k with
  | 0 => .boolean
  | 1 => .boolean
  | 2 => .array .int
  | 3 => .int
  | 4 => .array .int
  | 5 => .int
  | 6 => .int
  | 7 => .array .int
  | 8 => .array .int
  | 9 => .array .long
  | 10 => .array .int
  | 11 => .array .int
  | 12 => .array .long
  | 13 => .int
  | 14 => .int
  | 15 => .int
  | 16 => .int
  | 17 => .int
  | 18 => .int
  | 19 => .int
  | 20 => .int
  | 21 => .array .int
  | 22 => .array .long
  | 23 => .int
  | 24 => .int
  | 25 => .int
  | 26 => .int
  | 27 => .int
  | 28 => .int
  | 29 => .int
  | 30 => .boolean
  | 31 => .int
  | 32 => .int
  | 33 => .int
  | 34 => .array .int
  | 35 => .array .int
  | 36 => .array .int
  | 37 => .array .int
  | 38 => .int
  | 39 => .array .long
  | 40 => .int
  | 41 => .array .int
  | 42 => .array .int
  | 43 => .array .int
  | 44 => .array .long
  | 45 => .array .int
  | 46 => .int
  | 47 => .array .int
  | 48 => .array .int
  | 49 => .int
  | 50 => .array .int
  | _ => .array .long
abbrev kt_cl : List vw_C := [("DirectoryDesk", kF_Dk, 10), ("DirectoryDesk$Reader", kF_Rd, 8), ("DirectoryDesk$Writer", kF_Wr, 2), ("DirectoryDesk$Tree", kF_Tr, 2), ("DirectoryDesk$Entry", kF_En, 2), ("DirectoryDesk$Name", kF_Nm, 3), ("DirectoryDesk$Pairs", kF_Pa, 3), ("DirectoryDesk$Changes", kF_Ch, 6), ("DirectoryDesk$Query", kF_Qu, 4), ("DirectoryDesk$Filters", kF_Fi, 5), ("DirectoryDeskModel", kF_Md, 52)]
def kt_En : String := "DirectoryDesk$Entry"
def kw_A : List Cond := lw_tbl.filter goodWord
def kw_N : List Cond := [.methodLinkNest "DirectoryDesk" 9 ⟨"DirectoryDesk$Reader", "<init>", "()V"⟩ "DirectoryDesk", .methodLinkNest "DirectoryDesk" 18 ⟨"DirectoryDesk$Writer", "<init>", "()V"⟩ "DirectoryDesk", .arrayOver (FieldType.object "DirectoryDesk$Entry"), .methodLinkNest "DirectoryDesk$Tree" 17 ⟨"DirectoryDesk$Entry", "<init>", "()V"⟩ "DirectoryDesk", .methodLinkNest "DirectoryDesk$Entry" 11 ⟨"DirectoryDesk$Name", "<init>", "()V"⟩ "DirectoryDesk", .methodLinkNest "DirectoryDesk" 32 ⟨"DirectoryDesk$Name", "<init>", "()V"⟩ "DirectoryDesk", .methodLinkNest "DirectoryDesk" 39 ⟨"DirectoryDesk$Changes", "<init>", "()V"⟩ "DirectoryDesk", .methodLinkNest "DirectoryDesk" 46 ⟨"DirectoryDesk$Query", "<init>", "()V"⟩ "DirectoryDesk", .methodLinkNest "DirectoryDesk" 53 ⟨"DirectoryDesk$Filters", "<init>", "()V"⟩ "DirectoryDesk"]
theorem kw1 (n : Nat) {w : Cond} (h : tables_1_1[n]? = some w) (hg : goodWord w = true) : w ∈ kw_A := List.mem_filter.mpr ⟨List.mem_append_right _ (show w ∈ tables_1 from List.mem_append_left _ (List.mem_of_getElem? h)), hg⟩
theorem kw2 (n : Nat) {w : Cond} (h : tables_1_2[n]? = some w) (hg : goodWord w = true) : w ∈ kw_A := List.mem_filter.mpr ⟨List.mem_append_right _ (show w ∈ tables_1 from List.mem_append_right _ (List.mem_append_left _ (List.mem_of_getElem? h))), hg⟩
theorem kw3 (n : Nat) {w : Cond} (h : tables_1_3[n]? = some w) (hg : goodWord w = true) : w ∈ kw_A := List.mem_filter.mpr ⟨List.mem_append_right _ (show w ∈ tables_1 from List.mem_append_right _ (List.mem_append_right _ (List.mem_append_left _ (List.mem_of_getElem? h)))), hg⟩
theorem kw4 (n : Nat) {w : Cond} (h : tables_1_4[n]? = some w) (hg : goodWord w = true) : w ∈ kw_A := List.mem_filter.mpr ⟨List.mem_append_right _ (show w ∈ tables_1 from List.mem_append_right _ (List.mem_append_right _ (List.mem_append_right _ (List.mem_append_left _ (List.mem_of_getElem? h))))), hg⟩
theorem kw5 (n : Nat) {w : Cond} (h : tables_1_5[n]? = some w) (hg : goodWord w = true) : w ∈ kw_A := List.mem_filter.mpr ⟨List.mem_append_right _ (show w ∈ tables_1 from List.mem_append_right _ (List.mem_append_right _ (List.mem_append_right _ (List.mem_append_right _ (List.mem_of_getElem? h))))), hg⟩
theorem kwp (n : Nat) {w : Cond} (h : (k2_sels lw_privs)[n]? = some w) (hg : goodWord w = true) : w ∈ kw_A := List.mem_filter.mpr ⟨List.mem_append_left _ (List.mem_of_getElem? h), hg⟩
theorem kw_g : GoodIn kw_A kw_A := fun w hw => ⟨hw, good_of_word (List.mem_filter.mp hw).2⟩
theorem kw_o : kc_okN kw_N := List.forall_mem_cons.mpr ⟨fun _ _ hW hZ => va_Nw.warmM hW hZ, List.forall_mem_cons.mpr ⟨fun _ _ hW hZ => va_Nw.warmM hW hZ, List.forall_mem_cons.mpr ⟨fun _ _ hW hZ => va_AO.moved hW.alike hZ, List.forall_mem_cons.mpr ⟨fun _ _ hW hZ => va_Nw.warmM hW hZ, List.forall_mem_cons.mpr ⟨fun _ _ hW hZ => va_Nw.warmM hW hZ, List.forall_mem_cons.mpr ⟨fun _ _ hW hZ => va_Nw.warmM hW hZ, List.forall_mem_cons.mpr ⟨fun _ _ hW hZ => va_Nw.warmM hW hZ, List.forall_mem_cons.mpr ⟨fun _ _ hW hZ => va_Nw.warmM hW hZ, List.forall_mem_cons.mpr ⟨fun _ _ hW hZ => va_Nw.warmM hW hZ, fun _ h => absurd h List.not_mem_nil⟩⟩⟩⟩⟩⟩⟩⟩⟩
set_option maxRecDepth 100000 in
theorem knm_Dk : ∀ a, a < 10 → ∀ b, b < 10 → a ≠ b → (kF_Dk a).2.1 ≠ (kF_Dk b).2.1 := by decide +kernel
theorem ktk_Dk : ∀ k, k < 10 → parseFieldDescriptor (kF_Dk k).2.2.1 = some (kty_Dk k) := by decide +kernel
set_option maxRecDepth 100000 in
theorem kin_Dk : ∀ w ∈ u_ws "DirectoryDesk" kF_Dk 10, w ∈ kw_A := (show ∀ w ∈ [Cond.laysFinal "DirectoryDesk" "DirectoryDesk" "in" "LDirectoryDesk$Reader;", Cond.laysFinal "DirectoryDesk" "DirectoryDesk" "out" "LDirectoryDesk$Writer;", Cond.laysFinal "DirectoryDesk" "DirectoryDesk" "tree" "LDirectoryDesk$Tree;", Cond.laysFinal "DirectoryDesk" "DirectoryDesk" "target" "LDirectoryDesk$Name;", Cond.laysFinal "DirectoryDesk" "DirectoryDesk" "changes" "LDirectoryDesk$Changes;", Cond.laysFinal "DirectoryDesk" "DirectoryDesk" "query" "LDirectoryDesk$Query;", Cond.laysFinal "DirectoryDesk" "DirectoryDesk" "filters" "LDirectoryDesk$Filters;", Cond.laysFinal "DirectoryDesk" "DirectoryDesk" "draft" "LDirectoryDesk$Pairs;", Cond.lays "DirectoryDesk" "DirectoryDesk" "lineOpen" "Z", Cond.lays "DirectoryDesk" "DirectoryDesk" "signedOn" "Z"], w ∈ kw_A from List.forall_mem_cons.mpr ⟨(kw2 10 rfl rfl), List.forall_mem_cons.mpr ⟨(kw2 12 rfl rfl), List.forall_mem_cons.mpr ⟨(kw2 14 rfl rfl), List.forall_mem_cons.mpr ⟨(kw2 16 rfl rfl), List.forall_mem_cons.mpr ⟨(kw2 18 rfl rfl), List.forall_mem_cons.mpr ⟨(kw2 20 rfl rfl), List.forall_mem_cons.mpr ⟨(kw2 22 rfl rfl), List.forall_mem_cons.mpr ⟨(kw2 24 rfl rfl), List.forall_mem_cons.mpr ⟨(kw2 26 rfl rfl), List.forall_mem_cons.mpr ⟨(kw2 28 rfl rfl), fun _ h => absurd h List.not_mem_nil⟩⟩⟩⟩⟩⟩⟩⟩⟩⟩)
set_option maxRecDepth 100000 in
theorem knm_Rd : ∀ a, a < 8 → ∀ b, b < 8 → a ≠ b → (kF_Rd a).2.1 ≠ (kF_Rd b).2.1 := by decide +kernel
theorem ktk_Rd : ∀ k, k < 8 → parseFieldDescriptor (kF_Rd k).2.2.1 = some (kty_Rd k) := by decide +kernel
set_option maxRecDepth 100000 in
theorem kin_Rd : ∀ w ∈ u_ws "DirectoryDesk$Reader" kF_Rd 8, w ∈ kw_A := (show ∀ w ∈ [Cond.laysFinal "DirectoryDesk$Reader" "DirectoryDesk$Reader" "bytes" "[I", Cond.lays "DirectoryDesk$Reader" "DirectoryDesk$Reader" "size" "I", Cond.lays "DirectoryDesk$Reader" "DirectoryDesk$Reader" "at" "I", Cond.lays "DirectoryDesk$Reader" "DirectoryDesk$Reader" "end" "I", Cond.lays "DirectoryDesk$Reader" "DirectoryDesk$Reader" "wrong" "Z", Cond.lays "DirectoryDesk$Reader" "DirectoryDesk$Reader" "id" "I", Cond.lays "DirectoryDesk$Reader" "DirectoryDesk$Reader" "spanFrom" "I", Cond.lays "DirectoryDesk$Reader" "DirectoryDesk$Reader" "spanTo" "I"], w ∈ kw_A from List.forall_mem_cons.mpr ⟨(kw1 45 rfl rfl), List.forall_mem_cons.mpr ⟨(kw1 47 rfl rfl), List.forall_mem_cons.mpr ⟨(kw1 49 rfl rfl), List.forall_mem_cons.mpr ⟨(kw1 51 rfl rfl), List.forall_mem_cons.mpr ⟨(kw1 53 rfl rfl), List.forall_mem_cons.mpr ⟨(kw1 55 rfl rfl), List.forall_mem_cons.mpr ⟨(kw1 57 rfl rfl), List.forall_mem_cons.mpr ⟨(kw1 59 rfl rfl), fun _ h => absurd h List.not_mem_nil⟩⟩⟩⟩⟩⟩⟩⟩)
set_option maxRecDepth 100000 in
theorem knm_Wr : ∀ a, a < 2 → ∀ b, b < 2 → a ≠ b → (kF_Wr a).2.1 ≠ (kF_Wr b).2.1 := by decide +kernel
theorem ktk_Wr : ∀ k, k < 2 → parseFieldDescriptor (kF_Wr k).2.2.1 = some (kty_Wr k) := by decide +kernel
set_option maxRecDepth 100000 in
theorem kin_Wr : ∀ w ∈ u_ws "DirectoryDesk$Writer" kF_Wr 2, w ∈ kw_A := (show ∀ w ∈ [Cond.laysFinal "DirectoryDesk$Writer" "DirectoryDesk$Writer" "bytes" "[I", Cond.lays "DirectoryDesk$Writer" "DirectoryDesk$Writer" "size" "I"], w ∈ kw_A from List.forall_mem_cons.mpr ⟨(kw1 73 rfl rfl), List.forall_mem_cons.mpr ⟨(kw1 75 rfl rfl), fun _ h => absurd h List.not_mem_nil⟩⟩)
set_option maxRecDepth 100000 in
theorem knm_Tr : ∀ a, a < 2 → ∀ b, b < 2 → a ≠ b → (kF_Tr a).2.1 ≠ (kF_Tr b).2.1 := by decide +kernel
theorem ktk_Tr : ∀ k, k < 2 → parseFieldDescriptor (kF_Tr k).2.2.1 = some (kty_Tr k) := by decide +kernel
set_option maxRecDepth 100000 in
theorem kin_Tr : ∀ w ∈ u_ws "DirectoryDesk$Tree" kF_Tr 2, w ∈ kw_A := (show ∀ w ∈ [Cond.laysFinal "DirectoryDesk$Tree" "DirectoryDesk$Tree" "rows" "[LDirectoryDesk$Entry;", Cond.lays "DirectoryDesk$Tree" "DirectoryDesk$Tree" "count" "I"], w ∈ kw_A from List.forall_mem_cons.mpr ⟨(kw1 164 rfl rfl), List.forall_mem_cons.mpr ⟨(kw1 166 rfl rfl), fun _ h => absurd h List.not_mem_nil⟩⟩)
set_option maxRecDepth 100000 in
theorem knm_En : ∀ a, a < 2 → ∀ b, b < 2 → a ≠ b → (kF_En a).2.1 ≠ (kF_En b).2.1 := by decide +kernel
theorem ktk_En : ∀ k, k < 2 → parseFieldDescriptor (kF_En k).2.2.1 = some (kty_En k) := by decide +kernel
set_option maxRecDepth 100000 in
theorem kin_En : ∀ w ∈ u_ws "DirectoryDesk$Entry" kF_En 2, w ∈ kw_A := (show ∀ w ∈ [Cond.laysFinal "DirectoryDesk$Entry" "DirectoryDesk$Entry" "name" "LDirectoryDesk$Name;", Cond.laysFinal "DirectoryDesk$Entry" "DirectoryDesk$Entry" "pairs" "LDirectoryDesk$Pairs;"], w ∈ kw_A from List.forall_mem_cons.mpr ⟨(kw1 141 rfl rfl), List.forall_mem_cons.mpr ⟨(kw1 143 rfl rfl), fun _ h => absurd h List.not_mem_nil⟩⟩)
set_option maxRecDepth 100000 in
theorem knm_Nm : ∀ a, a < 3 → ∀ b, b < 3 → a ≠ b → (kF_Nm a).2.1 ≠ (kF_Nm b).2.1 := by decide +kernel
theorem ktk_Nm : ∀ k, k < 3 → parseFieldDescriptor (kF_Nm k).2.2.1 = some (kty_Nm k) := by decide +kernel
set_option maxRecDepth 100000 in
theorem kin_Nm : ∀ w ∈ u_ws "DirectoryDesk$Name" kF_Nm 3, w ∈ kw_A := (show ∀ w ∈ [Cond.laysFinal "DirectoryDesk$Name" "DirectoryDesk$Name" "types" "[I", Cond.laysFinal "DirectoryDesk$Name" "DirectoryDesk$Name" "values" "[J", Cond.lays "DirectoryDesk$Name" "DirectoryDesk$Name" "parts" "I"], w ∈ kw_A from List.forall_mem_cons.mpr ⟨(kw1 108 rfl rfl), List.forall_mem_cons.mpr ⟨(kw1 110 rfl rfl), List.forall_mem_cons.mpr ⟨(kw1 112 rfl rfl), fun _ h => absurd h List.not_mem_nil⟩⟩⟩)
set_option maxRecDepth 100000 in
theorem knm_Pa : ∀ a, a < 3 → ∀ b, b < 3 → a ≠ b → (kF_Pa a).2.1 ≠ (kF_Pa b).2.1 := by decide +kernel
theorem ktk_Pa : ∀ k, k < 3 → parseFieldDescriptor (kF_Pa k).2.2.1 = some (kty_Pa k) := by decide +kernel
set_option maxRecDepth 100000 in
theorem kin_Pa : ∀ w ∈ u_ws "DirectoryDesk$Pairs" kF_Pa 3, w ∈ kw_A := (show ∀ w ∈ [Cond.laysFinal "DirectoryDesk$Pairs" "DirectoryDesk$Pairs" "types" "[I", Cond.laysFinal "DirectoryDesk$Pairs" "DirectoryDesk$Pairs" "values" "[J", Cond.lays "DirectoryDesk$Pairs" "DirectoryDesk$Pairs" "count" "I"], w ∈ kw_A from List.forall_mem_cons.mpr ⟨(kw1 128 rfl rfl), List.forall_mem_cons.mpr ⟨(kw1 130 rfl rfl), List.forall_mem_cons.mpr ⟨(kw1 132 rfl rfl), fun _ h => absurd h List.not_mem_nil⟩⟩⟩)
set_option maxRecDepth 100000 in
theorem knm_Ch : ∀ a, a < 6 → ∀ b, b < 6 → a ≠ b → (kF_Ch a).2.1 ≠ (kF_Ch b).2.1 := by decide +kernel
theorem ktk_Ch : ∀ k, k < 6 → parseFieldDescriptor (kF_Ch k).2.2.1 = some (kty_Ch k) := by decide +kernel
set_option maxRecDepth 100000 in
theorem kin_Ch : ∀ w ∈ u_ws "DirectoryDesk$Changes" kF_Ch 6, w ∈ kw_A := (show ∀ w ∈ [Cond.laysFinal "DirectoryDesk$Changes" "DirectoryDesk$Changes" "kinds" "[I", Cond.laysFinal "DirectoryDesk$Changes" "DirectoryDesk$Changes" "types" "[I", Cond.laysFinal "DirectoryDesk$Changes" "DirectoryDesk$Changes" "valueEnds" "[I", Cond.laysFinal "DirectoryDesk$Changes" "DirectoryDesk$Changes" "values" "[J", Cond.lays "DirectoryDesk$Changes" "DirectoryDesk$Changes" "count" "I", Cond.lays "DirectoryDesk$Changes" "DirectoryDesk$Changes" "valueCount" "I"], w ∈ kw_A from List.forall_mem_cons.mpr ⟨(kw1 183 rfl rfl), List.forall_mem_cons.mpr ⟨(kw1 185 rfl rfl), List.forall_mem_cons.mpr ⟨(kw1 187 rfl rfl), List.forall_mem_cons.mpr ⟨(kw1 189 rfl rfl), List.forall_mem_cons.mpr ⟨(kw1 191 rfl rfl), List.forall_mem_cons.mpr ⟨(kw1 193 rfl rfl), fun _ h => absurd h List.not_mem_nil⟩⟩⟩⟩⟩⟩)
set_option maxRecDepth 100000 in
theorem knm_Qu : ∀ a, a < 4 → ∀ b, b < 4 → a ≠ b → (kF_Qu a).2.1 ≠ (kF_Qu b).2.1 := by decide +kernel
theorem ktk_Qu : ∀ k, k < 4 → parseFieldDescriptor (kF_Qu k).2.2.1 = some (kty_Qu k) := by decide +kernel
set_option maxRecDepth 100000 in
theorem kin_Qu : ∀ w ∈ u_ws "DirectoryDesk$Query" kF_Qu 4, w ∈ kw_A := (show ∀ w ∈ [Cond.lays "DirectoryDesk$Query" "DirectoryDesk$Query" "scope" "I", Cond.lays "DirectoryDesk$Query" "DirectoryDesk$Query" "limit" "I", Cond.lays "DirectoryDesk$Query" "DirectoryDesk$Query" "typesAlone" "Z", Cond.lays "DirectoryDesk$Query" "DirectoryDesk$Query" "wantedTypes" "I"], w ∈ kw_A from List.forall_mem_cons.mpr ⟨(kw1 207 rfl rfl), List.forall_mem_cons.mpr ⟨(kw1 209 rfl rfl), List.forall_mem_cons.mpr ⟨(kw1 211 rfl rfl), List.forall_mem_cons.mpr ⟨(kw1 213 rfl rfl), fun _ h => absurd h List.not_mem_nil⟩⟩⟩⟩)
set_option maxRecDepth 100000 in
theorem knm_Fi : ∀ a, a < 5 → ∀ b, b < 5 → a ≠ b → (kF_Fi a).2.1 ≠ (kF_Fi b).2.1 := by decide +kernel
theorem ktk_Fi : ∀ k, k < 5 → parseFieldDescriptor (kF_Fi k).2.2.1 = some (kty_Fi k) := by decide +kernel
set_option maxRecDepth 100000 in
theorem kin_Fi : ∀ w ∈ u_ws "DirectoryDesk$Filters" kF_Fi 5, w ∈ kw_A := (show ∀ w ∈ [Cond.laysFinal "DirectoryDesk$Filters" "DirectoryDesk$Filters" "kinds" "[I", Cond.laysFinal "DirectoryDesk$Filters" "DirectoryDesk$Filters" "types" "[I", Cond.laysFinal "DirectoryDesk$Filters" "DirectoryDesk$Filters" "values" "[J", Cond.laysFinal "DirectoryDesk$Filters" "DirectoryDesk$Filters" "ends" "[I", Cond.lays "DirectoryDesk$Filters" "DirectoryDesk$Filters" "count" "I"], w ∈ kw_A from List.forall_mem_cons.mpr ⟨(kw1 227 rfl rfl), List.forall_mem_cons.mpr ⟨(kw1 229 rfl rfl), List.forall_mem_cons.mpr ⟨(kw1 231 rfl rfl), List.forall_mem_cons.mpr ⟨(kw1 233 rfl rfl), List.forall_mem_cons.mpr ⟨(kw1 235 rfl rfl), fun _ h => absurd h List.not_mem_nil⟩⟩⟩⟩⟩)
set_option maxRecDepth 100000 in
theorem knm_Md : ∀ a, a < 52 → ∀ b, b < 52 → a ≠ b → (kF_Md a).2.1 ≠ (kF_Md b).2.1 := by decide +kernel
theorem ktk_Md : ∀ k, k < 52 → parseFieldDescriptor (kF_Md k).2.2.1 = some (kty_Md k) := by decide +kernel
set_option maxRecDepth 100000 in
theorem kin_Md : ∀ w ∈ u_ws "DirectoryDeskModel" kF_Md 52, w ∈ kw_A := (show ∀ w ∈ [Cond.lays "DirectoryDeskModel" "DirectoryDeskModel" "closed" "Z", Cond.lays "DirectoryDeskModel" "DirectoryDeskModel" "signed" "Z", Cond.laysFinal "DirectoryDeskModel" "DirectoryDeskModel" "typed" "[I", Cond.lays "DirectoryDeskModel" "DirectoryDeskModel" "count" "I", Cond.laysFinal "DirectoryDeskModel" "DirectoryDeskModel" "out" "[I", Cond.lays "DirectoryDeskModel" "DirectoryDeskModel" "size" "I", Cond.lays "DirectoryDeskModel" "DirectoryDeskModel" "entries" "I", Cond.laysFinal "DirectoryDeskModel" "DirectoryDeskModel" "parts" "[I", Cond.laysFinal "DirectoryDeskModel" "DirectoryDeskModel" "partType" "[I", Cond.laysFinal "DirectoryDeskModel" "DirectoryDeskModel" "partValue" "[J", Cond.laysFinal "DirectoryDeskModel" "DirectoryDeskModel" "pairs" "[I", Cond.laysFinal "DirectoryDeskModel" "DirectoryDeskModel" "pairType" "[I", Cond.laysFinal "DirectoryDeskModel" "DirectoryDeskModel" "pairValue" "[J", Cond.lays "DirectoryDeskModel" "DirectoryDeskModel" "tag" "I", Cond.lays "DirectoryDeskModel" "DirectoryDeskModel" "start" "I", Cond.lays "DirectoryDeskModel" "DirectoryDeskModel" "end" "I", Cond.lays "DirectoryDeskModel" "DirectoryDeskModel" "id" "I", Cond.lays "DirectoryDeskModel" "DirectoryDeskModel" "operation" "I", Cond.lays "DirectoryDeskModel" "DirectoryDeskModel" "from" "I", Cond.lays "DirectoryDeskModel" "DirectoryDeskModel" "to" "I", Cond.lays "DirectoryDeskModel" "DirectoryDeskModel" "nameParts" "I", Cond.laysFinal "DirectoryDeskModel" "DirectoryDeskModel" "nameType" "[I", Cond.laysFinal "DirectoryDeskModel" "DirectoryDeskModel" "nameValue" "[J", Cond.lays "DirectoryDeskModel" "DirectoryDeskModel" "nameAt" "I", Cond.lays "DirectoryDeskModel" "DirectoryDeskModel" "nameEnd" "I", Cond.lays "DirectoryDeskModel" "DirectoryDeskModel" "version" "I", Cond.lays "DirectoryDeskModel" "DirectoryDeskModel" "wordAt" "I", Cond.lays "DirectoryDeskModel" "DirectoryDeskModel" "wordEnd" "I", Cond.lays "DirectoryDeskModel" "DirectoryDeskModel" "scope" "I", Cond.lays "DirectoryDeskModel" "DirectoryDeskModel" "limit" "I", Cond.lays "DirectoryDeskModel" "DirectoryDeskModel" "bare" "Z", Cond.lays "DirectoryDeskModel" "DirectoryDeskModel" "wanted" "I", Cond.lays "DirectoryDeskModel" "DirectoryDeskModel" "wants" "I", Cond.lays "DirectoryDeskModel" "DirectoryDeskModel" "attributes" "I", Cond.laysFinal "DirectoryDeskModel" "DirectoryDeskModel" "kind" "[I", Cond.laysFinal "DirectoryDeskModel" "DirectoryDeskModel" "attributeType" "[I", Cond.laysFinal "DirectoryDeskModel" "DirectoryDeskModel" "firstValue" "[I", Cond.laysFinal "DirectoryDeskModel" "DirectoryDeskModel" "valueCount" "[I", Cond.lays "DirectoryDeskModel" "DirectoryDeskModel" "values" "I", Cond.laysFinal "DirectoryDeskModel" "DirectoryDeskModel" "value" "[J", Cond.lays "DirectoryDeskModel" "DirectoryDeskModel" "filters" "I", Cond.laysFinal "DirectoryDeskModel" "DirectoryDeskModel" "what" "[I", Cond.laysFinal "DirectoryDeskModel" "DirectoryDeskModel" "around" "[I", Cond.laysFinal "DirectoryDeskModel" "DirectoryDeskModel" "filterType" "[I", Cond.laysFinal "DirectoryDeskModel" "DirectoryDeskModel" "filterValue" "[J", Cond.laysFinal "DirectoryDeskModel" "DirectoryDeskModel" "verdict" "[I", Cond.lays "DirectoryDeskModel" "DirectoryDeskModel" "deep" "I", Cond.laysFinal "DirectoryDeskModel" "DirectoryDeskModel" "openEnd" "[I", Cond.laysFinal "DirectoryDeskModel" "DirectoryDeskModel" "openFilter" "[I", Cond.lays "DirectoryDeskModel" "DirectoryDeskModel" "works" "I", Cond.laysFinal "DirectoryDeskModel" "DirectoryDeskModel" "workType" "[I", Cond.laysFinal "DirectoryDeskModel" "DirectoryDeskModel" "workValue" "[J"], w ∈ kw_A from List.forall_mem_cons.mpr ⟨(kw3 235 rfl rfl), List.forall_mem_cons.mpr ⟨(kw3 237 rfl rfl), List.forall_mem_cons.mpr ⟨(kw3 239 rfl rfl), List.forall_mem_cons.mpr ⟨(kw4 1 rfl rfl), List.forall_mem_cons.mpr ⟨(kw4 3 rfl rfl), List.forall_mem_cons.mpr ⟨(kw4 5 rfl rfl), List.forall_mem_cons.mpr ⟨(kw4 7 rfl rfl), List.forall_mem_cons.mpr ⟨(kw4 9 rfl rfl), List.forall_mem_cons.mpr ⟨(kw4 11 rfl rfl), List.forall_mem_cons.mpr ⟨(kw4 13 rfl rfl), List.forall_mem_cons.mpr ⟨(kw4 15 rfl rfl), List.forall_mem_cons.mpr ⟨(kw4 17 rfl rfl), List.forall_mem_cons.mpr ⟨(kw4 19 rfl rfl), List.forall_mem_cons.mpr ⟨(kw4 21 rfl rfl), List.forall_mem_cons.mpr ⟨(kw4 23 rfl rfl), List.forall_mem_cons.mpr ⟨(kw4 25 rfl rfl), List.forall_mem_cons.mpr ⟨(kw4 27 rfl rfl), List.forall_mem_cons.mpr ⟨(kw4 29 rfl rfl), List.forall_mem_cons.mpr ⟨(kw4 31 rfl rfl), List.forall_mem_cons.mpr ⟨(kw4 33 rfl rfl), List.forall_mem_cons.mpr ⟨(kw4 35 rfl rfl), List.forall_mem_cons.mpr ⟨(kw4 37 rfl rfl), List.forall_mem_cons.mpr ⟨(kw4 39 rfl rfl), List.forall_mem_cons.mpr ⟨(kw4 41 rfl rfl), List.forall_mem_cons.mpr ⟨(kw4 43 rfl rfl), List.forall_mem_cons.mpr ⟨(kw4 45 rfl rfl), List.forall_mem_cons.mpr ⟨(kw4 47 rfl rfl), List.forall_mem_cons.mpr ⟨(kw4 49 rfl rfl), List.forall_mem_cons.mpr ⟨(kw4 51 rfl rfl), List.forall_mem_cons.mpr ⟨(kw4 53 rfl rfl), List.forall_mem_cons.mpr ⟨(kw4 55 rfl rfl), List.forall_mem_cons.mpr ⟨(kw4 57 rfl rfl), List.forall_mem_cons.mpr ⟨(kw4 59 rfl rfl), List.forall_mem_cons.mpr ⟨(kw4 61 rfl rfl), List.forall_mem_cons.mpr ⟨(kw4 63 rfl rfl), List.forall_mem_cons.mpr ⟨(kw4 65 rfl rfl), List.forall_mem_cons.mpr ⟨(kw4 67 rfl rfl), List.forall_mem_cons.mpr ⟨(kw4 69 rfl rfl), List.forall_mem_cons.mpr ⟨(kw4 71 rfl rfl), List.forall_mem_cons.mpr ⟨(kw4 73 rfl rfl), List.forall_mem_cons.mpr ⟨(kw4 75 rfl rfl), List.forall_mem_cons.mpr ⟨(kw4 77 rfl rfl), List.forall_mem_cons.mpr ⟨(kw4 79 rfl rfl), List.forall_mem_cons.mpr ⟨(kw4 81 rfl rfl), List.forall_mem_cons.mpr ⟨(kw4 83 rfl rfl), List.forall_mem_cons.mpr ⟨(kw4 85 rfl rfl), List.forall_mem_cons.mpr ⟨(kw4 87 rfl rfl), List.forall_mem_cons.mpr ⟨(kw4 89 rfl rfl), List.forall_mem_cons.mpr ⟨(kw4 91 rfl rfl), List.forall_mem_cons.mpr ⟨(kw4 93 rfl rfl), List.forall_mem_cons.mpr ⟨(kw4 95 rfl rfl), List.forall_mem_cons.mpr ⟨(kw4 97 rfl rfl), fun _ h => absurd h List.not_mem_nil⟩⟩⟩⟩⟩⟩⟩⟩⟩⟩⟩⟩⟩⟩⟩⟩⟩⟩⟩⟩⟩⟩⟩⟩⟩⟩⟩⟩⟩⟩⟩⟩⟩⟩⟩⟩⟩⟩⟩⟩⟩⟩⟩⟩⟩⟩⟩⟩⟩⟩⟩⟩)
def kt_nth : List (MethodName × ByteArray × Nat × Option FieldType × Nat × Nat) → Nat → MethodName × ByteArray × Nat × Option FieldType × Nat × Nat
  | [], _ => (⟨"DirectoryDesk", "<init>", "()V"⟩, prog_1_method_1_code, 1, none, 0, 0)
  | a :: _, 0 => a
  | _ :: t, n + 1 => kt_nth t n
def kt_l : List (MethodName × ByteArray × Nat × Option FieldType × Nat × Nat) := [(⟨"DirectoryDesk", "<init>", "()V"⟩, prog_1_method_1_code, 1, none, 135, 2133),
  (⟨"DirectoryDesk", "connect", "()V"⟩, prog_1_method_2_code, 1, none, 0, 0),
  (⟨"DirectoryDesk", "type", "(JI)I"⟩, prog_1_method_3_code, 4, some .int, 0, 0),
  (⟨"DirectoryDesk", "handle", "()I"⟩, prog_1_method_4_code, 3, some .int, 0, 0),
  (⟨"DirectoryDesk", "answered", "()I"⟩, prog_1_method_5_code, 1, some .int, 0, 0),
  (⟨"DirectoryDesk", "answer", "(I)J"⟩, prog_1_method_6_code, 5, some .long, 0, 0),
  (⟨"DirectoryDesk", "entries", "()I"⟩, prog_1_method_7_code, 1, some .int, 0, 0),
  (⟨"DirectoryDesk", "entry", "(I)I"⟩, prog_1_method_8_code, 2, some .int, 0, 0),
  (⟨"DirectoryDesk", "pairType", "(II)I"⟩, prog_1_method_9_code, 3, some .int, 0, 0),
  (⟨"DirectoryDesk", "pairValue", "(II)J"⟩, prog_1_method_10_code, 3, some .long, 0, 0),
  (⟨"DirectoryDesk", "signed", "()Z"⟩, prog_1_method_11_code, 1, some .boolean, 0, 0),
  (⟨"DirectoryDesk", "open", "()Z"⟩, prog_1_method_12_code, 1, some .boolean, 0, 0),
  (⟨"DirectoryDesk", "isPair", "(II)Z"⟩, prog_1_method_13_code, 3, some .boolean, 0, 0),
  (⟨"DirectoryDesk", "signOn", "()I"⟩, prog_1_method_14_code, 3, some .int, 0, 0),
  (⟨"DirectoryDesk", "passwordCode", "()I"⟩, prog_1_method_15_code, 4, some .int, 0, 0),
  (⟨"DirectoryDesk", "add", "()I"⟩, prog_1_method_16_code, 2, some .int, 0, 0),
  (⟨"DirectoryDesk", "delete", "()I"⟩, prog_1_method_17_code, 3, some .int, 0, 0),
  (⟨"DirectoryDesk", "modify", "()I"⟩, prog_1_method_18_code, 3, some .int, 0, 0),
  (⟨"DirectoryDesk", "changingCode", "()I"⟩, prog_1_method_19_code, 1, some .int, 0, 0),
  (⟨"DirectoryDesk", "search", "()I"⟩, prog_1_method_20_code, 1, some .int, 0, 0),
  (⟨"DirectoryDesk", "answerFound", "()I"⟩, prog_1_method_21_code, 5, some .int, 0, 0),
  (⟨"DirectoryDesk", "answerEntry", "(LDirectoryDesk$Entry;)Z"⟩, prog_1_method_22_code, 7, some .boolean, 0, 0),
  (⟨"DirectoryDesk", "answerAttribute", "(LDirectoryDesk$Pairs;I)V"⟩, prog_1_method_23_code, 6, none, 0, 0),
  (⟨"DirectoryDesk", "conclude", "(II)V"⟩, prog_1_method_24_code, 7, none, 0, 0),
  (⟨"DirectoryDesk$Reader", "<init>", "()V"⟩, prog_8_method_1_code, 1, none, 1, 200),
  (⟨"DirectoryDesk$Reader", "clear", "()V"⟩, prog_8_method_2_code, 1, none, 0, 0),
  (⟨"DirectoryDesk$Reader", "take", "(JI)V"⟩, prog_8_method_3_code, 5, none, 0, 0),
  (⟨"DirectoryDesk$Reader", "readFrame", "()I"⟩, prog_8_method_4_code, 2, some .int, 0, 0),
  (⟨"DirectoryDesk$Reader", "enter", "(I)I"⟩, prog_8_method_5_code, 5, some .int, 0, 0),
  (⟨"DirectoryDesk$Reader", "leave", "(I)V"⟩, prog_8_method_6_code, 2, none, 0, 0),
  (⟨"DirectoryDesk$Reader", "hasMore", "()Z"⟩, prog_8_method_7_code, 1, some .boolean, 0, 0),
  (⟨"DirectoryDesk$Reader", "isReadWell", "()Z"⟩, prog_8_method_8_code, 1, some .boolean, 0, 0),
  (⟨"DirectoryDesk$Reader", "nextTag", "()I"⟩, prog_8_method_9_code, 1, some .int, 0, 0),
  (⟨"DirectoryDesk$Reader", "number", "()I"⟩, prog_8_method_10_code, 2, some .int, 0, 0),
  (⟨"DirectoryDesk$Reader", "choice", "(I)I"⟩, prog_8_method_11_code, 3, some .int, 0, 0),
  (⟨"DirectoryDesk$Reader", "flag", "()Z"⟩, prog_8_method_12_code, 1, some .boolean, 0, 0),
  (⟨"DirectoryDesk$Reader", "single", "(I)I"⟩, prog_8_method_13_code, 2, some .int, 0, 0),
  (⟨"DirectoryDesk$Reader", "span", "(I)V"⟩, prog_8_method_14_code, 3, none, 0, 0),
  (⟨"DirectoryDesk$Reader", "spanRest", "()V"⟩, prog_8_method_15_code, 1, none, 0, 0),
  (⟨"DirectoryDesk$Reader", "spanType", "()I"⟩, prog_8_method_16_code, 1, some .int, 0, 0),
  (⟨"DirectoryDesk$Reader", "spanValue", "()J"⟩, prog_8_method_17_code, 1, some .long, 0, 0),
  (⟨"DirectoryDesk$Reader", "valueBetween", "(II)J"⟩, prog_8_method_18_code, 7, some .long, 0, 0),
  (⟨"DirectoryDesk$Reader", "partEnd", "(I)I"⟩, prog_8_method_19_code, 4, some .int, 0, 0),
  (⟨"DirectoryDesk$Reader", "typeOf", "(I)I"⟩, prog_8_method_20_code, 1, some .int, 0, 0),
  (⟨"DirectoryDesk$Reader", "isInValues", "(I)Z"⟩, prog_8_method_21_code, 1, some .boolean, 0, 0),
  (⟨"DirectoryDesk$Writer", "<init>", "()V"⟩, prog_10_method_1_code, 1, none, 1, 460),
  (⟨"DirectoryDesk$Writer", "clear", "()V"⟩, prog_10_method_2_code, 1, none, 0, 0),
  (⟨"DirectoryDesk$Writer", "put", "(I)V"⟩, prog_10_method_3_code, 2, none, 0, 0),
  (⟨"DirectoryDesk$Writer", "begin", "(I)I"⟩, prog_10_method_4_code, 2, some .int, 0, 0),
  (⟨"DirectoryDesk$Writer", "finish", "(I)V"⟩, prog_10_method_5_code, 2, none, 0, 0),
  (⟨"DirectoryDesk$Writer", "number", "(I)V"⟩, prog_10_method_6_code, 3, none, 0, 0),
  (⟨"DirectoryDesk$Writer", "letter", "(I)V"⟩, prog_10_method_7_code, 3, none, 0, 0),
  (⟨"DirectoryDesk$Writer", "value", "(J)V"⟩, prog_10_method_8_code, 4, none, 0, 0),
  (⟨"DirectoryDesk$Writer", "name", "(LDirectoryDesk$Name;)V"⟩, prog_10_method_9_code, 4, none, 0, 0),
  (⟨"DirectoryDesk$Writer", "putValue", "(J)V"⟩, prog_10_method_10_code, 5, none, 0, 0),
  (⟨"DirectoryDesk$Tree", "<init>", "()V"⟩, prog_9_method_1_code, 3, none, 113, 1232),
  (⟨"DirectoryDesk$Tree", "find", "(LDirectoryDesk$Name;I)I"⟩, prog_9_method_2_code, 4, some .int, 0, 0),
  (⟨"DirectoryDesk$Tree", "findNearestAbove", "(LDirectoryDesk$Name;)I"⟩, prog_9_method_3_code, 4, some .int, 0, 0),
  (⟨"DirectoryDesk$Tree", "hasChildOf", "(LDirectoryDesk$Name;)Z"⟩, prog_9_method_4_code, 3, some .boolean, 0, 0),
  (⟨"DirectoryDesk$Tree", "append", "(LDirectoryDesk$Name;LDirectoryDesk$Pairs;)V"⟩, prog_9_method_5_code, 3, none, 0, 0),
  (⟨"DirectoryDesk$Tree", "removeAt", "(I)V"⟩, prog_9_method_6_code, 4, none, 0, 0),
  (⟨"DirectoryDesk$Entry", "<init>", "()V"⟩, prog_3_method_1_code, 1, none, 6, 74),
  (⟨"DirectoryDesk$Name", "<init>", "()V"⟩, prog_5_method_1_code, 1, none, 2, 8),
  (⟨"DirectoryDesk$Name", "readFrom", "(LDirectoryDesk$Reader;)V"⟩, prog_5_method_2_code, 5, none, 0, 0),
  (⟨"DirectoryDesk$Name", "readPart", "(LDirectoryDesk$Reader;II)Z"⟩, prog_5_method_3_code, 7, some .boolean, 0, 0),
  (⟨"DirectoryDesk$Name", "append", "(IJ)V"⟩, prog_5_method_4_code, 4, none, 0, 0),
  (⟨"DirectoryDesk$Name", "copyFrom", "(LDirectoryDesk$Name;)V"⟩, prog_5_method_5_code, 2, none, 0, 0),
  (⟨"DirectoryDesk$Name", "levelsUnder", "(LDirectoryDesk$Name;)I"⟩, prog_5_method_6_code, 4, some .int, 0, 0),
  (⟨"DirectoryDesk$Pairs", "<init>", "(I)V"⟩, prog_6_method_1_code, 2, none, 2, 60),
  (⟨"DirectoryDesk$Pairs", "find", "(IJ)I"⟩, prog_6_method_2_code, 5, some .int, 0, 0),
  (⟨"DirectoryDesk$Pairs", "hasBetween", "(IJJ)Z"⟩, prog_6_method_3_code, 7, some .boolean, 0, 0),
  (⟨"DirectoryDesk$Pairs", "hasOwnPartOf", "(LDirectoryDesk$Name;)Z"⟩, prog_6_method_4_code, 2, some .boolean, 0, 0),
  (⟨"DirectoryDesk$Pairs", "append", "(IJ)Z"⟩, prog_6_method_5_code, 4, some .boolean, 0, 0),
  (⟨"DirectoryDesk$Pairs", "remove", "(IJ)Z"⟩, prog_6_method_6_code, 4, some .boolean, 0, 0),
  (⟨"DirectoryDesk$Pairs", "removeBetween", "(IJJ)Z"⟩, prog_6_method_7_code, 8, some .boolean, 0, 0),
  (⟨"DirectoryDesk$Pairs", "copyFrom", "(LDirectoryDesk$Pairs;)V"⟩, prog_6_method_8_code, 2, none, 0, 0),
  (⟨"DirectoryDesk$Changes", "<init>", "()V"⟩, prog_2_method_1_code, 1, none, 4, 60),
  (⟨"DirectoryDesk$Changes", "readFrom", "(LDirectoryDesk$Reader;Z)V"⟩, prog_2_method_2_code, 6, none, 0, 0),
  (⟨"DirectoryDesk$Changes", "readAttribute", "(LDirectoryDesk$Reader;I)V"⟩, prog_2_method_3_code, 6, none, 0, 0),
  (⟨"DirectoryDesk$Changes", "applyTo", "(LDirectoryDesk$Pairs;)I"⟩, prog_2_method_4_code, 5, some .int, 0, 0),
  (⟨"DirectoryDesk$Changes", "applyOne", "(IILDirectoryDesk$Pairs;)I"⟩, prog_2_method_5_code, 6, some .int, 0, 0),
  (⟨"DirectoryDesk$Query", "<init>", "()V"⟩, prog_7_method_1_code, 1, none, 0, 0),
  (⟨"DirectoryDesk$Query", "readFrom", "(LDirectoryDesk$Reader;)V"⟩, prog_7_method_2_code, 2, none, 0, 0),
  (⟨"DirectoryDesk$Query", "readWantedTypes", "(LDirectoryDesk$Reader;)V"⟩, prog_7_method_3_code, 5, none, 0, 0),
  (⟨"DirectoryDesk$Query", "wants", "(I)Z"⟩, prog_7_method_4_code, 2, some .boolean, 0, 0),
  (⟨"DirectoryDesk$Query", "isWithinLimit", "(I)Z"⟩, prog_7_method_5_code, 2, some .boolean, 0, 0),
  (⟨"DirectoryDesk$Query", "isInScope", "(I)Z"⟩, prog_7_method_6_code, 2, some .boolean, 0, 0),
  (⟨"DirectoryDesk$Filters", "<init>", "()V"⟩, prog_4_method_1_code, 1, none, 4, 80),
  (⟨"DirectoryDesk$Filters", "readFrom", "(LDirectoryDesk$Reader;)V"⟩, prog_4_method_2_code, 2, none, 0, 0),
  (⟨"DirectoryDesk$Filters", "areTrueFor", "(LDirectoryDesk$Pairs;)Z"⟩, prog_4_method_3_code, 2, some .boolean, 0, 0),
  (⟨"DirectoryDesk$Filters", "readOne", "(LDirectoryDesk$Reader;I)V"⟩, prog_4_method_4_code, 4, none, 0, 0),
  (⟨"DirectoryDesk$Filters", "readInner", "(LDirectoryDesk$Reader;II)V"⟩, prog_4_method_5_code, 8, none, 0, 0),
  (⟨"DirectoryDesk$Filters", "readPair", "(LDirectoryDesk$Reader;I)V"⟩, prog_4_method_6_code, 4, none, 0, 0),
  (⟨"DirectoryDesk$Filters", "judge", "(ILDirectoryDesk$Pairs;I)I"⟩, prog_4_method_7_code, 4, some .int, 0, 0),
  (⟨"DirectoryDesk$Filters", "judgeInner", "(ILDirectoryDesk$Pairs;I)I"⟩, prog_4_method_8_code, 9, some .int, 0, 0),
  (⟨"DirectoryDesk$Filters", "judgePair", "(ILDirectoryDesk$Pairs;)I"⟩, prog_4_method_9_code, 9, some .int, 0, 0),
  (⟨"DirectoryDeskModel", "<init>", "()V"⟩, prog_12_method_1_code, 1, none, 24, 1288),
  (⟨"DirectoryDeskModel", "connect", "()V"⟩, prog_12_method_2_code, 1, none, 0, 0),
  (⟨"DirectoryDeskModel", "type", "(JI)I"⟩, prog_12_method_3_code, 5, some .int, 0, 0),
  (⟨"DirectoryDeskModel", "element", "(II)Z"⟩, prog_12_method_4_code, 4, some .boolean, 0, 0),
  (⟨"DirectoryDeskModel", "tagged", "(III)Z"⟩, prog_12_method_5_code, 4, some .boolean, 0, 0),
  (⟨"DirectoryDeskModel", "numbered", "(II)Z"⟩, prog_12_method_6_code, 3, some .boolean, 0, 0),
  (⟨"DirectoryDeskModel", "number", "()I"⟩, prog_12_method_7_code, 2, some .int, 0, 0),
  (⟨"DirectoryDeskModel", "chosen", "(III)Z"⟩, prog_12_method_8_code, 4, some .boolean, 0, 0),
  (⟨"DirectoryDeskModel", "isLetter", "(I)Z"⟩, prog_12_method_9_code, 1, some .boolean, 0, 0),
  (⟨"DirectoryDeskModel", "typeIn", "(II)I"⟩, prog_12_method_10_code, 3, some .int, 0, 0),
  (⟨"DirectoryDeskModel", "valueIn", "(II)J"⟩, prog_12_method_11_code, 7, some .long, 0, 0),
  (⟨"DirectoryDeskModel", "takeName", "(II)I"⟩, prog_12_method_12_code, 5, some .int, 0, 0),
  (⟨"DirectoryDeskModel", "isNamed", "(II)Z"⟩, prog_12_method_13_code, 5, some .boolean, 0, 0),
  (⟨"DirectoryDeskModel", "find", "(I)I"⟩, prog_12_method_14_code, 3, some .int, 0, 0),
  (⟨"DirectoryDeskModel", "isUnder", "(III)Z"⟩, prog_12_method_15_code, 7, some .boolean, 0, 0),
  (⟨"DirectoryDeskModel", "readSign", "()Z"⟩, prog_12_method_16_code, 1, some .boolean, 0, 0),
  (⟨"DirectoryDeskModel", "readValues", "(II)Z"⟩, prog_12_method_17_code, 4, some .boolean, 0, 0),
  (⟨"DirectoryDeskModel", "readAttribute", "(II)Z"⟩, prog_12_method_18_code, 3, some .boolean, 0, 0),
  (⟨"DirectoryDeskModel", "readPairs", "(Z)Z"⟩, prog_12_method_19_code, 5, some .boolean, 0, 0),
  (⟨"DirectoryDeskModel", "readLeaf", "(I)Z"⟩, prog_12_method_20_code, 3, some .boolean, 0, 0),
  (⟨"DirectoryDeskModel", "isLeaf", "(I)Z"⟩, prog_12_method_21_code, 1, some .boolean, 0, 0),
  (⟨"DirectoryDeskModel", "inside", "(I)I"⟩, prog_12_method_22_code, 4, some .int, 0, 0),
  (⟨"DirectoryDeskModel", "closeAt", "(I)Z"⟩, prog_12_method_23_code, 2, some .boolean, 0, 0),
  (⟨"DirectoryDeskModel", "readFilter", "(I)I"⟩, prog_12_method_24_code, 5, some .int, 0, 0),
  (⟨"DirectoryDeskModel", "readWanted", "(I)Z"⟩, prog_12_method_25_code, 4, some .boolean, 0, 0),
  (⟨"DirectoryDeskModel", "readSearch", "()Z"⟩, prog_12_method_26_code, 2, some .boolean, 0, 0),
  (⟨"DirectoryDeskModel", "readOperation", "()Z"⟩, prog_12_method_27_code, 1, some .boolean, 0, 0),
  (⟨"DirectoryDeskModel", "workAt", "(IJ)I"⟩, prog_12_method_28_code, 5, some .int, 0, 0),
  (⟨"DirectoryDeskModel", "work", "(IJ)V"⟩, prog_12_method_29_code, 4, none, 0, 0),
  (⟨"DirectoryDeskModel", "unwork", "(I)V"⟩, prog_12_method_30_code, 3, none, 0, 0),
  (⟨"DirectoryDeskModel", "clearType", "(I)I"⟩, prog_12_method_31_code, 4, some .int, 0, 0),
  (⟨"DirectoryDeskModel", "settle", "(I)V"⟩, prog_12_method_32_code, 3, none, 0, 0),
  (⟨"DirectoryDeskModel", "workIn", "(II)I"⟩, prog_12_method_33_code, 6, some .int, 0, 0),
  (⟨"DirectoryDeskModel", "sign", "()I"⟩, prog_12_method_34_code, 8, some .int, 0, 0),
  (⟨"DirectoryDeskModel", "add", "()I"⟩, prog_12_method_35_code, 3, some .int, 0, 0),
  (⟨"DirectoryDeskModel", "remove", "()I"⟩, prog_12_method_36_code, 4, some .int, 0, 0),
  (⟨"DirectoryDeskModel", "modify", "()I"⟩, prog_12_method_37_code, 4, some .int, 0, 0),
  (⟨"DirectoryDeskModel", "judgeLeaf", "(II)I"⟩, prog_12_method_38_code, 10, some .int, 0, 0),
  (⟨"DirectoryDeskModel", "having", "(II)I"⟩, prog_12_method_39_code, 5, some .int, 0, 0),
  (⟨"DirectoryDeskModel", "judge", "(II)I"⟩, prog_12_method_40_code, 3, some .int, 0, 0),
  (⟨"DirectoryDeskModel", "matches", "(I)Z"⟩, prog_12_method_41_code, 3, some .boolean, 0, 0),
  (⟨"DirectoryDeskModel", "inScope", "(II)Z"⟩, prog_12_method_42_code, 3, some .boolean, 0, 0),
  (⟨"DirectoryDeskModel", "search", "()I"⟩, prog_12_method_43_code, 6, some .int, 0, 0),
  (⟨"DirectoryDeskModel", "say", "(I)V"⟩, prog_12_method_44_code, 2, none, 0, 0),
  (⟨"DirectoryDeskModel", "begin", "(I)I"⟩, prog_12_method_45_code, 2, some .int, 0, 0),
  (⟨"DirectoryDeskModel", "close", "(I)V"⟩, prog_12_method_46_code, 2, none, 0, 0),
  (⟨"DirectoryDeskModel", "sayId", "()V"⟩, prog_12_method_47_code, 2, none, 0, 0),
  (⟨"DirectoryDeskModel", "sayValue", "(J)V"⟩, prog_12_method_48_code, 5, none, 0, 0),
  (⟨"DirectoryDeskModel", "sayPart", "(IJ)V"⟩, prog_12_method_49_code, 4, none, 0, 0),
  (⟨"DirectoryDeskModel", "sayAttribute", "(II)V"⟩, prog_12_method_50_code, 9, none, 0, 0),
  (⟨"DirectoryDeskModel", "show", "(I)Z"⟩, prog_12_method_51_code, 8, some .boolean, 0, 0),
  (⟨"DirectoryDeskModel", "conclude", "(I)V"⟩, prog_12_method_52_code, 8, none, 0, 0),
  (⟨"DirectoryDeskModel", "isMessage", "()Z"⟩, prog_12_method_53_code, 1, some .boolean, 0, 0),
  (⟨"DirectoryDeskModel", "perform", "()I"⟩, prog_12_method_54_code, 1, some .int, 0, 0),
  (⟨"DirectoryDeskModel", "handle", "()I"⟩, prog_12_method_55_code, 2, some .int, 0, 0),
  (⟨"DirectoryDeskModel", "answered", "()I"⟩, prog_12_method_56_code, 1, some .int, 0, 0),
  (⟨"DirectoryDeskModel", "answer", "(I)J"⟩, prog_12_method_57_code, 5, some .long, 0, 0),
  (⟨"DirectoryDeskModel", "entries", "()I"⟩, prog_12_method_58_code, 1, some .int, 0, 0),
  (⟨"DirectoryDeskModel", "entry", "(I)I"⟩, prog_12_method_59_code, 2, some .int, 0, 0),
  (⟨"DirectoryDeskModel", "isPair", "(II)Z"⟩, prog_12_method_60_code, 3, some .boolean, 0, 0),
  (⟨"DirectoryDeskModel", "pairType", "(II)I"⟩, prog_12_method_61_code, 3, some .int, 0, 0),
  (⟨"DirectoryDeskModel", "pairValue", "(II)J"⟩, prog_12_method_62_code, 3, some .long, 0, 0),
  (⟨"DirectoryDeskModel", "signed", "()Z"⟩, prog_12_method_63_code, 1, some .boolean, 0, 0),
  (⟨"DirectoryDeskModel", "open", "()Z"⟩, prog_12_method_64_code, 1, some .boolean, 0, 0)]
def kt : kt_T := fun j => kt_nth kt_l j
abbrev j_Dk_init : Nat := 0
theorem wc_Dk_init : Cond.code (kt 0).1 (kt 0).2.1 (kt 0).2.2.1 (kt 0).2.2.2.1 ∈ kw_A := (kw1 18 rfl rfl)
theorem wi_Dk_init : Cond.instanceMethod (kt 0).1 ∈ kw_A := (kw1 17 rfl rfl)
theorem wn_Dk_init : Cond.initialized (kt 0).1.cls ∈ kw_A := (kw1 1 rfl rfl)
theorem hd_Dk_init : (kt 0).1.cls ≠ "java/lang/invoke/MethodHandle" ∧ (kt 0).1.cls ≠ "java/lang/invoke/VarHandle" ∧ (parseMethodDescriptor (kt 0).1.desc).map (fun d => d.parameters.length) = some 0 := by decide +kernel
abbrev j_Dk_connect : Nat := 1
theorem wc_Dk_connect : Cond.code (kt 1).1 (kt 1).2.1 (kt 1).2.2.1 (kt 1).2.2.2.1 ∈ kw_A := (kw2 34 rfl rfl)
theorem wi_Dk_connect : Cond.instanceMethod (kt 1).1 ∈ kw_A := (kw2 32 rfl rfl)
theorem wn_Dk_connect : Cond.initialized (kt 1).1.cls ∈ kw_A := (kw1 1 rfl rfl)
theorem ws_Dk_connect : Cond.selects (kt 1).1.cls (kt 1).1 (kt 1).1 ∈ kw_A := (kw2 33 rfl rfl)
theorem hd_Dk_connect : (kt 1).1.cls ≠ "java/lang/invoke/MethodHandle" ∧ (kt 1).1.cls ≠ "java/lang/invoke/VarHandle" ∧ (parseMethodDescriptor (kt 1).1.desc).map (fun d => d.parameters.length) = some 0 := by decide +kernel
abbrev j_Dk_type : Nat := 2
theorem wc_Dk_type : Cond.code (kt 2).1 (kt 2).2.1 (kt 2).2.2.1 (kt 2).2.2.2.1 ∈ kw_A := (kw2 42 rfl rfl)
theorem wi_Dk_type : Cond.instanceMethod (kt 2).1 ∈ kw_A := (kw2 40 rfl rfl)
theorem wn_Dk_type : Cond.initialized (kt 2).1.cls ∈ kw_A := (kw1 1 rfl rfl)
theorem ws_Dk_type : Cond.selects (kt 2).1.cls (kt 2).1 (kt 2).1 ∈ kw_A := (kw2 41 rfl rfl)
theorem hd_Dk_type : (kt 2).1.cls ≠ "java/lang/invoke/MethodHandle" ∧ (kt 2).1.cls ≠ "java/lang/invoke/VarHandle" ∧ (parseMethodDescriptor (kt 2).1.desc).map (fun d => d.parameters.length) = some 2 := by decide +kernel
abbrev j_Dk_handle : Nat := 3
theorem wc_Dk_handle : Cond.code (kt 3).1 (kt 3).2.1 (kt 3).2.2.1 (kt 3).2.2.2.1 ∈ kw_A := (kw2 50 rfl rfl)
theorem wi_Dk_handle : Cond.instanceMethod (kt 3).1 ∈ kw_A := (kw2 48 rfl rfl)
theorem wn_Dk_handle : Cond.initialized (kt 3).1.cls ∈ kw_A := (kw1 1 rfl rfl)
theorem ws_Dk_handle : Cond.selects (kt 3).1.cls (kt 3).1 (kt 3).1 ∈ kw_A := (kw2 49 rfl rfl)
theorem hd_Dk_handle : (kt 3).1.cls ≠ "java/lang/invoke/MethodHandle" ∧ (kt 3).1.cls ≠ "java/lang/invoke/VarHandle" ∧ (parseMethodDescriptor (kt 3).1.desc).map (fun d => d.parameters.length) = some 0 := by decide +kernel
abbrev j_Dk_answered : Nat := 4
theorem wc_Dk_answered : Cond.code (kt 4).1 (kt 4).2.1 (kt 4).2.2.1 (kt 4).2.2.2.1 ∈ kw_A := (kw3 141 rfl rfl)
theorem wi_Dk_answered : Cond.instanceMethod (kt 4).1 ∈ kw_A := (kw3 139 rfl rfl)
theorem wn_Dk_answered : Cond.initialized (kt 4).1.cls ∈ kw_A := (kw1 1 rfl rfl)
theorem ws_Dk_answered : Cond.selects (kt 4).1.cls (kt 4).1 (kt 4).1 ∈ kw_A := (kw3 140 rfl rfl)
theorem hd_Dk_answered : (kt 4).1.cls ≠ "java/lang/invoke/MethodHandle" ∧ (kt 4).1.cls ≠ "java/lang/invoke/VarHandle" ∧ (parseMethodDescriptor (kt 4).1.desc).map (fun d => d.parameters.length) = some 0 := by decide +kernel
abbrev j_Dk_answer : Nat := 5
theorem wc_Dk_answer : Cond.code (kt 5).1 (kt 5).2.1 (kt 5).2.2.1 (kt 5).2.2.2.1 ∈ kw_A := (kw3 145 rfl rfl)
theorem wi_Dk_answer : Cond.instanceMethod (kt 5).1 ∈ kw_A := (kw3 143 rfl rfl)
theorem wn_Dk_answer : Cond.initialized (kt 5).1.cls ∈ kw_A := (kw1 1 rfl rfl)
theorem ws_Dk_answer : Cond.selects (kt 5).1.cls (kt 5).1 (kt 5).1 ∈ kw_A := (kw3 144 rfl rfl)
theorem hd_Dk_answer : (kt 5).1.cls ≠ "java/lang/invoke/MethodHandle" ∧ (kt 5).1.cls ≠ "java/lang/invoke/VarHandle" ∧ (parseMethodDescriptor (kt 5).1.desc).map (fun d => d.parameters.length) = some 1 := by decide +kernel
abbrev j_Dk_entries : Nat := 6
theorem wc_Dk_entries : Cond.code (kt 6).1 (kt 6).2.1 (kt 6).2.2.1 (kt 6).2.2.2.1 ∈ kw_A := (kw3 150 rfl rfl)
theorem wi_Dk_entries : Cond.instanceMethod (kt 6).1 ∈ kw_A := (kw3 148 rfl rfl)
theorem wn_Dk_entries : Cond.initialized (kt 6).1.cls ∈ kw_A := (kw1 1 rfl rfl)
theorem ws_Dk_entries : Cond.selects (kt 6).1.cls (kt 6).1 (kt 6).1 ∈ kw_A := (kw3 149 rfl rfl)
theorem hd_Dk_entries : (kt 6).1.cls ≠ "java/lang/invoke/MethodHandle" ∧ (kt 6).1.cls ≠ "java/lang/invoke/VarHandle" ∧ (parseMethodDescriptor (kt 6).1.desc).map (fun d => d.parameters.length) = some 0 := by decide +kernel
abbrev j_Dk_entry : Nat := 7
theorem wc_Dk_entry : Cond.code (kt 7).1 (kt 7).2.1 (kt 7).2.2.1 (kt 7).2.2.2.1 ∈ kw_A := (kw3 154 rfl rfl)
theorem wi_Dk_entry : Cond.instanceMethod (kt 7).1 ∈ kw_A := (kw3 152 rfl rfl)
theorem wn_Dk_entry : Cond.initialized (kt 7).1.cls ∈ kw_A := (kw1 1 rfl rfl)
theorem ws_Dk_entry : Cond.selects (kt 7).1.cls (kt 7).1 (kt 7).1 ∈ kw_A := (kw3 153 rfl rfl)
theorem hd_Dk_entry : (kt 7).1.cls ≠ "java/lang/invoke/MethodHandle" ∧ (kt 7).1.cls ≠ "java/lang/invoke/VarHandle" ∧ (parseMethodDescriptor (kt 7).1.desc).map (fun d => d.parameters.length) = some 1 := by decide +kernel
abbrev j_Dk_pairType : Nat := 8
theorem wc_Dk_pairType : Cond.code (kt 8).1 (kt 8).2.1 (kt 8).2.2.1 (kt 8).2.2.2.1 ∈ kw_A := (kw3 158 rfl rfl)
theorem wi_Dk_pairType : Cond.instanceMethod (kt 8).1 ∈ kw_A := (kw3 156 rfl rfl)
theorem wn_Dk_pairType : Cond.initialized (kt 8).1.cls ∈ kw_A := (kw1 1 rfl rfl)
theorem ws_Dk_pairType : Cond.selects (kt 8).1.cls (kt 8).1 (kt 8).1 ∈ kw_A := (kw3 157 rfl rfl)
theorem hd_Dk_pairType : (kt 8).1.cls ≠ "java/lang/invoke/MethodHandle" ∧ (kt 8).1.cls ≠ "java/lang/invoke/VarHandle" ∧ (parseMethodDescriptor (kt 8).1.desc).map (fun d => d.parameters.length) = some 2 := by decide +kernel
abbrev j_Dk_pairValue : Nat := 9
theorem wc_Dk_pairValue : Cond.code (kt 9).1 (kt 9).2.1 (kt 9).2.2.1 (kt 9).2.2.2.1 ∈ kw_A := (kw3 166 rfl rfl)
theorem wi_Dk_pairValue : Cond.instanceMethod (kt 9).1 ∈ kw_A := (kw3 164 rfl rfl)
theorem wn_Dk_pairValue : Cond.initialized (kt 9).1.cls ∈ kw_A := (kw1 1 rfl rfl)
theorem ws_Dk_pairValue : Cond.selects (kt 9).1.cls (kt 9).1 (kt 9).1 ∈ kw_A := (kw3 165 rfl rfl)
theorem hd_Dk_pairValue : (kt 9).1.cls ≠ "java/lang/invoke/MethodHandle" ∧ (kt 9).1.cls ≠ "java/lang/invoke/VarHandle" ∧ (parseMethodDescriptor (kt 9).1.desc).map (fun d => d.parameters.length) = some 2 := by decide +kernel
abbrev j_Dk_signed : Nat := 10
theorem wc_Dk_signed : Cond.code (kt 10).1 (kt 10).2.1 (kt 10).2.2.1 (kt 10).2.2.2.1 ∈ kw_A := (kw3 170 rfl rfl)
theorem wi_Dk_signed : Cond.instanceMethod (kt 10).1 ∈ kw_A := (kw3 168 rfl rfl)
theorem wn_Dk_signed : Cond.initialized (kt 10).1.cls ∈ kw_A := (kw1 1 rfl rfl)
theorem ws_Dk_signed : Cond.selects (kt 10).1.cls (kt 10).1 (kt 10).1 ∈ kw_A := (kw3 169 rfl rfl)
theorem hd_Dk_signed : (kt 10).1.cls ≠ "java/lang/invoke/MethodHandle" ∧ (kt 10).1.cls ≠ "java/lang/invoke/VarHandle" ∧ (parseMethodDescriptor (kt 10).1.desc).map (fun d => d.parameters.length) = some 0 := by decide +kernel
abbrev j_Dk_open : Nat := 11
theorem wc_Dk_open : Cond.code (kt 11).1 (kt 11).2.1 (kt 11).2.2.1 (kt 11).2.2.2.1 ∈ kw_A := (kw3 174 rfl rfl)
theorem wi_Dk_open : Cond.instanceMethod (kt 11).1 ∈ kw_A := (kw3 172 rfl rfl)
theorem wn_Dk_open : Cond.initialized (kt 11).1.cls ∈ kw_A := (kw1 1 rfl rfl)
theorem ws_Dk_open : Cond.selects (kt 11).1.cls (kt 11).1 (kt 11).1 ∈ kw_A := (kw3 173 rfl rfl)
theorem hd_Dk_open : (kt 11).1.cls ≠ "java/lang/invoke/MethodHandle" ∧ (kt 11).1.cls ≠ "java/lang/invoke/VarHandle" ∧ (parseMethodDescriptor (kt 11).1.desc).map (fun d => d.parameters.length) = some 0 := by decide +kernel
abbrev j_Dk_isPair : Nat := 12
theorem wc_Dk_isPair : Cond.code (kt 12).1 (kt 12).2.1 (kt 12).2.2.1 (kt 12).2.2.2.1 ∈ kw_A := (kw3 162 rfl rfl)
theorem wi_Dk_isPair : Cond.instanceMethod (kt 12).1 ∈ kw_A := (kw3 161 rfl rfl)
theorem wn_Dk_isPair : Cond.initialized (kt 12).1.cls ∈ kw_A := (kw1 1 rfl rfl)
theorem ws_Dk_isPair : Cond.selects (kt 12).1.cls (kt 12).1 (kt 12).1 ∈ kw_A := (kwp 22 rfl rfl)
theorem hd_Dk_isPair : (kt 12).1.cls ≠ "java/lang/invoke/MethodHandle" ∧ (kt 12).1.cls ≠ "java/lang/invoke/VarHandle" ∧ (parseMethodDescriptor (kt 12).1.desc).map (fun d => d.parameters.length) = some 2 := by decide +kernel
abbrev j_Dk_signOn : Nat := 13
theorem wc_Dk_signOn : Cond.code (kt 13).1 (kt 13).2.1 (kt 13).2.2.1 (kt 13).2.2.2.1 ∈ kw_A := (kw2 90 rfl rfl)
theorem wi_Dk_signOn : Cond.instanceMethod (kt 13).1 ∈ kw_A := (kw2 89 rfl rfl)
theorem wn_Dk_signOn : Cond.initialized (kt 13).1.cls ∈ kw_A := (kw1 1 rfl rfl)
theorem ws_Dk_signOn : Cond.selects (kt 13).1.cls (kt 13).1 (kt 13).1 ∈ kw_A := (kwp 0 rfl rfl)
theorem hd_Dk_signOn : (kt 13).1.cls ≠ "java/lang/invoke/MethodHandle" ∧ (kt 13).1.cls ≠ "java/lang/invoke/VarHandle" ∧ (parseMethodDescriptor (kt 13).1.desc).map (fun d => d.parameters.length) = some 0 := by decide +kernel
abbrev j_Dk_passwordCode : Nat := 14
theorem wc_Dk_passwordCode : Cond.code (kt 14).1 (kt 14).2.1 (kt 14).2.2.1 (kt 14).2.2.2.1 ∈ kw_A := (kw2 125 rfl rfl)
theorem wi_Dk_passwordCode : Cond.instanceMethod (kt 14).1 ∈ kw_A := (kw2 124 rfl rfl)
theorem wn_Dk_passwordCode : Cond.initialized (kt 14).1.cls ∈ kw_A := (kw1 1 rfl rfl)
theorem ws_Dk_passwordCode : Cond.selects (kt 14).1.cls (kt 14).1 (kt 14).1 ∈ kw_A := (kwp 2 rfl rfl)
theorem hd_Dk_passwordCode : (kt 14).1.cls ≠ "java/lang/invoke/MethodHandle" ∧ (kt 14).1.cls ≠ "java/lang/invoke/VarHandle" ∧ (parseMethodDescriptor (kt 14).1.desc).map (fun d => d.parameters.length) = some 0 := by decide +kernel
abbrev j_Dk_add : Nat := 15
theorem wc_Dk_add : Cond.code (kt 15).1 (kt 15).2.1 (kt 15).2.2.1 (kt 15).2.2.2.1 ∈ kw_A := (kw3 104 rfl rfl)
theorem wi_Dk_add : Cond.instanceMethod (kt 15).1 ∈ kw_A := (kw3 103 rfl rfl)
theorem wn_Dk_add : Cond.initialized (kt 15).1.cls ∈ kw_A := (kw1 1 rfl rfl)
theorem ws_Dk_add : Cond.selects (kt 15).1.cls (kt 15).1 (kt 15).1 ∈ kw_A := (kwp 19 rfl rfl)
theorem hd_Dk_add : (kt 15).1.cls ≠ "java/lang/invoke/MethodHandle" ∧ (kt 15).1.cls ≠ "java/lang/invoke/VarHandle" ∧ (parseMethodDescriptor (kt 15).1.desc).map (fun d => d.parameters.length) = some 0 := by decide +kernel
abbrev j_Dk_delete : Nat := 16
theorem wc_Dk_delete : Cond.code (kt 16).1 (kt 16).2.1 (kt 16).2.2.1 (kt 16).2.2.2.1 ∈ kw_A := (kw3 118 rfl rfl)
theorem wi_Dk_delete : Cond.instanceMethod (kt 16).1 ∈ kw_A := (kw3 117 rfl rfl)
theorem wn_Dk_delete : Cond.initialized (kt 16).1.cls ∈ kw_A := (kw1 1 rfl rfl)
theorem ws_Dk_delete : Cond.selects (kt 16).1.cls (kt 16).1 (kt 16).1 ∈ kw_A := (kwp 20 rfl rfl)
theorem hd_Dk_delete : (kt 16).1.cls ≠ "java/lang/invoke/MethodHandle" ∧ (kt 16).1.cls ≠ "java/lang/invoke/VarHandle" ∧ (parseMethodDescriptor (kt 16).1.desc).map (fun d => d.parameters.length) = some 0 := by decide +kernel
abbrev j_Dk_modify : Nat := 17
theorem wc_Dk_modify : Cond.code (kt 17).1 (kt 17).2.1 (kt 17).2.2.1 (kt 17).2.2.2.1 ∈ kw_A := (kw3 49 rfl rfl)
theorem wi_Dk_modify : Cond.instanceMethod (kt 17).1 ∈ kw_A := (kw3 48 rfl rfl)
theorem wn_Dk_modify : Cond.initialized (kt 17).1.cls ∈ kw_A := (kw1 1 rfl rfl)
theorem ws_Dk_modify : Cond.selects (kt 17).1.cls (kt 17).1 (kt 17).1 ∈ kw_A := (kwp 15 rfl rfl)
theorem hd_Dk_modify : (kt 17).1.cls ≠ "java/lang/invoke/MethodHandle" ∧ (kt 17).1.cls ≠ "java/lang/invoke/VarHandle" ∧ (parseMethodDescriptor (kt 17).1.desc).map (fun d => d.parameters.length) = some 0 := by decide +kernel
abbrev j_Dk_changingCode : Nat := 18
theorem wc_Dk_changingCode : Cond.code (kt 18).1 (kt 18).2.1 (kt 18).2.2.1 (kt 18).2.2.2.1 ∈ kw_A := (kw3 68 rfl rfl)
theorem wi_Dk_changingCode : Cond.instanceMethod (kt 18).1 ∈ kw_A := (kw3 67 rfl rfl)
theorem wn_Dk_changingCode : Cond.initialized (kt 18).1.cls ∈ kw_A := (kw1 1 rfl rfl)
theorem ws_Dk_changingCode : Cond.selects (kt 18).1.cls (kt 18).1 (kt 18).1 ∈ kw_A := (kwp 17 rfl rfl)
theorem hd_Dk_changingCode : (kt 18).1.cls ≠ "java/lang/invoke/MethodHandle" ∧ (kt 18).1.cls ≠ "java/lang/invoke/VarHandle" ∧ (parseMethodDescriptor (kt 18).1.desc).map (fun d => d.parameters.length) = some 0 := by decide +kernel
abbrev j_Dk_search : Nat := 19
theorem wc_Dk_search : Cond.code (kt 19).1 (kt 19).2.1 (kt 19).2.2.1 (kt 19).2.2.2.1 ∈ kw_A := (kw2 143 rfl rfl)
theorem wi_Dk_search : Cond.instanceMethod (kt 19).1 ∈ kw_A := (kw2 142 rfl rfl)
theorem wn_Dk_search : Cond.initialized (kt 19).1.cls ∈ kw_A := (kw1 1 rfl rfl)
theorem ws_Dk_search : Cond.selects (kt 19).1.cls (kt 19).1 (kt 19).1 ∈ kw_A := (kwp 3 rfl rfl)
theorem hd_Dk_search : (kt 19).1.cls ≠ "java/lang/invoke/MethodHandle" ∧ (kt 19).1.cls ≠ "java/lang/invoke/VarHandle" ∧ (parseMethodDescriptor (kt 19).1.desc).map (fun d => d.parameters.length) = some 0 := by decide +kernel
abbrev j_Dk_answerFound : Nat := 20
theorem wc_Dk_answerFound : Cond.code (kt 20).1 (kt 20).2.1 (kt 20).2.2.1 (kt 20).2.2.2.1 ∈ kw_A := (kw2 200 rfl rfl)
theorem wi_Dk_answerFound : Cond.instanceMethod (kt 20).1 ∈ kw_A := (kw2 199 rfl rfl)
theorem wn_Dk_answerFound : Cond.initialized (kt 20).1.cls ∈ kw_A := (kw1 1 rfl rfl)
theorem ws_Dk_answerFound : Cond.selects (kt 20).1.cls (kt 20).1 (kt 20).1 ∈ kw_A := (kwp 8 rfl rfl)
theorem hd_Dk_answerFound : (kt 20).1.cls ≠ "java/lang/invoke/MethodHandle" ∧ (kt 20).1.cls ≠ "java/lang/invoke/VarHandle" ∧ (parseMethodDescriptor (kt 20).1.desc).map (fun d => d.parameters.length) = some 0 := by decide +kernel
abbrev j_Dk_answerEntry : Nat := 21
theorem wc_Dk_answerEntry : Cond.code (kt 21).1 (kt 21).2.1 (kt 21).2.2.1 (kt 21).2.2.2.1 ∈ kw_A := (kw3 1 rfl rfl)
theorem wi_Dk_answerEntry : Cond.instanceMethod (kt 21).1 ∈ kw_A := (kw3 0 rfl rfl)
theorem wn_Dk_answerEntry : Cond.initialized (kt 21).1.cls ∈ kw_A := (kw1 1 rfl rfl)
theorem ws_Dk_answerEntry : Cond.selects (kt 21).1.cls (kt 21).1 (kt 21).1 ∈ kw_A := (kwp 12 rfl rfl)
theorem hd_Dk_answerEntry : (kt 21).1.cls ≠ "java/lang/invoke/MethodHandle" ∧ (kt 21).1.cls ≠ "java/lang/invoke/VarHandle" ∧ (parseMethodDescriptor (kt 21).1.desc).map (fun d => d.parameters.length) = some 1 := by decide +kernel
abbrev j_Dk_answerAttribute : Nat := 22
theorem wc_Dk_answerAttribute : Cond.code (kt 22).1 (kt 22).2.1 (kt 22).2.2.1 (kt 22).2.2.2.1 ∈ kw_A := (kw3 36 rfl rfl)
theorem wi_Dk_answerAttribute : Cond.instanceMethod (kt 22).1 ∈ kw_A := (kw3 35 rfl rfl)
theorem wn_Dk_answerAttribute : Cond.initialized (kt 22).1.cls ∈ kw_A := (kw1 1 rfl rfl)
theorem ws_Dk_answerAttribute : Cond.selects (kt 22).1.cls (kt 22).1 (kt 22).1 ∈ kw_A := (kwp 14 rfl rfl)
theorem hd_Dk_answerAttribute : (kt 22).1.cls ≠ "java/lang/invoke/MethodHandle" ∧ (kt 22).1.cls ≠ "java/lang/invoke/VarHandle" ∧ (parseMethodDescriptor (kt 22).1.desc).map (fun d => d.parameters.length) = some 2 := by decide +kernel
abbrev j_Dk_conclude : Nat := 23
theorem wc_Dk_conclude : Cond.code (kt 23).1 (kt 23).2.1 (kt 23).2.2.1 (kt 23).2.2.2.1 ∈ kw_A := (kw3 131 rfl rfl)
theorem wi_Dk_conclude : Cond.instanceMethod (kt 23).1 ∈ kw_A := (kw3 130 rfl rfl)
theorem wn_Dk_conclude : Cond.initialized (kt 23).1.cls ∈ kw_A := (kw1 1 rfl rfl)
theorem ws_Dk_conclude : Cond.selects (kt 23).1.cls (kt 23).1 (kt 23).1 ∈ kw_A := (kwp 21 rfl rfl)
theorem hd_Dk_conclude : (kt 23).1.cls ≠ "java/lang/invoke/MethodHandle" ∧ (kt 23).1.cls ≠ "java/lang/invoke/VarHandle" ∧ (parseMethodDescriptor (kt 23).1.desc).map (fun d => d.parameters.length) = some 2 := by decide +kernel
abbrev j_Rd_init : Nat := 24
theorem wc_Rd_init : Cond.code (kt 24).1 (kt 24).2.1 (kt 24).2.2.1 (kt 24).2.2.2.1 ∈ kw_A := (kw1 26 rfl rfl)
theorem wi_Rd_init : Cond.instanceMethod (kt 24).1 ∈ kw_A := (kw1 25 rfl rfl)
theorem wn_Rd_init : Cond.initialized (kt 24).1.cls ∈ kw_A := (kw1 2 rfl rfl)
theorem hd_Rd_init : (kt 24).1.cls ≠ "java/lang/invoke/MethodHandle" ∧ (kt 24).1.cls ≠ "java/lang/invoke/VarHandle" ∧ (parseMethodDescriptor (kt 24).1.desc).map (fun d => d.parameters.length) = some 0 := by decide +kernel
abbrev j_Rd_clear : Nat := 25
theorem wc_Rd_clear : Cond.code (kt 25).1 (kt 25).2.1 (kt 25).2.2.1 (kt 25).2.2.2.1 ∈ kw_A := (kw2 38 rfl rfl)
theorem wi_Rd_clear : Cond.instanceMethod (kt 25).1 ∈ kw_A := (kw2 36 rfl rfl)
theorem wn_Rd_clear : Cond.initialized (kt 25).1.cls ∈ kw_A := (kw1 2 rfl rfl)
theorem ws_Rd_clear : Cond.selects (kt 25).1.cls (kt 25).1 (kt 25).1 ∈ kw_A := (kw2 37 rfl rfl)
theorem hd_Rd_clear : (kt 25).1.cls ≠ "java/lang/invoke/MethodHandle" ∧ (kt 25).1.cls ≠ "java/lang/invoke/VarHandle" ∧ (parseMethodDescriptor (kt 25).1.desc).map (fun d => d.parameters.length) = some 0 := by decide +kernel
abbrev j_Rd_take : Nat := 26
theorem wc_Rd_take : Cond.code (kt 26).1 (kt 26).2.1 (kt 26).2.2.1 (kt 26).2.2.2.1 ∈ kw_A := (kw2 46 rfl rfl)
theorem wi_Rd_take : Cond.instanceMethod (kt 26).1 ∈ kw_A := (kw2 44 rfl rfl)
theorem wn_Rd_take : Cond.initialized (kt 26).1.cls ∈ kw_A := (kw1 2 rfl rfl)
theorem ws_Rd_take : Cond.selects (kt 26).1.cls (kt 26).1 (kt 26).1 ∈ kw_A := (kw2 45 rfl rfl)
theorem hd_Rd_take : (kt 26).1.cls ≠ "java/lang/invoke/MethodHandle" ∧ (kt 26).1.cls ≠ "java/lang/invoke/VarHandle" ∧ (parseMethodDescriptor (kt 26).1.desc).map (fun d => d.parameters.length) = some 2 := by decide +kernel
abbrev j_Rd_readFrame : Nat := 27
theorem wc_Rd_readFrame : Cond.code (kt 27).1 (kt 27).2.1 (kt 27).2.2.1 (kt 27).2.2.2.1 ∈ kw_A := (kw2 58 rfl rfl)
theorem wi_Rd_readFrame : Cond.instanceMethod (kt 27).1 ∈ kw_A := (kw2 56 rfl rfl)
theorem wn_Rd_readFrame : Cond.initialized (kt 27).1.cls ∈ kw_A := (kw1 2 rfl rfl)
theorem ws_Rd_readFrame : Cond.selects (kt 27).1.cls (kt 27).1 (kt 27).1 ∈ kw_A := (kw2 57 rfl rfl)
theorem hd_Rd_readFrame : (kt 27).1.cls ≠ "java/lang/invoke/MethodHandle" ∧ (kt 27).1.cls ≠ "java/lang/invoke/VarHandle" ∧ (parseMethodDescriptor (kt 27).1.desc).map (fun d => d.parameters.length) = some 0 := by decide +kernel
abbrev j_Rd_enter : Nat := 28
theorem wc_Rd_enter : Cond.code (kt 28).1 (kt 28).2.1 (kt 28).2.2.1 (kt 28).2.2.2.1 ∈ kw_A := (kw2 62 rfl rfl)
theorem wi_Rd_enter : Cond.instanceMethod (kt 28).1 ∈ kw_A := (kw2 60 rfl rfl)
theorem wn_Rd_enter : Cond.initialized (kt 28).1.cls ∈ kw_A := (kw1 2 rfl rfl)
theorem ws_Rd_enter : Cond.selects (kt 28).1.cls (kt 28).1 (kt 28).1 ∈ kw_A := (kw2 61 rfl rfl)
theorem hd_Rd_enter : (kt 28).1.cls ≠ "java/lang/invoke/MethodHandle" ∧ (kt 28).1.cls ≠ "java/lang/invoke/VarHandle" ∧ (parseMethodDescriptor (kt 28).1.desc).map (fun d => d.parameters.length) = some 1 := by decide +kernel
abbrev j_Rd_leave : Nat := 29
theorem wc_Rd_leave : Cond.code (kt 29).1 (kt 29).2.1 (kt 29).2.2.1 (kt 29).2.2.2.1 ∈ kw_A := (kw2 78 rfl rfl)
theorem wi_Rd_leave : Cond.instanceMethod (kt 29).1 ∈ kw_A := (kw2 76 rfl rfl)
theorem wn_Rd_leave : Cond.initialized (kt 29).1.cls ∈ kw_A := (kw1 2 rfl rfl)
theorem ws_Rd_leave : Cond.selects (kt 29).1.cls (kt 29).1 (kt 29).1 ∈ kw_A := (kw2 77 rfl rfl)
theorem hd_Rd_leave : (kt 29).1.cls ≠ "java/lang/invoke/MethodHandle" ∧ (kt 29).1.cls ≠ "java/lang/invoke/VarHandle" ∧ (parseMethodDescriptor (kt 29).1.desc).map (fun d => d.parameters.length) = some 1 := by decide +kernel
abbrev j_Rd_hasMore : Nat := 30
theorem wc_Rd_hasMore : Cond.code (kt 30).1 (kt 30).2.1 (kt 30).2.2.1 (kt 30).2.2.2.1 ∈ kw_A := (kw2 86 rfl rfl)
theorem wi_Rd_hasMore : Cond.instanceMethod (kt 30).1 ∈ kw_A := (kw2 84 rfl rfl)
theorem wn_Rd_hasMore : Cond.initialized (kt 30).1.cls ∈ kw_A := (kw1 2 rfl rfl)
theorem ws_Rd_hasMore : Cond.selects (kt 30).1.cls (kt 30).1 (kt 30).1 ∈ kw_A := (kw2 85 rfl rfl)
theorem hd_Rd_hasMore : (kt 30).1.cls ≠ "java/lang/invoke/MethodHandle" ∧ (kt 30).1.cls ≠ "java/lang/invoke/VarHandle" ∧ (parseMethodDescriptor (kt 30).1.desc).map (fun d => d.parameters.length) = some 0 := by decide +kernel
abbrev j_Rd_isReadWell : Nat := 31
theorem wc_Rd_isReadWell : Cond.code (kt 31).1 (kt 31).2.1 (kt 31).2.2.1 (kt 31).2.2.2.1 ∈ kw_A := (kw2 121 rfl rfl)
theorem wi_Rd_isReadWell : Cond.instanceMethod (kt 31).1 ∈ kw_A := (kw2 119 rfl rfl)
theorem wn_Rd_isReadWell : Cond.initialized (kt 31).1.cls ∈ kw_A := (kw1 2 rfl rfl)
theorem ws_Rd_isReadWell : Cond.selects (kt 31).1.cls (kt 31).1 (kt 31).1 ∈ kw_A := (kw2 120 rfl rfl)
theorem hd_Rd_isReadWell : (kt 31).1.cls ≠ "java/lang/invoke/MethodHandle" ∧ (kt 31).1.cls ≠ "java/lang/invoke/VarHandle" ∧ (parseMethodDescriptor (kt 31).1.desc).map (fun d => d.parameters.length) = some 0 := by decide +kernel
abbrev j_Rd_nextTag : Nat := 32
theorem wc_Rd_nextTag : Cond.code (kt 32).1 (kt 32).2.1 (kt 32).2.2.1 (kt 32).2.2.2.1 ∈ kw_A := (kw2 82 rfl rfl)
theorem wi_Rd_nextTag : Cond.instanceMethod (kt 32).1 ∈ kw_A := (kw2 80 rfl rfl)
theorem wn_Rd_nextTag : Cond.initialized (kt 32).1.cls ∈ kw_A := (kw1 2 rfl rfl)
theorem ws_Rd_nextTag : Cond.selects (kt 32).1.cls (kt 32).1 (kt 32).1 ∈ kw_A := (kw2 81 rfl rfl)
theorem hd_Rd_nextTag : (kt 32).1.cls ≠ "java/lang/invoke/MethodHandle" ∧ (kt 32).1.cls ≠ "java/lang/invoke/VarHandle" ∧ (parseMethodDescriptor (kt 32).1.desc).map (fun d => d.parameters.length) = some 0 := by decide +kernel
abbrev j_Rd_number : Nat := 33
theorem wc_Rd_number : Cond.code (kt 33).1 (kt 33).2.1 (kt 33).2.2.1 (kt 33).2.2.2.1 ∈ kw_A := (kw2 66 rfl rfl)
theorem wi_Rd_number : Cond.instanceMethod (kt 33).1 ∈ kw_A := (kw2 64 rfl rfl)
theorem wn_Rd_number : Cond.initialized (kt 33).1.cls ∈ kw_A := (kw1 2 rfl rfl)
theorem ws_Rd_number : Cond.selects (kt 33).1.cls (kt 33).1 (kt 33).1 ∈ kw_A := (kw2 65 rfl rfl)
theorem hd_Rd_number : (kt 33).1.cls ≠ "java/lang/invoke/MethodHandle" ∧ (kt 33).1.cls ≠ "java/lang/invoke/VarHandle" ∧ (parseMethodDescriptor (kt 33).1.desc).map (fun d => d.parameters.length) = some 0 := by decide +kernel
abbrev j_Rd_choice : Nat := 34
theorem wc_Rd_choice : Cond.code (kt 34).1 (kt 34).2.1 (kt 34).2.2.1 (kt 34).2.2.2.1 ∈ kw_A := (kw2 151 rfl rfl)
theorem wi_Rd_choice : Cond.instanceMethod (kt 34).1 ∈ kw_A := (kw2 149 rfl rfl)
theorem wn_Rd_choice : Cond.initialized (kt 34).1.cls ∈ kw_A := (kw1 2 rfl rfl)
theorem ws_Rd_choice : Cond.selects (kt 34).1.cls (kt 34).1 (kt 34).1 ∈ kw_A := (kw2 150 rfl rfl)
theorem hd_Rd_choice : (kt 34).1.cls ≠ "java/lang/invoke/MethodHandle" ∧ (kt 34).1.cls ≠ "java/lang/invoke/VarHandle" ∧ (parseMethodDescriptor (kt 34).1.desc).map (fun d => d.parameters.length) = some 1 := by decide +kernel
abbrev j_Rd_flag : Nat := 35
theorem wc_Rd_flag : Cond.code (kt 35).1 (kt 35).2.1 (kt 35).2.2.1 (kt 35).2.2.2.1 ∈ kw_A := (kw2 160 rfl rfl)
theorem wi_Rd_flag : Cond.instanceMethod (kt 35).1 ∈ kw_A := (kw2 158 rfl rfl)
theorem wn_Rd_flag : Cond.initialized (kt 35).1.cls ∈ kw_A := (kw1 2 rfl rfl)
theorem ws_Rd_flag : Cond.selects (kt 35).1.cls (kt 35).1 (kt 35).1 ∈ kw_A := (kw2 159 rfl rfl)
theorem hd_Rd_flag : (kt 35).1.cls ≠ "java/lang/invoke/MethodHandle" ∧ (kt 35).1.cls ≠ "java/lang/invoke/VarHandle" ∧ (parseMethodDescriptor (kt 35).1.desc).map (fun d => d.parameters.length) = some 0 := by decide +kernel
abbrev j_Rd_single : Nat := 36
theorem wc_Rd_single : Cond.code (kt 36).1 (kt 36).2.1 (kt 36).2.2.1 (kt 36).2.2.2.1 ∈ kw_A := (kw2 155 rfl rfl)
theorem wi_Rd_single : Cond.instanceMethod (kt 36).1 ∈ kw_A := (kw2 154 rfl rfl)
theorem wn_Rd_single : Cond.initialized (kt 36).1.cls ∈ kw_A := (kw1 2 rfl rfl)
theorem ws_Rd_single : Cond.selects (kt 36).1.cls (kt 36).1 (kt 36).1 ∈ kw_A := (kwp 4 rfl rfl)
theorem hd_Rd_single : (kt 36).1.cls ≠ "java/lang/invoke/MethodHandle" ∧ (kt 36).1.cls ≠ "java/lang/invoke/VarHandle" ∧ (parseMethodDescriptor (kt 36).1.desc).map (fun d => d.parameters.length) = some 1 := by decide +kernel
abbrev j_Rd_span : Nat := 37
theorem wc_Rd_span : Cond.code (kt 37).1 (kt 37).2.1 (kt 37).2.2.1 (kt 37).2.2.2.1 ∈ kw_A := (kw2 70 rfl rfl)
theorem wi_Rd_span : Cond.instanceMethod (kt 37).1 ∈ kw_A := (kw2 68 rfl rfl)
theorem wn_Rd_span : Cond.initialized (kt 37).1.cls ∈ kw_A := (kw1 2 rfl rfl)
theorem ws_Rd_span : Cond.selects (kt 37).1.cls (kt 37).1 (kt 37).1 ∈ kw_A := (kw2 69 rfl rfl)
theorem hd_Rd_span : (kt 37).1.cls ≠ "java/lang/invoke/MethodHandle" ∧ (kt 37).1.cls ≠ "java/lang/invoke/VarHandle" ∧ (parseMethodDescriptor (kt 37).1.desc).map (fun d => d.parameters.length) = some 1 := by decide +kernel
abbrev j_Rd_spanRest : Nat := 38
theorem wc_Rd_spanRest : Cond.code (kt 38).1 (kt 38).2.1 (kt 38).2.2.1 (kt 38).2.2.2.1 ∈ kw_A := (kw2 74 rfl rfl)
theorem wi_Rd_spanRest : Cond.instanceMethod (kt 38).1 ∈ kw_A := (kw2 72 rfl rfl)
theorem wn_Rd_spanRest : Cond.initialized (kt 38).1.cls ∈ kw_A := (kw1 2 rfl rfl)
theorem ws_Rd_spanRest : Cond.selects (kt 38).1.cls (kt 38).1 (kt 38).1 ∈ kw_A := (kw2 73 rfl rfl)
theorem hd_Rd_spanRest : (kt 38).1.cls ≠ "java/lang/invoke/MethodHandle" ∧ (kt 38).1.cls ≠ "java/lang/invoke/VarHandle" ∧ (parseMethodDescriptor (kt 38).1.desc).map (fun d => d.parameters.length) = some 0 := by decide +kernel
abbrev j_Rd_spanType : Nat := 39
theorem wc_Rd_spanType : Cond.code (kt 39).1 (kt 39).2.1 (kt 39).2.2.1 (kt 39).2.2.2.1 ∈ kw_A := (kw2 185 rfl rfl)
theorem wi_Rd_spanType : Cond.instanceMethod (kt 39).1 ∈ kw_A := (kw2 183 rfl rfl)
theorem wn_Rd_spanType : Cond.initialized (kt 39).1.cls ∈ kw_A := (kw1 2 rfl rfl)
theorem ws_Rd_spanType : Cond.selects (kt 39).1.cls (kt 39).1 (kt 39).1 ∈ kw_A := (kw2 184 rfl rfl)
theorem hd_Rd_spanType : (kt 39).1.cls ≠ "java/lang/invoke/MethodHandle" ∧ (kt 39).1.cls ≠ "java/lang/invoke/VarHandle" ∧ (parseMethodDescriptor (kt 39).1.desc).map (fun d => d.parameters.length) = some 0 := by decide +kernel
abbrev j_Rd_spanValue : Nat := 40
theorem wc_Rd_spanValue : Cond.code (kt 40).1 (kt 40).2.1 (kt 40).2.2.1 (kt 40).2.2.2.1 ∈ kw_A := (kw2 137 rfl rfl)
theorem wi_Rd_spanValue : Cond.instanceMethod (kt 40).1 ∈ kw_A := (kw2 135 rfl rfl)
theorem wn_Rd_spanValue : Cond.initialized (kt 40).1.cls ∈ kw_A := (kw1 2 rfl rfl)
theorem ws_Rd_spanValue : Cond.selects (kt 40).1.cls (kt 40).1 (kt 40).1 ∈ kw_A := (kw2 136 rfl rfl)
theorem hd_Rd_spanValue : (kt 40).1.cls ≠ "java/lang/invoke/MethodHandle" ∧ (kt 40).1.cls ≠ "java/lang/invoke/VarHandle" ∧ (parseMethodDescriptor (kt 40).1.desc).map (fun d => d.parameters.length) = some 0 := by decide +kernel
abbrev j_Rd_valueBetween : Nat := 41
theorem wc_Rd_valueBetween : Cond.code (kt 41).1 (kt 41).2.1 (kt 41).2.2.1 (kt 41).2.2.2.1 ∈ kw_A := (kw2 111 rfl rfl)
theorem wi_Rd_valueBetween : Cond.instanceMethod (kt 41).1 ∈ kw_A := (kw2 109 rfl rfl)
theorem wn_Rd_valueBetween : Cond.initialized (kt 41).1.cls ∈ kw_A := (kw1 2 rfl rfl)
theorem ws_Rd_valueBetween : Cond.selects (kt 41).1.cls (kt 41).1 (kt 41).1 ∈ kw_A := (kw2 110 rfl rfl)
theorem hd_Rd_valueBetween : (kt 41).1.cls ≠ "java/lang/invoke/MethodHandle" ∧ (kt 41).1.cls ≠ "java/lang/invoke/VarHandle" ∧ (parseMethodDescriptor (kt 41).1.desc).map (fun d => d.parameters.length) = some 2 := by decide +kernel
abbrev j_Rd_partEnd : Nat := 42
theorem wc_Rd_partEnd : Cond.code (kt 42).1 (kt 42).2.1 (kt 42).2.2.1 (kt 42).2.2.2.1 ∈ kw_A := (kw2 100 rfl rfl)
theorem wi_Rd_partEnd : Cond.instanceMethod (kt 42).1 ∈ kw_A := (kw2 98 rfl rfl)
theorem wn_Rd_partEnd : Cond.initialized (kt 42).1.cls ∈ kw_A := (kw1 2 rfl rfl)
theorem ws_Rd_partEnd : Cond.selects (kt 42).1.cls (kt 42).1 (kt 42).1 ∈ kw_A := (kw2 99 rfl rfl)
theorem hd_Rd_partEnd : (kt 42).1.cls ≠ "java/lang/invoke/MethodHandle" ∧ (kt 42).1.cls ≠ "java/lang/invoke/VarHandle" ∧ (parseMethodDescriptor (kt 42).1.desc).map (fun d => d.parameters.length) = some 1 := by decide +kernel
abbrev j_Rd_typeOf : Nat := 43
theorem wc_Rd_typeOf : Cond.code (kt 43).1 (kt 43).2.1 (kt 43).2.2.1 (kt 43).2.2.2.1 ∈ kw_A := (kw2 107 rfl rfl)
theorem wi_Rd_typeOf : Cond.static (kt 43).1 ∈ kw_A := (kw2 106 rfl rfl)
theorem wn_Rd_typeOf : Cond.initialized (kt 43).1.cls ∈ kw_A := (kw1 2 rfl rfl)
theorem hd_Rd_typeOf : (kt 43).1.cls ≠ "java/lang/invoke/MethodHandle" ∧ (kt 43).1.cls ≠ "java/lang/invoke/VarHandle" ∧ (parseMethodDescriptor (kt 43).1.desc).map (fun d => d.parameters.length) = some 1 := by decide +kernel
abbrev j_Rd_isInValues : Nat := 44
theorem wc_Rd_isInValues : Cond.code (kt 44).1 (kt 44).2.1 (kt 44).2.2.1 (kt 44).2.2.2.1 ∈ kw_A := (kw2 115 rfl rfl)
theorem wi_Rd_isInValues : Cond.static (kt 44).1 ∈ kw_A := (kw2 114 rfl rfl)
theorem wn_Rd_isInValues : Cond.initialized (kt 44).1.cls ∈ kw_A := (kw1 2 rfl rfl)
theorem hd_Rd_isInValues : (kt 44).1.cls ≠ "java/lang/invoke/MethodHandle" ∧ (kt 44).1.cls ≠ "java/lang/invoke/VarHandle" ∧ (parseMethodDescriptor (kt 44).1.desc).map (fun d => d.parameters.length) = some 1 := by decide +kernel
abbrev j_Wr_init : Nat := 45
theorem wc_Wr_init : Cond.code (kt 45).1 (kt 45).2.1 (kt 45).2.2.1 (kt 45).2.2.2.1 ∈ kw_A := (kw1 67 rfl rfl)
theorem wi_Wr_init : Cond.instanceMethod (kt 45).1 ∈ kw_A := (kw1 66 rfl rfl)
theorem wn_Wr_init : Cond.initialized (kt 45).1.cls ∈ kw_A := (kw1 3 rfl rfl)
theorem hd_Wr_init : (kt 45).1.cls ≠ "java/lang/invoke/MethodHandle" ∧ (kt 45).1.cls ≠ "java/lang/invoke/VarHandle" ∧ (parseMethodDescriptor (kt 45).1.desc).map (fun d => d.parameters.length) = some 0 := by decide +kernel
abbrev j_Wr_clear : Nat := 46
theorem wc_Wr_clear : Cond.code (kt 46).1 (kt 46).2.1 (kt 46).2.2.1 (kt 46).2.2.2.1 ∈ kw_A := (kw2 54 rfl rfl)
theorem wi_Wr_clear : Cond.instanceMethod (kt 46).1 ∈ kw_A := (kw2 52 rfl rfl)
theorem wn_Wr_clear : Cond.initialized (kt 46).1.cls ∈ kw_A := (kw1 3 rfl rfl)
theorem ws_Wr_clear : Cond.selects (kt 46).1.cls (kt 46).1 (kt 46).1 ∈ kw_A := (kw2 53 rfl rfl)
theorem hd_Wr_clear : (kt 46).1.cls ≠ "java/lang/invoke/MethodHandle" ∧ (kt 46).1.cls ≠ "java/lang/invoke/VarHandle" ∧ (parseMethodDescriptor (kt 46).1.desc).map (fun d => d.parameters.length) = some 0 := by decide +kernel
abbrev j_Wr_put : Nat := 47
theorem wc_Wr_put : Cond.code (kt 47).1 (kt 47).2.1 (kt 47).2.2.1 (kt 47).2.2.2.1 ∈ kw_A := (kw3 9 rfl rfl)
theorem wi_Wr_put : Cond.instanceMethod (kt 47).1 ∈ kw_A := (kw3 7 rfl rfl)
theorem wn_Wr_put : Cond.initialized (kt 47).1.cls ∈ kw_A := (kw1 3 rfl rfl)
theorem ws_Wr_put : Cond.selects (kt 47).1.cls (kt 47).1 (kt 47).1 ∈ kw_A := (kw3 8 rfl rfl)
theorem hd_Wr_put : (kt 47).1.cls ≠ "java/lang/invoke/MethodHandle" ∧ (kt 47).1.cls ≠ "java/lang/invoke/VarHandle" ∧ (parseMethodDescriptor (kt 47).1.desc).map (fun d => d.parameters.length) = some 1 := by decide +kernel
abbrev j_Wr_begin : Nat := 48
theorem wc_Wr_begin : Cond.code (kt 48).1 (kt 48).2.1 (kt 48).2.2.1 (kt 48).2.2.2.1 ∈ kw_A := (kw3 5 rfl rfl)
theorem wi_Wr_begin : Cond.instanceMethod (kt 48).1 ∈ kw_A := (kw3 3 rfl rfl)
theorem wn_Wr_begin : Cond.initialized (kt 48).1.cls ∈ kw_A := (kw1 3 rfl rfl)
theorem ws_Wr_begin : Cond.selects (kt 48).1.cls (kt 48).1 (kt 48).1 ∈ kw_A := (kw3 4 rfl rfl)
theorem hd_Wr_begin : (kt 48).1.cls ≠ "java/lang/invoke/MethodHandle" ∧ (kt 48).1.cls ≠ "java/lang/invoke/VarHandle" ∧ (parseMethodDescriptor (kt 48).1.desc).map (fun d => d.parameters.length) = some 1 := by decide +kernel
abbrev j_Wr_finish : Nat := 49
theorem wc_Wr_finish : Cond.code (kt 49).1 (kt 49).2.1 (kt 49).2.2.1 (kt 49).2.2.2.1 ∈ kw_A := (kw3 18 rfl rfl)
theorem wi_Wr_finish : Cond.instanceMethod (kt 49).1 ∈ kw_A := (kw3 16 rfl rfl)
theorem wn_Wr_finish : Cond.initialized (kt 49).1.cls ∈ kw_A := (kw1 3 rfl rfl)
theorem ws_Wr_finish : Cond.selects (kt 49).1.cls (kt 49).1 (kt 49).1 ∈ kw_A := (kw3 17 rfl rfl)
theorem hd_Wr_finish : (kt 49).1.cls ≠ "java/lang/invoke/MethodHandle" ∧ (kt 49).1.cls ≠ "java/lang/invoke/VarHandle" ∧ (parseMethodDescriptor (kt 49).1.desc).map (fun d => d.parameters.length) = some 1 := by decide +kernel
abbrev j_Wr_number : Nat := 50
theorem wc_Wr_number : Cond.code (kt 50).1 (kt 50).2.1 (kt 50).2.2.1 (kt 50).2.2.2.1 ∈ kw_A := (kw3 13 rfl rfl)
theorem wi_Wr_number : Cond.instanceMethod (kt 50).1 ∈ kw_A := (kw3 11 rfl rfl)
theorem wn_Wr_number : Cond.initialized (kt 50).1.cls ∈ kw_A := (kw1 3 rfl rfl)
theorem ws_Wr_number : Cond.selects (kt 50).1.cls (kt 50).1 (kt 50).1 ∈ kw_A := (kw3 12 rfl rfl)
theorem hd_Wr_number : (kt 50).1.cls ≠ "java/lang/invoke/MethodHandle" ∧ (kt 50).1.cls ≠ "java/lang/invoke/VarHandle" ∧ (parseMethodDescriptor (kt 50).1.desc).map (fun d => d.parameters.length) = some 1 := by decide +kernel
abbrev j_Wr_letter : Nat := 51
theorem wc_Wr_letter : Cond.code (kt 51).1 (kt 51).2.1 (kt 51).2.2.1 (kt 51).2.2.2.1 ∈ kw_A := (kw3 40 rfl rfl)
theorem wi_Wr_letter : Cond.instanceMethod (kt 51).1 ∈ kw_A := (kw3 38 rfl rfl)
theorem wn_Wr_letter : Cond.initialized (kt 51).1.cls ∈ kw_A := (kw1 3 rfl rfl)
theorem ws_Wr_letter : Cond.selects (kt 51).1.cls (kt 51).1 (kt 51).1 ∈ kw_A := (kw3 39 rfl rfl)
theorem hd_Wr_letter : (kt 51).1.cls ≠ "java/lang/invoke/MethodHandle" ∧ (kt 51).1.cls ≠ "java/lang/invoke/VarHandle" ∧ (parseMethodDescriptor (kt 51).1.desc).map (fun d => d.parameters.length) = some 1 := by decide +kernel
abbrev j_Wr_value : Nat := 52
theorem wc_Wr_value : Cond.code (kt 52).1 (kt 52).2.1 (kt 52).2.2.1 (kt 52).2.2.2.1 ∈ kw_A := (kw3 44 rfl rfl)
theorem wi_Wr_value : Cond.instanceMethod (kt 52).1 ∈ kw_A := (kw3 42 rfl rfl)
theorem wn_Wr_value : Cond.initialized (kt 52).1.cls ∈ kw_A := (kw1 3 rfl rfl)
theorem ws_Wr_value : Cond.selects (kt 52).1.cls (kt 52).1 (kt 52).1 ∈ kw_A := (kw3 43 rfl rfl)
theorem hd_Wr_value : (kt 52).1.cls ≠ "java/lang/invoke/MethodHandle" ∧ (kt 52).1.cls ≠ "java/lang/invoke/VarHandle" ∧ (parseMethodDescriptor (kt 52).1.desc).map (fun d => d.parameters.length) = some 1 := by decide +kernel
abbrev j_Wr_name : Nat := 53
theorem wc_Wr_name : Cond.code (kt 53).1 (kt 53).2.1 (kt 53).2.2.1 (kt 53).2.2.2.1 ∈ kw_A := (kw3 22 rfl rfl)
theorem wi_Wr_name : Cond.instanceMethod (kt 53).1 ∈ kw_A := (kw3 20 rfl rfl)
theorem wn_Wr_name : Cond.initialized (kt 53).1.cls ∈ kw_A := (kw1 3 rfl rfl)
theorem ws_Wr_name : Cond.selects (kt 53).1.cls (kt 53).1 (kt 53).1 ∈ kw_A := (kw3 21 rfl rfl)
theorem hd_Wr_name : (kt 53).1.cls ≠ "java/lang/invoke/MethodHandle" ∧ (kt 53).1.cls ≠ "java/lang/invoke/VarHandle" ∧ (parseMethodDescriptor (kt 53).1.desc).map (fun d => d.parameters.length) = some 1 := by decide +kernel
abbrev j_Wr_putValue : Nat := 54
theorem wc_Wr_putValue : Cond.code (kt 54).1 (kt 54).2.1 (kt 54).2.2.1 (kt 54).2.2.2.1 ∈ kw_A := (kw3 26 rfl rfl)
theorem wi_Wr_putValue : Cond.instanceMethod (kt 54).1 ∈ kw_A := (kw3 25 rfl rfl)
theorem wn_Wr_putValue : Cond.initialized (kt 54).1.cls ∈ kw_A := (kw1 3 rfl rfl)
theorem ws_Wr_putValue : Cond.selects (kt 54).1.cls (kt 54).1 (kt 54).1 ∈ kw_A := (kwp 13 rfl rfl)
theorem hd_Wr_putValue : (kt 54).1.cls ≠ "java/lang/invoke/MethodHandle" ∧ (kt 54).1.cls ≠ "java/lang/invoke/VarHandle" ∧ (parseMethodDescriptor (kt 54).1.desc).map (fun d => d.parameters.length) = some 1 := by decide +kernel
abbrev j_Tr_init : Nat := 55
theorem wc_Tr_init : Cond.code (kt 55).1 (kt 55).2.1 (kt 55).2.2.1 (kt 55).2.2.2.1 ∈ kw_A := (kw1 82 rfl rfl)
theorem wi_Tr_init : Cond.instanceMethod (kt 55).1 ∈ kw_A := (kw1 81 rfl rfl)
theorem wn_Tr_init : Cond.initialized (kt 55).1.cls ∈ kw_A := (kw1 4 rfl rfl)
theorem hd_Tr_init : (kt 55).1.cls ≠ "java/lang/invoke/MethodHandle" ∧ (kt 55).1.cls ≠ "java/lang/invoke/VarHandle" ∧ (parseMethodDescriptor (kt 55).1.desc).map (fun d => d.parameters.length) = some 0 := by decide +kernel
abbrev j_Tr_find : Nat := 56
theorem wc_Tr_find : Cond.code (kt 56).1 (kt 56).2.1 (kt 56).2.2.1 (kt 56).2.2.2.1 ∈ kw_A := (kw2 129 rfl rfl)
theorem wi_Tr_find : Cond.instanceMethod (kt 56).1 ∈ kw_A := (kw2 127 rfl rfl)
theorem wn_Tr_find : Cond.initialized (kt 56).1.cls ∈ kw_A := (kw1 4 rfl rfl)
theorem ws_Tr_find : Cond.selects (kt 56).1.cls (kt 56).1 (kt 56).1 ∈ kw_A := (kw2 128 rfl rfl)
theorem hd_Tr_find : (kt 56).1.cls ≠ "java/lang/invoke/MethodHandle" ∧ (kt 56).1.cls ≠ "java/lang/invoke/VarHandle" ∧ (parseMethodDescriptor (kt 56).1.desc).map (fun d => d.parameters.length) = some 2 := by decide +kernel
abbrev j_Tr_findNearestAbove : Nat := 57
theorem wc_Tr_findNearestAbove : Cond.code (kt 57).1 (kt 57).2.1 (kt 57).2.2.1 (kt 57).2.2.2.1 ∈ kw_A := (kw3 136 rfl rfl)
theorem wi_Tr_findNearestAbove : Cond.instanceMethod (kt 57).1 ∈ kw_A := (kw3 134 rfl rfl)
theorem wn_Tr_findNearestAbove : Cond.initialized (kt 57).1.cls ∈ kw_A := (kw1 4 rfl rfl)
theorem ws_Tr_findNearestAbove : Cond.selects (kt 57).1.cls (kt 57).1 (kt 57).1 ∈ kw_A := (kw3 135 rfl rfl)
theorem hd_Tr_findNearestAbove : (kt 57).1.cls ≠ "java/lang/invoke/MethodHandle" ∧ (kt 57).1.cls ≠ "java/lang/invoke/VarHandle" ∧ (parseMethodDescriptor (kt 57).1.desc).map (fun d => d.parameters.length) = some 1 := by decide +kernel
abbrev j_Tr_hasChildOf : Nat := 58
theorem wc_Tr_hasChildOf : Cond.code (kt 58).1 (kt 58).2.1 (kt 58).2.2.1 (kt 58).2.2.2.1 ∈ kw_A := (kw3 123 rfl rfl)
theorem wi_Tr_hasChildOf : Cond.instanceMethod (kt 58).1 ∈ kw_A := (kw3 121 rfl rfl)
theorem wn_Tr_hasChildOf : Cond.initialized (kt 58).1.cls ∈ kw_A := (kw1 4 rfl rfl)
theorem ws_Tr_hasChildOf : Cond.selects (kt 58).1.cls (kt 58).1 (kt 58).1 ∈ kw_A := (kw3 122 rfl rfl)
theorem hd_Tr_hasChildOf : (kt 58).1.cls ≠ "java/lang/invoke/MethodHandle" ∧ (kt 58).1.cls ≠ "java/lang/invoke/VarHandle" ∧ (parseMethodDescriptor (kt 58).1.desc).map (fun d => d.parameters.length) = some 1 := by decide +kernel
abbrev j_Tr_append : Nat := 59
theorem wc_Tr_append : Cond.code (kt 59).1 (kt 59).2.1 (kt 59).2.2.1 (kt 59).2.2.2.1 ∈ kw_A := (kw3 108 rfl rfl)
theorem wi_Tr_append : Cond.instanceMethod (kt 59).1 ∈ kw_A := (kw3 106 rfl rfl)
theorem wn_Tr_append : Cond.initialized (kt 59).1.cls ∈ kw_A := (kw1 4 rfl rfl)
theorem ws_Tr_append : Cond.selects (kt 59).1.cls (kt 59).1 (kt 59).1 ∈ kw_A := (kw3 107 rfl rfl)
theorem hd_Tr_append : (kt 59).1.cls ≠ "java/lang/invoke/MethodHandle" ∧ (kt 59).1.cls ≠ "java/lang/invoke/VarHandle" ∧ (parseMethodDescriptor (kt 59).1.desc).map (fun d => d.parameters.length) = some 2 := by decide +kernel
abbrev j_Tr_removeAt : Nat := 60
theorem wc_Tr_removeAt : Cond.code (kt 60).1 (kt 60).2.1 (kt 60).2.2.1 (kt 60).2.2.2.1 ∈ kw_A := (kw3 127 rfl rfl)
theorem wi_Tr_removeAt : Cond.instanceMethod (kt 60).1 ∈ kw_A := (kw3 125 rfl rfl)
theorem wn_Tr_removeAt : Cond.initialized (kt 60).1.cls ∈ kw_A := (kw1 4 rfl rfl)
theorem ws_Tr_removeAt : Cond.selects (kt 60).1.cls (kt 60).1 (kt 60).1 ∈ kw_A := (kw3 126 rfl rfl)
theorem hd_Tr_removeAt : (kt 60).1.cls ≠ "java/lang/invoke/MethodHandle" ∧ (kt 60).1.cls ≠ "java/lang/invoke/VarHandle" ∧ (parseMethodDescriptor (kt 60).1.desc).map (fun d => d.parameters.length) = some 1 := by decide +kernel
abbrev j_En_init : Nat := 61
theorem wc_En_init : Cond.code (kt 61).1 (kt 61).2.1 (kt 61).2.2.1 (kt 61).2.2.2.1 ∈ kw_A := (kw1 89 rfl rfl)
theorem wi_En_init : Cond.instanceMethod (kt 61).1 ∈ kw_A := (kw1 88 rfl rfl)
theorem wn_En_init : Cond.initialized (kt 61).1.cls ∈ kw_A := (kw1 5 rfl rfl)
theorem hd_En_init : (kt 61).1.cls ≠ "java/lang/invoke/MethodHandle" ∧ (kt 61).1.cls ≠ "java/lang/invoke/VarHandle" ∧ (parseMethodDescriptor (kt 61).1.desc).map (fun d => d.parameters.length) = some 0 := by decide +kernel
abbrev j_Nm_init : Nat := 62
theorem wc_Nm_init : Cond.code (kt 62).1 (kt 62).2.1 (kt 62).2.2.1 (kt 62).2.2.2.1 ∈ kw_A := (kw1 95 rfl rfl)
theorem wi_Nm_init : Cond.instanceMethod (kt 62).1 ∈ kw_A := (kw1 94 rfl rfl)
theorem wn_Nm_init : Cond.initialized (kt 62).1.cls ∈ kw_A := (kw1 6 rfl rfl)
theorem hd_Nm_init : (kt 62).1.cls ≠ "java/lang/invoke/MethodHandle" ∧ (kt 62).1.cls ≠ "java/lang/invoke/VarHandle" ∧ (parseMethodDescriptor (kt 62).1.desc).map (fun d => d.parameters.length) = some 0 := by decide +kernel
abbrev j_Nm_readFrom : Nat := 63
theorem wc_Nm_readFrom : Cond.code (kt 63).1 (kt 63).2.1 (kt 63).2.2.1 (kt 63).2.2.2.1 ∈ kw_A := (kw2 96 rfl rfl)
theorem wi_Nm_readFrom : Cond.instanceMethod (kt 63).1 ∈ kw_A := (kw2 94 rfl rfl)
theorem wn_Nm_readFrom : Cond.initialized (kt 63).1.cls ∈ kw_A := (kw1 6 rfl rfl)
theorem ws_Nm_readFrom : Cond.selects (kt 63).1.cls (kt 63).1 (kt 63).1 ∈ kw_A := (kw2 95 rfl rfl)
theorem hd_Nm_readFrom : (kt 63).1.cls ≠ "java/lang/invoke/MethodHandle" ∧ (kt 63).1.cls ≠ "java/lang/invoke/VarHandle" ∧ (parseMethodDescriptor (kt 63).1.desc).map (fun d => d.parameters.length) = some 1 := by decide +kernel
abbrev j_Nm_readPart : Nat := 64
theorem wc_Nm_readPart : Cond.code (kt 64).1 (kt 64).2.1 (kt 64).2.2.1 (kt 64).2.2.2.1 ∈ kw_A := (kw2 104 rfl rfl)
theorem wi_Nm_readPart : Cond.instanceMethod (kt 64).1 ∈ kw_A := (kw2 103 rfl rfl)
theorem wn_Nm_readPart : Cond.initialized (kt 64).1.cls ∈ kw_A := (kw1 6 rfl rfl)
theorem ws_Nm_readPart : Cond.selects (kt 64).1.cls (kt 64).1 (kt 64).1 ∈ kw_A := (kwp 1 rfl rfl)
theorem hd_Nm_readPart : (kt 64).1.cls ≠ "java/lang/invoke/MethodHandle" ∧ (kt 64).1.cls ≠ "java/lang/invoke/VarHandle" ∧ (parseMethodDescriptor (kt 64).1.desc).map (fun d => d.parameters.length) = some 3 := by decide +kernel
abbrev j_Nm_append : Nat := 65
theorem wc_Nm_append : Cond.code (kt 65).1 (kt 65).2.1 (kt 65).2.2.1 (kt 65).2.2.2.1 ∈ kw_A := (kw1 150 rfl rfl)
theorem wi_Nm_append : Cond.instanceMethod (kt 65).1 ∈ kw_A := (kw1 148 rfl rfl)
theorem wn_Nm_append : Cond.initialized (kt 65).1.cls ∈ kw_A := (kw1 6 rfl rfl)
theorem ws_Nm_append : Cond.selects (kt 65).1.cls (kt 65).1 (kt 65).1 ∈ kw_A := (kw1 149 rfl rfl)
theorem hd_Nm_append : (kt 65).1.cls ≠ "java/lang/invoke/MethodHandle" ∧ (kt 65).1.cls ≠ "java/lang/invoke/VarHandle" ∧ (parseMethodDescriptor (kt 65).1.desc).map (fun d => d.parameters.length) = some 2 := by decide +kernel
abbrev j_Nm_copyFrom : Nat := 66
theorem wc_Nm_copyFrom : Cond.code (kt 66).1 (kt 66).2.1 (kt 66).2.2.1 (kt 66).2.2.2.1 ∈ kw_A := (kw3 112 rfl rfl)
theorem wi_Nm_copyFrom : Cond.instanceMethod (kt 66).1 ∈ kw_A := (kw3 110 rfl rfl)
theorem wn_Nm_copyFrom : Cond.initialized (kt 66).1.cls ∈ kw_A := (kw1 6 rfl rfl)
theorem ws_Nm_copyFrom : Cond.selects (kt 66).1.cls (kt 66).1 (kt 66).1 ∈ kw_A := (kw3 111 rfl rfl)
theorem hd_Nm_copyFrom : (kt 66).1.cls ≠ "java/lang/invoke/MethodHandle" ∧ (kt 66).1.cls ≠ "java/lang/invoke/VarHandle" ∧ (parseMethodDescriptor (kt 66).1.desc).map (fun d => d.parameters.length) = some 1 := by decide +kernel
abbrev j_Nm_levelsUnder : Nat := 67
theorem wc_Nm_levelsUnder : Cond.code (kt 67).1 (kt 67).2.1 (kt 67).2.2.1 (kt 67).2.2.2.1 ∈ kw_A := (kw2 133 rfl rfl)
theorem wi_Nm_levelsUnder : Cond.instanceMethod (kt 67).1 ∈ kw_A := (kw2 131 rfl rfl)
theorem wn_Nm_levelsUnder : Cond.initialized (kt 67).1.cls ∈ kw_A := (kw1 6 rfl rfl)
theorem ws_Nm_levelsUnder : Cond.selects (kt 67).1.cls (kt 67).1 (kt 67).1 ∈ kw_A := (kw2 132 rfl rfl)
theorem hd_Nm_levelsUnder : (kt 67).1.cls ≠ "java/lang/invoke/MethodHandle" ∧ (kt 67).1.cls ≠ "java/lang/invoke/VarHandle" ∧ (parseMethodDescriptor (kt 67).1.desc).map (fun d => d.parameters.length) = some 1 := by decide +kernel
abbrev j_Pa_init : Nat := 68
theorem wc_Pa_init : Cond.code (kt 68).1 (kt 68).2.1 (kt 68).2.2.1 (kt 68).2.2.2.1 ∈ kw_A := (kw1 120 rfl rfl)
theorem wi_Pa_init : Cond.instanceMethod (kt 68).1 ∈ kw_A := (kw1 119 rfl rfl)
theorem wn_Pa_init : Cond.initialized (kt 68).1.cls ∈ kw_A := (kw1 7 rfl rfl)
theorem hd_Pa_init : (kt 68).1.cls ≠ "java/lang/invoke/MethodHandle" ∧ (kt 68).1.cls ≠ "java/lang/invoke/VarHandle" ∧ (parseMethodDescriptor (kt 68).1.desc).map (fun d => d.parameters.length) = some 1 := by decide +kernel
abbrev j_Pa_find : Nat := 69
theorem wc_Pa_find : Cond.code (kt 69).1 (kt 69).2.1 (kt 69).2.2.1 (kt 69).2.2.2.1 ∈ kw_A := (kw1 158 rfl rfl)
theorem wi_Pa_find : Cond.instanceMethod (kt 69).1 ∈ kw_A := (kw1 156 rfl rfl)
theorem wn_Pa_find : Cond.initialized (kt 69).1.cls ∈ kw_A := (kw1 7 rfl rfl)
theorem ws_Pa_find : Cond.selects (kt 69).1.cls (kt 69).1 (kt 69).1 ∈ kw_A := (kw1 157 rfl rfl)
theorem hd_Pa_find : (kt 69).1.cls ≠ "java/lang/invoke/MethodHandle" ∧ (kt 69).1.cls ≠ "java/lang/invoke/VarHandle" ∧ (parseMethodDescriptor (kt 69).1.desc).map (fun d => d.parameters.length) = some 2 := by decide +kernel
abbrev j_Pa_hasBetween : Nat := 70
theorem wc_Pa_hasBetween : Cond.code (kt 70).1 (kt 70).2.1 (kt 70).2.2.1 (kt 70).2.2.2.1 ∈ kw_A := (kw2 233 rfl rfl)
theorem wi_Pa_hasBetween : Cond.instanceMethod (kt 70).1 ∈ kw_A := (kw2 231 rfl rfl)
theorem wn_Pa_hasBetween : Cond.initialized (kt 70).1.cls ∈ kw_A := (kw1 7 rfl rfl)
theorem ws_Pa_hasBetween : Cond.selects (kt 70).1.cls (kt 70).1 (kt 70).1 ∈ kw_A := (kw2 232 rfl rfl)
theorem hd_Pa_hasBetween : (kt 70).1.cls ≠ "java/lang/invoke/MethodHandle" ∧ (kt 70).1.cls ≠ "java/lang/invoke/VarHandle" ∧ (parseMethodDescriptor (kt 70).1.desc).map (fun d => d.parameters.length) = some 3 := by decide +kernel
abbrev j_Pa_hasOwnPartOf : Nat := 71
theorem wc_Pa_hasOwnPartOf : Cond.code (kt 71).1 (kt 71).2.1 (kt 71).2.2.1 (kt 71).2.2.2.1 ∈ kw_A := (kw3 100 rfl rfl)
theorem wi_Pa_hasOwnPartOf : Cond.instanceMethod (kt 71).1 ∈ kw_A := (kw3 98 rfl rfl)
theorem wn_Pa_hasOwnPartOf : Cond.initialized (kt 71).1.cls ∈ kw_A := (kw1 7 rfl rfl)
theorem ws_Pa_hasOwnPartOf : Cond.selects (kt 71).1.cls (kt 71).1 (kt 71).1 ∈ kw_A := (kw3 99 rfl rfl)
theorem hd_Pa_hasOwnPartOf : (kt 71).1.cls ≠ "java/lang/invoke/MethodHandle" ∧ (kt 71).1.cls ≠ "java/lang/invoke/VarHandle" ∧ (parseMethodDescriptor (kt 71).1.desc).map (fun d => d.parameters.length) = some 1 := by decide +kernel
abbrev j_Pa_append : Nat := 72
theorem wc_Pa_append : Cond.code (kt 72).1 (kt 72).2.1 (kt 72).2.2.1 (kt 72).2.2.2.1 ∈ kw_A := (kw1 154 rfl rfl)
theorem wi_Pa_append : Cond.instanceMethod (kt 72).1 ∈ kw_A := (kw1 152 rfl rfl)
theorem wn_Pa_append : Cond.initialized (kt 72).1.cls ∈ kw_A := (kw1 7 rfl rfl)
theorem ws_Pa_append : Cond.selects (kt 72).1.cls (kt 72).1 (kt 72).1 ∈ kw_A := (kw1 153 rfl rfl)
theorem hd_Pa_append : (kt 72).1.cls ≠ "java/lang/invoke/MethodHandle" ∧ (kt 72).1.cls ≠ "java/lang/invoke/VarHandle" ∧ (parseMethodDescriptor (kt 72).1.desc).map (fun d => d.parameters.length) = some 2 := by decide +kernel
abbrev j_Pa_remove : Nat := 73
theorem wc_Pa_remove : Cond.code (kt 73).1 (kt 73).2.1 (kt 73).2.2.1 (kt 73).2.2.2.1 ∈ kw_A := (kw3 94 rfl rfl)
theorem wi_Pa_remove : Cond.instanceMethod (kt 73).1 ∈ kw_A := (kw3 92 rfl rfl)
theorem wn_Pa_remove : Cond.initialized (kt 73).1.cls ∈ kw_A := (kw1 7 rfl rfl)
theorem ws_Pa_remove : Cond.selects (kt 73).1.cls (kt 73).1 (kt 73).1 ∈ kw_A := (kw3 93 rfl rfl)
theorem hd_Pa_remove : (kt 73).1.cls ≠ "java/lang/invoke/MethodHandle" ∧ (kt 73).1.cls ≠ "java/lang/invoke/VarHandle" ∧ (parseMethodDescriptor (kt 73).1.desc).map (fun d => d.parameters.length) = some 2 := by decide +kernel
abbrev j_Pa_removeBetween : Nat := 74
theorem wc_Pa_removeBetween : Cond.code (kt 74).1 (kt 74).2.1 (kt 74).2.2.1 (kt 74).2.2.2.1 ∈ kw_A := (kw3 89 rfl rfl)
theorem wi_Pa_removeBetween : Cond.instanceMethod (kt 74).1 ∈ kw_A := (kw3 87 rfl rfl)
theorem wn_Pa_removeBetween : Cond.initialized (kt 74).1.cls ∈ kw_A := (kw1 7 rfl rfl)
theorem ws_Pa_removeBetween : Cond.selects (kt 74).1.cls (kt 74).1 (kt 74).1 ∈ kw_A := (kw3 88 rfl rfl)
theorem hd_Pa_removeBetween : (kt 74).1.cls ≠ "java/lang/invoke/MethodHandle" ∧ (kt 74).1.cls ≠ "java/lang/invoke/VarHandle" ∧ (parseMethodDescriptor (kt 74).1.desc).map (fun d => d.parameters.length) = some 3 := by decide +kernel
abbrev j_Pa_copyFrom : Nat := 75
theorem wc_Pa_copyFrom : Cond.code (kt 75).1 (kt 75).2.1 (kt 75).2.2.1 (kt 75).2.2.2.1 ∈ kw_A := (kw3 72 rfl rfl)
theorem wi_Pa_copyFrom : Cond.instanceMethod (kt 75).1 ∈ kw_A := (kw3 70 rfl rfl)
theorem wn_Pa_copyFrom : Cond.initialized (kt 75).1.cls ∈ kw_A := (kw1 7 rfl rfl)
theorem ws_Pa_copyFrom : Cond.selects (kt 75).1.cls (kt 75).1 (kt 75).1 ∈ kw_A := (kw3 71 rfl rfl)
theorem hd_Pa_copyFrom : (kt 75).1.cls ≠ "java/lang/invoke/MethodHandle" ∧ (kt 75).1.cls ≠ "java/lang/invoke/VarHandle" ∧ (parseMethodDescriptor (kt 75).1.desc).map (fun d => d.parameters.length) = some 1 := by decide +kernel
abbrev j_Ch_init : Nat := 76
theorem wc_Ch_init : Cond.code (kt 76).1 (kt 76).2.1 (kt 76).2.2.1 (kt 76).2.2.2.1 ∈ kw_A := (kw1 175 rfl rfl)
theorem wi_Ch_init : Cond.instanceMethod (kt 76).1 ∈ kw_A := (kw1 174 rfl rfl)
theorem wn_Ch_init : Cond.initialized (kt 76).1.cls ∈ kw_A := (kw1 8 rfl rfl)
theorem hd_Ch_init : (kt 76).1.cls ≠ "java/lang/invoke/MethodHandle" ∧ (kt 76).1.cls ≠ "java/lang/invoke/VarHandle" ∧ (parseMethodDescriptor (kt 76).1.desc).map (fun d => d.parameters.length) = some 0 := by decide +kernel
abbrev j_Ch_readFrom : Nat := 77
theorem wc_Ch_readFrom : Cond.code (kt 77).1 (kt 77).2.1 (kt 77).2.2.1 (kt 77).2.2.2.1 ∈ kw_A := (kw3 53 rfl rfl)
theorem wi_Ch_readFrom : Cond.instanceMethod (kt 77).1 ∈ kw_A := (kw3 51 rfl rfl)
theorem wn_Ch_readFrom : Cond.initialized (kt 77).1.cls ∈ kw_A := (kw1 8 rfl rfl)
theorem ws_Ch_readFrom : Cond.selects (kt 77).1.cls (kt 77).1 (kt 77).1 ∈ kw_A := (kw3 52 rfl rfl)
theorem hd_Ch_readFrom : (kt 77).1.cls ≠ "java/lang/invoke/MethodHandle" ∧ (kt 77).1.cls ≠ "java/lang/invoke/VarHandle" ∧ (parseMethodDescriptor (kt 77).1.desc).map (fun d => d.parameters.length) = some 2 := by decide +kernel
abbrev j_Ch_readAttribute : Nat := 78
theorem wc_Ch_readAttribute : Cond.code (kt 78).1 (kt 78).2.1 (kt 78).2.2.1 (kt 78).2.2.2.1 ∈ kw_A := (kw3 60 rfl rfl)
theorem wi_Ch_readAttribute : Cond.instanceMethod (kt 78).1 ∈ kw_A := (kw3 59 rfl rfl)
theorem wn_Ch_readAttribute : Cond.initialized (kt 78).1.cls ∈ kw_A := (kw1 8 rfl rfl)
theorem ws_Ch_readAttribute : Cond.selects (kt 78).1.cls (kt 78).1 (kt 78).1 ∈ kw_A := (kwp 16 rfl rfl)
theorem hd_Ch_readAttribute : (kt 78).1.cls ≠ "java/lang/invoke/MethodHandle" ∧ (kt 78).1.cls ≠ "java/lang/invoke/VarHandle" ∧ (parseMethodDescriptor (kt 78).1.desc).map (fun d => d.parameters.length) = some 2 := by decide +kernel
abbrev j_Ch_applyTo : Nat := 79
theorem wc_Ch_applyTo : Cond.code (kt 79).1 (kt 79).2.1 (kt 79).2.2.1 (kt 79).2.2.2.1 ∈ kw_A := (kw3 80 rfl rfl)
theorem wi_Ch_applyTo : Cond.instanceMethod (kt 79).1 ∈ kw_A := (kw3 78 rfl rfl)
theorem wn_Ch_applyTo : Cond.initialized (kt 79).1.cls ∈ kw_A := (kw1 8 rfl rfl)
theorem ws_Ch_applyTo : Cond.selects (kt 79).1.cls (kt 79).1 (kt 79).1 ∈ kw_A := (kw3 79 rfl rfl)
theorem hd_Ch_applyTo : (kt 79).1.cls ≠ "java/lang/invoke/MethodHandle" ∧ (kt 79).1.cls ≠ "java/lang/invoke/VarHandle" ∧ (parseMethodDescriptor (kt 79).1.desc).map (fun d => d.parameters.length) = some 1 := by decide +kernel
abbrev j_Ch_applyOne : Nat := 80
theorem wc_Ch_applyOne : Cond.code (kt 80).1 (kt 80).2.1 (kt 80).2.2.1 (kt 80).2.2.2.1 ∈ kw_A := (kw3 84 rfl rfl)
theorem wi_Ch_applyOne : Cond.instanceMethod (kt 80).1 ∈ kw_A := (kw3 83 rfl rfl)
theorem wn_Ch_applyOne : Cond.initialized (kt 80).1.cls ∈ kw_A := (kw1 8 rfl rfl)
theorem ws_Ch_applyOne : Cond.selects (kt 80).1.cls (kt 80).1 (kt 80).1 ∈ kw_A := (kwp 18 rfl rfl)
theorem hd_Ch_applyOne : (kt 80).1.cls ≠ "java/lang/invoke/MethodHandle" ∧ (kt 80).1.cls ≠ "java/lang/invoke/VarHandle" ∧ (parseMethodDescriptor (kt 80).1.desc).map (fun d => d.parameters.length) = some 3 := by decide +kernel
abbrev j_Qu_init : Nat := 81
theorem wc_Qu_init : Cond.code (kt 81).1 (kt 81).2.1 (kt 81).2.2.1 (kt 81).2.2.2.1 ∈ kw_A := (kw1 200 rfl rfl)
theorem wi_Qu_init : Cond.instanceMethod (kt 81).1 ∈ kw_A := (kw1 199 rfl rfl)
theorem wn_Qu_init : Cond.initialized (kt 81).1.cls ∈ kw_A := (kw1 9 rfl rfl)
theorem hd_Qu_init : (kt 81).1.cls ≠ "java/lang/invoke/MethodHandle" ∧ (kt 81).1.cls ≠ "java/lang/invoke/VarHandle" ∧ (parseMethodDescriptor (kt 81).1.desc).map (fun d => d.parameters.length) = some 0 := by decide +kernel
abbrev j_Qu_readFrom : Nat := 82
theorem wc_Qu_readFrom : Cond.code (kt 82).1 (kt 82).2.1 (kt 82).2.2.1 (kt 82).2.2.2.1 ∈ kw_A := (kw2 147 rfl rfl)
theorem wi_Qu_readFrom : Cond.instanceMethod (kt 82).1 ∈ kw_A := (kw2 145 rfl rfl)
theorem wn_Qu_readFrom : Cond.initialized (kt 82).1.cls ∈ kw_A := (kw1 9 rfl rfl)
theorem ws_Qu_readFrom : Cond.selects (kt 82).1.cls (kt 82).1 (kt 82).1 ∈ kw_A := (kw2 146 rfl rfl)
theorem hd_Qu_readFrom : (kt 82).1.cls ≠ "java/lang/invoke/MethodHandle" ∧ (kt 82).1.cls ≠ "java/lang/invoke/VarHandle" ∧ (parseMethodDescriptor (kt 82).1.desc).map (fun d => d.parameters.length) = some 1 := by decide +kernel
abbrev j_Qu_readWantedTypes : Nat := 83
theorem wc_Qu_readWantedTypes : Cond.code (kt 83).1 (kt 83).2.1 (kt 83).2.2.1 (kt 83).2.2.2.1 ∈ kw_A := (kw2 191 rfl rfl)
theorem wi_Qu_readWantedTypes : Cond.instanceMethod (kt 83).1 ∈ kw_A := (kw2 189 rfl rfl)
theorem wn_Qu_readWantedTypes : Cond.initialized (kt 83).1.cls ∈ kw_A := (kw1 9 rfl rfl)
theorem ws_Qu_readWantedTypes : Cond.selects (kt 83).1.cls (kt 83).1 (kt 83).1 ∈ kw_A := (kw2 190 rfl rfl)
theorem hd_Qu_readWantedTypes : (kt 83).1.cls ≠ "java/lang/invoke/MethodHandle" ∧ (kt 83).1.cls ≠ "java/lang/invoke/VarHandle" ∧ (parseMethodDescriptor (kt 83).1.desc).map (fun d => d.parameters.length) = some 1 := by decide +kernel
abbrev j_Qu_wants : Nat := 84
theorem wc_Qu_wants : Cond.code (kt 84).1 (kt 84).2.1 (kt 84).2.2.1 (kt 84).2.2.2.1 ∈ kw_A := (kw3 30 rfl rfl)
theorem wi_Qu_wants : Cond.instanceMethod (kt 84).1 ∈ kw_A := (kw3 28 rfl rfl)
theorem wn_Qu_wants : Cond.initialized (kt 84).1.cls ∈ kw_A := (kw1 9 rfl rfl)
theorem ws_Qu_wants : Cond.selects (kt 84).1.cls (kt 84).1 (kt 84).1 ∈ kw_A := (kw3 29 rfl rfl)
theorem hd_Qu_wants : (kt 84).1.cls ≠ "java/lang/invoke/MethodHandle" ∧ (kt 84).1.cls ≠ "java/lang/invoke/VarHandle" ∧ (parseMethodDescriptor (kt 84).1.desc).map (fun d => d.parameters.length) = some 1 := by decide +kernel
abbrev j_Qu_isWithinLimit : Nat := 85
theorem wc_Qu_isWithinLimit : Cond.code (kt 85).1 (kt 85).2.1 (kt 85).2.2.1 (kt 85).2.2.2.1 ∈ kw_A := (kw2 237 rfl rfl)
theorem wi_Qu_isWithinLimit : Cond.instanceMethod (kt 85).1 ∈ kw_A := (kw2 235 rfl rfl)
theorem wn_Qu_isWithinLimit : Cond.initialized (kt 85).1.cls ∈ kw_A := (kw1 9 rfl rfl)
theorem ws_Qu_isWithinLimit : Cond.selects (kt 85).1.cls (kt 85).1 (kt 85).1 ∈ kw_A := (kw2 236 rfl rfl)
theorem hd_Qu_isWithinLimit : (kt 85).1.cls ≠ "java/lang/invoke/MethodHandle" ∧ (kt 85).1.cls ≠ "java/lang/invoke/VarHandle" ∧ (parseMethodDescriptor (kt 85).1.desc).map (fun d => d.parameters.length) = some 1 := by decide +kernel
abbrev j_Qu_isInScope : Nat := 86
theorem wc_Qu_isInScope : Cond.code (kt 86).1 (kt 86).2.1 (kt 86).2.2.1 (kt 86).2.2.2.1 ∈ kw_A := (kw2 205 rfl rfl)
theorem wi_Qu_isInScope : Cond.instanceMethod (kt 86).1 ∈ kw_A := (kw2 203 rfl rfl)
theorem wn_Qu_isInScope : Cond.initialized (kt 86).1.cls ∈ kw_A := (kw1 9 rfl rfl)
theorem ws_Qu_isInScope : Cond.selects (kt 86).1.cls (kt 86).1 (kt 86).1 ∈ kw_A := (kw2 204 rfl rfl)
theorem hd_Qu_isInScope : (kt 86).1.cls ≠ "java/lang/invoke/MethodHandle" ∧ (kt 86).1.cls ≠ "java/lang/invoke/VarHandle" ∧ (parseMethodDescriptor (kt 86).1.desc).map (fun d => d.parameters.length) = some 1 := by decide +kernel
abbrev j_Fi_init : Nat := 87
theorem wc_Fi_init : Cond.code (kt 87).1 (kt 87).2.1 (kt 87).2.2.1 (kt 87).2.2.2.1 ∈ kw_A := (kw1 220 rfl rfl)
theorem wi_Fi_init : Cond.instanceMethod (kt 87).1 ∈ kw_A := (kw1 219 rfl rfl)
theorem wn_Fi_init : Cond.initialized (kt 87).1.cls ∈ kw_A := (kw1 10 rfl rfl)
theorem hd_Fi_init : (kt 87).1.cls ≠ "java/lang/invoke/MethodHandle" ∧ (kt 87).1.cls ≠ "java/lang/invoke/VarHandle" ∧ (parseMethodDescriptor (kt 87).1.desc).map (fun d => d.parameters.length) = some 0 := by decide +kernel
abbrev j_Fi_readFrom : Nat := 88
theorem wc_Fi_readFrom : Cond.code (kt 88).1 (kt 88).2.1 (kt 88).2.2.1 (kt 88).2.2.2.1 ∈ kw_A := (kw2 164 rfl rfl)
theorem wi_Fi_readFrom : Cond.instanceMethod (kt 88).1 ∈ kw_A := (kw2 162 rfl rfl)
theorem wn_Fi_readFrom : Cond.initialized (kt 88).1.cls ∈ kw_A := (kw1 10 rfl rfl)
theorem ws_Fi_readFrom : Cond.selects (kt 88).1.cls (kt 88).1 (kt 88).1 ∈ kw_A := (kw2 163 rfl rfl)
theorem hd_Fi_readFrom : (kt 88).1.cls ≠ "java/lang/invoke/MethodHandle" ∧ (kt 88).1.cls ≠ "java/lang/invoke/VarHandle" ∧ (parseMethodDescriptor (kt 88).1.desc).map (fun d => d.parameters.length) = some 1 := by decide +kernel
abbrev j_Fi_areTrueFor : Nat := 89
theorem wc_Fi_areTrueFor : Cond.code (kt 89).1 (kt 89).2.1 (kt 89).2.2.1 (kt 89).2.2.2.1 ∈ kw_A := (kw2 209 rfl rfl)
theorem wi_Fi_areTrueFor : Cond.instanceMethod (kt 89).1 ∈ kw_A := (kw2 207 rfl rfl)
theorem wn_Fi_areTrueFor : Cond.initialized (kt 89).1.cls ∈ kw_A := (kw1 10 rfl rfl)
theorem ws_Fi_areTrueFor : Cond.selects (kt 89).1.cls (kt 89).1 (kt 89).1 ∈ kw_A := (kw2 208 rfl rfl)
theorem hd_Fi_areTrueFor : (kt 89).1.cls ≠ "java/lang/invoke/MethodHandle" ∧ (kt 89).1.cls ≠ "java/lang/invoke/VarHandle" ∧ (parseMethodDescriptor (kt 89).1.desc).map (fun d => d.parameters.length) = some 1 := by decide +kernel
abbrev j_Fi_readOne : Nat := 90
theorem wc_Fi_readOne : Cond.code (kt 90).1 (kt 90).2.1 (kt 90).2.2.1 (kt 90).2.2.2.1 ∈ kw_A := (kw2 168 rfl rfl)
theorem wi_Fi_readOne : Cond.instanceMethod (kt 90).1 ∈ kw_A := (kw2 167 rfl rfl)
theorem wn_Fi_readOne : Cond.initialized (kt 90).1.cls ∈ kw_A := (kw1 10 rfl rfl)
theorem ws_Fi_readOne : Cond.selects (kt 90).1.cls (kt 90).1 (kt 90).1 ∈ kw_A := (kwp 5 rfl rfl)
theorem hd_Fi_readOne : (kt 90).1.cls ≠ "java/lang/invoke/MethodHandle" ∧ (kt 90).1.cls ≠ "java/lang/invoke/VarHandle" ∧ (parseMethodDescriptor (kt 90).1.desc).map (fun d => d.parameters.length) = some 2 := by decide +kernel
abbrev j_Fi_readInner : Nat := 91
theorem wc_Fi_readInner : Cond.code (kt 91).1 (kt 91).2.1 (kt 91).2.2.1 (kt 91).2.2.2.1 ∈ kw_A := (kw2 173 rfl rfl)
theorem wi_Fi_readInner : Cond.instanceMethod (kt 91).1 ∈ kw_A := (kw2 172 rfl rfl)
theorem wn_Fi_readInner : Cond.initialized (kt 91).1.cls ∈ kw_A := (kw1 10 rfl rfl)
theorem ws_Fi_readInner : Cond.selects (kt 91).1.cls (kt 91).1 (kt 91).1 ∈ kw_A := (kwp 6 rfl rfl)
theorem hd_Fi_readInner : (kt 91).1.cls ≠ "java/lang/invoke/MethodHandle" ∧ (kt 91).1.cls ≠ "java/lang/invoke/VarHandle" ∧ (parseMethodDescriptor (kt 91).1.desc).map (fun d => d.parameters.length) = some 3 := by decide +kernel
abbrev j_Fi_readPair : Nat := 92
theorem wc_Fi_readPair : Cond.code (kt 92).1 (kt 92).2.1 (kt 92).2.2.1 (kt 92).2.2.2.1 ∈ kw_A := (kw2 180 rfl rfl)
theorem wi_Fi_readPair : Cond.instanceMethod (kt 92).1 ∈ kw_A := (kw2 179 rfl rfl)
theorem wn_Fi_readPair : Cond.initialized (kt 92).1.cls ∈ kw_A := (kw1 10 rfl rfl)
theorem ws_Fi_readPair : Cond.selects (kt 92).1.cls (kt 92).1 (kt 92).1 ∈ kw_A := (kwp 7 rfl rfl)
theorem hd_Fi_readPair : (kt 92).1.cls ≠ "java/lang/invoke/MethodHandle" ∧ (kt 92).1.cls ≠ "java/lang/invoke/VarHandle" ∧ (parseMethodDescriptor (kt 92).1.desc).map (fun d => d.parameters.length) = some 2 := by decide +kernel
abbrev j_Fi_judge : Nat := 93
theorem wc_Fi_judge : Cond.code (kt 93).1 (kt 93).2.1 (kt 93).2.2.1 (kt 93).2.2.2.1 ∈ kw_A := (kw2 213 rfl rfl)
theorem wi_Fi_judge : Cond.instanceMethod (kt 93).1 ∈ kw_A := (kw2 212 rfl rfl)
theorem wn_Fi_judge : Cond.initialized (kt 93).1.cls ∈ kw_A := (kw1 10 rfl rfl)
theorem ws_Fi_judge : Cond.selects (kt 93).1.cls (kt 93).1 (kt 93).1 ∈ kw_A := (kwp 9 rfl rfl)
theorem hd_Fi_judge : (kt 93).1.cls ≠ "java/lang/invoke/MethodHandle" ∧ (kt 93).1.cls ≠ "java/lang/invoke/VarHandle" ∧ (parseMethodDescriptor (kt 93).1.desc).map (fun d => d.parameters.length) = some 3 := by decide +kernel
abbrev j_Fi_judgeInner : Nat := 94
theorem wc_Fi_judgeInner : Cond.code (kt 94).1 (kt 94).2.1 (kt 94).2.2.1 (kt 94).2.2.2.1 ∈ kw_A := (kw2 217 rfl rfl)
theorem wi_Fi_judgeInner : Cond.instanceMethod (kt 94).1 ∈ kw_A := (kw2 216 rfl rfl)
theorem wn_Fi_judgeInner : Cond.initialized (kt 94).1.cls ∈ kw_A := (kw1 10 rfl rfl)
theorem ws_Fi_judgeInner : Cond.selects (kt 94).1.cls (kt 94).1 (kt 94).1 ∈ kw_A := (kwp 10 rfl rfl)
theorem hd_Fi_judgeInner : (kt 94).1.cls ≠ "java/lang/invoke/MethodHandle" ∧ (kt 94).1.cls ≠ "java/lang/invoke/VarHandle" ∧ (parseMethodDescriptor (kt 94).1.desc).map (fun d => d.parameters.length) = some 3 := by decide +kernel
abbrev j_Fi_judgePair : Nat := 95
theorem wc_Fi_judgePair : Cond.code (kt 95).1 (kt 95).2.1 (kt 95).2.2.1 (kt 95).2.2.2.1 ∈ kw_A := (kw2 227 rfl rfl)
theorem wi_Fi_judgePair : Cond.instanceMethod (kt 95).1 ∈ kw_A := (kw2 226 rfl rfl)
theorem wn_Fi_judgePair : Cond.initialized (kt 95).1.cls ∈ kw_A := (kw1 10 rfl rfl)
theorem ws_Fi_judgePair : Cond.selects (kt 95).1.cls (kt 95).1 (kt 95).1 ∈ kw_A := (kwp 11 rfl rfl)
theorem hd_Fi_judgePair : (kt 95).1.cls ≠ "java/lang/invoke/MethodHandle" ∧ (kt 95).1.cls ≠ "java/lang/invoke/VarHandle" ∧ (parseMethodDescriptor (kt 95).1.desc).map (fun d => d.parameters.length) = some 2 := by decide +kernel
abbrev j_Md_init : Nat := 96
theorem wc_Md_init : Cond.code (kt 96).1 (kt 96).2.1 (kt 96).2.2.1 (kt 96).2.2.2.1 ∈ kw_A := (kw3 179 rfl rfl)
theorem wi_Md_init : Cond.instanceMethod (kt 96).1 ∈ kw_A := (kw3 178 rfl rfl)
theorem wn_Md_init : Cond.initialized (kt 96).1.cls ∈ kw_A := (kw1 11 rfl rfl)
theorem hd_Md_init : (kt 96).1.cls ≠ "java/lang/invoke/MethodHandle" ∧ (kt 96).1.cls ≠ "java/lang/invoke/VarHandle" ∧ (parseMethodDescriptor (kt 96).1.desc).map (fun d => d.parameters.length) = some 0 := by decide +kernel
abbrev j_Md_connect : Nat := 97
theorem wc_Md_connect : Cond.code (kt 97).1 (kt 97).2.1 (kt 97).2.2.1 (kt 97).2.2.2.1 ∈ kw_A := (kw4 103 rfl rfl)
theorem wi_Md_connect : Cond.instanceMethod (kt 97).1 ∈ kw_A := (kw4 101 rfl rfl)
theorem wn_Md_connect : Cond.initialized (kt 97).1.cls ∈ kw_A := (kw1 11 rfl rfl)
theorem ws_Md_connect : Cond.selects (kt 97).1.cls (kt 97).1 (kt 97).1 ∈ kw_A := (kw4 102 rfl rfl)
theorem hd_Md_connect : (kt 97).1.cls ≠ "java/lang/invoke/MethodHandle" ∧ (kt 97).1.cls ≠ "java/lang/invoke/VarHandle" ∧ (parseMethodDescriptor (kt 97).1.desc).map (fun d => d.parameters.length) = some 0 := by decide +kernel
abbrev j_Md_type : Nat := 98
theorem wc_Md_type : Cond.code (kt 98).1 (kt 98).2.1 (kt 98).2.2.1 (kt 98).2.2.2.1 ∈ kw_A := (kw4 107 rfl rfl)
theorem wi_Md_type : Cond.instanceMethod (kt 98).1 ∈ kw_A := (kw4 105 rfl rfl)
theorem wn_Md_type : Cond.initialized (kt 98).1.cls ∈ kw_A := (kw1 11 rfl rfl)
theorem ws_Md_type : Cond.selects (kt 98).1.cls (kt 98).1 (kt 98).1 ∈ kw_A := (kw4 106 rfl rfl)
theorem hd_Md_type : (kt 98).1.cls ≠ "java/lang/invoke/MethodHandle" ∧ (kt 98).1.cls ≠ "java/lang/invoke/VarHandle" ∧ (parseMethodDescriptor (kt 98).1.desc).map (fun d => d.parameters.length) = some 2 := by decide +kernel
abbrev j_Md_element : Nat := 99
theorem wc_Md_element : Cond.code (kt 99).1 (kt 99).2.1 (kt 99).2.2.1 (kt 99).2.2.2.1 ∈ kw_A := (kw4 124 rfl rfl)
theorem wi_Md_element : Cond.instanceMethod (kt 99).1 ∈ kw_A := (kw4 123 rfl rfl)
theorem wn_Md_element : Cond.initialized (kt 99).1.cls ∈ kw_A := (kw1 11 rfl rfl)
theorem ws_Md_element : Cond.selects (kt 99).1.cls (kt 99).1 (kt 99).1 ∈ kw_A := (kwp 25 rfl rfl)
theorem hd_Md_element : (kt 99).1.cls ≠ "java/lang/invoke/MethodHandle" ∧ (kt 99).1.cls ≠ "java/lang/invoke/VarHandle" ∧ (parseMethodDescriptor (kt 99).1.desc).map (fun d => d.parameters.length) = some 2 := by decide +kernel
abbrev j_Md_tagged : Nat := 100
theorem wc_Md_tagged : Cond.code (kt 100).1 (kt 100).2.1 (kt 100).2.2.1 (kt 100).2.2.2.1 ∈ kw_A := (kw4 120 rfl rfl)
theorem wi_Md_tagged : Cond.instanceMethod (kt 100).1 ∈ kw_A := (kw4 119 rfl rfl)
theorem wn_Md_tagged : Cond.initialized (kt 100).1.cls ∈ kw_A := (kw1 11 rfl rfl)
theorem ws_Md_tagged : Cond.selects (kt 100).1.cls (kt 100).1 (kt 100).1 ∈ kw_A := (kwp 24 rfl rfl)
theorem hd_Md_tagged : (kt 100).1.cls ≠ "java/lang/invoke/MethodHandle" ∧ (kt 100).1.cls ≠ "java/lang/invoke/VarHandle" ∧ (parseMethodDescriptor (kt 100).1.desc).map (fun d => d.parameters.length) = some 3 := by decide +kernel
abbrev j_Md_numbered : Nat := 101
theorem wc_Md_numbered : Cond.code (kt 101).1 (kt 101).2.1 (kt 101).2.2.1 (kt 101).2.2.2.1 ∈ kw_A := (kw4 128 rfl rfl)
theorem wi_Md_numbered : Cond.instanceMethod (kt 101).1 ∈ kw_A := (kw4 127 rfl rfl)
theorem wn_Md_numbered : Cond.initialized (kt 101).1.cls ∈ kw_A := (kw1 11 rfl rfl)
theorem ws_Md_numbered : Cond.selects (kt 101).1.cls (kt 101).1 (kt 101).1 ∈ kw_A := (kwp 26 rfl rfl)
theorem hd_Md_numbered : (kt 101).1.cls ≠ "java/lang/invoke/MethodHandle" ∧ (kt 101).1.cls ≠ "java/lang/invoke/VarHandle" ∧ (parseMethodDescriptor (kt 101).1.desc).map (fun d => d.parameters.length) = some 2 := by decide +kernel
abbrev j_Md_number : Nat := 102
theorem wc_Md_number : Cond.code (kt 102).1 (kt 102).2.1 (kt 102).2.2.1 (kt 102).2.2.2.1 ∈ kw_A := (kw4 132 rfl rfl)
theorem wi_Md_number : Cond.instanceMethod (kt 102).1 ∈ kw_A := (kw4 131 rfl rfl)
theorem wn_Md_number : Cond.initialized (kt 102).1.cls ∈ kw_A := (kw1 11 rfl rfl)
theorem ws_Md_number : Cond.selects (kt 102).1.cls (kt 102).1 (kt 102).1 ∈ kw_A := (kwp 27 rfl rfl)
theorem hd_Md_number : (kt 102).1.cls ≠ "java/lang/invoke/MethodHandle" ∧ (kt 102).1.cls ≠ "java/lang/invoke/VarHandle" ∧ (parseMethodDescriptor (kt 102).1.desc).map (fun d => d.parameters.length) = some 0 := by decide +kernel
abbrev j_Md_chosen : Nat := 103
theorem wc_Md_chosen : Cond.code (kt 103).1 (kt 103).2.1 (kt 103).2.2.1 (kt 103).2.2.2.1 ∈ kw_A := (kw4 148 rfl rfl)
theorem wi_Md_chosen : Cond.instanceMethod (kt 103).1 ∈ kw_A := (kw4 147 rfl rfl)
theorem wn_Md_chosen : Cond.initialized (kt 103).1.cls ∈ kw_A := (kw1 11 rfl rfl)
theorem ws_Md_chosen : Cond.selects (kt 103).1.cls (kt 103).1 (kt 103).1 ∈ kw_A := (kwp 31 rfl rfl)
theorem hd_Md_chosen : (kt 103).1.cls ≠ "java/lang/invoke/MethodHandle" ∧ (kt 103).1.cls ≠ "java/lang/invoke/VarHandle" ∧ (parseMethodDescriptor (kt 103).1.desc).map (fun d => d.parameters.length) = some 3 := by decide +kernel
abbrev j_Md_isLetter : Nat := 104
theorem wc_Md_isLetter : Cond.code (kt 104).1 (kt 104).2.1 (kt 104).2.2.1 (kt 104).2.2.2.1 ∈ kw_A := (kw4 171 rfl rfl)
theorem wi_Md_isLetter : Cond.static (kt 104).1 ∈ kw_A := (kw4 170 rfl rfl)
theorem wn_Md_isLetter : Cond.initialized (kt 104).1.cls ∈ kw_A := (kw1 11 rfl rfl)
theorem hd_Md_isLetter : (kt 104).1.cls ≠ "java/lang/invoke/MethodHandle" ∧ (kt 104).1.cls ≠ "java/lang/invoke/VarHandle" ∧ (parseMethodDescriptor (kt 104).1.desc).map (fun d => d.parameters.length) = some 1 := by decide +kernel
abbrev j_Md_typeIn : Nat := 105
theorem wc_Md_typeIn : Cond.code (kt 105).1 (kt 105).2.1 (kt 105).2.2.1 (kt 105).2.2.2.1 ∈ kw_A := (kw4 163 rfl rfl)
theorem wi_Md_typeIn : Cond.instanceMethod (kt 105).1 ∈ kw_A := (kw4 162 rfl rfl)
theorem wn_Md_typeIn : Cond.initialized (kt 105).1.cls ∈ kw_A := (kw1 11 rfl rfl)
theorem ws_Md_typeIn : Cond.selects (kt 105).1.cls (kt 105).1 (kt 105).1 ∈ kw_A := (kwp 34 rfl rfl)
theorem hd_Md_typeIn : (kt 105).1.cls ≠ "java/lang/invoke/MethodHandle" ∧ (kt 105).1.cls ≠ "java/lang/invoke/VarHandle" ∧ (parseMethodDescriptor (kt 105).1.desc).map (fun d => d.parameters.length) = some 2 := by decide +kernel
abbrev j_Md_valueIn : Nat := 106
theorem wc_Md_valueIn : Cond.code (kt 106).1 (kt 106).2.1 (kt 106).2.2.1 (kt 106).2.2.2.1 ∈ kw_A := (kw4 167 rfl rfl)
theorem wi_Md_valueIn : Cond.instanceMethod (kt 106).1 ∈ kw_A := (kw4 166 rfl rfl)
theorem wn_Md_valueIn : Cond.initialized (kt 106).1.cls ∈ kw_A := (kw1 11 rfl rfl)
theorem ws_Md_valueIn : Cond.selects (kt 106).1.cls (kt 106).1 (kt 106).1 ∈ kw_A := (kwp 35 rfl rfl)
theorem hd_Md_valueIn : (kt 106).1.cls ≠ "java/lang/invoke/MethodHandle" ∧ (kt 106).1.cls ≠ "java/lang/invoke/VarHandle" ∧ (parseMethodDescriptor (kt 106).1.desc).map (fun d => d.parameters.length) = some 2 := by decide +kernel
abbrev j_Md_takeName : Nat := 107
theorem wc_Md_takeName : Cond.code (kt 107).1 (kt 107).2.1 (kt 107).2.2.1 (kt 107).2.2.2.1 ∈ kw_A := (kw4 207 rfl rfl)
theorem wi_Md_takeName : Cond.instanceMethod (kt 107).1 ∈ kw_A := (kw4 206 rfl rfl)
theorem wn_Md_takeName : Cond.initialized (kt 107).1.cls ∈ kw_A := (kw1 11 rfl rfl)
theorem ws_Md_takeName : Cond.selects (kt 107).1.cls (kt 107).1 (kt 107).1 ∈ kw_A := (kwp 44 rfl rfl)
theorem hd_Md_takeName : (kt 107).1.cls ≠ "java/lang/invoke/MethodHandle" ∧ (kt 107).1.cls ≠ "java/lang/invoke/VarHandle" ∧ (parseMethodDescriptor (kt 107).1.desc).map (fun d => d.parameters.length) = some 2 := by decide +kernel
abbrev j_Md_isNamed : Nat := 108
theorem wc_Md_isNamed : Cond.code (kt 108).1 (kt 108).2.1 (kt 108).2.2.1 (kt 108).2.2.2.1 ∈ kw_A := (kw4 215 rfl rfl)
theorem wi_Md_isNamed : Cond.instanceMethod (kt 108).1 ∈ kw_A := (kw4 214 rfl rfl)
theorem wn_Md_isNamed : Cond.initialized (kt 108).1.cls ∈ kw_A := (kw1 11 rfl rfl)
theorem ws_Md_isNamed : Cond.selects (kt 108).1.cls (kt 108).1 (kt 108).1 ∈ kw_A := (kwp 46 rfl rfl)
theorem hd_Md_isNamed : (kt 108).1.cls ≠ "java/lang/invoke/MethodHandle" ∧ (kt 108).1.cls ≠ "java/lang/invoke/VarHandle" ∧ (parseMethodDescriptor (kt 108).1.desc).map (fun d => d.parameters.length) = some 2 := by decide +kernel
abbrev j_Md_find : Nat := 109
theorem wc_Md_find : Cond.code (kt 109).1 (kt 109).2.1 (kt 109).2.2.1 (kt 109).2.2.2.1 ∈ kw_A := (kw4 211 rfl rfl)
theorem wi_Md_find : Cond.instanceMethod (kt 109).1 ∈ kw_A := (kw4 210 rfl rfl)
theorem wn_Md_find : Cond.initialized (kt 109).1.cls ∈ kw_A := (kw1 11 rfl rfl)
theorem ws_Md_find : Cond.selects (kt 109).1.cls (kt 109).1 (kt 109).1 ∈ kw_A := (kwp 45 rfl rfl)
theorem hd_Md_find : (kt 109).1.cls ≠ "java/lang/invoke/MethodHandle" ∧ (kt 109).1.cls ≠ "java/lang/invoke/VarHandle" ∧ (parseMethodDescriptor (kt 109).1.desc).map (fun d => d.parameters.length) = some 1 := by decide +kernel
abbrev j_Md_isUnder : Nat := 110
theorem wc_Md_isUnder : Cond.code (kt 110).1 (kt 110).2.1 (kt 110).2.2.1 (kt 110).2.2.2.1 ∈ kw_A := (kw4 227 rfl rfl)
theorem wi_Md_isUnder : Cond.instanceMethod (kt 110).1 ∈ kw_A := (kw4 226 rfl rfl)
theorem wn_Md_isUnder : Cond.initialized (kt 110).1.cls ∈ kw_A := (kw1 11 rfl rfl)
theorem ws_Md_isUnder : Cond.selects (kt 110).1.cls (kt 110).1 (kt 110).1 ∈ kw_A := (kwp 49 rfl rfl)
theorem hd_Md_isUnder : (kt 110).1.cls ≠ "java/lang/invoke/MethodHandle" ∧ (kt 110).1.cls ≠ "java/lang/invoke/VarHandle" ∧ (parseMethodDescriptor (kt 110).1.desc).map (fun d => d.parameters.length) = some 3 := by decide +kernel
abbrev j_Md_readSign : Nat := 111
theorem wc_Md_readSign : Cond.code (kt 111).1 (kt 111).2.1 (kt 111).2.2.1 (kt 111).2.2.2.1 ∈ kw_A := (kw4 140 rfl rfl)
theorem wi_Md_readSign : Cond.instanceMethod (kt 111).1 ∈ kw_A := (kw4 139 rfl rfl)
theorem wn_Md_readSign : Cond.initialized (kt 111).1.cls ∈ kw_A := (kw1 11 rfl rfl)
theorem ws_Md_readSign : Cond.selects (kt 111).1.cls (kt 111).1 (kt 111).1 ∈ kw_A := (kwp 29 rfl rfl)
theorem hd_Md_readSign : (kt 111).1.cls ≠ "java/lang/invoke/MethodHandle" ∧ (kt 111).1.cls ≠ "java/lang/invoke/VarHandle" ∧ (parseMethodDescriptor (kt 111).1.desc).map (fun d => d.parameters.length) = some 0 := by decide +kernel
abbrev j_Md_readValues : Nat := 112
theorem wc_Md_readValues : Cond.code (kt 112).1 (kt 112).2.1 (kt 112).2.2.1 (kt 112).2.2.2.1 ∈ kw_A := (kw4 195 rfl rfl)
theorem wi_Md_readValues : Cond.instanceMethod (kt 112).1 ∈ kw_A := (kw4 194 rfl rfl)
theorem wn_Md_readValues : Cond.initialized (kt 112).1.cls ∈ kw_A := (kw1 11 rfl rfl)
theorem ws_Md_readValues : Cond.selects (kt 112).1.cls (kt 112).1 (kt 112).1 ∈ kw_A := (kwp 41 rfl rfl)
theorem hd_Md_readValues : (kt 112).1.cls ≠ "java/lang/invoke/MethodHandle" ∧ (kt 112).1.cls ≠ "java/lang/invoke/VarHandle" ∧ (parseMethodDescriptor (kt 112).1.desc).map (fun d => d.parameters.length) = some 2 := by decide +kernel
abbrev j_Md_readAttribute : Nat := 113
theorem wc_Md_readAttribute : Cond.code (kt 113).1 (kt 113).2.1 (kt 113).2.2.1 (kt 113).2.2.2.1 ∈ kw_A := (kw4 191 rfl rfl)
theorem wi_Md_readAttribute : Cond.instanceMethod (kt 113).1 ∈ kw_A := (kw4 190 rfl rfl)
theorem wn_Md_readAttribute : Cond.initialized (kt 113).1.cls ∈ kw_A := (kw1 11 rfl rfl)
theorem ws_Md_readAttribute : Cond.selects (kt 113).1.cls (kt 113).1 (kt 113).1 ∈ kw_A := (kwp 40 rfl rfl)
theorem hd_Md_readAttribute : (kt 113).1.cls ≠ "java/lang/invoke/MethodHandle" ∧ (kt 113).1.cls ≠ "java/lang/invoke/VarHandle" ∧ (parseMethodDescriptor (kt 113).1.desc).map (fun d => d.parameters.length) = some 2 := by decide +kernel
abbrev j_Md_readPairs : Nat := 114
theorem wc_Md_readPairs : Cond.code (kt 114).1 (kt 114).2.1 (kt 114).2.2.1 (kt 114).2.2.2.1 ∈ kw_A := (kw4 187 rfl rfl)
theorem wi_Md_readPairs : Cond.instanceMethod (kt 114).1 ∈ kw_A := (kw4 186 rfl rfl)
theorem wn_Md_readPairs : Cond.initialized (kt 114).1.cls ∈ kw_A := (kw1 11 rfl rfl)
theorem ws_Md_readPairs : Cond.selects (kt 114).1.cls (kt 114).1 (kt 114).1 ∈ kw_A := (kwp 39 rfl rfl)
theorem hd_Md_readPairs : (kt 114).1.cls ≠ "java/lang/invoke/MethodHandle" ∧ (kt 114).1.cls ≠ "java/lang/invoke/VarHandle" ∧ (parseMethodDescriptor (kt 114).1.desc).map (fun d => d.parameters.length) = some 1 := by decide +kernel
abbrev j_Md_readLeaf : Nat := 115
theorem wc_Md_readLeaf : Cond.code (kt 115).1 (kt 115).2.1 (kt 115).2.2.1 (kt 115).2.2.2.1 ∈ kw_A := (kw4 159 rfl rfl)
theorem wi_Md_readLeaf : Cond.instanceMethod (kt 115).1 ∈ kw_A := (kw4 158 rfl rfl)
theorem wn_Md_readLeaf : Cond.initialized (kt 115).1.cls ∈ kw_A := (kw1 11 rfl rfl)
theorem ws_Md_readLeaf : Cond.selects (kt 115).1.cls (kt 115).1 (kt 115).1 ∈ kw_A := (kwp 33 rfl rfl)
theorem hd_Md_readLeaf : (kt 115).1.cls ≠ "java/lang/invoke/MethodHandle" ∧ (kt 115).1.cls ≠ "java/lang/invoke/VarHandle" ∧ (parseMethodDescriptor (kt 115).1.desc).map (fun d => d.parameters.length) = some 1 := by decide +kernel
abbrev j_Md_isLeaf : Nat := 116
theorem wc_Md_isLeaf : Cond.code (kt 116).1 (kt 116).2.1 (kt 116).2.2.1 (kt 116).2.2.2.1 ∈ kw_A := (kw4 155 rfl rfl)
theorem wi_Md_isLeaf : Cond.static (kt 116).1 ∈ kw_A := (kw4 154 rfl rfl)
theorem wn_Md_isLeaf : Cond.initialized (kt 116).1.cls ∈ kw_A := (kw1 11 rfl rfl)
theorem hd_Md_isLeaf : (kt 116).1.cls ≠ "java/lang/invoke/MethodHandle" ∧ (kt 116).1.cls ≠ "java/lang/invoke/VarHandle" ∧ (parseMethodDescriptor (kt 116).1.desc).map (fun d => d.parameters.length) = some 1 := by decide +kernel
abbrev j_Md_inside : Nat := 117
theorem wc_Md_inside : Cond.code (kt 117).1 (kt 117).2.1 (kt 117).2.2.1 (kt 117).2.2.2.1 ∈ kw_A := (kw4 179 rfl rfl)
theorem wi_Md_inside : Cond.instanceMethod (kt 117).1 ∈ kw_A := (kw4 178 rfl rfl)
theorem wn_Md_inside : Cond.initialized (kt 117).1.cls ∈ kw_A := (kw1 11 rfl rfl)
theorem ws_Md_inside : Cond.selects (kt 117).1.cls (kt 117).1 (kt 117).1 ∈ kw_A := (kwp 37 rfl rfl)
theorem hd_Md_inside : (kt 117).1.cls ≠ "java/lang/invoke/MethodHandle" ∧ (kt 117).1.cls ≠ "java/lang/invoke/VarHandle" ∧ (parseMethodDescriptor (kt 117).1.desc).map (fun d => d.parameters.length) = some 1 := by decide +kernel
abbrev j_Md_closeAt : Nat := 118
theorem wc_Md_closeAt : Cond.code (kt 118).1 (kt 118).2.1 (kt 118).2.2.1 (kt 118).2.2.2.1 ∈ kw_A := (kw4 175 rfl rfl)
theorem wi_Md_closeAt : Cond.instanceMethod (kt 118).1 ∈ kw_A := (kw4 174 rfl rfl)
theorem wn_Md_closeAt : Cond.initialized (kt 118).1.cls ∈ kw_A := (kw1 11 rfl rfl)
theorem ws_Md_closeAt : Cond.selects (kt 118).1.cls (kt 118).1 (kt 118).1 ∈ kw_A := (kwp 36 rfl rfl)
theorem hd_Md_closeAt : (kt 118).1.cls ≠ "java/lang/invoke/MethodHandle" ∧ (kt 118).1.cls ≠ "java/lang/invoke/VarHandle" ∧ (parseMethodDescriptor (kt 118).1.desc).map (fun d => d.parameters.length) = some 1 := by decide +kernel
abbrev j_Md_readFilter : Nat := 119
theorem wc_Md_readFilter : Cond.code (kt 119).1 (kt 119).2.1 (kt 119).2.2.1 (kt 119).2.2.2.1 ∈ kw_A := (kw4 152 rfl rfl)
theorem wi_Md_readFilter : Cond.instanceMethod (kt 119).1 ∈ kw_A := (kw4 151 rfl rfl)
theorem wn_Md_readFilter : Cond.initialized (kt 119).1.cls ∈ kw_A := (kw1 11 rfl rfl)
theorem ws_Md_readFilter : Cond.selects (kt 119).1.cls (kt 119).1 (kt 119).1 ∈ kw_A := (kwp 32 rfl rfl)
theorem hd_Md_readFilter : (kt 119).1.cls ≠ "java/lang/invoke/MethodHandle" ∧ (kt 119).1.cls ≠ "java/lang/invoke/VarHandle" ∧ (parseMethodDescriptor (kt 119).1.desc).map (fun d => d.parameters.length) = some 1 := by decide +kernel
abbrev j_Md_readWanted : Nat := 120
theorem wc_Md_readWanted : Cond.code (kt 120).1 (kt 120).2.1 (kt 120).2.2.1 (kt 120).2.2.2.1 ∈ kw_A := (kw4 183 rfl rfl)
theorem wi_Md_readWanted : Cond.instanceMethod (kt 120).1 ∈ kw_A := (kw4 182 rfl rfl)
theorem wn_Md_readWanted : Cond.initialized (kt 120).1.cls ∈ kw_A := (kw1 11 rfl rfl)
theorem ws_Md_readWanted : Cond.selects (kt 120).1.cls (kt 120).1 (kt 120).1 ∈ kw_A := (kwp 38 rfl rfl)
theorem hd_Md_readWanted : (kt 120).1.cls ≠ "java/lang/invoke/MethodHandle" ∧ (kt 120).1.cls ≠ "java/lang/invoke/VarHandle" ∧ (parseMethodDescriptor (kt 120).1.desc).map (fun d => d.parameters.length) = some 1 := by decide +kernel
abbrev j_Md_readSearch : Nat := 121
theorem wc_Md_readSearch : Cond.code (kt 121).1 (kt 121).2.1 (kt 121).2.2.1 (kt 121).2.2.2.1 ∈ kw_A := (kw4 144 rfl rfl)
theorem wi_Md_readSearch : Cond.instanceMethod (kt 121).1 ∈ kw_A := (kw4 143 rfl rfl)
theorem wn_Md_readSearch : Cond.initialized (kt 121).1.cls ∈ kw_A := (kw1 11 rfl rfl)
theorem ws_Md_readSearch : Cond.selects (kt 121).1.cls (kt 121).1 (kt 121).1 ∈ kw_A := (kwp 30 rfl rfl)
theorem hd_Md_readSearch : (kt 121).1.cls ≠ "java/lang/invoke/MethodHandle" ∧ (kt 121).1.cls ≠ "java/lang/invoke/VarHandle" ∧ (parseMethodDescriptor (kt 121).1.desc).map (fun d => d.parameters.length) = some 0 := by decide +kernel
abbrev j_Md_readOperation : Nat := 122
theorem wc_Md_readOperation : Cond.code (kt 122).1 (kt 122).2.1 (kt 122).2.2.1 (kt 122).2.2.2.1 ∈ kw_A := (kw4 136 rfl rfl)
theorem wi_Md_readOperation : Cond.instanceMethod (kt 122).1 ∈ kw_A := (kw4 135 rfl rfl)
theorem wn_Md_readOperation : Cond.initialized (kt 122).1.cls ∈ kw_A := (kw1 11 rfl rfl)
theorem ws_Md_readOperation : Cond.selects (kt 122).1.cls (kt 122).1 (kt 122).1 ∈ kw_A := (kwp 28 rfl rfl)
theorem hd_Md_readOperation : (kt 122).1.cls ≠ "java/lang/invoke/MethodHandle" ∧ (kt 122).1.cls ≠ "java/lang/invoke/VarHandle" ∧ (parseMethodDescriptor (kt 122).1.desc).map (fun d => d.parameters.length) = some 0 := by decide +kernel
abbrev j_Md_workAt : Nat := 123
theorem wc_Md_workAt : Cond.code (kt 123).1 (kt 123).2.1 (kt 123).2.2.1 (kt 123).2.2.2.1 ∈ kw_A := (kw5 55 rfl rfl)
theorem wi_Md_workAt : Cond.instanceMethod (kt 123).1 ∈ kw_A := (kw5 54 rfl rfl)
theorem wn_Md_workAt : Cond.initialized (kt 123).1.cls ∈ kw_A := (kw1 11 rfl rfl)
theorem ws_Md_workAt : Cond.selects (kt 123).1.cls (kt 123).1 (kt 123).1 ∈ kw_A := (kwp 66 rfl rfl)
theorem hd_Md_workAt : (kt 123).1.cls ≠ "java/lang/invoke/MethodHandle" ∧ (kt 123).1.cls ≠ "java/lang/invoke/VarHandle" ∧ (parseMethodDescriptor (kt 123).1.desc).map (fun d => d.parameters.length) = some 2 := by decide +kernel
abbrev j_Md_work : Nat := 124
theorem wc_Md_work : Cond.code (kt 124).1 (kt 124).2.1 (kt 124).2.2.1 (kt 124).2.2.2.1 ∈ kw_A := (kw5 59 rfl rfl)
theorem wi_Md_work : Cond.instanceMethod (kt 124).1 ∈ kw_A := (kw5 58 rfl rfl)
theorem wn_Md_work : Cond.initialized (kt 124).1.cls ∈ kw_A := (kw1 11 rfl rfl)
theorem ws_Md_work : Cond.selects (kt 124).1.cls (kt 124).1 (kt 124).1 ∈ kw_A := (kwp 67 rfl rfl)
theorem hd_Md_work : (kt 124).1.cls ≠ "java/lang/invoke/MethodHandle" ∧ (kt 124).1.cls ≠ "java/lang/invoke/VarHandle" ∧ (parseMethodDescriptor (kt 124).1.desc).map (fun d => d.parameters.length) = some 2 := by decide +kernel
abbrev j_Md_unwork : Nat := 125
theorem wc_Md_unwork : Cond.code (kt 125).1 (kt 125).2.1 (kt 125).2.2.1 (kt 125).2.2.2.1 ∈ kw_A := (kw5 51 rfl rfl)
theorem wi_Md_unwork : Cond.instanceMethod (kt 125).1 ∈ kw_A := (kw5 50 rfl rfl)
theorem wn_Md_unwork : Cond.initialized (kt 125).1.cls ∈ kw_A := (kw1 11 rfl rfl)
theorem ws_Md_unwork : Cond.selects (kt 125).1.cls (kt 125).1 (kt 125).1 ∈ kw_A := (kwp 65 rfl rfl)
theorem hd_Md_unwork : (kt 125).1.cls ≠ "java/lang/invoke/MethodHandle" ∧ (kt 125).1.cls ≠ "java/lang/invoke/VarHandle" ∧ (parseMethodDescriptor (kt 125).1.desc).map (fun d => d.parameters.length) = some 1 := by decide +kernel
abbrev j_Md_clearType : Nat := 126
theorem wc_Md_clearType : Cond.code (kt 126).1 (kt 126).2.1 (kt 126).2.2.1 (kt 126).2.2.2.1 ∈ kw_A := (kw5 47 rfl rfl)
theorem wi_Md_clearType : Cond.instanceMethod (kt 126).1 ∈ kw_A := (kw5 46 rfl rfl)
theorem wn_Md_clearType : Cond.initialized (kt 126).1.cls ∈ kw_A := (kw1 11 rfl rfl)
theorem ws_Md_clearType : Cond.selects (kt 126).1.cls (kt 126).1 (kt 126).1 ∈ kw_A := (kwp 64 rfl rfl)
theorem hd_Md_clearType : (kt 126).1.cls ≠ "java/lang/invoke/MethodHandle" ∧ (kt 126).1.cls ≠ "java/lang/invoke/VarHandle" ∧ (parseMethodDescriptor (kt 126).1.desc).map (fun d => d.parameters.length) = some 1 := by decide +kernel
abbrev j_Md_settle : Nat := 127
theorem wc_Md_settle : Cond.code (kt 127).1 (kt 127).2.1 (kt 127).2.2.1 (kt 127).2.2.2.1 ∈ kw_A := (kw5 63 rfl rfl)
theorem wi_Md_settle : Cond.instanceMethod (kt 127).1 ∈ kw_A := (kw5 62 rfl rfl)
theorem wn_Md_settle : Cond.initialized (kt 127).1.cls ∈ kw_A := (kw1 11 rfl rfl)
theorem ws_Md_settle : Cond.selects (kt 127).1.cls (kt 127).1 (kt 127).1 ∈ kw_A := (kwp 68 rfl rfl)
theorem hd_Md_settle : (kt 127).1.cls ≠ "java/lang/invoke/MethodHandle" ∧ (kt 127).1.cls ≠ "java/lang/invoke/VarHandle" ∧ (parseMethodDescriptor (kt 127).1.desc).map (fun d => d.parameters.length) = some 1 := by decide +kernel
abbrev j_Md_workIn : Nat := 128
theorem wc_Md_workIn : Cond.code (kt 128).1 (kt 128).2.1 (kt 128).2.2.1 (kt 128).2.2.2.1 ∈ kw_A := (kw5 43 rfl rfl)
theorem wi_Md_workIn : Cond.instanceMethod (kt 128).1 ∈ kw_A := (kw5 42 rfl rfl)
theorem wn_Md_workIn : Cond.initialized (kt 128).1.cls ∈ kw_A := (kw1 11 rfl rfl)
theorem ws_Md_workIn : Cond.selects (kt 128).1.cls (kt 128).1 (kt 128).1 ∈ kw_A := (kwp 63 rfl rfl)
theorem hd_Md_workIn : (kt 128).1.cls ≠ "java/lang/invoke/MethodHandle" ∧ (kt 128).1.cls ≠ "java/lang/invoke/VarHandle" ∧ (parseMethodDescriptor (kt 128).1.desc).map (fun d => d.parameters.length) = some 2 := by decide +kernel
abbrev j_Md_sign : Nat := 129
theorem wc_Md_sign : Cond.code (kt 129).1 (kt 129).2.1 (kt 129).2.2.1 (kt 129).2.2.2.1 ∈ kw_A := (kw4 203 rfl rfl)
theorem wi_Md_sign : Cond.instanceMethod (kt 129).1 ∈ kw_A := (kw4 202 rfl rfl)
theorem wn_Md_sign : Cond.initialized (kt 129).1.cls ∈ kw_A := (kw1 11 rfl rfl)
theorem ws_Md_sign : Cond.selects (kt 129).1.cls (kt 129).1 (kt 129).1 ∈ kw_A := (kwp 43 rfl rfl)
theorem hd_Md_sign : (kt 129).1.cls ≠ "java/lang/invoke/MethodHandle" ∧ (kt 129).1.cls ≠ "java/lang/invoke/VarHandle" ∧ (parseMethodDescriptor (kt 129).1.desc).map (fun d => d.parameters.length) = some 0 := by decide +kernel
abbrev j_Md_add : Nat := 130
theorem wc_Md_add : Cond.code (kt 130).1 (kt 130).2.1 (kt 130).2.2.1 (kt 130).2.2.2.1 ∈ kw_A := (kw5 39 rfl rfl)
theorem wi_Md_add : Cond.instanceMethod (kt 130).1 ∈ kw_A := (kw5 38 rfl rfl)
theorem wn_Md_add : Cond.initialized (kt 130).1.cls ∈ kw_A := (kw1 11 rfl rfl)
theorem ws_Md_add : Cond.selects (kt 130).1.cls (kt 130).1 (kt 130).1 ∈ kw_A := (kwp 62 rfl rfl)
theorem hd_Md_add : (kt 130).1.cls ≠ "java/lang/invoke/MethodHandle" ∧ (kt 130).1.cls ≠ "java/lang/invoke/VarHandle" ∧ (parseMethodDescriptor (kt 130).1.desc).map (fun d => d.parameters.length) = some 0 := by decide +kernel
abbrev j_Md_remove : Nat := 131
theorem wc_Md_remove : Cond.code (kt 131).1 (kt 131).2.1 (kt 131).2.2.1 (kt 131).2.2.2.1 ∈ kw_A := (kw5 71 rfl rfl)
theorem wi_Md_remove : Cond.instanceMethod (kt 131).1 ∈ kw_A := (kw5 70 rfl rfl)
theorem wn_Md_remove : Cond.initialized (kt 131).1.cls ∈ kw_A := (kw1 11 rfl rfl)
theorem ws_Md_remove : Cond.selects (kt 131).1.cls (kt 131).1 (kt 131).1 ∈ kw_A := (kwp 70 rfl rfl)
theorem hd_Md_remove : (kt 131).1.cls ≠ "java/lang/invoke/MethodHandle" ∧ (kt 131).1.cls ≠ "java/lang/invoke/VarHandle" ∧ (parseMethodDescriptor (kt 131).1.desc).map (fun d => d.parameters.length) = some 0 := by decide +kernel
abbrev j_Md_modify : Nat := 132
theorem wc_Md_modify : Cond.code (kt 132).1 (kt 132).2.1 (kt 132).2.2.1 (kt 132).2.2.2.1 ∈ kw_A := (kw5 67 rfl rfl)
theorem wi_Md_modify : Cond.instanceMethod (kt 132).1 ∈ kw_A := (kw5 66 rfl rfl)
theorem wn_Md_modify : Cond.initialized (kt 132).1.cls ∈ kw_A := (kw1 11 rfl rfl)
theorem ws_Md_modify : Cond.selects (kt 132).1.cls (kt 132).1 (kt 132).1 ∈ kw_A := (kwp 69 rfl rfl)
theorem hd_Md_modify : (kt 132).1.cls ≠ "java/lang/invoke/MethodHandle" ∧ (kt 132).1.cls ≠ "java/lang/invoke/VarHandle" ∧ (parseMethodDescriptor (kt 132).1.desc).map (fun d => d.parameters.length) = some 0 := by decide +kernel
abbrev j_Md_judgeLeaf : Nat := 133
theorem wc_Md_judgeLeaf : Cond.code (kt 133).1 (kt 133).2.1 (kt 133).2.2.1 (kt 133).2.2.2.1 ∈ kw_A := (kw5 3 rfl rfl)
theorem wi_Md_judgeLeaf : Cond.instanceMethod (kt 133).1 ∈ kw_A := (kw5 2 rfl rfl)
theorem wn_Md_judgeLeaf : Cond.initialized (kt 133).1.cls ∈ kw_A := (kw1 11 rfl rfl)
theorem ws_Md_judgeLeaf : Cond.selects (kt 133).1.cls (kt 133).1 (kt 133).1 ∈ kw_A := (kwp 53 rfl rfl)
theorem hd_Md_judgeLeaf : (kt 133).1.cls ≠ "java/lang/invoke/MethodHandle" ∧ (kt 133).1.cls ≠ "java/lang/invoke/VarHandle" ∧ (parseMethodDescriptor (kt 133).1.desc).map (fun d => d.parameters.length) = some 2 := by decide +kernel
abbrev j_Md_having : Nat := 134
theorem wc_Md_having : Cond.code (kt 134).1 (kt 134).2.1 (kt 134).2.2.1 (kt 134).2.2.2.1 ∈ kw_A := (kw4 239 rfl rfl)
theorem wi_Md_having : Cond.instanceMethod (kt 134).1 ∈ kw_A := (kw4 238 rfl rfl)
theorem wn_Md_having : Cond.initialized (kt 134).1.cls ∈ kw_A := (kw1 11 rfl rfl)
theorem ws_Md_having : Cond.selects (kt 134).1.cls (kt 134).1 (kt 134).1 ∈ kw_A := (kwp 52 rfl rfl)
theorem hd_Md_having : (kt 134).1.cls ≠ "java/lang/invoke/MethodHandle" ∧ (kt 134).1.cls ≠ "java/lang/invoke/VarHandle" ∧ (parseMethodDescriptor (kt 134).1.desc).map (fun d => d.parameters.length) = some 2 := by decide +kernel
abbrev j_Md_judge : Nat := 135
theorem wc_Md_judge : Cond.code (kt 135).1 (kt 135).2.1 (kt 135).2.2.1 (kt 135).2.2.2.1 ∈ kw_A := (kw4 235 rfl rfl)
theorem wi_Md_judge : Cond.instanceMethod (kt 135).1 ∈ kw_A := (kw4 234 rfl rfl)
theorem wn_Md_judge : Cond.initialized (kt 135).1.cls ∈ kw_A := (kw1 11 rfl rfl)
theorem ws_Md_judge : Cond.selects (kt 135).1.cls (kt 135).1 (kt 135).1 ∈ kw_A := (kwp 51 rfl rfl)
theorem hd_Md_judge : (kt 135).1.cls ≠ "java/lang/invoke/MethodHandle" ∧ (kt 135).1.cls ≠ "java/lang/invoke/VarHandle" ∧ (parseMethodDescriptor (kt 135).1.desc).map (fun d => d.parameters.length) = some 2 := by decide +kernel
abbrev j_Md_matches : Nat := 136
theorem wc_Md_matches : Cond.code (kt 136).1 (kt 136).2.1 (kt 136).2.2.1 (kt 136).2.2.2.1 ∈ kw_A := (kw4 231 rfl rfl)
theorem wi_Md_matches : Cond.instanceMethod (kt 136).1 ∈ kw_A := (kw4 230 rfl rfl)
theorem wn_Md_matches : Cond.initialized (kt 136).1.cls ∈ kw_A := (kw1 11 rfl rfl)
theorem ws_Md_matches : Cond.selects (kt 136).1.cls (kt 136).1 (kt 136).1 ∈ kw_A := (kwp 50 rfl rfl)
theorem hd_Md_matches : (kt 136).1.cls ≠ "java/lang/invoke/MethodHandle" ∧ (kt 136).1.cls ≠ "java/lang/invoke/VarHandle" ∧ (parseMethodDescriptor (kt 136).1.desc).map (fun d => d.parameters.length) = some 1 := by decide +kernel
abbrev j_Md_inScope : Nat := 137
theorem wc_Md_inScope : Cond.code (kt 137).1 (kt 137).2.1 (kt 137).2.2.1 (kt 137).2.2.2.1 ∈ kw_A := (kw4 223 rfl rfl)
theorem wi_Md_inScope : Cond.instanceMethod (kt 137).1 ∈ kw_A := (kw4 222 rfl rfl)
theorem wn_Md_inScope : Cond.initialized (kt 137).1.cls ∈ kw_A := (kw1 11 rfl rfl)
theorem ws_Md_inScope : Cond.selects (kt 137).1.cls (kt 137).1 (kt 137).1 ∈ kw_A := (kwp 48 rfl rfl)
theorem hd_Md_inScope : (kt 137).1.cls ≠ "java/lang/invoke/MethodHandle" ∧ (kt 137).1.cls ≠ "java/lang/invoke/VarHandle" ∧ (parseMethodDescriptor (kt 137).1.desc).map (fun d => d.parameters.length) = some 2 := by decide +kernel
abbrev j_Md_search : Nat := 138
theorem wc_Md_search : Cond.code (kt 138).1 (kt 138).2.1 (kt 138).2.2.1 (kt 138).2.2.2.1 ∈ kw_A := (kw4 219 rfl rfl)
theorem wi_Md_search : Cond.instanceMethod (kt 138).1 ∈ kw_A := (kw4 218 rfl rfl)
theorem wn_Md_search : Cond.initialized (kt 138).1.cls ∈ kw_A := (kw1 11 rfl rfl)
theorem ws_Md_search : Cond.selects (kt 138).1.cls (kt 138).1 (kt 138).1 ∈ kw_A := (kwp 47 rfl rfl)
theorem hd_Md_search : (kt 138).1.cls ≠ "java/lang/invoke/MethodHandle" ∧ (kt 138).1.cls ≠ "java/lang/invoke/VarHandle" ∧ (parseMethodDescriptor (kt 138).1.desc).map (fun d => d.parameters.length) = some 0 := by decide +kernel
abbrev j_Md_say : Nat := 139
theorem wc_Md_say : Cond.code (kt 139).1 (kt 139).2.1 (kt 139).2.2.1 (kt 139).2.2.2.1 ∈ kw_A := (kw5 15 rfl rfl)
theorem wi_Md_say : Cond.instanceMethod (kt 139).1 ∈ kw_A := (kw5 14 rfl rfl)
theorem wn_Md_say : Cond.initialized (kt 139).1.cls ∈ kw_A := (kw1 11 rfl rfl)
theorem ws_Md_say : Cond.selects (kt 139).1.cls (kt 139).1 (kt 139).1 ∈ kw_A := (kwp 56 rfl rfl)
theorem hd_Md_say : (kt 139).1.cls ≠ "java/lang/invoke/MethodHandle" ∧ (kt 139).1.cls ≠ "java/lang/invoke/VarHandle" ∧ (parseMethodDescriptor (kt 139).1.desc).map (fun d => d.parameters.length) = some 1 := by decide +kernel
abbrev j_Md_begin : Nat := 140
theorem wc_Md_begin : Cond.code (kt 140).1 (kt 140).2.1 (kt 140).2.2.1 (kt 140).2.2.2.1 ∈ kw_A := (kw5 11 rfl rfl)
theorem wi_Md_begin : Cond.instanceMethod (kt 140).1 ∈ kw_A := (kw5 10 rfl rfl)
theorem wn_Md_begin : Cond.initialized (kt 140).1.cls ∈ kw_A := (kw1 11 rfl rfl)
theorem ws_Md_begin : Cond.selects (kt 140).1.cls (kt 140).1 (kt 140).1 ∈ kw_A := (kwp 55 rfl rfl)
theorem hd_Md_begin : (kt 140).1.cls ≠ "java/lang/invoke/MethodHandle" ∧ (kt 140).1.cls ≠ "java/lang/invoke/VarHandle" ∧ (parseMethodDescriptor (kt 140).1.desc).map (fun d => d.parameters.length) = some 1 := by decide +kernel
abbrev j_Md_close : Nat := 141
theorem wc_Md_close : Cond.code (kt 141).1 (kt 141).2.1 (kt 141).2.2.1 (kt 141).2.2.2.1 ∈ kw_A := (kw5 23 rfl rfl)
theorem wi_Md_close : Cond.instanceMethod (kt 141).1 ∈ kw_A := (kw5 22 rfl rfl)
theorem wn_Md_close : Cond.initialized (kt 141).1.cls ∈ kw_A := (kw1 11 rfl rfl)
theorem ws_Md_close : Cond.selects (kt 141).1.cls (kt 141).1 (kt 141).1 ∈ kw_A := (kwp 58 rfl rfl)
theorem hd_Md_close : (kt 141).1.cls ≠ "java/lang/invoke/MethodHandle" ∧ (kt 141).1.cls ≠ "java/lang/invoke/VarHandle" ∧ (parseMethodDescriptor (kt 141).1.desc).map (fun d => d.parameters.length) = some 1 := by decide +kernel
abbrev j_Md_sayId : Nat := 142
theorem wc_Md_sayId : Cond.code (kt 142).1 (kt 142).2.1 (kt 142).2.2.1 (kt 142).2.2.2.1 ∈ kw_A := (kw5 19 rfl rfl)
theorem wi_Md_sayId : Cond.instanceMethod (kt 142).1 ∈ kw_A := (kw5 18 rfl rfl)
theorem wn_Md_sayId : Cond.initialized (kt 142).1.cls ∈ kw_A := (kw1 11 rfl rfl)
theorem ws_Md_sayId : Cond.selects (kt 142).1.cls (kt 142).1 (kt 142).1 ∈ kw_A := (kwp 57 rfl rfl)
theorem hd_Md_sayId : (kt 142).1.cls ≠ "java/lang/invoke/MethodHandle" ∧ (kt 142).1.cls ≠ "java/lang/invoke/VarHandle" ∧ (parseMethodDescriptor (kt 142).1.desc).map (fun d => d.parameters.length) = some 0 := by decide +kernel
abbrev j_Md_sayValue : Nat := 143
theorem wc_Md_sayValue : Cond.code (kt 143).1 (kt 143).2.1 (kt 143).2.2.1 (kt 143).2.2.2.1 ∈ kw_A := (kw5 31 rfl rfl)
theorem wi_Md_sayValue : Cond.instanceMethod (kt 143).1 ∈ kw_A := (kw5 30 rfl rfl)
theorem wn_Md_sayValue : Cond.initialized (kt 143).1.cls ∈ kw_A := (kw1 11 rfl rfl)
theorem ws_Md_sayValue : Cond.selects (kt 143).1.cls (kt 143).1 (kt 143).1 ∈ kw_A := (kwp 60 rfl rfl)
theorem hd_Md_sayValue : (kt 143).1.cls ≠ "java/lang/invoke/MethodHandle" ∧ (kt 143).1.cls ≠ "java/lang/invoke/VarHandle" ∧ (parseMethodDescriptor (kt 143).1.desc).map (fun d => d.parameters.length) = some 1 := by decide +kernel
abbrev j_Md_sayPart : Nat := 144
theorem wc_Md_sayPart : Cond.code (kt 144).1 (kt 144).2.1 (kt 144).2.2.1 (kt 144).2.2.2.1 ∈ kw_A := (kw5 27 rfl rfl)
theorem wi_Md_sayPart : Cond.instanceMethod (kt 144).1 ∈ kw_A := (kw5 26 rfl rfl)
theorem wn_Md_sayPart : Cond.initialized (kt 144).1.cls ∈ kw_A := (kw1 11 rfl rfl)
theorem ws_Md_sayPart : Cond.selects (kt 144).1.cls (kt 144).1 (kt 144).1 ∈ kw_A := (kwp 59 rfl rfl)
theorem hd_Md_sayPart : (kt 144).1.cls ≠ "java/lang/invoke/MethodHandle" ∧ (kt 144).1.cls ≠ "java/lang/invoke/VarHandle" ∧ (parseMethodDescriptor (kt 144).1.desc).map (fun d => d.parameters.length) = some 2 := by decide +kernel
abbrev j_Md_sayAttribute : Nat := 145
theorem wc_Md_sayAttribute : Cond.code (kt 145).1 (kt 145).2.1 (kt 145).2.2.1 (kt 145).2.2.2.1 ∈ kw_A := (kw5 35 rfl rfl)
theorem wi_Md_sayAttribute : Cond.instanceMethod (kt 145).1 ∈ kw_A := (kw5 34 rfl rfl)
theorem wn_Md_sayAttribute : Cond.initialized (kt 145).1.cls ∈ kw_A := (kw1 11 rfl rfl)
theorem ws_Md_sayAttribute : Cond.selects (kt 145).1.cls (kt 145).1 (kt 145).1 ∈ kw_A := (kwp 61 rfl rfl)
theorem hd_Md_sayAttribute : (kt 145).1.cls ≠ "java/lang/invoke/MethodHandle" ∧ (kt 145).1.cls ≠ "java/lang/invoke/VarHandle" ∧ (parseMethodDescriptor (kt 145).1.desc).map (fun d => d.parameters.length) = some 2 := by decide +kernel
abbrev j_Md_show : Nat := 146
theorem wc_Md_show : Cond.code (kt 146).1 (kt 146).2.1 (kt 146).2.2.1 (kt 146).2.2.2.1 ∈ kw_A := (kw5 7 rfl rfl)
theorem wi_Md_show : Cond.instanceMethod (kt 146).1 ∈ kw_A := (kw5 6 rfl rfl)
theorem wn_Md_show : Cond.initialized (kt 146).1.cls ∈ kw_A := (kw1 11 rfl rfl)
theorem ws_Md_show : Cond.selects (kt 146).1.cls (kt 146).1 (kt 146).1 ∈ kw_A := (kwp 54 rfl rfl)
theorem hd_Md_show : (kt 146).1.cls ≠ "java/lang/invoke/MethodHandle" ∧ (kt 146).1.cls ≠ "java/lang/invoke/VarHandle" ∧ (parseMethodDescriptor (kt 146).1.desc).map (fun d => d.parameters.length) = some 1 := by decide +kernel
abbrev j_Md_conclude : Nat := 147
theorem wc_Md_conclude : Cond.code (kt 147).1 (kt 147).2.1 (kt 147).2.2.1 (kt 147).2.2.2.1 ∈ kw_A := (kw5 75 rfl rfl)
theorem wi_Md_conclude : Cond.instanceMethod (kt 147).1 ∈ kw_A := (kw5 74 rfl rfl)
theorem wn_Md_conclude : Cond.initialized (kt 147).1.cls ∈ kw_A := (kw1 11 rfl rfl)
theorem ws_Md_conclude : Cond.selects (kt 147).1.cls (kt 147).1 (kt 147).1 ∈ kw_A := (kwp 71 rfl rfl)
theorem hd_Md_conclude : (kt 147).1.cls ≠ "java/lang/invoke/MethodHandle" ∧ (kt 147).1.cls ≠ "java/lang/invoke/VarHandle" ∧ (parseMethodDescriptor (kt 147).1.desc).map (fun d => d.parameters.length) = some 1 := by decide +kernel
abbrev j_Md_isMessage : Nat := 148
theorem wc_Md_isMessage : Cond.code (kt 148).1 (kt 148).2.1 (kt 148).2.2.1 (kt 148).2.2.2.1 ∈ kw_A := (kw4 116 rfl rfl)
theorem wi_Md_isMessage : Cond.instanceMethod (kt 148).1 ∈ kw_A := (kw4 115 rfl rfl)
theorem wn_Md_isMessage : Cond.initialized (kt 148).1.cls ∈ kw_A := (kw1 11 rfl rfl)
theorem ws_Md_isMessage : Cond.selects (kt 148).1.cls (kt 148).1 (kt 148).1 ∈ kw_A := (kwp 23 rfl rfl)
theorem hd_Md_isMessage : (kt 148).1.cls ≠ "java/lang/invoke/MethodHandle" ∧ (kt 148).1.cls ≠ "java/lang/invoke/VarHandle" ∧ (parseMethodDescriptor (kt 148).1.desc).map (fun d => d.parameters.length) = some 0 := by decide +kernel
abbrev j_Md_perform : Nat := 149
theorem wc_Md_perform : Cond.code (kt 149).1 (kt 149).2.1 (kt 149).2.2.1 (kt 149).2.2.2.1 ∈ kw_A := (kw4 199 rfl rfl)
theorem wi_Md_perform : Cond.instanceMethod (kt 149).1 ∈ kw_A := (kw4 198 rfl rfl)
theorem wn_Md_perform : Cond.initialized (kt 149).1.cls ∈ kw_A := (kw1 11 rfl rfl)
theorem ws_Md_perform : Cond.selects (kt 149).1.cls (kt 149).1 (kt 149).1 ∈ kw_A := (kwp 42 rfl rfl)
theorem hd_Md_perform : (kt 149).1.cls ≠ "java/lang/invoke/MethodHandle" ∧ (kt 149).1.cls ≠ "java/lang/invoke/VarHandle" ∧ (parseMethodDescriptor (kt 149).1.desc).map (fun d => d.parameters.length) = some 0 := by decide +kernel
abbrev j_Md_handle : Nat := 150
theorem wc_Md_handle : Cond.code (kt 150).1 (kt 150).2.1 (kt 150).2.2.1 (kt 150).2.2.2.1 ∈ kw_A := (kw4 112 rfl rfl)
theorem wi_Md_handle : Cond.instanceMethod (kt 150).1 ∈ kw_A := (kw4 110 rfl rfl)
theorem wn_Md_handle : Cond.initialized (kt 150).1.cls ∈ kw_A := (kw1 11 rfl rfl)
theorem ws_Md_handle : Cond.selects (kt 150).1.cls (kt 150).1 (kt 150).1 ∈ kw_A := (kw4 111 rfl rfl)
theorem hd_Md_handle : (kt 150).1.cls ≠ "java/lang/invoke/MethodHandle" ∧ (kt 150).1.cls ≠ "java/lang/invoke/VarHandle" ∧ (parseMethodDescriptor (kt 150).1.desc).map (fun d => d.parameters.length) = some 0 := by decide +kernel
abbrev j_Md_answered : Nat := 151
theorem wc_Md_answered : Cond.code (kt 151).1 (kt 151).2.1 (kt 151).2.2.1 (kt 151).2.2.2.1 ∈ kw_A := (kw5 79 rfl rfl)
theorem wi_Md_answered : Cond.instanceMethod (kt 151).1 ∈ kw_A := (kw5 77 rfl rfl)
theorem wn_Md_answered : Cond.initialized (kt 151).1.cls ∈ kw_A := (kw1 11 rfl rfl)
theorem ws_Md_answered : Cond.selects (kt 151).1.cls (kt 151).1 (kt 151).1 ∈ kw_A := (kw5 78 rfl rfl)
theorem hd_Md_answered : (kt 151).1.cls ≠ "java/lang/invoke/MethodHandle" ∧ (kt 151).1.cls ≠ "java/lang/invoke/VarHandle" ∧ (parseMethodDescriptor (kt 151).1.desc).map (fun d => d.parameters.length) = some 0 := by decide +kernel
abbrev j_Md_answer : Nat := 152
theorem wc_Md_answer : Cond.code (kt 152).1 (kt 152).2.1 (kt 152).2.2.1 (kt 152).2.2.2.1 ∈ kw_A := (kw5 83 rfl rfl)
theorem wi_Md_answer : Cond.instanceMethod (kt 152).1 ∈ kw_A := (kw5 81 rfl rfl)
theorem wn_Md_answer : Cond.initialized (kt 152).1.cls ∈ kw_A := (kw1 11 rfl rfl)
theorem ws_Md_answer : Cond.selects (kt 152).1.cls (kt 152).1 (kt 152).1 ∈ kw_A := (kw5 82 rfl rfl)
theorem hd_Md_answer : (kt 152).1.cls ≠ "java/lang/invoke/MethodHandle" ∧ (kt 152).1.cls ≠ "java/lang/invoke/VarHandle" ∧ (parseMethodDescriptor (kt 152).1.desc).map (fun d => d.parameters.length) = some 1 := by decide +kernel
abbrev j_Md_entries : Nat := 153
theorem wc_Md_entries : Cond.code (kt 153).1 (kt 153).2.1 (kt 153).2.2.1 (kt 153).2.2.2.1 ∈ kw_A := (kw5 87 rfl rfl)
theorem wi_Md_entries : Cond.instanceMethod (kt 153).1 ∈ kw_A := (kw5 85 rfl rfl)
theorem wn_Md_entries : Cond.initialized (kt 153).1.cls ∈ kw_A := (kw1 11 rfl rfl)
theorem ws_Md_entries : Cond.selects (kt 153).1.cls (kt 153).1 (kt 153).1 ∈ kw_A := (kw5 86 rfl rfl)
theorem hd_Md_entries : (kt 153).1.cls ≠ "java/lang/invoke/MethodHandle" ∧ (kt 153).1.cls ≠ "java/lang/invoke/VarHandle" ∧ (parseMethodDescriptor (kt 153).1.desc).map (fun d => d.parameters.length) = some 0 := by decide +kernel
abbrev j_Md_entry : Nat := 154
theorem wc_Md_entry : Cond.code (kt 154).1 (kt 154).2.1 (kt 154).2.2.1 (kt 154).2.2.2.1 ∈ kw_A := (kw5 91 rfl rfl)
theorem wi_Md_entry : Cond.instanceMethod (kt 154).1 ∈ kw_A := (kw5 89 rfl rfl)
theorem wn_Md_entry : Cond.initialized (kt 154).1.cls ∈ kw_A := (kw1 11 rfl rfl)
theorem ws_Md_entry : Cond.selects (kt 154).1.cls (kt 154).1 (kt 154).1 ∈ kw_A := (kw5 90 rfl rfl)
theorem hd_Md_entry : (kt 154).1.cls ≠ "java/lang/invoke/MethodHandle" ∧ (kt 154).1.cls ≠ "java/lang/invoke/VarHandle" ∧ (parseMethodDescriptor (kt 154).1.desc).map (fun d => d.parameters.length) = some 1 := by decide +kernel
abbrev j_Md_isPair : Nat := 155
theorem wc_Md_isPair : Cond.code (kt 155).1 (kt 155).2.1 (kt 155).2.2.1 (kt 155).2.2.2.1 ∈ kw_A := (kw5 99 rfl rfl)
theorem wi_Md_isPair : Cond.instanceMethod (kt 155).1 ∈ kw_A := (kw5 98 rfl rfl)
theorem wn_Md_isPair : Cond.initialized (kt 155).1.cls ∈ kw_A := (kw1 11 rfl rfl)
theorem ws_Md_isPair : Cond.selects (kt 155).1.cls (kt 155).1 (kt 155).1 ∈ kw_A := (kwp 72 rfl rfl)
theorem hd_Md_isPair : (kt 155).1.cls ≠ "java/lang/invoke/MethodHandle" ∧ (kt 155).1.cls ≠ "java/lang/invoke/VarHandle" ∧ (parseMethodDescriptor (kt 155).1.desc).map (fun d => d.parameters.length) = some 2 := by decide +kernel
abbrev j_Md_pairType : Nat := 156
theorem wc_Md_pairType : Cond.code (kt 156).1 (kt 156).2.1 (kt 156).2.2.1 (kt 156).2.2.2.1 ∈ kw_A := (kw5 95 rfl rfl)
theorem wi_Md_pairType : Cond.instanceMethod (kt 156).1 ∈ kw_A := (kw5 93 rfl rfl)
theorem wn_Md_pairType : Cond.initialized (kt 156).1.cls ∈ kw_A := (kw1 11 rfl rfl)
theorem ws_Md_pairType : Cond.selects (kt 156).1.cls (kt 156).1 (kt 156).1 ∈ kw_A := (kw5 94 rfl rfl)
theorem hd_Md_pairType : (kt 156).1.cls ≠ "java/lang/invoke/MethodHandle" ∧ (kt 156).1.cls ≠ "java/lang/invoke/VarHandle" ∧ (parseMethodDescriptor (kt 156).1.desc).map (fun d => d.parameters.length) = some 2 := by decide +kernel
abbrev j_Md_pairValue : Nat := 157
theorem wc_Md_pairValue : Cond.code (kt 157).1 (kt 157).2.1 (kt 157).2.2.1 (kt 157).2.2.2.1 ∈ kw_A := (kw5 103 rfl rfl)
theorem wi_Md_pairValue : Cond.instanceMethod (kt 157).1 ∈ kw_A := (kw5 101 rfl rfl)
theorem wn_Md_pairValue : Cond.initialized (kt 157).1.cls ∈ kw_A := (kw1 11 rfl rfl)
theorem ws_Md_pairValue : Cond.selects (kt 157).1.cls (kt 157).1 (kt 157).1 ∈ kw_A := (kw5 102 rfl rfl)
theorem hd_Md_pairValue : (kt 157).1.cls ≠ "java/lang/invoke/MethodHandle" ∧ (kt 157).1.cls ≠ "java/lang/invoke/VarHandle" ∧ (parseMethodDescriptor (kt 157).1.desc).map (fun d => d.parameters.length) = some 2 := by decide +kernel
abbrev j_Md_signed : Nat := 158
theorem wc_Md_signed : Cond.code (kt 158).1 (kt 158).2.1 (kt 158).2.2.1 (kt 158).2.2.2.1 ∈ kw_A := (kw5 107 rfl rfl)
theorem wi_Md_signed : Cond.instanceMethod (kt 158).1 ∈ kw_A := (kw5 105 rfl rfl)
theorem wn_Md_signed : Cond.initialized (kt 158).1.cls ∈ kw_A := (kw1 11 rfl rfl)
theorem ws_Md_signed : Cond.selects (kt 158).1.cls (kt 158).1 (kt 158).1 ∈ kw_A := (kw5 106 rfl rfl)
theorem hd_Md_signed : (kt 158).1.cls ≠ "java/lang/invoke/MethodHandle" ∧ (kt 158).1.cls ≠ "java/lang/invoke/VarHandle" ∧ (parseMethodDescriptor (kt 158).1.desc).map (fun d => d.parameters.length) = some 0 := by decide +kernel
abbrev j_Md_open : Nat := 159
theorem wc_Md_open : Cond.code (kt 159).1 (kt 159).2.1 (kt 159).2.2.1 (kt 159).2.2.2.1 ∈ kw_A := (kw5 111 rfl rfl)
theorem wi_Md_open : Cond.instanceMethod (kt 159).1 ∈ kw_A := (kw5 109 rfl rfl)
theorem wn_Md_open : Cond.initialized (kt 159).1.cls ∈ kw_A := (kw1 11 rfl rfl)
theorem ws_Md_open : Cond.selects (kt 159).1.cls (kt 159).1 (kt 159).1 ∈ kw_A := (kw5 110 rfl rfl)
theorem hd_Md_open : (kt 159).1.cls ≠ "java/lang/invoke/MethodHandle" ∧ (kt 159).1.cls ≠ "java/lang/invoke/VarHandle" ∧ (parseMethodDescriptor (kt 159).1.desc).map (fun d => d.parameters.length) = some 0 := by decide +kernel
