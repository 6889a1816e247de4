def T_R : u_T := fun k => match k with
  | 0 => ("LeasedFilesModel", "clients", "I", true)
  | 1 => ("LeasedFilesModel", "files", "I", true)
  | 2 => ("LeasedFilesModel", "term", "I", true)
  | 3 => ("LeasedFilesModel", "shorter", "I", true)
  | 4 => ("LeasedFilesModel", "values", "[I", true)
  | 5 => ("LeasedFilesModel", "versions", "[I", true)
  | 6 => ("LeasedFilesModel", "clock", "I", false)
  | 7 => ("LeasedFilesModel", "down", "Z", false)
  | 8 => ("LeasedFilesModel", "epoch", "I", false)
  | 9 => ("LeasedFilesModel", "grace", "I", false)
  | 10 => ("LeasedFilesModel", "leases", "[I", true)
  | 11 => ("LeasedFilesModel", "lastWords", "[I", true)
  | 12 => ("LeasedFilesModel", "lastVersions", "[I", true)
  | 13 => ("LeasedFilesModel", "waiting", "I", false)
  | 14 => ("LeasedFilesModel", "waitClients", "[I", true)
  | 15 => ("LeasedFilesModel", "waitFiles", "[I", true)
  | 16 => ("LeasedFilesModel", "waitWords", "[I", true)
  | 17 => ("LeasedFilesModel", "waitValues", "[I", true)
  | 18 => ("LeasedFilesModel", "clocks", "[I", true)
  | 19 => ("LeasedFilesModel", "words", "[I", true)
  | 20 => ("LeasedFilesModel", "states", "[I", true)
  | 21 => ("LeasedFilesModel", "writing", "[Z", true)
  | 22 => ("LeasedFilesModel", "onFiles", "[I", true)
  | 23 => ("LeasedFilesModel", "toWrite", "[I", true)
  | 24 => ("LeasedFilesModel", "begun", "[I", true)
  | 25 => ("LeasedFilesModel", "spoiled", "[Z", true)
  | 26 => ("LeasedFilesModel", "results", "[I", true)
  | 27 => ("LeasedFilesModel", "resultVersions", "[I", true)
  | 28 => ("LeasedFilesModel", "copies", "[Z", true)
  | 29 => ("LeasedFilesModel", "copyEnds", "[I", true)
  | 30 => ("LeasedFilesModel", "copyValues", "[I", true)
  | 31 => ("LeasedFilesModel", "copyVersions", "[I", true)
  | 32 => ("LeasedFilesModel", "pool", "I", false)
  | _ => ("LeasedFilesModel", "numbers", "[I", true)
def t_R : Nat → FieldType := fun k => match k with
  | 0 => .int
  | 1 => .int
  | 2 => .int
  | 3 => .int
  | 4 => .array .int
  | 5 => .array .int
  | 6 => .int
  | 7 => .boolean
  | 8 => .int
  | 9 => .int
  | 10 => .array .int
  | 11 => .array .int
  | 12 => .array .int
  | 13 => .int
  | 14 => .array .int
  | 15 => .array .int
  | 16 => .array .int
  | 17 => .array .int
  | 18 => .array .int
  | 19 => .array .int
  | 20 => .array .int
  | 21 => .array .boolean
  | 22 => .array .int
  | 23 => .array .int
  | 24 => .array .int
  | 25 => .array .boolean
  | 26 => .array .int
  | 27 => .array .int
  | 28 => .array .boolean
  | 29 => .array .int
  | 30 => .array .int
  | 31 => .array .int
  | 32 => .int
  | _ => .array .int
def T_L : u_T := fun k => match k with
  | 0 => ("LeasedFiles", "pool", "LLeasedFiles$Pool;", true)
  | 1 => ("LeasedFiles", "server", "LLeasedFiles$Server;", true)
  | 2 => ("LeasedFiles", "clients", "[LLeasedFiles$Client;", true)
  | _ => ("LeasedFiles", "files", "I", true)
def t_L : Nat → FieldType := fun k => match k with
  | 0 => .object "LeasedFiles$Pool"
  | 1 => .object "LeasedFiles$Server"
  | 2 => .array (.object "LeasedFiles$Client")
  | _ => .int
def T_C : u_T := fun k => match k with
  | 0 => ("LeasedFiles$Client", "number", "I", true)
  | 1 => ("LeasedFiles$Client", "term", "I", true)
  | 2 => ("LeasedFiles$Client", "copies", "[LLeasedFiles$Copy;", true)
  | 3 => ("LeasedFiles$Client", "clock", "I", false)
  | 4 => ("LeasedFiles$Client", "state", "I", false)
  | 5 => ("LeasedFiles$Client", "word", "I", false)
  | 6 => ("LeasedFiles$Client", "reads", "Z", false)
  | 7 => ("LeasedFiles$Client", "file", "I", false)
  | 8 => ("LeasedFiles$Client", "value", "I", false)
  | 9 => ("LeasedFiles$Client", "startedAt", "I", false)
  | 10 => ("LeasedFiles$Client", "spoiled", "Z", false)
  | 11 => ("LeasedFiles$Client", "doneResult", "I", false)
  | _ => ("LeasedFiles$Client", "doneVersion", "I", false)
def t_C : Nat → FieldType := fun k => match k with
  | 0 => .int
  | 1 => .int
  | 2 => .array (.object "LeasedFiles$Copy")
  | 3 => .int
  | 4 => .int
  | 5 => .int
  | 6 => .boolean
  | 7 => .int
  | 8 => .int
  | 9 => .int
  | 10 => .boolean
  | 11 => .int
  | _ => .int
def T_Y : u_T := fun k => match k with
  | 0 => ("LeasedFiles$Copy", "held", "Z", false)
  | 1 => ("LeasedFiles$Copy", "value", "I", false)
  | 2 => ("LeasedFiles$Copy", "version", "I", false)
  | _ => ("LeasedFiles$Copy", "leaseEnd", "I", false)
def t_Y : Nat → FieldType := fun k => match k with
  | 0 => .boolean
  | 1 => .int
  | 2 => .int
  | _ => .int
def T_M : u_T := fun k => match k with
  | 0 => ("LeasedFiles$Message", "kind", "I", false)
  | 1 => ("LeasedFiles$Message", "client", "I", false)
  | 2 => ("LeasedFiles$Message", "file", "I", false)
  | 3 => ("LeasedFiles$Message", "word", "I", false)
  | 4 => ("LeasedFiles$Message", "a", "I", false)
  | 5 => ("LeasedFiles$Message", "b", "I", false)
  | _ => ("LeasedFiles$Message", "c", "I", false)
def t_M : Nat → FieldType := fun k => match k with
  | 0 => .int
  | 1 => .int
  | 2 => .int
  | 3 => .int
  | 4 => .int
  | 5 => .int
  | _ => .int
def T_P : u_T := fun k => match k with
  | 0 => ("LeasedFiles$Pool", "messages", "[LLeasedFiles$Message;", true)
  | 1 => ("LeasedFiles$Pool", "count", "I", false)
  | _ => ("LeasedFiles$Pool", "takenOut", "LLeasedFiles$Message;", false)
def t_P : Nat → FieldType := fun k => match k with
  | 0 => .array (.object "LeasedFiles$Message")
  | 1 => .int
  | _ => .object "LeasedFiles$Message"
def T_F : u_T := fun k => match k with
  | 0 => ("LeasedFiles$ServedFile", "leaseEnds", "[I", true)
  | 1 => ("LeasedFiles$ServedFile", "waiting", "Ljava/util/ArrayList;", true)
  | 2 => ("LeasedFiles$ServedFile", "value", "I", false)
  | _ => ("LeasedFiles$ServedFile", "version", "I", false)
def t_F : Nat → FieldType := fun k => match k with
  | 0 => .array .int
  | 1 => .object "java/util/ArrayList"
  | 2 => .int
  | _ => .int
def T_S : u_T := fun k => match k with
  | 0 => ("LeasedFiles$Server", "term", "I", true)
  | 1 => ("LeasedFiles$Server", "files", "[LLeasedFiles$ServedFile;", true)
  | 2 => ("LeasedFiles$Server", "lastWords", "[I", true)
  | 3 => ("LeasedFiles$Server", "lastVersions", "[I", true)
  | 4 => ("LeasedFiles$Server", "clock", "I", false)
  | 5 => ("LeasedFiles$Server", "up", "Z", false)
  | 6 => ("LeasedFiles$Server", "epoch", "I", false)
  | _ => ("LeasedFiles$Server", "graceEnd", "I", false)
def t_S : Nat → FieldType := fun k => match k with
  | 0 => .int
  | 1 => .array (.object "LeasedFiles$ServedFile")
  | 2 => .array .int
  | 3 => .array .int
  | 4 => .int
  | 5 => .boolean
  | 6 => .int
  | _ => .int
def T_W : u_T := fun k => match k with
  | 0 => ("LeasedFiles$Write", "client", "I", true)
  | 1 => ("LeasedFiles$Write", "word", "I", true)
  | _ => ("LeasedFiles$Write", "value", "I", true)
def t_W : Nat → FieldType := fun k => match k with
  | 0 => .int
  | 1 => .int
  | _ => .int
def T_A : u_T := fun k => match k with
  | 0 => ("java/util/ArrayList", "elementData", "[Ljava/lang/Object;", false)
  | 1 => ("java/util/ArrayList", "size", "I", false)
  | _ => ("java/util/AbstractList", "modCount", "I", false)
def t_A : Nat → FieldType := fun k => match k with
  | 0 => .array (.object "java/lang/Object")
  | 1 => .int
  | _ => .int
abbrev vwCl : List vw_C := [("LeasedFilesModel", T_R, 34), ("LeasedFiles", T_L, 4), ("LeasedFiles$Client", T_C, 13), ("LeasedFiles$Copy", T_Y, 4), ("LeasedFiles$Message", T_M, 7), ("LeasedFiles$Pool", T_P, 3), ("LeasedFiles$ServedFile", T_F, 4), ("LeasedFiles$Server", T_S, 8), ("LeasedFiles$Write", T_W, 3), ("java/util/ArrayList", T_A, 3)]
def WS : List Cond := lw_tbl.filter goodWord
theorem ws_in {w : Cond} (h : w ∈ lw_tbl) (hg : goodWord w = true) : w ∈ WS := List.mem_filter.mpr ⟨h, hg⟩
theorem ws_at {w : Cond} (i : Nat) (h : tables_1[i]? = some w) (hg : goodWord w = true) : w ∈ WS := ws_in (List.mem_append_right _ (List.mem_of_getElem? h)) hg
theorem ws_sel (i : Nat) {q : MethodName × Nat} (h : lw_privs[i]? = some q) : Cond.selects q.1.cls q.1 q.1 ∈ WS := ws_in (List.mem_append_left _ (List.mem_map.mpr ⟨q, List.mem_of_getElem? h, rfl⟩)) rfl
theorem ws_pl {ws : List Cond} (ps : List Nat) (h : ws = ps.filterMap (fun i => tables_1[i]?)) (hg : ws.all goodWord = true) : ∀ w ∈ ws, w ∈ WS := by
  intro w hw
  have h1 := List.all_eq_true.mp hg w hw
  rw [h] at hw
  obtain ⟨i, -, hi⟩ := List.mem_filterMap.mp hw
  exact ws_at i hi h1
theorem n_R : ∀ a, a < 34 → ∀ b, b < 34 → a ≠ b → (T_R a).2.1 ≠ (T_R b).2.1 := by decide +kernel
theorem tk_R : ∀ k, k < 34 → parseFieldDescriptor (T_R k).2.2.1 = some (t_R k) := by decide +kernel
theorem u_R : ∀ w ∈ u_ws "LeasedFilesModel" T_R 34, w ∈ WS := ws_pl [697, 699, 701, 703, 705, 707, 709, 711, 713, 715, 717, 719, 721, 723, 725, 727, 729, 731, 733, 735, 737, 739, 741, 743, 745, 747, 749, 751, 753, 755, 757, 759, 761, 763] (by decide +kernel) (by decide +kernel)
theorem n_L : ∀ a, a < 4 → ∀ b, b < 4 → a ≠ b → (T_L a).2.1 ≠ (T_L b).2.1 := by decide +kernel
theorem tk_L : ∀ k, k < 4 → parseFieldDescriptor (T_L k).2.2.1 = some (t_L k) := by decide +kernel
theorem u_L : ∀ w ∈ u_ws "LeasedFiles" T_L 4, w ∈ WS := ws_pl [269, 271, 273, 275] (by decide +kernel) (by decide +kernel)
theorem n_C : ∀ a, a < 13 → ∀ b, b < 13 → a ≠ b → (T_C a).2.1 ≠ (T_C b).2.1 := by decide +kernel
theorem tk_C : ∀ k, k < 13 → parseFieldDescriptor (T_C k).2.2.1 = some (t_C k) := by decide +kernel
theorem u_C : ∀ w ∈ u_ws "LeasedFiles$Client" T_C 13, w ∈ WS := ws_pl [238, 240, 242, 244, 246, 248, 250, 252, 254, 256, 258, 260, 262] (by decide +kernel) (by decide +kernel)
theorem n_Y : ∀ a, a < 4 → ∀ b, b < 4 → a ≠ b → (T_Y a).2.1 ≠ (T_Y b).2.1 := by decide +kernel
theorem tk_Y : ∀ k, k < 4 → parseFieldDescriptor (T_Y k).2.2.1 = some (t_Y k) := by decide +kernel
theorem u_Y : ∀ w ∈ u_ws "LeasedFiles$Copy" T_Y 4, w ∈ WS := ws_pl [211, 213, 215, 217] (by decide +kernel) (by decide +kernel)
theorem n_M : ∀ a, a < 7 → ∀ b, b < 7 → a ≠ b → (T_M a).2.1 ≠ (T_M b).2.1 := by decide +kernel
theorem tk_M : ∀ k, k < 7 → parseFieldDescriptor (T_M k).2.2.1 = some (t_M k) := by decide +kernel
theorem u_M : ∀ w ∈ u_ws "LeasedFiles$Message" T_M 7, w ∈ WS := ws_pl [77, 79, 81, 83, 85, 87, 89] (by decide +kernel) (by decide +kernel)
theorem n_P : ∀ a, a < 3 → ∀ b, b < 3 → a ≠ b → (T_P a).2.1 ≠ (T_P b).2.1 := by decide +kernel
theorem tk_P : ∀ k, k < 3 → parseFieldDescriptor (T_P k).2.2.1 = some (t_P k) := by decide +kernel
theorem u_P : ∀ w ∈ u_ws "LeasedFiles$Pool" T_P 3, w ∈ WS := ws_pl [97, 99, 101] (by decide +kernel) (by decide +kernel)
theorem n_F : ∀ a, a < 4 → ∀ b, b < 4 → a ≠ b → (T_F a).2.1 ≠ (T_F b).2.1 := by decide +kernel
theorem tk_F : ∀ k, k < 4 → parseFieldDescriptor (T_F k).2.2.1 = some (t_F k) := by decide +kernel
theorem u_F : ∀ w ∈ u_ws "LeasedFiles$ServedFile" T_F 4, w ∈ WS := ws_pl [153, 155, 157, 159] (by decide +kernel) (by decide +kernel)
theorem n_S : ∀ a, a < 8 → ∀ b, b < 8 → a ≠ b → (T_S a).2.1 ≠ (T_S b).2.1 := by decide +kernel
theorem tk_S : ∀ k, k < 8 → parseFieldDescriptor (T_S k).2.2.1 = some (t_S k) := by decide +kernel
theorem u_S : ∀ w ∈ u_ws "LeasedFiles$Server" T_S 8, w ∈ WS := ws_pl [173, 175, 177, 179, 181, 183, 185, 187] (by decide +kernel) (by decide +kernel)
theorem n_W : ∀ a, a < 3 → ∀ b, b < 3 → a ≠ b → (T_W a).2.1 ≠ (T_W b).2.1 := by decide +kernel
theorem tk_W : ∀ k, k < 3 → parseFieldDescriptor (T_W k).2.2.1 = some (t_W k) := by decide +kernel
theorem u_W : ∀ w ∈ u_ws "LeasedFiles$Write" T_W 3, w ∈ WS := ws_pl [422, 424, 426] (by decide +kernel) (by decide +kernel)
theorem n_A : ∀ a, a < 3 → ∀ b, b < 3 → a ≠ b → (T_A a).2.1 ≠ (T_A b).2.1 := by decide +kernel
theorem tk_A : ∀ k, k < 3 → parseFieldDescriptor (T_A k).2.2.1 = some (t_A k) := by decide +kernel
theorem u_A : ∀ w ∈ u_ws "java/util/ArrayList" T_A 3, w ∈ WS := ws_pl [136, 138, 140] (by decide +kernel) (by decide +kernel)
