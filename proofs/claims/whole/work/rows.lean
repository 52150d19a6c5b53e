section
-- ===== PART A: goes FIRST, ahead of the names: the tables' words, and 'selects' of the private methods out of them =====
/-- a private method of a class that the tables say can be made, by its rows of tables_1 -/
def lw_okq (q : MethodName × Nat) : Prop := (q.1.cls ≠ "java/lang/invoke/MethodHandle" ∧ q.1.cls ≠ "java/lang/invoke/VarHandle") ∧ Cond.instantiable q.1.cls q.2 ∈ tables_1 ∧ Cond.privateMethod q.1 ∈ tables_1 ∧ Cond.instanceMethod q.1 ∈ tables_1
theorem lw_p0 : lw_okq (⟨"CallClusters", "isFunction", "(I)Z"⟩, 8) := ⟨⟨by decide +kernel, by decide +kernel⟩, List.mem_of_getElem? (i := 9) (by decide +kernel), List.mem_of_getElem? (i := 140) (by decide +kernel), List.mem_of_getElem? (i := 141) (by decide +kernel)⟩
theorem lw_p1 : lw_okq (⟨"CallClusters", "hasSize", "(I)Z"⟩, 8) := ⟨⟨by decide +kernel, by decide +kernel⟩, List.mem_of_getElem? (i := 9) (by decide +kernel), List.mem_of_getElem? (i := 182) (by decide +kernel), List.mem_of_getElem? (i := 183) (by decide +kernel)⟩
theorem lw_p2 : lw_okq (⟨"CallClusters", "refresh", "()V"⟩, 8) := ⟨⟨by decide +kernel, by decide +kernel⟩, List.mem_of_getElem? (i := 9) (by decide +kernel), List.mem_of_getElem? (i := 186) (by decide +kernel), List.mem_of_getElem? (i := 187) (by decide +kernel)⟩
theorem lw_p3 : lw_okq (⟨"CallClusters$CallTable", "isStronger", "(II)Z"⟩, 6) := ⟨⟨by decide +kernel, by decide +kernel⟩, List.mem_of_getElem? (i := 17) (by decide +kernel), List.mem_of_getElem? (i := 195) (by decide +kernel), List.mem_of_getElem? (i := 196) (by decide +kernel)⟩
theorem lw_p4 : lw_okq (⟨"CallClusters$Clustering", "standAlone", "([ILCallClusters$CallTable;)V"⟩, 9) := ⟨⟨by decide +kernel, by decide +kernel⟩, List.mem_of_getElem? (i := 44) (by decide +kernel), List.mem_of_getElem? (i := 203) (by decide +kernel), List.mem_of_getElem? (i := 204) (by decide +kernel)⟩
theorem lw_p5 : lw_okq (⟨"CallClusters$Clustering", "orderByHeat", "(LCallClusters$CallTable;)I"⟩, 9) := ⟨⟨by decide +kernel, by decide +kernel⟩, List.mem_of_getElem? (i := 44) (by decide +kernel), List.mem_of_getElem? (i := 208) (by decide +kernel), List.mem_of_getElem? (i := 209) (by decide +kernel)⟩
theorem lw_p6 : lw_okq (⟨"CallClusters$Clustering", "join", "(II)V"⟩, 9) := ⟨⟨by decide +kernel, by decide +kernel⟩, List.mem_of_getElem? (i := 44) (by decide +kernel), List.mem_of_getElem? (i := 216) (by decide +kernel), List.mem_of_getElem? (i := 217) (by decide +kernel)⟩
theorem lw_p7 : lw_okq (⟨"CallClusters$Clustering", "rank", "()V"⟩, 9) := ⟨⟨by decide +kernel, by decide +kernel⟩, List.mem_of_getElem? (i := 44) (by decide +kernel), List.mem_of_getElem? (i := 223) (by decide +kernel), List.mem_of_getElem? (i := 224) (by decide +kernel)⟩
theorem lw_p8 : lw_okq (⟨"CallClusters$Clustering", "isDenser", "(II)Z"⟩, 9) := ⟨⟨by decide +kernel, by decide +kernel⟩, List.mem_of_getElem? (i := 44) (by decide +kernel), List.mem_of_getElem? (i := 227) (by decide +kernel), List.mem_of_getElem? (i := 228) (by decide +kernel)⟩
theorem lw_p9 : lw_okq (⟨"CallClusters", "writeByNumber", "()V"⟩, 8) := ⟨⟨by decide +kernel, by decide +kernel⟩, List.mem_of_getElem? (i := 9) (by decide +kernel), List.mem_of_getElem? (i := 245) (by decide +kernel), List.mem_of_getElem? (i := 246) (by decide +kernel)⟩
theorem lw_p10 : lw_okq (⟨"CallClustersModel", "isFunction", "(I)Z"⟩, 21) := ⟨⟨by decide +kernel, by decide +kernel⟩, List.mem_of_getElem? (i := 305) (by decide +kernel), List.mem_of_getElem? (i := 384) (by decide +kernel), List.mem_of_getElem? (i := 385) (by decide +kernel)⟩
theorem lw_p11 : lw_okq (⟨"CallClustersModel", "know", "()V"⟩, 21) := ⟨⟨by decide +kernel, by decide +kernel⟩, List.mem_of_getElem? (i := 305) (by decide +kernel), List.mem_of_getElem? (i := 408) (by decide +kernel), List.mem_of_getElem? (i := 409) (by decide +kernel)⟩
theorem lw_p12 : lw_okq (⟨"CallClustersModel", "join", "(I)V"⟩, 21) := ⟨⟨by decide +kernel, by decide +kernel⟩, List.mem_of_getElem? (i := 305) (by decide +kernel), List.mem_of_getElem? (i := 412) (by decide +kernel), List.mem_of_getElem? (i := 413) (by decide +kernel)⟩
theorem lw_p13 : lw_okq (⟨"CallClustersModel", "inOrder", "()V"⟩, 21) := ⟨⟨by decide +kernel, by decide +kernel⟩, List.mem_of_getElem? (i := 305) (by decide +kernel), List.mem_of_getElem? (i := 416) (by decide +kernel), List.mem_of_getElem? (i := 417) (by decide +kernel)⟩
theorem lw_p14 : lw_okq (⟨"CallClustersModel", "isDenser", "(II)Z"⟩, 21) := ⟨⟨by decide +kernel, by decide +kernel⟩, List.mem_of_getElem? (i := 305) (by decide +kernel), List.mem_of_getElem? (i := 420) (by decide +kernel), List.mem_of_getElem? (i := 421) (by decide +kernel)⟩
theorem lw_p15 : lw_okq (⟨"CallClustersModel", "before", "(I)J"⟩, 21) := ⟨⟨by decide +kernel, by decide +kernel⟩, List.mem_of_getElem? (i := 305) (by decide +kernel), List.mem_of_getElem? (i := 452) (by decide +kernel), List.mem_of_getElem? (i := 453) (by decide +kernel)⟩
def lw_privs_1 : List (MethodName × Nat) := [(⟨"CallClusters", "isFunction", "(I)Z"⟩, 8), (⟨"CallClusters", "hasSize", "(I)Z"⟩, 8), (⟨"CallClusters", "refresh", "()V"⟩, 8), (⟨"CallClusters$CallTable", "isStronger", "(II)Z"⟩, 6), (⟨"CallClusters$Clustering", "standAlone", "([ILCallClusters$CallTable;)V"⟩, 9), (⟨"CallClusters$Clustering", "orderByHeat", "(LCallClusters$CallTable;)I"⟩, 9), (⟨"CallClusters$Clustering", "join", "(II)V"⟩, 9), (⟨"CallClusters$Clustering", "rank", "()V"⟩, 9), (⟨"CallClusters$Clustering", "isDenser", "(II)Z"⟩, 9), (⟨"CallClusters", "writeByNumber", "()V"⟩, 8), (⟨"CallClustersModel", "isFunction", "(I)Z"⟩, 21), (⟨"CallClustersModel", "know", "()V"⟩, 21), (⟨"CallClustersModel", "join", "(I)V"⟩, 21), (⟨"CallClustersModel", "inOrder", "()V"⟩, 21), (⟨"CallClustersModel", "isDenser", "(II)Z"⟩, 21), (⟨"CallClustersModel", "before", "(I)J"⟩, 21)]
theorem lw_r1 : ∀ q ∈ lw_privs_1, lw_okq q := List.forall_mem_cons.mpr ⟨lw_p0, List.forall_mem_cons.mpr ⟨lw_p1, List.forall_mem_cons.mpr ⟨lw_p2, List.forall_mem_cons.mpr ⟨lw_p3, List.forall_mem_cons.mpr ⟨lw_p4, List.forall_mem_cons.mpr ⟨lw_p5, List.forall_mem_cons.mpr ⟨lw_p6, List.forall_mem_cons.mpr ⟨lw_p7, List.forall_mem_cons.mpr ⟨lw_p8, List.forall_mem_cons.mpr ⟨lw_p9, List.forall_mem_cons.mpr ⟨lw_p10, List.forall_mem_cons.mpr ⟨lw_p11, List.forall_mem_cons.mpr ⟨lw_p12, List.forall_mem_cons.mpr ⟨lw_p13, List.forall_mem_cons.mpr ⟨lw_p14, List.forall_mem_cons.mpr ⟨lw_p15, fun _ h => absurd h List.not_mem_nil⟩⟩⟩⟩⟩⟩⟩⟩⟩⟩⟩⟩⟩⟩⟩⟩
def lw_privs : List (MethodName × Nat) := lw_privs_1
def lw_tbl : List Cond := k2_sels lw_privs ++ tables_1
theorem lw_privs_ok : ∀ q ∈ lw_privs, lw_okq q := lw_r1
end
section
/-! ===== BEGIN words of one list among another's, by their places ===== -/
theorem goodIn_r {big : List Cond} (ws : List Cond) (ps : List Nat) (hp : ws = ps.filterMap (fun i => big[i]?)) (h : ws.all goodWord = true) : GoodIn big ws := by
  intro w hw
  have h1 := List.all_eq_true.mp h w hw
  rw [hp] at hw
  obtain ⟨i, -, hi⟩ := List.mem_filterMap.mp hw
  have hm : w ∈ big := by first | exact List.mem_of_getElem? hi | exact List.getElem?_mem hi
  exact ⟨hm, good_of_word h1⟩
theorem goodIn_app {big a b : List Cond} (ha : GoodIn big a) (hb : GoodIn big b) : GoodIn big (a ++ b) := fun w h => (List.mem_append.mp h).elim (ha w) (hb w)
theorem goodIn_ca {big a b : List Cond} {c : Cond} (ha : GoodIn big (c :: a)) (hb : GoodIn big b) : GoodIn big (c :: (a ++ b)) := fun w h => (List.mem_cons.mp h).elim (fun e => ha w (List.mem_cons.mpr (Or.inl e))) (fun h => (List.mem_append.mp h).elim (fun h => ha w (List.mem_cons.mpr (Or.inr h))) (hb w))
theorem goodIn_sub {big ws : List Cond} (hm : ∀ w ∈ ws, w ∈ big) (h : ws.all goodWord = true) : GoodIn big ws := fun w hw => ⟨hm w hw, good_of_word (List.all_eq_true.mp h w hw)⟩
/-! ===== END ===== -/
/-! ===== BEGIN printed: names, fields, word lists, decode rows ===== -/
def RX0 : String := "CallClusters$CallTable"
def TX0 : u_T := fun k => match k with
  | 0 => ("CallClusters$CallTable", "from", "[I", true)
  | 1 => ("CallClusters$CallTable", "to", "[I", true)
  | 2 => ("CallClusters$CallTable", "counts", "[J", true)
  | 3 => ("CallClusters$CallTable", "heats", "[J", true)
  | 4 => ("CallClusters$CallTable", "strongest", "[I", true)
  | _ => ("CallClusters$CallTable", "used", "I", false)
def tyX0 : Nat → FieldType := fun k => match k with
  | 0 => .array .int
  | 1 => .array .int
  | 2 => .array .long
  | 3 => .array .long
  | 4 => .array .int
  | _ => .int
abbrev wsX00 : List Cond := u_ws RX0 TX0 6
theorem nmX0 : ∀ a, a < 6 → ∀ b, b < 6 → a ≠ b → (TX0 a).2.1 ≠ (TX0 b).2.1 := by decide +kernel
theorem tyX0_ok : ∀ k, k < 6 → parseFieldDescriptor (TX0 k).2.2.1 = some (tyX0 k) := by decide +kernel
abbrev cX0_init : ByteArray := prog_2_method_1_code
def yX0_init : MethodName := ⟨RX0, "<init>", "()V"⟩
abbrev cX0_forgetAll : ByteArray := prog_2_method_2_code
def yX0_forgetAll : MethodName := ⟨RX0, "forgetAll", "()V"⟩
abbrev cX0_pairFor : ByteArray := prog_2_method_3_code
def yX0_pairFor : MethodName := ⟨RX0, "pairFor", "(II)I"⟩
abbrev cX0_raise : ByteArray := prog_2_method_4_code
def yX0_raise : MethodName := ⟨RX0, "raise", "(II)J"⟩
abbrev cX0_heatOf : ByteArray := prog_2_method_5_code
def yX0_heatOf : MethodName := ⟨RX0, "heatOf", "(I)J"⟩
abbrev cX0_callerOf : ByteArray := prog_2_method_6_code
def yX0_callerOf : MethodName := ⟨RX0, "callerOf", "(I)I"⟩
abbrev cX0_findCallers : ByteArray := prog_2_method_7_code
def yX0_findCallers : MethodName := ⟨RX0, "findCallers", "([I)V"⟩
abbrev cX0_isStronger : ByteArray := prog_2_method_8_code
def yX0_isStronger : MethodName := ⟨RX0, "isStronger", "(II)Z"⟩
abbrev cX0_costIn : ByteArray := prog_2_method_9_code
def yX0_costIn : MethodName := ⟨RX0, "costIn", "(LCallClusters$Row;)J"⟩
def RX1 : String := "CallClusters$Clustering"
def TX1 : u_T := fun k => match k with
  | 0 => ("CallClusters$Clustering", "first", "[I", true)
  | 1 => ("CallClusters$Clustering", "next", "[I", true)
  | 2 => ("CallClusters$Clustering", "last", "[I", true)
  | 3 => ("CallClusters$Clustering", "least", "[I", true)
  | 4 => ("CallClusters$Clustering", "bytes", "[J", true)
  | 5 => ("CallClusters$Clustering", "heat", "[J", true)
  | 6 => ("CallClusters$Clustering", "looked", "[I", true)
  | 7 => ("CallClusters$Clustering", "ranked", "[I", true)
  | _ => ("CallClusters$Clustering", "rankedCount", "I", false)
def tyX1 : Nat → FieldType := fun k => match k with
  | 0 => .array .int
  | 1 => .array .int
  | 2 => .array .int
  | 3 => .array .int
  | 4 => .array .long
  | 5 => .array .long
  | 6 => .array .int
  | 7 => .array .int
  | _ => .int
abbrev wsX10 : List Cond := u_ws RX1 TX1 9
theorem nmX1 : ∀ a, a < 9 → ∀ b, b < 9 → a ≠ b → (TX1 a).2.1 ≠ (TX1 b).2.1 := by decide +kernel
theorem tyX1_ok : ∀ k, k < 9 → parseFieldDescriptor (TX1 k).2.2.1 = some (tyX1 k) := by decide +kernel
abbrev cX1_init : ByteArray := prog_3_method_1_code
def yX1_init : MethodName := ⟨RX1, "<init>", "()V"⟩
abbrev cX1_build : ByteArray := prog_3_method_2_code
def yX1_build : MethodName := ⟨RX1, "build", "([ILCallClusters$CallTable;I)V"⟩
abbrev cX1_clusterCount : ByteArray := prog_3_method_3_code
def yX1_clusterCount : MethodName := ⟨RX1, "clusterCount", "()I"⟩
abbrev cX1_firstOf : ByteArray := prog_3_method_4_code
def yX1_firstOf : MethodName := ⟨RX1, "firstOf", "(I)I"⟩
abbrev cX1_writeTo : ByteArray := prog_3_method_5_code
def yX1_writeTo : MethodName := ⟨RX1, "writeTo", "(LCallClusters$Row;[I)V"⟩
abbrev cX1_standAlone : ByteArray := prog_3_method_6_code
def yX1_standAlone : MethodName := ⟨RX1, "standAlone", "([ILCallClusters$CallTable;)V"⟩
abbrev cX1_orderByHeat : ByteArray := prog_3_method_7_code
def yX1_orderByHeat : MethodName := ⟨RX1, "orderByHeat", "(LCallClusters$CallTable;)I"⟩
abbrev cX1_join : ByteArray := prog_3_method_8_code
def yX1_join : MethodName := ⟨RX1, "join", "(II)V"⟩
abbrev cX1_rank : ByteArray := prog_3_method_9_code
def yX1_rank : MethodName := ⟨RX1, "rank", "()V"⟩
abbrev cX1_isDenser : ByteArray := prog_3_method_10_code
def yX1_isDenser : MethodName := ⟨RX1, "isDenser", "(II)Z"⟩
def RX2 : String := "CallClusters$Row"
def TX2 : u_T := fun k => match k with
  | 0 => ("CallClusters$Row", "members", "[I", true)
  | 1 => ("CallClusters$Row", "begins", "[J", true)
  | 2 => ("CallClusters$Row", "used", "I", false)
  | _ => ("CallClusters$Row", "end", "J", false)
def tyX2 : Nat → FieldType := fun k => match k with
  | 0 => .array .int
  | 1 => .array .long
  | 2 => .int
  | _ => .long
abbrev wsX20 : List Cond := u_ws RX2 TX2 4
theorem nmX2 : ∀ a, a < 4 → ∀ b, b < 4 → a ≠ b → (TX2 a).2.1 ≠ (TX2 b).2.1 := by decide +kernel
theorem tyX2_ok : ∀ k, k < 4 → parseFieldDescriptor (TX2 k).2.2.1 = some (tyX2 k) := by decide +kernel
abbrev cX2_init : ByteArray := prog_4_method_1_code
def yX2_init : MethodName := ⟨RX2, "<init>", "()V"⟩
abbrev cX2_empty : ByteArray := prog_4_method_2_code
def yX2_empty : MethodName := ⟨RX2, "empty", "()V"⟩
abbrev cX2_append : ByteArray := prog_4_method_3_code
def yX2_append : MethodName := ⟨RX2, "append", "(II)V"⟩
abbrev cX2_memberCount : ByteArray := prog_4_method_4_code
def yX2_memberCount : MethodName := ⟨RX2, "memberCount", "()I"⟩
abbrev cX2_memberAt : ByteArray := prog_4_method_5_code
def yX2_memberAt : MethodName := ⟨RX2, "memberAt", "(I)I"⟩
abbrev cX2_beginOf : ByteArray := prog_4_method_6_code
def yX2_beginOf : MethodName := ⟨RX2, "beginOf", "(I)J"⟩
def RX3 : String := "CallClusters"
def TX3 : u_T := fun k => match k with
  | 0 => ("CallClusters", "sizes", "[I", true)
  | 1 => ("CallClusters", "table", "LCallClusters$CallTable;", true)
  | 2 => ("CallClusters", "clustering", "LCallClusters$Clustering;", true)
  | 3 => ("CallClusters", "placed", "LCallClusters$Row;", true)
  | 4 => ("CallClusters", "numbered", "LCallClusters$Row;", true)
  | 5 => ("CallClusters", "functionCount", "I", false)
  | 6 => ("CallClusters", "pageBytes", "I", false)
  | _ => ("CallClusters", "stale", "Z", false)
def tyX3 : Nat → FieldType := fun k => match k with
  | 0 => .array .int
  | 1 => .object "CallClusters$CallTable"
  | 2 => .object "CallClusters$Clustering"
  | 3 => .object "CallClusters$Row"
  | 4 => .object "CallClusters$Row"
  | 5 => .int
  | 6 => .int
  | _ => .boolean
abbrev wsX30 : List Cond := u_ws RX3 TX3 8
theorem nmX3 : ∀ a, a < 8 → ∀ b, b < 8 → a ≠ b → (TX3 a).2.1 ≠ (TX3 b).2.1 := by decide +kernel
theorem tyX3_ok : ∀ k, k < 8 → parseFieldDescriptor (TX3 k).2.2.1 = some (tyX3 k) := by decide +kernel
abbrev cX3_init : ByteArray := prog_1_method_1_code
def yX3_init : MethodName := ⟨RX3, "<init>", "()V"⟩
abbrev cX3_functions : ByteArray := prog_1_method_2_code
def yX3_functions : MethodName := ⟨RX3, "functions", "(I)Z"⟩
abbrev cX3_size : ByteArray := prog_1_method_3_code
def yX3_size : MethodName := ⟨RX3, "size", "(II)Z"⟩
abbrev cX3_call : ByteArray := prog_1_method_4_code
def yX3_call : MethodName := ⟨RX3, "call", "(III)J"⟩
abbrev cX3_page : ByteArray := prog_1_method_5_code
def yX3_page : MethodName := ⟨RX3, "page", "(I)Z"⟩
abbrev cX3_heat : ByteArray := prog_1_method_6_code
def yX3_heat : MethodName := ⟨RX3, "heat", "(I)J"⟩
abbrev cX3_caller : ByteArray := prog_1_method_7_code
def yX3_caller : MethodName := ⟨RX3, "caller", "(I)I"⟩
abbrev cX3_length : ByteArray := prog_1_method_8_code
def yX3_length : MethodName := ⟨RX3, "length", "()I"⟩
abbrev cX3_row : ByteArray := prog_1_method_9_code
def yX3_row : MethodName := ⟨RX3, "row", "(I)I"⟩
abbrev cX3_begin : ByteArray := prog_1_method_10_code
def yX3_begin : MethodName := ⟨RX3, "begin", "(I)J"⟩
abbrev cX3_clusters : ByteArray := prog_1_method_11_code
def yX3_clusters : MethodName := ⟨RX3, "clusters", "()I"⟩
abbrev cX3_cluster : ByteArray := prog_1_method_12_code
def yX3_cluster : MethodName := ⟨RX3, "cluster", "(I)I"⟩
abbrev cX3_cost : ByteArray := prog_1_method_13_code
def yX3_cost : MethodName := ⟨RX3, "cost", "(I)J"⟩
abbrev cX3_isFunction : ByteArray := prog_1_method_14_code
def yX3_isFunction : MethodName := ⟨RX3, "isFunction", "(I)Z"⟩
abbrev cX3_hasSize : ByteArray := prog_1_method_15_code
def yX3_hasSize : MethodName := ⟨RX3, "hasSize", "(I)Z"⟩
abbrev cX3_refresh : ByteArray := prog_1_method_16_code
def yX3_refresh : MethodName := ⟨RX3, "refresh", "()V"⟩
abbrev cX3_writeByNumber : ByteArray := prog_1_method_17_code
def yX3_writeByNumber : MethodName := ⟨RX3, "writeByNumber", "()V"⟩
def RX4 : String := "CallClustersModel"
def TX4 : u_T := fun k => match k with
  | 0 => ("CallClustersModel", "many", "I", false)
  | 1 => ("CallClustersModel", "limit", "I", false)
  | 2 => ("CallClustersModel", "pairs", "I", false)
  | 3 => ("CallClustersModel", "bytes", "[I", true)
  | 4 => ("CallClustersModel", "callers", "[I", true)
  | 5 => ("CallClustersModel", "called", "[I", true)
  | 6 => ("CallClustersModel", "counts", "[J", true)
  | 7 => ("CallClustersModel", "isKnown", "Z", false)
  | 8 => ("CallClustersModel", "heats", "[J", true)
  | 9 => ("CallClustersModel", "best", "[I", true)
  | 10 => ("CallClustersModel", "of", "[I", true)
  | 11 => ("CallClustersModel", "behind", "[I", true)
  | 12 => ("CallClustersModel", "last", "[I", true)
  | 13 => ("CallClustersModel", "warm", "[J", true)
  | 14 => ("CallClustersModel", "great", "[J", true)
  | 15 => ("CallClustersModel", "order", "[I", true)
  | 16 => ("CallClustersModel", "begins", "[J", true)
  | 17 => ("CallClustersModel", "inRow", "I", false)
  | 18 => ("CallClustersModel", "groups", "I", false)
  | 19 => ("CallClustersModel", "most", "[J", true)
  | _ => ("CallClustersModel", "isDone", "[Z", true)
def tyX4 : Nat → FieldType := fun k => match k with
  | 0 => .int
  | 1 => .int
  | 2 => .int
  | 3 => .array .int
  | 4 => .array .int
  | 5 => .array .int
  | 6 => .array .long
  | 7 => .boolean
  | 8 => .array .long
  | 9 => .array .int
  | 10 => .array .int
  | 11 => .array .int
  | 12 => .array .int
  | 13 => .array .long
  | 14 => .array .long
  | 15 => .array .int
  | 16 => .array .long
  | 17 => .int
  | 18 => .int
  | 19 => .array .long
  | _ => .array .boolean
abbrev wsX40 : List Cond := u_ws RX4 TX4 21
theorem nmX4 : ∀ a, a < 21 → ∀ b, b < 21 → a ≠ b → (TX4 a).2.1 ≠ (TX4 b).2.1 := by decide +kernel
theorem tyX4_ok : ∀ k, k < 21 → parseFieldDescriptor (TX4 k).2.2.1 = some (tyX4 k) := by decide +kernel
abbrev cX4_init : ByteArray := prog_6_method_1_code
def yX4_init : MethodName := ⟨RX4, "<init>", "()V"⟩
abbrev cX4_isFunction : ByteArray := prog_6_method_3_code
def yX4_isFunction : MethodName := ⟨RX4, "isFunction", "(I)Z"⟩
abbrev cX4_functions : ByteArray := prog_6_method_4_code
def yX4_functions : MethodName := ⟨RX4, "functions", "(I)Z"⟩
abbrev cX4_size : ByteArray := prog_6_method_5_code
def yX4_size : MethodName := ⟨RX4, "size", "(II)Z"⟩
abbrev cX4_call : ByteArray := prog_6_method_6_code
def yX4_call : MethodName := ⟨RX4, "call", "(III)J"⟩
abbrev cX4_page : ByteArray := prog_6_method_7_code
def yX4_page : MethodName := ⟨RX4, "page", "(I)Z"⟩
abbrev cX4_know : ByteArray := prog_6_method_8_code
def yX4_know : MethodName := ⟨RX4, "know", "()V"⟩
abbrev cX4_join : ByteArray := prog_6_method_9_code
def yX4_join : MethodName := ⟨RX4, "join", "(I)V"⟩
abbrev cX4_isDenser : ByteArray := prog_6_method_10_code
def yX4_isDenser : MethodName := ⟨RX4, "isDenser", "(II)Z"⟩
abbrev cX4_inOrder : ByteArray := prog_6_method_11_code
def yX4_inOrder : MethodName := ⟨RX4, "inOrder", "()V"⟩
abbrev cX4_heat : ByteArray := prog_6_method_12_code
def yX4_heat : MethodName := ⟨RX4, "heat", "(I)J"⟩
abbrev cX4_caller : ByteArray := prog_6_method_13_code
def yX4_caller : MethodName := ⟨RX4, "caller", "(I)I"⟩
abbrev cX4_length : ByteArray := prog_6_method_14_code
def yX4_length : MethodName := ⟨RX4, "length", "()I"⟩
abbrev cX4_row : ByteArray := prog_6_method_15_code
def yX4_row : MethodName := ⟨RX4, "row", "(I)I"⟩
abbrev cX4_begin : ByteArray := prog_6_method_16_code
def yX4_begin : MethodName := ⟨RX4, "begin", "(I)J"⟩
abbrev cX4_clusters : ByteArray := prog_6_method_17_code
def yX4_clusters : MethodName := ⟨RX4, "clusters", "()I"⟩
abbrev cX4_cluster : ByteArray := prog_6_method_18_code
def yX4_cluster : MethodName := ⟨RX4, "cluster", "(I)I"⟩
abbrev cX4_cost : ByteArray := prog_6_method_19_code
def yX4_cost : MethodName := ⟨RX4, "cost", "(I)J"⟩
abbrev cX4_before : ByteArray := prog_6_method_20_code
def yX4_before : MethodName := ⟨RX4, "before", "(I)J"⟩
def RJ9 : String := "java/lang/Math"
def TJ9 : u_T := fun k => match k with
  | _ => ("", "", "", false)
def tyJ9 : Nat → FieldType := fun k => match k with
  | _ => .int
abbrev wsJ90 : List Cond := u_ws RJ9 TJ9 0
theorem nmJ9 : ∀ a, a < 0 → ∀ b, b < 0 → a ≠ b → (TJ9 a).2.1 ≠ (TJ9 b).2.1 := by decide +kernel
theorem tyJ9_ok : ∀ k, k < 0 → parseFieldDescriptor (TJ9 k).2.2.1 = some (tyJ9 k) := by decide +kernel
abbrev cJ9_abs_067f4 : ByteArray := prog_7_method_61_code
def yJ9_abs_067f4 : MethodName := ⟨RJ9, "abs", "(J)J"⟩
abbrev cJ9_min_7cf53 : ByteArray := prog_7_method_69_code
def yJ9_min_7cf53 : MethodName := ⟨RJ9, "min", "(II)I"⟩
abbrev cJ9_min_f86c9 : ByteArray := prog_7_method_70_code
def yJ9_min_f86c9 : MethodName := ⟨RJ9, "min", "(JJ)J"⟩
def RJ7 : String := "java/util/Arrays"
def TJ7 : u_T := fun k => match k with
  | _ => ("", "", "", false)
def tyJ7 : Nat → FieldType := fun k => match k with
  | _ => .int
abbrev wsJ70 : List Cond := u_ws RJ7 TJ7 0
theorem nmJ7 : ∀ a, a < 0 → ∀ b, b < 0 → a ≠ b → (TJ7 a).2.1 ≠ (TJ7 b).2.1 := by decide +kernel
theorem tyJ7_ok : ∀ k, k < 0 → parseFieldDescriptor (TJ7 k).2.2.1 = some (tyJ7 k) := by decide +kernel
abbrev cJ7_fill_d0a16 : ByteArray := prog_8_method_101_code
def yJ7_fill_d0a16 : MethodName := ⟨RJ7, "fill", "([JJ)V"⟩
abbrev cJ7_fill_53178 : ByteArray := prog_8_method_103_code
def yJ7_fill_53178 : MethodName := ⟨RJ7, "fill", "([II)V"⟩
def RL : String := "CallClustersLaw"
abbrev cL_law : ByteArray := code
def yL_law : MethodName := ⟨RL, "law", "([I)Z"⟩
def wsX0_init : List Cond := .code yX0_init cX0_init 1 none :: ([.methodLink RX0 3 objectInit, .instanceMethod objectInit, .code objectInit ⟨#[0xb1]⟩ 1 none, .arrayClass .int, .fieldLink RX0 9 "CallClusters$CallTable" "from" "[I", .fieldLink RX0 15 "CallClusters$CallTable" "to" "[I", .arrayClass .long, .fieldLink RX0 18 "CallClusters$CallTable" "counts" "[J", .fieldLink RX0 22 "CallClusters$CallTable" "heats" "[J", .fieldLink RX0 25 "CallClusters$CallTable" "strongest" "[I"] ++ wsX00)
def wsJ7_fill_d0a16 : List Cond := .code yJ7_fill_d0a16 cJ7_fill_d0a16 5 none :: ([])
def wsX0_forgetAll : List Cond := .code yX0_forgetAll cX0_forgetAll 1 none :: ([.fieldLink RX0 28 "CallClusters$CallTable" "used" "I", .fieldLink RX0 22 "CallClusters$CallTable" "heats" "[J", .methodLink RX0 32 yJ7_fill_d0a16, .static yJ7_fill_d0a16, .initialized RJ7, .code yJ7_fill_d0a16 cJ7_fill_d0a16 5 none] ++ wsX00)
def wsX0_pairFor : List Cond := .code yX0_pairFor cX0_pairFor 4 (some .int) :: ([.fieldLink RX0 28 "CallClusters$CallTable" "used" "I", .fieldLink RX0 9 "CallClusters$CallTable" "from" "[I", .fieldLink RX0 15 "CallClusters$CallTable" "to" "[I", .fieldLink RX0 18 "CallClusters$CallTable" "counts" "[J"] ++ wsX00)
def wsX0_raise : List Cond := .code yX0_raise cX0_raise 5 (some .long) :: ([.fieldLink RX0 18 "CallClusters$CallTable" "counts" "[J", .constantLong RX0 38 (1000000000000), .methodLink RX0 40 Lib.MathLoose.min_long.x, .static Lib.MathLoose.min_long.x, .initialized "java/lang/Math", .code Lib.MathLoose.min_long.x Lib.MathLoose.min_long.code 4 (some .long), .fieldLink RX0 22 "CallClusters$CallTable" "heats" "[J", .fieldLink RX0 15 "CallClusters$CallTable" "to" "[I"] ++ wsX00)
def wsX0_heatOf : List Cond := .code yX0_heatOf cX0_heatOf 2 (some .long) :: ([.fieldLink RX0 22 "CallClusters$CallTable" "heats" "[J"] ++ wsX00)
def wsX0_callerOf : List Cond := .code yX0_callerOf cX0_callerOf 2 (some .int) :: ([.fieldLink RX0 25 "CallClusters$CallTable" "strongest" "[I", .fieldLink RX0 9 "CallClusters$CallTable" "from" "[I"] ++ wsX00)
def wsJ7_fill_53178 : List Cond := .code yJ7_fill_53178 cJ7_fill_53178 4 none :: ([])
def wsX0_isStronger : List Cond := .code yX0_isStronger cX0_isStronger 3 (some .boolean) :: ([.fieldLink RX0 18 "CallClusters$CallTable" "counts" "[J", .fieldLink RX0 9 "CallClusters$CallTable" "from" "[I"] ++ wsX00)
def wsX0_findCallers : List Cond := .code yX0_findCallers cX0_findCallers 3 none :: ([.fieldLink RX0 25 "CallClusters$CallTable" "strongest" "[I", .fieldLink RX0 28 "CallClusters$CallTable" "used" "I", .fieldLink RX0 9 "CallClusters$CallTable" "from" "[I", .fieldLink RX0 15 "CallClusters$CallTable" "to" "[I", .methodLink RX0 46 yJ7_fill_53178, .static yJ7_fill_53178, .initialized RJ7, .code yJ7_fill_53178 cJ7_fill_53178 4 none, .methodLink RX0 49 yX0_isStronger, .instanceMethod yX0_isStronger, .selects RX0 yX0_isStronger yX0_isStronger, .initialized RX0, .code yX0_isStronger cX0_isStronger 3 (some .boolean), .fieldLink RX0 18 "CallClusters$CallTable" "counts" "[J"] ++ wsX00)
def wsX2_beginOf : List Cond := .code yX2_beginOf cX2_beginOf 2 (some .long) :: ([.fieldLink RX2 15 "CallClusters$Row" "begins" "[J"] ++ wsX20)
def wsX0_costIn : List Cond := .code yX0_costIn cX0_costIn 9 (some .long) :: ([.fieldLink RX0 28 "CallClusters$CallTable" "used" "I", .fieldLink RX0 9 "CallClusters$CallTable" "from" "[I", .fieldLink RX0 15 "CallClusters$CallTable" "to" "[I", .constantLong RX0 59 (-1), .fieldLink RX0 18 "CallClusters$CallTable" "counts" "[J", .methodLink RX0 61 Lib.MathLoose.abs_long.x, .static Lib.MathLoose.abs_long.x, .initialized "java/lang/Math", .code Lib.MathLoose.abs_long.x Lib.MathLoose.abs_long.code 2 (some .long), .methodLink RX0 53 yX2_beginOf, .instanceMethod yX2_beginOf, .selects RX2 yX2_beginOf yX2_beginOf, .initialized RX2, .code yX2_beginOf cX2_beginOf 2 (some .long), .fieldLink RX2 15 "CallClusters$Row" "begins" "[J"] ++ wsX00 ++ wsX20)
def wsX1_init : List Cond := .code yX1_init cX1_init 1 none :: ([.methodLink RX1 3 objectInit, .instanceMethod objectInit, .code objectInit ⟨#[0xb1]⟩ 1 none, .arrayClass .int, .fieldLink RX1 9 "CallClusters$Clustering" "first" "[I", .fieldLink RX1 15 "CallClusters$Clustering" "next" "[I", .fieldLink RX1 18 "CallClusters$Clustering" "last" "[I", .fieldLink RX1 21 "CallClusters$Clustering" "least" "[I", .arrayClass .long, .fieldLink RX1 24 "CallClusters$Clustering" "bytes" "[J", .fieldLink RX1 28 "CallClusters$Clustering" "heat" "[J", .fieldLink RX1 31 "CallClusters$Clustering" "looked" "[I", .fieldLink RX1 34 "CallClusters$Clustering" "ranked" "[I"] ++ wsX10)
def wsX1_standAlone : List Cond := .code yX1_standAlone cX1_standAlone 4 none :: ([.fieldLink RX1 9 "CallClusters$Clustering" "first" "[I", .fieldLink RX1 15 "CallClusters$Clustering" "next" "[I", .fieldLink RX1 18 "CallClusters$Clustering" "last" "[I", .fieldLink RX1 21 "CallClusters$Clustering" "least" "[I", .fieldLink RX1 24 "CallClusters$Clustering" "bytes" "[J", .fieldLink RX1 28 "CallClusters$Clustering" "heat" "[J", .methodLink RX1 70 yX0_heatOf, .instanceMethod yX0_heatOf, .selects RX0 yX0_heatOf yX0_heatOf, .initialized RX0, .code yX0_heatOf cX0_heatOf 2 (some .long), .fieldLink RX0 22 "CallClusters$CallTable" "heats" "[J"] ++ wsX10 ++ wsX00)
def wsX1_orderByHeat : List Cond := .code yX1_orderByHeat cX1_orderByHeat 5 (some .int) :: ([.fieldLink RX1 9 "CallClusters$Clustering" "first" "[I", .fieldLink RX1 28 "CallClusters$Clustering" "heat" "[J", .fieldLink RX1 31 "CallClusters$Clustering" "looked" "[I", .methodLink RX1 45 yX0_callerOf, .instanceMethod yX0_callerOf, .selects RX0 yX0_callerOf yX0_callerOf, .initialized RX0, .code yX0_callerOf cX0_callerOf 2 (some .int), .fieldLink RX0 25 "CallClusters$CallTable" "strongest" "[I", .fieldLink RX0 9 "CallClusters$CallTable" "from" "[I"] ++ wsX10 ++ wsX00)
def wsX1_join : List Cond := .code yX1_join cX1_join 5 none :: ([.fieldLink RX1 9 "CallClusters$Clustering" "first" "[I", .fieldLink RX1 15 "CallClusters$Clustering" "next" "[I", .fieldLink RX1 18 "CallClusters$Clustering" "last" "[I", .fieldLink RX1 21 "CallClusters$Clustering" "least" "[I", .methodLink RX1 74 Lib.Math.min.name, .static Lib.Math.min.name, .initialized "java/lang/Math", .code Lib.Math.min.name Lib.Math.min.code 2 (some .int), .fieldLink RX1 24 "CallClusters$Clustering" "bytes" "[J", .fieldLink RX1 28 "CallClusters$Clustering" "heat" "[J"] ++ wsX10)
def wsX1_isDenser : List Cond := .code yX1_isDenser cX1_isDenser 7 (some .boolean) :: ([.fieldLink RX1 24 "CallClusters$Clustering" "bytes" "[J", .fieldLink RX1 28 "CallClusters$Clustering" "heat" "[J"] ++ wsX10)
def wsX1_rank : List Cond := .code yX1_rank cX1_rank 3 none :: ([.fieldLink RX1 58 "CallClusters$Clustering" "rankedCount" "I", .fieldLink RX1 9 "CallClusters$Clustering" "first" "[I", .fieldLink RX1 21 "CallClusters$Clustering" "least" "[I", .fieldLink RX1 34 "CallClusters$Clustering" "ranked" "[I", .methodLink RX1 80 yX1_isDenser, .instanceMethod yX1_isDenser, .selects RX1 yX1_isDenser yX1_isDenser, .initialized RX1, .code yX1_isDenser cX1_isDenser 7 (some .boolean), .fieldLink RX1 24 "CallClusters$Clustering" "bytes" "[J", .fieldLink RX1 28 "CallClusters$Clustering" "heat" "[J"] ++ wsX10)
def wsX1_build_r1 : List Cond := [Cond.fieldLink RX1 9 "CallClusters$Clustering" "first" "[I", Cond.fieldLink RX1 31 "CallClusters$Clustering" "looked" "[I", Cond.fieldLink RX1 24 "CallClusters$Clustering" "bytes" "[J", Cond.methodLink RX1 37 yX1_standAlone, Cond.instanceMethod yX1_standAlone, Cond.selects RX1 yX1_standAlone yX1_standAlone, Cond.initialized RX1, Cond.code yX1_standAlone cX1_standAlone 4 none, Cond.fieldLink RX1 15 "CallClusters$Clustering" "next" "[I", Cond.fieldLink RX1 18 "CallClusters$Clustering" "last" "[I", Cond.fieldLink RX1 21 "CallClusters$Clustering" "least" "[I", Cond.fieldLink RX1 28 "CallClusters$Clustering" "heat" "[J", Cond.methodLink RX1 70 yX0_heatOf, Cond.instanceMethod yX0_heatOf, Cond.selects RX0 yX0_heatOf yX0_heatOf, Cond.initialized RX0, Cond.code yX0_heatOf cX0_heatOf 2 (some .long), Cond.fieldLink RX0 22 "CallClusters$CallTable" "heats" "[J", Cond.methodLink RX1 41 yX1_orderByHeat, Cond.instanceMethod yX1_orderByHeat, Cond.selects RX1 yX1_orderByHeat yX1_orderByHeat, Cond.code yX1_orderByHeat cX1_orderByHeat 5 (some .int), Cond.methodLink RX1 45 yX0_callerOf, Cond.instanceMethod yX0_callerOf]
def wsX1_build_r2 : List Cond := [Cond.selects RX0 yX0_callerOf yX0_callerOf, Cond.code yX0_callerOf cX0_callerOf 2 (some .int), Cond.fieldLink RX0 25 "CallClusters$CallTable" "strongest" "[I", Cond.fieldLink RX0 9 "CallClusters$CallTable" "from" "[I", Cond.methodLink RX1 51 yX1_join, Cond.instanceMethod yX1_join, Cond.selects RX1 yX1_join yX1_join, Cond.code yX1_join cX1_join 5 none, Cond.methodLink RX1 74 Lib.Math.min.name, Cond.static Lib.Math.min.name, Cond.initialized "java/lang/Math", Cond.code Lib.Math.min.name Lib.Math.min.code 2 (some .int), Cond.methodLink RX1 55 yX1_rank, Cond.instanceMethod yX1_rank, Cond.selects RX1 yX1_rank yX1_rank, Cond.code yX1_rank cX1_rank 3 none, Cond.fieldLink RX1 58 "CallClusters$Clustering" "rankedCount" "I", Cond.fieldLink RX1 34 "CallClusters$Clustering" "ranked" "[I", Cond.methodLink RX1 80 yX1_isDenser, Cond.instanceMethod yX1_isDenser, Cond.selects RX1 yX1_isDenser yX1_isDenser, Cond.code yX1_isDenser cX1_isDenser 7 (some .boolean)]
def wsX1_build : List Cond := .code yX1_build cX1_build 8 none :: ((wsX1_build_r1 ++ wsX1_build_r2) ++ wsX10 ++ wsX00)
def wsX1_clusterCount : List Cond := .code yX1_clusterCount cX1_clusterCount 1 (some .int) :: ([.fieldLink RX1 58 "CallClusters$Clustering" "rankedCount" "I"] ++ wsX10)
def wsX1_firstOf : List Cond := .code yX1_firstOf cX1_firstOf 2 (some .int) :: ([.fieldLink RX1 9 "CallClusters$Clustering" "first" "[I"] ++ wsX10)
def wsX2_empty : List Cond := .code yX2_empty cX2_empty 1 none :: ([.fieldLink RX2 19 "CallClusters$Row" "used" "I", .fieldLink RX2 23 "CallClusters$Row" "end" "J", .fieldLink RX2 15 "CallClusters$Row" "begins" "[J", .constantLong RX2 27 (-1), .methodLink RX2 29 yJ7_fill_d0a16, .static yJ7_fill_d0a16, .initialized RJ7, .code yJ7_fill_d0a16 cJ7_fill_d0a16 5 none] ++ wsX20)
def wsX2_append : List Cond := .code yX2_append cX2_append 3 none :: ([.fieldLink RX2 19 "CallClusters$Row" "used" "I", .fieldLink RX2 9 "CallClusters$Row" "members" "[I", .fieldLink RX2 15 "CallClusters$Row" "begins" "[J", .fieldLink RX2 23 "CallClusters$Row" "end" "J"] ++ wsX20)
def wsX1_writeTo : List Cond := .code yX1_writeTo cX1_writeTo 6 none :: ([.fieldLink RX1 58 "CallClusters$Clustering" "rankedCount" "I", .fieldLink RX1 34 "CallClusters$Clustering" "ranked" "[I", .fieldLink RX1 15 "CallClusters$Clustering" "next" "[I", .methodLink RX1 62 yX2_empty, .instanceMethod yX2_empty, .selects RX2 yX2_empty yX2_empty, .initialized RX2, .code yX2_empty cX2_empty 1 none, .fieldLink RX2 19 "CallClusters$Row" "used" "I", .fieldLink RX2 23 "CallClusters$Row" "end" "J", .fieldLink RX2 15 "CallClusters$Row" "begins" "[J", .constantLong RX2 27 (-1), .methodLink RX2 29 yJ7_fill_d0a16, .static yJ7_fill_d0a16, .initialized RJ7, .code yJ7_fill_d0a16 cJ7_fill_d0a16 5 none, .methodLink RX1 67 yX2_append, .instanceMethod yX2_append, .selects RX2 yX2_append yX2_append, .code yX2_append cX2_append 3 none, .fieldLink RX2 9 "CallClusters$Row" "members" "[I"] ++ wsX10 ++ wsX20)
def wsX2_init : List Cond := .code yX2_init cX2_init 1 none :: ([.methodLink RX2 3 objectInit, .instanceMethod objectInit, .code objectInit ⟨#[0xb1]⟩ 1 none, .arrayClass .int, .fieldLink RX2 9 "CallClusters$Row" "members" "[I", .arrayClass .long, .fieldLink RX2 15 "CallClusters$Row" "begins" "[J"] ++ wsX20)
def wsX2_memberCount : List Cond := .code yX2_memberCount cX2_memberCount 1 (some .int) :: ([.fieldLink RX2 19 "CallClusters$Row" "used" "I"] ++ wsX20)
def wsX2_memberAt : List Cond := .code yX2_memberAt cX2_memberAt 2 (some .int) :: ([.fieldLink RX2 19 "CallClusters$Row" "used" "I", .fieldLink RX2 9 "CallClusters$Row" "members" "[I"] ++ wsX20)
def wsX3_init_r1 : List Cond := [Cond.methodLink RX3 1 objectInit, Cond.instanceMethod objectInit, Cond.code objectInit ⟨#[0xb1]⟩ 1 none, Cond.arrayClass .int, Cond.fieldLink RX3 9 "CallClusters" "sizes" "[I", Cond.classLink RX3 13 RX0, Cond.instantiable RX0 6, Cond.initialized RX0, Cond.fieldLink RX3 16 "CallClusters" "table" "LCallClusters$CallTable;", Cond.classLink RX3 20 RX1, Cond.instantiable RX1 9, Cond.initialized RX1, Cond.fieldLink RX3 23 "CallClusters" "clustering" "LCallClusters$Clustering;", Cond.classLink RX3 27 RX2, Cond.instantiable RX2 4, Cond.initialized RX2, Cond.fieldLink RX3 30 "CallClusters" "placed" "LCallClusters$Row;", Cond.fieldLink RX3 34 "CallClusters" "numbered" "LCallClusters$Row;", Cond.fieldLink RX3 37 "CallClusters" "functionCount" "I", Cond.fieldLink RX3 41 "CallClusters" "pageBytes" "I", Cond.fieldLink RX3 44 "CallClusters" "stale" "Z", Cond.instanceMethod yX0_init, Cond.code yX0_init cX0_init 1 none, Cond.methodLink RX0 3 objectInit]
def wsX3_init_r2 : List Cond := [Cond.fieldLink RX0 9 "CallClusters$CallTable" "from" "[I", Cond.fieldLink RX0 15 "CallClusters$CallTable" "to" "[I", Cond.arrayClass .long, Cond.fieldLink RX0 18 "CallClusters$CallTable" "counts" "[J", Cond.fieldLink RX0 22 "CallClusters$CallTable" "heats" "[J", Cond.fieldLink RX0 25 "CallClusters$CallTable" "strongest" "[I", Cond.instanceMethod yX1_init, Cond.code yX1_init cX1_init 1 none, Cond.methodLink RX1 3 objectInit, Cond.fieldLink RX1 9 "CallClusters$Clustering" "first" "[I", Cond.fieldLink RX1 15 "CallClusters$Clustering" "next" "[I", Cond.fieldLink RX1 18 "CallClusters$Clustering" "last" "[I", Cond.fieldLink RX1 21 "CallClusters$Clustering" "least" "[I", Cond.fieldLink RX1 24 "CallClusters$Clustering" "bytes" "[J", Cond.fieldLink RX1 28 "CallClusters$Clustering" "heat" "[J", Cond.fieldLink RX1 31 "CallClusters$Clustering" "looked" "[I", Cond.fieldLink RX1 34 "CallClusters$Clustering" "ranked" "[I", Cond.instanceMethod yX2_init, Cond.code yX2_init cX2_init 1 none, Cond.methodLink RX2 3 objectInit, Cond.fieldLink RX2 9 "CallClusters$Row" "members" "[I", Cond.fieldLink RX2 15 "CallClusters$Row" "begins" "[J"]
def wsX3_init : List Cond := .code yX3_init cX3_init 1 none :: ((wsX3_init_r1 ++ wsX3_init_r2) ++ wsX30 ++ wsX00 ++ wsX10 ++ wsX20)
def wsX3_functions : List Cond := .code yX3_functions cX3_functions 2 (some .boolean) :: ([.fieldLink RX3 37 "CallClusters" "functionCount" "I", .fieldLink RX3 9 "CallClusters" "sizes" "[I", .fieldLink RX3 16 "CallClusters" "table" "LCallClusters$CallTable;", .fieldLink RX3 44 "CallClusters" "stale" "Z", .methodLink RX3 48 yJ7_fill_53178, .static yJ7_fill_53178, .initialized RJ7, .code yJ7_fill_53178 cJ7_fill_53178 4 none, .methodLink RX3 54 yX0_forgetAll, .instanceMethod yX0_forgetAll, .selects RX0 yX0_forgetAll yX0_forgetAll, .initialized RX0, .code yX0_forgetAll cX0_forgetAll 1 none, .fieldLink RX0 28 "CallClusters$CallTable" "used" "I", .fieldLink RX0 22 "CallClusters$CallTable" "heats" "[J", .methodLink RX0 32 yJ7_fill_d0a16, .static yJ7_fill_d0a16, .code yJ7_fill_d0a16 cJ7_fill_d0a16 5 none] ++ wsX30 ++ wsX00)
def wsX3_isFunction : List Cond := .code yX3_isFunction cX3_isFunction 2 (some .boolean) :: ([.fieldLink RX3 37 "CallClusters" "functionCount" "I"] ++ wsX30)
def wsX3_size : List Cond := .code yX3_size cX3_size 3 (some .boolean) :: ([.constant RX3 61 (1000000), .fieldLink RX3 9 "CallClusters" "sizes" "[I", .fieldLink RX3 44 "CallClusters" "stale" "Z", .methodLink RX3 57 yX3_isFunction, .instanceMethod yX3_isFunction, .selects RX3 yX3_isFunction yX3_isFunction, .initialized RX3, .code yX3_isFunction cX3_isFunction 2 (some .boolean), .fieldLink RX3 37 "CallClusters" "functionCount" "I"] ++ wsX30)
def wsX3_call_r1 : List Cond := [Cond.constantLong RX3 62 (-1), Cond.constant RX3 64 (1000000000), Cond.constantLong RX3 65 (-2), Cond.fieldLink RX3 16 "CallClusters" "table" "LCallClusters$CallTable;", Cond.constantLong RX3 71 (-3), Cond.fieldLink RX3 44 "CallClusters" "stale" "Z", Cond.methodLink RX3 57 yX3_isFunction, Cond.instanceMethod yX3_isFunction, Cond.selects RX3 yX3_isFunction yX3_isFunction, Cond.initialized RX3, Cond.code yX3_isFunction cX3_isFunction 2 (some .boolean), Cond.fieldLink RX3 37 "CallClusters" "functionCount" "I", Cond.methodLink RX3 67 yX0_pairFor, Cond.instanceMethod yX0_pairFor, Cond.selects RX0 yX0_pairFor yX0_pairFor, Cond.initialized RX0, Cond.code yX0_pairFor cX0_pairFor 4 (some .int), Cond.fieldLink RX0 28 "CallClusters$CallTable" "used" "I", Cond.fieldLink RX0 9 "CallClusters$CallTable" "from" "[I", Cond.fieldLink RX0 15 "CallClusters$CallTable" "to" "[I", Cond.fieldLink RX0 18 "CallClusters$CallTable" "counts" "[J", Cond.methodLink RX3 73 yX0_raise, Cond.instanceMethod yX0_raise, Cond.selects RX0 yX0_raise yX0_raise]
def wsX3_call_r2 : List Cond := [Cond.code yX0_raise cX0_raise 5 (some .long), Cond.constantLong RX0 38 (1000000000000), Cond.methodLink RX0 40 Lib.MathLoose.min_long.x, Cond.static Lib.MathLoose.min_long.x, Cond.initialized "java/lang/Math", Cond.code Lib.MathLoose.min_long.x Lib.MathLoose.min_long.code 4 (some .long), Cond.fieldLink RX0 22 "CallClusters$CallTable" "heats" "[J"]
def wsX3_call : List Cond := .code yX3_call cX3_call 5 (some .long) :: ((wsX3_call_r1 ++ wsX3_call_r2) ++ wsX30 ++ wsX00)
def wsX3_page : List Cond := .code yX3_page cX3_page 2 (some .boolean) :: ([.constant RX3 77 (100000000), .fieldLink RX3 41 "CallClusters" "pageBytes" "I", .fieldLink RX3 44 "CallClusters" "stale" "Z"] ++ wsX30)
def wsX3_heat : List Cond := .code yX3_heat cX3_heat 2 (some .long) :: ([.fieldLink RX3 16 "CallClusters" "table" "LCallClusters$CallTable;", .constantLong RX3 62 (-1), .methodLink RX3 57 yX3_isFunction, .instanceMethod yX3_isFunction, .selects RX3 yX3_isFunction yX3_isFunction, .initialized RX3, .code yX3_isFunction cX3_isFunction 2 (some .boolean), .fieldLink RX3 37 "CallClusters" "functionCount" "I", .methodLink RX3 78 yX0_heatOf, .instanceMethod yX0_heatOf, .selects RX0 yX0_heatOf yX0_heatOf, .initialized RX0, .code yX0_heatOf cX0_heatOf 2 (some .long), .fieldLink RX0 22 "CallClusters$CallTable" "heats" "[J"] ++ wsX30 ++ wsX00)
def wsX3_hasSize : List Cond := .code yX3_hasSize cX3_hasSize 2 (some .boolean) :: ([.fieldLink RX3 9 "CallClusters" "sizes" "[I", .methodLink RX3 57 yX3_isFunction, .instanceMethod yX3_isFunction, .selects RX3 yX3_isFunction yX3_isFunction, .initialized RX3, .code yX3_isFunction cX3_isFunction 2 (some .boolean), .fieldLink RX3 37 "CallClusters" "functionCount" "I"] ++ wsX30)
def wsX3_writeByNumber : List Cond := .code yX3_writeByNumber cX3_writeByNumber 2 none :: ([.fieldLink RX3 34 "CallClusters" "numbered" "LCallClusters$Row;", .fieldLink RX3 37 "CallClusters" "functionCount" "I", .fieldLink RX3 9 "CallClusters" "sizes" "[I", .methodLink RX3 127 yX2_empty, .instanceMethod yX2_empty, .selects RX2 yX2_empty yX2_empty, .initialized RX2, .code yX2_empty cX2_empty 1 none, .fieldLink RX2 19 "CallClusters$Row" "used" "I", .fieldLink RX2 23 "CallClusters$Row" "end" "J", .fieldLink RX2 15 "CallClusters$Row" "begins" "[J", .constantLong RX2 27 (-1), .methodLink RX2 29 yJ7_fill_d0a16, .static yJ7_fill_d0a16, .initialized RJ7, .code yJ7_fill_d0a16 cJ7_fill_d0a16 5 none, .methodLink RX3 130 yX2_append, .instanceMethod yX2_append, .selects RX2 yX2_append yX2_append, .code yX2_append cX2_append 3 none, .fieldLink RX2 9 "CallClusters$Row" "members" "[I"] ++ wsX30 ++ wsX20)
def wsX3_refresh_r1 : List Cond := [Cond.fieldLink RX3 44 "CallClusters" "stale" "Z", Cond.fieldLink RX3 16 "CallClusters" "table" "LCallClusters$CallTable;", Cond.fieldLink RX3 9 "CallClusters" "sizes" "[I", Cond.fieldLink RX3 23 "CallClusters" "clustering" "LCallClusters$Clustering;", Cond.fieldLink RX3 41 "CallClusters" "pageBytes" "I", Cond.fieldLink RX3 30 "CallClusters" "placed" "LCallClusters$Row;", Cond.methodLink RX3 112 yX0_findCallers, Cond.instanceMethod yX0_findCallers, Cond.selects RX0 yX0_findCallers yX0_findCallers, Cond.initialized RX0, Cond.code yX0_findCallers cX0_findCallers 3 none, Cond.fieldLink RX0 25 "CallClusters$CallTable" "strongest" "[I", Cond.fieldLink RX0 28 "CallClusters$CallTable" "used" "I", Cond.fieldLink RX0 9 "CallClusters$CallTable" "from" "[I", Cond.fieldLink RX0 15 "CallClusters$CallTable" "to" "[I", Cond.methodLink RX0 46 yJ7_fill_53178, Cond.static yJ7_fill_53178, Cond.initialized RJ7, Cond.code yJ7_fill_53178 cJ7_fill_53178 4 none, Cond.methodLink RX0 49 yX0_isStronger, Cond.instanceMethod yX0_isStronger, Cond.selects RX0 yX0_isStronger yX0_isStronger, Cond.code yX0_isStronger cX0_isStronger 3 (some .boolean), Cond.fieldLink RX0 18 "CallClusters$CallTable" "counts" "[J"]
def wsX3_refresh_r2 : List Cond := [Cond.methodLink RX3 116 yX1_build, Cond.instanceMethod yX1_build, Cond.selects RX1 yX1_build yX1_build, Cond.initialized RX1, Cond.code yX1_build cX1_build 8 none, Cond.fieldLink RX1 9 "CallClusters$Clustering" "first" "[I", Cond.fieldLink RX1 31 "CallClusters$Clustering" "looked" "[I", Cond.fieldLink RX1 24 "CallClusters$Clustering" "bytes" "[J", Cond.methodLink RX1 37 yX1_standAlone, Cond.instanceMethod yX1_standAlone, Cond.selects RX1 yX1_standAlone yX1_standAlone, Cond.code yX1_standAlone cX1_standAlone 4 none, Cond.fieldLink RX1 15 "CallClusters$Clustering" "next" "[I", Cond.fieldLink RX1 18 "CallClusters$Clustering" "last" "[I", Cond.fieldLink RX1 21 "CallClusters$Clustering" "least" "[I", Cond.fieldLink RX1 28 "CallClusters$Clustering" "heat" "[J", Cond.methodLink RX1 70 yX0_heatOf, Cond.instanceMethod yX0_heatOf, Cond.selects RX0 yX0_heatOf yX0_heatOf, Cond.code yX0_heatOf cX0_heatOf 2 (some .long), Cond.fieldLink RX0 22 "CallClusters$CallTable" "heats" "[J", Cond.methodLink RX1 41 yX1_orderByHeat, Cond.instanceMethod yX1_orderByHeat, Cond.selects RX1 yX1_orderByHeat yX1_orderByHeat]
def wsX3_refresh_r3 : List Cond := [Cond.code yX1_orderByHeat cX1_orderByHeat 5 (some .int), Cond.methodLink RX1 45 yX0_callerOf, Cond.instanceMethod yX0_callerOf, Cond.selects RX0 yX0_callerOf yX0_callerOf, Cond.code yX0_callerOf cX0_callerOf 2 (some .int), Cond.methodLink RX1 51 yX1_join, Cond.instanceMethod yX1_join, Cond.selects RX1 yX1_join yX1_join, Cond.code yX1_join cX1_join 5 none, Cond.methodLink RX1 74 Lib.Math.min.name, Cond.static Lib.Math.min.name, Cond.initialized "java/lang/Math", Cond.code Lib.Math.min.name Lib.Math.min.code 2 (some .int), Cond.methodLink RX1 55 yX1_rank, Cond.instanceMethod yX1_rank, Cond.selects RX1 yX1_rank yX1_rank, Cond.code yX1_rank cX1_rank 3 none, Cond.fieldLink RX1 58 "CallClusters$Clustering" "rankedCount" "I", Cond.fieldLink RX1 34 "CallClusters$Clustering" "ranked" "[I", Cond.methodLink RX1 80 yX1_isDenser, Cond.instanceMethod yX1_isDenser, Cond.selects RX1 yX1_isDenser yX1_isDenser, Cond.code yX1_isDenser cX1_isDenser 7 (some .boolean), Cond.methodLink RX3 120 yX1_writeTo]
def wsX3_refresh_r4 : List Cond := [Cond.instanceMethod yX1_writeTo, Cond.selects RX1 yX1_writeTo yX1_writeTo, Cond.code yX1_writeTo cX1_writeTo 6 none, Cond.methodLink RX1 62 yX2_empty, Cond.instanceMethod yX2_empty, Cond.selects RX2 yX2_empty yX2_empty, Cond.initialized RX2, Cond.code yX2_empty cX2_empty 1 none, Cond.fieldLink RX2 19 "CallClusters$Row" "used" "I", Cond.fieldLink RX2 23 "CallClusters$Row" "end" "J", Cond.fieldLink RX2 15 "CallClusters$Row" "begins" "[J", Cond.constantLong RX2 27 (-1), Cond.methodLink RX2 29 yJ7_fill_d0a16, Cond.static yJ7_fill_d0a16, Cond.code yJ7_fill_d0a16 cJ7_fill_d0a16 5 none, Cond.methodLink RX1 67 yX2_append, Cond.instanceMethod yX2_append, Cond.selects RX2 yX2_append yX2_append, Cond.code yX2_append cX2_append 3 none, Cond.fieldLink RX2 9 "CallClusters$Row" "members" "[I", Cond.methodLink RX3 124 yX3_writeByNumber, Cond.instanceMethod yX3_writeByNumber, Cond.selects RX3 yX3_writeByNumber yX3_writeByNumber, Cond.initialized RX3]
def wsX3_refresh_r5 : List Cond := [Cond.code yX3_writeByNumber cX3_writeByNumber 2 none, Cond.fieldLink RX3 34 "CallClusters" "numbered" "LCallClusters$Row;", Cond.fieldLink RX3 37 "CallClusters" "functionCount" "I", Cond.methodLink RX3 127 yX2_empty, Cond.methodLink RX3 130 yX2_append]
def wsX3_refresh : List Cond := .code yX3_refresh cX3_refresh 1 none :: ((wsX3_refresh_r1 ++ (wsX3_refresh_r2 ++ (wsX3_refresh_r3 ++ (wsX3_refresh_r4 ++ wsX3_refresh_r5)))) ++ wsX30 ++ wsX00 ++ wsX10 ++ wsX20)
def wsX3_caller_r1 : List Cond := [Cond.fieldLink RX3 16 "CallClusters" "table" "LCallClusters$CallTable;", Cond.methodLink RX3 82 yX3_hasSize, Cond.instanceMethod yX3_hasSize, Cond.selects RX3 yX3_hasSize yX3_hasSize, Cond.initialized RX3, Cond.code yX3_hasSize cX3_hasSize 2 (some .boolean), Cond.fieldLink RX3 9 "CallClusters" "sizes" "[I", Cond.methodLink RX3 57 yX3_isFunction, Cond.instanceMethod yX3_isFunction, Cond.selects RX3 yX3_isFunction yX3_isFunction, Cond.code yX3_isFunction cX3_isFunction 2 (some .boolean), Cond.fieldLink RX3 37 "CallClusters" "functionCount" "I", Cond.methodLink RX3 85 yX3_refresh, Cond.instanceMethod yX3_refresh, Cond.selects RX3 yX3_refresh yX3_refresh, Cond.code yX3_refresh cX3_refresh 1 none, Cond.fieldLink RX3 44 "CallClusters" "stale" "Z", Cond.fieldLink RX3 23 "CallClusters" "clustering" "LCallClusters$Clustering;", Cond.fieldLink RX3 41 "CallClusters" "pageBytes" "I", Cond.fieldLink RX3 30 "CallClusters" "placed" "LCallClusters$Row;", Cond.methodLink RX3 112 yX0_findCallers, Cond.instanceMethod yX0_findCallers, Cond.selects RX0 yX0_findCallers yX0_findCallers, Cond.initialized RX0]
def wsX3_caller_r2 : List Cond := [Cond.code yX0_findCallers cX0_findCallers 3 none, Cond.fieldLink RX0 25 "CallClusters$CallTable" "strongest" "[I", Cond.fieldLink RX0 28 "CallClusters$CallTable" "used" "I", Cond.fieldLink RX0 9 "CallClusters$CallTable" "from" "[I", Cond.fieldLink RX0 15 "CallClusters$CallTable" "to" "[I", Cond.methodLink RX0 46 yJ7_fill_53178, Cond.static yJ7_fill_53178, Cond.initialized RJ7, Cond.code yJ7_fill_53178 cJ7_fill_53178 4 none, Cond.methodLink RX0 49 yX0_isStronger, Cond.instanceMethod yX0_isStronger, Cond.selects RX0 yX0_isStronger yX0_isStronger, Cond.code yX0_isStronger cX0_isStronger 3 (some .boolean), Cond.fieldLink RX0 18 "CallClusters$CallTable" "counts" "[J", Cond.methodLink RX3 116 yX1_build, Cond.instanceMethod yX1_build, Cond.selects RX1 yX1_build yX1_build, Cond.initialized RX1, Cond.code yX1_build cX1_build 8 none, Cond.fieldLink RX1 9 "CallClusters$Clustering" "first" "[I", Cond.fieldLink RX1 31 "CallClusters$Clustering" "looked" "[I", Cond.fieldLink RX1 24 "CallClusters$Clustering" "bytes" "[J", Cond.methodLink RX1 37 yX1_standAlone, Cond.instanceMethod yX1_standAlone]
def wsX3_caller_r3 : List Cond := [Cond.selects RX1 yX1_standAlone yX1_standAlone, Cond.code yX1_standAlone cX1_standAlone 4 none, Cond.fieldLink RX1 15 "CallClusters$Clustering" "next" "[I", Cond.fieldLink RX1 18 "CallClusters$Clustering" "last" "[I", Cond.fieldLink RX1 21 "CallClusters$Clustering" "least" "[I", Cond.fieldLink RX1 28 "CallClusters$Clustering" "heat" "[J", Cond.methodLink RX1 70 yX0_heatOf, Cond.instanceMethod yX0_heatOf, Cond.selects RX0 yX0_heatOf yX0_heatOf, Cond.code yX0_heatOf cX0_heatOf 2 (some .long), Cond.fieldLink RX0 22 "CallClusters$CallTable" "heats" "[J", Cond.methodLink RX1 41 yX1_orderByHeat, Cond.instanceMethod yX1_orderByHeat, Cond.selects RX1 yX1_orderByHeat yX1_orderByHeat, Cond.code yX1_orderByHeat cX1_orderByHeat 5 (some .int), Cond.methodLink RX1 45 yX0_callerOf, Cond.instanceMethod yX0_callerOf, Cond.selects RX0 yX0_callerOf yX0_callerOf, Cond.code yX0_callerOf cX0_callerOf 2 (some .int), Cond.methodLink RX1 51 yX1_join, Cond.instanceMethod yX1_join, Cond.selects RX1 yX1_join yX1_join, Cond.code yX1_join cX1_join 5 none, Cond.methodLink RX1 74 Lib.Math.min.name]
def wsX3_caller_r4 : List Cond := [Cond.static Lib.Math.min.name, Cond.initialized "java/lang/Math", Cond.code Lib.Math.min.name Lib.Math.min.code 2 (some .int), Cond.methodLink RX1 55 yX1_rank, Cond.instanceMethod yX1_rank, Cond.selects RX1 yX1_rank yX1_rank, Cond.code yX1_rank cX1_rank 3 none, Cond.fieldLink RX1 58 "CallClusters$Clustering" "rankedCount" "I", Cond.fieldLink RX1 34 "CallClusters$Clustering" "ranked" "[I", Cond.methodLink RX1 80 yX1_isDenser, Cond.instanceMethod yX1_isDenser, Cond.selects RX1 yX1_isDenser yX1_isDenser, Cond.code yX1_isDenser cX1_isDenser 7 (some .boolean), Cond.methodLink RX3 120 yX1_writeTo, Cond.instanceMethod yX1_writeTo, Cond.selects RX1 yX1_writeTo yX1_writeTo, Cond.code yX1_writeTo cX1_writeTo 6 none, Cond.methodLink RX1 62 yX2_empty, Cond.instanceMethod yX2_empty, Cond.selects RX2 yX2_empty yX2_empty, Cond.initialized RX2, Cond.code yX2_empty cX2_empty 1 none, Cond.fieldLink RX2 19 "CallClusters$Row" "used" "I", Cond.fieldLink RX2 23 "CallClusters$Row" "end" "J"]
def wsX3_caller_r5 : List Cond := [Cond.fieldLink RX2 15 "CallClusters$Row" "begins" "[J", Cond.constantLong RX2 27 (-1), Cond.methodLink RX2 29 yJ7_fill_d0a16, Cond.static yJ7_fill_d0a16, Cond.code yJ7_fill_d0a16 cJ7_fill_d0a16 5 none, Cond.methodLink RX1 67 yX2_append, Cond.instanceMethod yX2_append, Cond.selects RX2 yX2_append yX2_append, Cond.code yX2_append cX2_append 3 none, Cond.fieldLink RX2 9 "CallClusters$Row" "members" "[I", Cond.methodLink RX3 124 yX3_writeByNumber, Cond.instanceMethod yX3_writeByNumber, Cond.selects RX3 yX3_writeByNumber yX3_writeByNumber, Cond.code yX3_writeByNumber cX3_writeByNumber 2 none, Cond.fieldLink RX3 34 "CallClusters" "numbered" "LCallClusters$Row;", Cond.methodLink RX3 127 yX2_empty, Cond.methodLink RX3 130 yX2_append, Cond.methodLink RX3 88 yX0_callerOf]
def wsX3_caller : List Cond := .code yX3_caller cX3_caller 2 (some .int) :: ((wsX3_caller_r1 ++ (wsX3_caller_r2 ++ (wsX3_caller_r3 ++ (wsX3_caller_r4 ++ wsX3_caller_r5)))) ++ wsX30 ++ wsX00 ++ wsX10 ++ wsX20)
def wsX3_length_r1 : List Cond := [Cond.fieldLink RX3 30 "CallClusters" "placed" "LCallClusters$Row;", Cond.methodLink RX3 85 yX3_refresh, Cond.instanceMethod yX3_refresh, Cond.selects RX3 yX3_refresh yX3_refresh, Cond.initialized RX3, Cond.code yX3_refresh cX3_refresh 1 none, Cond.fieldLink RX3 44 "CallClusters" "stale" "Z", Cond.fieldLink RX3 16 "CallClusters" "table" "LCallClusters$CallTable;", Cond.fieldLink RX3 9 "CallClusters" "sizes" "[I", Cond.fieldLink RX3 23 "CallClusters" "clustering" "LCallClusters$Clustering;", Cond.fieldLink RX3 41 "CallClusters" "pageBytes" "I", Cond.methodLink RX3 112 yX0_findCallers, Cond.instanceMethod yX0_findCallers, Cond.selects RX0 yX0_findCallers yX0_findCallers, Cond.initialized RX0, Cond.code yX0_findCallers cX0_findCallers 3 none, Cond.fieldLink RX0 25 "CallClusters$CallTable" "strongest" "[I", Cond.fieldLink RX0 28 "CallClusters$CallTable" "used" "I", Cond.fieldLink RX0 9 "CallClusters$CallTable" "from" "[I", Cond.fieldLink RX0 15 "CallClusters$CallTable" "to" "[I", Cond.methodLink RX0 46 yJ7_fill_53178, Cond.static yJ7_fill_53178, Cond.initialized RJ7, Cond.code yJ7_fill_53178 cJ7_fill_53178 4 none]
def wsX3_length_r2 : List Cond := [Cond.methodLink RX0 49 yX0_isStronger, Cond.instanceMethod yX0_isStronger, Cond.selects RX0 yX0_isStronger yX0_isStronger, Cond.code yX0_isStronger cX0_isStronger 3 (some .boolean), Cond.fieldLink RX0 18 "CallClusters$CallTable" "counts" "[J", Cond.methodLink RX3 116 yX1_build, Cond.instanceMethod yX1_build, Cond.selects RX1 yX1_build yX1_build, Cond.initialized RX1, Cond.code yX1_build cX1_build 8 none, Cond.fieldLink RX1 9 "CallClusters$Clustering" "first" "[I", Cond.fieldLink RX1 31 "CallClusters$Clustering" "looked" "[I", Cond.fieldLink RX1 24 "CallClusters$Clustering" "bytes" "[J", Cond.methodLink RX1 37 yX1_standAlone, Cond.instanceMethod yX1_standAlone, Cond.selects RX1 yX1_standAlone yX1_standAlone, Cond.code yX1_standAlone cX1_standAlone 4 none, Cond.fieldLink RX1 15 "CallClusters$Clustering" "next" "[I", Cond.fieldLink RX1 18 "CallClusters$Clustering" "last" "[I", Cond.fieldLink RX1 21 "CallClusters$Clustering" "least" "[I", Cond.fieldLink RX1 28 "CallClusters$Clustering" "heat" "[J", Cond.methodLink RX1 70 yX0_heatOf, Cond.instanceMethod yX0_heatOf, Cond.selects RX0 yX0_heatOf yX0_heatOf]
def wsX3_length_r3 : List Cond := [Cond.code yX0_heatOf cX0_heatOf 2 (some .long), Cond.fieldLink RX0 22 "CallClusters$CallTable" "heats" "[J", Cond.methodLink RX1 41 yX1_orderByHeat, Cond.instanceMethod yX1_orderByHeat, Cond.selects RX1 yX1_orderByHeat yX1_orderByHeat, Cond.code yX1_orderByHeat cX1_orderByHeat 5 (some .int), Cond.methodLink RX1 45 yX0_callerOf, Cond.instanceMethod yX0_callerOf, Cond.selects RX0 yX0_callerOf yX0_callerOf, Cond.code yX0_callerOf cX0_callerOf 2 (some .int), Cond.methodLink RX1 51 yX1_join, Cond.instanceMethod yX1_join, Cond.selects RX1 yX1_join yX1_join, Cond.code yX1_join cX1_join 5 none, Cond.methodLink RX1 74 Lib.Math.min.name, Cond.static Lib.Math.min.name, Cond.initialized "java/lang/Math", Cond.code Lib.Math.min.name Lib.Math.min.code 2 (some .int), Cond.methodLink RX1 55 yX1_rank, Cond.instanceMethod yX1_rank, Cond.selects RX1 yX1_rank yX1_rank, Cond.code yX1_rank cX1_rank 3 none, Cond.fieldLink RX1 58 "CallClusters$Clustering" "rankedCount" "I", Cond.fieldLink RX1 34 "CallClusters$Clustering" "ranked" "[I"]
def wsX3_length_r4 : List Cond := [Cond.methodLink RX1 80 yX1_isDenser, Cond.instanceMethod yX1_isDenser, Cond.selects RX1 yX1_isDenser yX1_isDenser, Cond.code yX1_isDenser cX1_isDenser 7 (some .boolean), Cond.methodLink RX3 120 yX1_writeTo, Cond.instanceMethod yX1_writeTo, Cond.selects RX1 yX1_writeTo yX1_writeTo, Cond.code yX1_writeTo cX1_writeTo 6 none, Cond.methodLink RX1 62 yX2_empty, Cond.instanceMethod yX2_empty, Cond.selects RX2 yX2_empty yX2_empty, Cond.initialized RX2, Cond.code yX2_empty cX2_empty 1 none, Cond.fieldLink RX2 19 "CallClusters$Row" "used" "I", Cond.fieldLink RX2 23 "CallClusters$Row" "end" "J", Cond.fieldLink RX2 15 "CallClusters$Row" "begins" "[J", Cond.constantLong RX2 27 (-1), Cond.methodLink RX2 29 yJ7_fill_d0a16, Cond.static yJ7_fill_d0a16, Cond.code yJ7_fill_d0a16 cJ7_fill_d0a16 5 none, Cond.methodLink RX1 67 yX2_append, Cond.instanceMethod yX2_append, Cond.selects RX2 yX2_append yX2_append, Cond.code yX2_append cX2_append 3 none]
def wsX3_length_r5 : List Cond := [Cond.fieldLink RX2 9 "CallClusters$Row" "members" "[I", Cond.methodLink RX3 124 yX3_writeByNumber, Cond.instanceMethod yX3_writeByNumber, Cond.selects RX3 yX3_writeByNumber yX3_writeByNumber, Cond.code yX3_writeByNumber cX3_writeByNumber 2 none, Cond.fieldLink RX3 34 "CallClusters" "numbered" "LCallClusters$Row;", Cond.fieldLink RX3 37 "CallClusters" "functionCount" "I", Cond.methodLink RX3 127 yX2_empty, Cond.methodLink RX3 130 yX2_append, Cond.methodLink RX3 92 yX2_memberCount, Cond.instanceMethod yX2_memberCount, Cond.selects RX2 yX2_memberCount yX2_memberCount, Cond.code yX2_memberCount cX2_memberCount 1 (some .int)]
def wsX3_length : List Cond := .code yX3_length cX3_length 1 (some .int) :: ((wsX3_length_r1 ++ (wsX3_length_r2 ++ (wsX3_length_r3 ++ (wsX3_length_r4 ++ wsX3_length_r5)))) ++ wsX30 ++ wsX00 ++ wsX10 ++ wsX20)
def wsX3_row_r1 : List Cond := [Cond.fieldLink RX3 30 "CallClusters" "placed" "LCallClusters$Row;", Cond.methodLink RX3 85 yX3_refresh, Cond.instanceMethod yX3_refresh, Cond.selects RX3 yX3_refresh yX3_refresh, Cond.initialized RX3, Cond.code yX3_refresh cX3_refresh 1 none, Cond.fieldLink RX3 44 "CallClusters" "stale" "Z", Cond.fieldLink RX3 16 "CallClusters" "table" "LCallClusters$CallTable;", Cond.fieldLink RX3 9 "CallClusters" "sizes" "[I", Cond.fieldLink RX3 23 "CallClusters" "clustering" "LCallClusters$Clustering;", Cond.fieldLink RX3 41 "CallClusters" "pageBytes" "I", Cond.methodLink RX3 112 yX0_findCallers, Cond.instanceMethod yX0_findCallers, Cond.selects RX0 yX0_findCallers yX0_findCallers, Cond.initialized RX0, Cond.code yX0_findCallers cX0_findCallers 3 none, Cond.fieldLink RX0 25 "CallClusters$CallTable" "strongest" "[I", Cond.fieldLink RX0 28 "CallClusters$CallTable" "used" "I", Cond.fieldLink RX0 9 "CallClusters$CallTable" "from" "[I", Cond.fieldLink RX0 15 "CallClusters$CallTable" "to" "[I", Cond.methodLink RX0 46 yJ7_fill_53178, Cond.static yJ7_fill_53178, Cond.initialized RJ7, Cond.code yJ7_fill_53178 cJ7_fill_53178 4 none]
def wsX3_row_r2 : List Cond := [Cond.methodLink RX0 49 yX0_isStronger, Cond.instanceMethod yX0_isStronger, Cond.selects RX0 yX0_isStronger yX0_isStronger, Cond.code yX0_isStronger cX0_isStronger 3 (some .boolean), Cond.fieldLink RX0 18 "CallClusters$CallTable" "counts" "[J", Cond.methodLink RX3 116 yX1_build, Cond.instanceMethod yX1_build, Cond.selects RX1 yX1_build yX1_build, Cond.initialized RX1, Cond.code yX1_build cX1_build 8 none, Cond.fieldLink RX1 9 "CallClusters$Clustering" "first" "[I", Cond.fieldLink RX1 31 "CallClusters$Clustering" "looked" "[I", Cond.fieldLink RX1 24 "CallClusters$Clustering" "bytes" "[J", Cond.methodLink RX1 37 yX1_standAlone, Cond.instanceMethod yX1_standAlone, Cond.selects RX1 yX1_standAlone yX1_standAlone, Cond.code yX1_standAlone cX1_standAlone 4 none, Cond.fieldLink RX1 15 "CallClusters$Clustering" "next" "[I", Cond.fieldLink RX1 18 "CallClusters$Clustering" "last" "[I", Cond.fieldLink RX1 21 "CallClusters$Clustering" "least" "[I", Cond.fieldLink RX1 28 "CallClusters$Clustering" "heat" "[J", Cond.methodLink RX1 70 yX0_heatOf, Cond.instanceMethod yX0_heatOf, Cond.selects RX0 yX0_heatOf yX0_heatOf]
def wsX3_row_r3 : List Cond := [Cond.code yX0_heatOf cX0_heatOf 2 (some .long), Cond.fieldLink RX0 22 "CallClusters$CallTable" "heats" "[J", Cond.methodLink RX1 41 yX1_orderByHeat, Cond.instanceMethod yX1_orderByHeat, Cond.selects RX1 yX1_orderByHeat yX1_orderByHeat, Cond.code yX1_orderByHeat cX1_orderByHeat 5 (some .int), Cond.methodLink RX1 45 yX0_callerOf, Cond.instanceMethod yX0_callerOf, Cond.selects RX0 yX0_callerOf yX0_callerOf, Cond.code yX0_callerOf cX0_callerOf 2 (some .int), Cond.methodLink RX1 51 yX1_join, Cond.instanceMethod yX1_join, Cond.selects RX1 yX1_join yX1_join, Cond.code yX1_join cX1_join 5 none, Cond.methodLink RX1 74 Lib.Math.min.name, Cond.static Lib.Math.min.name, Cond.initialized "java/lang/Math", Cond.code Lib.Math.min.name Lib.Math.min.code 2 (some .int), Cond.methodLink RX1 55 yX1_rank, Cond.instanceMethod yX1_rank, Cond.selects RX1 yX1_rank yX1_rank, Cond.code yX1_rank cX1_rank 3 none, Cond.fieldLink RX1 58 "CallClusters$Clustering" "rankedCount" "I", Cond.fieldLink RX1 34 "CallClusters$Clustering" "ranked" "[I"]
def wsX3_row_r4 : List Cond := [Cond.methodLink RX1 80 yX1_isDenser, Cond.instanceMethod yX1_isDenser, Cond.selects RX1 yX1_isDenser yX1_isDenser, Cond.code yX1_isDenser cX1_isDenser 7 (some .boolean), Cond.methodLink RX3 120 yX1_writeTo, Cond.instanceMethod yX1_writeTo, Cond.selects RX1 yX1_writeTo yX1_writeTo, Cond.code yX1_writeTo cX1_writeTo 6 none, Cond.methodLink RX1 62 yX2_empty, Cond.instanceMethod yX2_empty, Cond.selects RX2 yX2_empty yX2_empty, Cond.initialized RX2, Cond.code yX2_empty cX2_empty 1 none, Cond.fieldLink RX2 19 "CallClusters$Row" "used" "I", Cond.fieldLink RX2 23 "CallClusters$Row" "end" "J", Cond.fieldLink RX2 15 "CallClusters$Row" "begins" "[J", Cond.constantLong RX2 27 (-1), Cond.methodLink RX2 29 yJ7_fill_d0a16, Cond.static yJ7_fill_d0a16, Cond.code yJ7_fill_d0a16 cJ7_fill_d0a16 5 none, Cond.methodLink RX1 67 yX2_append, Cond.instanceMethod yX2_append, Cond.selects RX2 yX2_append yX2_append, Cond.code yX2_append cX2_append 3 none]
def wsX3_row_r5 : List Cond := [Cond.fieldLink RX2 9 "CallClusters$Row" "members" "[I", Cond.methodLink RX3 124 yX3_writeByNumber, Cond.instanceMethod yX3_writeByNumber, Cond.selects RX3 yX3_writeByNumber yX3_writeByNumber, Cond.code yX3_writeByNumber cX3_writeByNumber 2 none, Cond.fieldLink RX3 34 "CallClusters" "numbered" "LCallClusters$Row;", Cond.fieldLink RX3 37 "CallClusters" "functionCount" "I", Cond.methodLink RX3 127 yX2_empty, Cond.methodLink RX3 130 yX2_append, Cond.methodLink RX3 96 yX2_memberAt, Cond.instanceMethod yX2_memberAt, Cond.selects RX2 yX2_memberAt yX2_memberAt, Cond.code yX2_memberAt cX2_memberAt 2 (some .int)]
def wsX3_row : List Cond := .code yX3_row cX3_row 2 (some .int) :: ((wsX3_row_r1 ++ (wsX3_row_r2 ++ (wsX3_row_r3 ++ (wsX3_row_r4 ++ wsX3_row_r5)))) ++ wsX30 ++ wsX00 ++ wsX10 ++ wsX20)
def wsX3_begin_r1 : List Cond := [Cond.constantLong RX3 62 (-1), Cond.fieldLink RX3 30 "CallClusters" "placed" "LCallClusters$Row;", Cond.methodLink RX3 82 yX3_hasSize, Cond.instanceMethod yX3_hasSize, Cond.selects RX3 yX3_hasSize yX3_hasSize, Cond.initialized RX3, Cond.code yX3_hasSize cX3_hasSize 2 (some .boolean), Cond.fieldLink RX3 9 "CallClusters" "sizes" "[I", Cond.methodLink RX3 57 yX3_isFunction, Cond.instanceMethod yX3_isFunction, Cond.selects RX3 yX3_isFunction yX3_isFunction, Cond.code yX3_isFunction cX3_isFunction 2 (some .boolean), Cond.fieldLink RX3 37 "CallClusters" "functionCount" "I", Cond.methodLink RX3 85 yX3_refresh, Cond.instanceMethod yX3_refresh, Cond.selects RX3 yX3_refresh yX3_refresh, Cond.code yX3_refresh cX3_refresh 1 none, Cond.fieldLink RX3 44 "CallClusters" "stale" "Z", Cond.fieldLink RX3 16 "CallClusters" "table" "LCallClusters$CallTable;", Cond.fieldLink RX3 23 "CallClusters" "clustering" "LCallClusters$Clustering;", Cond.fieldLink RX3 41 "CallClusters" "pageBytes" "I", Cond.methodLink RX3 112 yX0_findCallers, Cond.instanceMethod yX0_findCallers, Cond.selects RX0 yX0_findCallers yX0_findCallers]
def wsX3_begin_r2 : List Cond := [Cond.initialized RX0, Cond.code yX0_findCallers cX0_findCallers 3 none, Cond.fieldLink RX0 25 "CallClusters$CallTable" "strongest" "[I", Cond.fieldLink RX0 28 "CallClusters$CallTable" "used" "I", Cond.fieldLink RX0 9 "CallClusters$CallTable" "from" "[I", Cond.fieldLink RX0 15 "CallClusters$CallTable" "to" "[I", Cond.methodLink RX0 46 yJ7_fill_53178, Cond.static yJ7_fill_53178, Cond.initialized RJ7, Cond.code yJ7_fill_53178 cJ7_fill_53178 4 none, Cond.methodLink RX0 49 yX0_isStronger, Cond.instanceMethod yX0_isStronger, Cond.selects RX0 yX0_isStronger yX0_isStronger, Cond.code yX0_isStronger cX0_isStronger 3 (some .boolean), Cond.fieldLink RX0 18 "CallClusters$CallTable" "counts" "[J", Cond.methodLink RX3 116 yX1_build, Cond.instanceMethod yX1_build, Cond.selects RX1 yX1_build yX1_build, Cond.initialized RX1, Cond.code yX1_build cX1_build 8 none, Cond.fieldLink RX1 9 "CallClusters$Clustering" "first" "[I", Cond.fieldLink RX1 31 "CallClusters$Clustering" "looked" "[I", Cond.fieldLink RX1 24 "CallClusters$Clustering" "bytes" "[J", Cond.methodLink RX1 37 yX1_standAlone]
def wsX3_begin_r3 : List Cond := [Cond.instanceMethod yX1_standAlone, Cond.selects RX1 yX1_standAlone yX1_standAlone, Cond.code yX1_standAlone cX1_standAlone 4 none, Cond.fieldLink RX1 15 "CallClusters$Clustering" "next" "[I", Cond.fieldLink RX1 18 "CallClusters$Clustering" "last" "[I", Cond.fieldLink RX1 21 "CallClusters$Clustering" "least" "[I", Cond.fieldLink RX1 28 "CallClusters$Clustering" "heat" "[J", Cond.methodLink RX1 70 yX0_heatOf, Cond.instanceMethod yX0_heatOf, Cond.selects RX0 yX0_heatOf yX0_heatOf, Cond.code yX0_heatOf cX0_heatOf 2 (some .long), Cond.fieldLink RX0 22 "CallClusters$CallTable" "heats" "[J", Cond.methodLink RX1 41 yX1_orderByHeat, Cond.instanceMethod yX1_orderByHeat, Cond.selects RX1 yX1_orderByHeat yX1_orderByHeat, Cond.code yX1_orderByHeat cX1_orderByHeat 5 (some .int), Cond.methodLink RX1 45 yX0_callerOf, Cond.instanceMethod yX0_callerOf, Cond.selects RX0 yX0_callerOf yX0_callerOf, Cond.code yX0_callerOf cX0_callerOf 2 (some .int), Cond.methodLink RX1 51 yX1_join, Cond.instanceMethod yX1_join, Cond.selects RX1 yX1_join yX1_join, Cond.code yX1_join cX1_join 5 none]
def wsX3_begin_r4 : List Cond := [Cond.methodLink RX1 74 Lib.Math.min.name, Cond.static Lib.Math.min.name, Cond.initialized "java/lang/Math", Cond.code Lib.Math.min.name Lib.Math.min.code 2 (some .int), Cond.methodLink RX1 55 yX1_rank, Cond.instanceMethod yX1_rank, Cond.selects RX1 yX1_rank yX1_rank, Cond.code yX1_rank cX1_rank 3 none, Cond.fieldLink RX1 58 "CallClusters$Clustering" "rankedCount" "I", Cond.fieldLink RX1 34 "CallClusters$Clustering" "ranked" "[I", Cond.methodLink RX1 80 yX1_isDenser, Cond.instanceMethod yX1_isDenser, Cond.selects RX1 yX1_isDenser yX1_isDenser, Cond.code yX1_isDenser cX1_isDenser 7 (some .boolean), Cond.methodLink RX3 120 yX1_writeTo, Cond.instanceMethod yX1_writeTo, Cond.selects RX1 yX1_writeTo yX1_writeTo, Cond.code yX1_writeTo cX1_writeTo 6 none, Cond.methodLink RX1 62 yX2_empty, Cond.instanceMethod yX2_empty, Cond.selects RX2 yX2_empty yX2_empty, Cond.initialized RX2, Cond.code yX2_empty cX2_empty 1 none, Cond.fieldLink RX2 19 "CallClusters$Row" "used" "I"]
def wsX3_begin_r5 : List Cond := [Cond.fieldLink RX2 23 "CallClusters$Row" "end" "J", Cond.fieldLink RX2 15 "CallClusters$Row" "begins" "[J", Cond.constantLong RX2 27 (-1), Cond.methodLink RX2 29 yJ7_fill_d0a16, Cond.static yJ7_fill_d0a16, Cond.code yJ7_fill_d0a16 cJ7_fill_d0a16 5 none, Cond.methodLink RX1 67 yX2_append, Cond.instanceMethod yX2_append, Cond.selects RX2 yX2_append yX2_append, Cond.code yX2_append cX2_append 3 none, Cond.fieldLink RX2 9 "CallClusters$Row" "members" "[I", Cond.methodLink RX3 124 yX3_writeByNumber, Cond.instanceMethod yX3_writeByNumber, Cond.selects RX3 yX3_writeByNumber yX3_writeByNumber, Cond.code yX3_writeByNumber cX3_writeByNumber 2 none, Cond.fieldLink RX3 34 "CallClusters" "numbered" "LCallClusters$Row;", Cond.methodLink RX3 127 yX2_empty, Cond.methodLink RX3 130 yX2_append, Cond.methodLink RX3 99 yX2_beginOf, Cond.instanceMethod yX2_beginOf, Cond.selects RX2 yX2_beginOf yX2_beginOf, Cond.code yX2_beginOf cX2_beginOf 2 (some .long)]
def wsX3_begin : List Cond := .code yX3_begin cX3_begin 2 (some .long) :: ((wsX3_begin_r1 ++ (wsX3_begin_r2 ++ (wsX3_begin_r3 ++ (wsX3_begin_r4 ++ wsX3_begin_r5)))) ++ wsX30 ++ wsX00 ++ wsX10 ++ wsX20)
def wsX3_clusters_r1 : List Cond := [Cond.fieldLink RX3 23 "CallClusters" "clustering" "LCallClusters$Clustering;", Cond.methodLink RX3 85 yX3_refresh, Cond.instanceMethod yX3_refresh, Cond.selects RX3 yX3_refresh yX3_refresh, Cond.initialized RX3, Cond.code yX3_refresh cX3_refresh 1 none, Cond.fieldLink RX3 44 "CallClusters" "stale" "Z", Cond.fieldLink RX3 16 "CallClusters" "table" "LCallClusters$CallTable;", Cond.fieldLink RX3 9 "CallClusters" "sizes" "[I", Cond.fieldLink RX3 41 "CallClusters" "pageBytes" "I", Cond.fieldLink RX3 30 "CallClusters" "placed" "LCallClusters$Row;", Cond.methodLink RX3 112 yX0_findCallers, Cond.instanceMethod yX0_findCallers, Cond.selects RX0 yX0_findCallers yX0_findCallers, Cond.initialized RX0, Cond.code yX0_findCallers cX0_findCallers 3 none, Cond.fieldLink RX0 25 "CallClusters$CallTable" "strongest" "[I", Cond.fieldLink RX0 28 "CallClusters$CallTable" "used" "I", Cond.fieldLink RX0 9 "CallClusters$CallTable" "from" "[I", Cond.fieldLink RX0 15 "CallClusters$CallTable" "to" "[I", Cond.methodLink RX0 46 yJ7_fill_53178, Cond.static yJ7_fill_53178, Cond.initialized RJ7, Cond.code yJ7_fill_53178 cJ7_fill_53178 4 none]
def wsX3_clusters_r2 : List Cond := [Cond.methodLink RX0 49 yX0_isStronger, Cond.instanceMethod yX0_isStronger, Cond.selects RX0 yX0_isStronger yX0_isStronger, Cond.code yX0_isStronger cX0_isStronger 3 (some .boolean), Cond.fieldLink RX0 18 "CallClusters$CallTable" "counts" "[J", Cond.methodLink RX3 116 yX1_build, Cond.instanceMethod yX1_build, Cond.selects RX1 yX1_build yX1_build, Cond.initialized RX1, Cond.code yX1_build cX1_build 8 none, Cond.fieldLink RX1 9 "CallClusters$Clustering" "first" "[I", Cond.fieldLink RX1 31 "CallClusters$Clustering" "looked" "[I", Cond.fieldLink RX1 24 "CallClusters$Clustering" "bytes" "[J", Cond.methodLink RX1 37 yX1_standAlone, Cond.instanceMethod yX1_standAlone, Cond.selects RX1 yX1_standAlone yX1_standAlone, Cond.code yX1_standAlone cX1_standAlone 4 none, Cond.fieldLink RX1 15 "CallClusters$Clustering" "next" "[I", Cond.fieldLink RX1 18 "CallClusters$Clustering" "last" "[I", Cond.fieldLink RX1 21 "CallClusters$Clustering" "least" "[I", Cond.fieldLink RX1 28 "CallClusters$Clustering" "heat" "[J", Cond.methodLink RX1 70 yX0_heatOf, Cond.instanceMethod yX0_heatOf, Cond.selects RX0 yX0_heatOf yX0_heatOf]
def wsX3_clusters_r3 : List Cond := [Cond.code yX0_heatOf cX0_heatOf 2 (some .long), Cond.fieldLink RX0 22 "CallClusters$CallTable" "heats" "[J", Cond.methodLink RX1 41 yX1_orderByHeat, Cond.instanceMethod yX1_orderByHeat, Cond.selects RX1 yX1_orderByHeat yX1_orderByHeat, Cond.code yX1_orderByHeat cX1_orderByHeat 5 (some .int), Cond.methodLink RX1 45 yX0_callerOf, Cond.instanceMethod yX0_callerOf, Cond.selects RX0 yX0_callerOf yX0_callerOf, Cond.code yX0_callerOf cX0_callerOf 2 (some .int), Cond.methodLink RX1 51 yX1_join, Cond.instanceMethod yX1_join, Cond.selects RX1 yX1_join yX1_join, Cond.code yX1_join cX1_join 5 none, Cond.methodLink RX1 74 Lib.Math.min.name, Cond.static Lib.Math.min.name, Cond.initialized "java/lang/Math", Cond.code Lib.Math.min.name Lib.Math.min.code 2 (some .int), Cond.methodLink RX1 55 yX1_rank, Cond.instanceMethod yX1_rank, Cond.selects RX1 yX1_rank yX1_rank, Cond.code yX1_rank cX1_rank 3 none, Cond.fieldLink RX1 58 "CallClusters$Clustering" "rankedCount" "I", Cond.fieldLink RX1 34 "CallClusters$Clustering" "ranked" "[I"]
def wsX3_clusters_r4 : List Cond := [Cond.methodLink RX1 80 yX1_isDenser, Cond.instanceMethod yX1_isDenser, Cond.selects RX1 yX1_isDenser yX1_isDenser, Cond.code yX1_isDenser cX1_isDenser 7 (some .boolean), Cond.methodLink RX3 120 yX1_writeTo, Cond.instanceMethod yX1_writeTo, Cond.selects RX1 yX1_writeTo yX1_writeTo, Cond.code yX1_writeTo cX1_writeTo 6 none, Cond.methodLink RX1 62 yX2_empty, Cond.instanceMethod yX2_empty, Cond.selects RX2 yX2_empty yX2_empty, Cond.initialized RX2, Cond.code yX2_empty cX2_empty 1 none, Cond.fieldLink RX2 19 "CallClusters$Row" "used" "I", Cond.fieldLink RX2 23 "CallClusters$Row" "end" "J", Cond.fieldLink RX2 15 "CallClusters$Row" "begins" "[J", Cond.constantLong RX2 27 (-1), Cond.methodLink RX2 29 yJ7_fill_d0a16, Cond.static yJ7_fill_d0a16, Cond.code yJ7_fill_d0a16 cJ7_fill_d0a16 5 none, Cond.methodLink RX1 67 yX2_append, Cond.instanceMethod yX2_append, Cond.selects RX2 yX2_append yX2_append, Cond.code yX2_append cX2_append 3 none]
def wsX3_clusters_r5 : List Cond := [Cond.fieldLink RX2 9 "CallClusters$Row" "members" "[I", Cond.methodLink RX3 124 yX3_writeByNumber, Cond.instanceMethod yX3_writeByNumber, Cond.selects RX3 yX3_writeByNumber yX3_writeByNumber, Cond.code yX3_writeByNumber cX3_writeByNumber 2 none, Cond.fieldLink RX3 34 "CallClusters" "numbered" "LCallClusters$Row;", Cond.fieldLink RX3 37 "CallClusters" "functionCount" "I", Cond.methodLink RX3 127 yX2_empty, Cond.methodLink RX3 130 yX2_append, Cond.methodLink RX3 102 yX1_clusterCount, Cond.instanceMethod yX1_clusterCount, Cond.selects RX1 yX1_clusterCount yX1_clusterCount, Cond.code yX1_clusterCount cX1_clusterCount 1 (some .int)]
def wsX3_clusters : List Cond := .code yX3_clusters cX3_clusters 1 (some .int) :: ((wsX3_clusters_r1 ++ (wsX3_clusters_r2 ++ (wsX3_clusters_r3 ++ (wsX3_clusters_r4 ++ wsX3_clusters_r5)))) ++ wsX30 ++ wsX00 ++ wsX10 ++ wsX20)
def wsX3_cluster_r1 : List Cond := [Cond.fieldLink RX3 23 "CallClusters" "clustering" "LCallClusters$Clustering;", Cond.methodLink RX3 82 yX3_hasSize, Cond.instanceMethod yX3_hasSize, Cond.selects RX3 yX3_hasSize yX3_hasSize, Cond.initialized RX3, Cond.code yX3_hasSize cX3_hasSize 2 (some .boolean), Cond.fieldLink RX3 9 "CallClusters" "sizes" "[I", Cond.methodLink RX3 57 yX3_isFunction, Cond.instanceMethod yX3_isFunction, Cond.selects RX3 yX3_isFunction yX3_isFunction, Cond.code yX3_isFunction cX3_isFunction 2 (some .boolean), Cond.fieldLink RX3 37 "CallClusters" "functionCount" "I", Cond.methodLink RX3 85 yX3_refresh, Cond.instanceMethod yX3_refresh, Cond.selects RX3 yX3_refresh yX3_refresh, Cond.code yX3_refresh cX3_refresh 1 none, Cond.fieldLink RX3 44 "CallClusters" "stale" "Z", Cond.fieldLink RX3 16 "CallClusters" "table" "LCallClusters$CallTable;", Cond.fieldLink RX3 41 "CallClusters" "pageBytes" "I", Cond.fieldLink RX3 30 "CallClusters" "placed" "LCallClusters$Row;", Cond.methodLink RX3 112 yX0_findCallers, Cond.instanceMethod yX0_findCallers, Cond.selects RX0 yX0_findCallers yX0_findCallers, Cond.initialized RX0]
def wsX3_cluster_r2 : List Cond := [Cond.code yX0_findCallers cX0_findCallers 3 none, Cond.fieldLink RX0 25 "CallClusters$CallTable" "strongest" "[I", Cond.fieldLink RX0 28 "CallClusters$CallTable" "used" "I", Cond.fieldLink RX0 9 "CallClusters$CallTable" "from" "[I", Cond.fieldLink RX0 15 "CallClusters$CallTable" "to" "[I", Cond.methodLink RX0 46 yJ7_fill_53178, Cond.static yJ7_fill_53178, Cond.initialized RJ7, Cond.code yJ7_fill_53178 cJ7_fill_53178 4 none, Cond.methodLink RX0 49 yX0_isStronger, Cond.instanceMethod yX0_isStronger, Cond.selects RX0 yX0_isStronger yX0_isStronger, Cond.code yX0_isStronger cX0_isStronger 3 (some .boolean), Cond.fieldLink RX0 18 "CallClusters$CallTable" "counts" "[J", Cond.methodLink RX3 116 yX1_build, Cond.instanceMethod yX1_build, Cond.selects RX1 yX1_build yX1_build, Cond.initialized RX1, Cond.code yX1_build cX1_build 8 none, Cond.fieldLink RX1 9 "CallClusters$Clustering" "first" "[I", Cond.fieldLink RX1 31 "CallClusters$Clustering" "looked" "[I", Cond.fieldLink RX1 24 "CallClusters$Clustering" "bytes" "[J", Cond.methodLink RX1 37 yX1_standAlone, Cond.instanceMethod yX1_standAlone]
def wsX3_cluster_r3 : List Cond := [Cond.selects RX1 yX1_standAlone yX1_standAlone, Cond.code yX1_standAlone cX1_standAlone 4 none, Cond.fieldLink RX1 15 "CallClusters$Clustering" "next" "[I", Cond.fieldLink RX1 18 "CallClusters$Clustering" "last" "[I", Cond.fieldLink RX1 21 "CallClusters$Clustering" "least" "[I", Cond.fieldLink RX1 28 "CallClusters$Clustering" "heat" "[J", Cond.methodLink RX1 70 yX0_heatOf, Cond.instanceMethod yX0_heatOf, Cond.selects RX0 yX0_heatOf yX0_heatOf, Cond.code yX0_heatOf cX0_heatOf 2 (some .long), Cond.fieldLink RX0 22 "CallClusters$CallTable" "heats" "[J", Cond.methodLink RX1 41 yX1_orderByHeat, Cond.instanceMethod yX1_orderByHeat, Cond.selects RX1 yX1_orderByHeat yX1_orderByHeat, Cond.code yX1_orderByHeat cX1_orderByHeat 5 (some .int), Cond.methodLink RX1 45 yX0_callerOf, Cond.instanceMethod yX0_callerOf, Cond.selects RX0 yX0_callerOf yX0_callerOf, Cond.code yX0_callerOf cX0_callerOf 2 (some .int), Cond.methodLink RX1 51 yX1_join, Cond.instanceMethod yX1_join, Cond.selects RX1 yX1_join yX1_join, Cond.code yX1_join cX1_join 5 none, Cond.methodLink RX1 74 Lib.Math.min.name]
def wsX3_cluster_r4 : List Cond := [Cond.static Lib.Math.min.name, Cond.initialized "java/lang/Math", Cond.code Lib.Math.min.name Lib.Math.min.code 2 (some .int), Cond.methodLink RX1 55 yX1_rank, Cond.instanceMethod yX1_rank, Cond.selects RX1 yX1_rank yX1_rank, Cond.code yX1_rank cX1_rank 3 none, Cond.fieldLink RX1 58 "CallClusters$Clustering" "rankedCount" "I", Cond.fieldLink RX1 34 "CallClusters$Clustering" "ranked" "[I", Cond.methodLink RX1 80 yX1_isDenser, Cond.instanceMethod yX1_isDenser, Cond.selects RX1 yX1_isDenser yX1_isDenser, Cond.code yX1_isDenser cX1_isDenser 7 (some .boolean), Cond.methodLink RX3 120 yX1_writeTo, Cond.instanceMethod yX1_writeTo, Cond.selects RX1 yX1_writeTo yX1_writeTo, Cond.code yX1_writeTo cX1_writeTo 6 none, Cond.methodLink RX1 62 yX2_empty, Cond.instanceMethod yX2_empty, Cond.selects RX2 yX2_empty yX2_empty, Cond.initialized RX2, Cond.code yX2_empty cX2_empty 1 none, Cond.fieldLink RX2 19 "CallClusters$Row" "used" "I", Cond.fieldLink RX2 23 "CallClusters$Row" "end" "J"]
def wsX3_cluster_r5 : List Cond := [Cond.fieldLink RX2 15 "CallClusters$Row" "begins" "[J", Cond.constantLong RX2 27 (-1), Cond.methodLink RX2 29 yJ7_fill_d0a16, Cond.static yJ7_fill_d0a16, Cond.code yJ7_fill_d0a16 cJ7_fill_d0a16 5 none, Cond.methodLink RX1 67 yX2_append, Cond.instanceMethod yX2_append, Cond.selects RX2 yX2_append yX2_append, Cond.code yX2_append cX2_append 3 none, Cond.fieldLink RX2 9 "CallClusters$Row" "members" "[I", Cond.methodLink RX3 124 yX3_writeByNumber, Cond.instanceMethod yX3_writeByNumber, Cond.selects RX3 yX3_writeByNumber yX3_writeByNumber, Cond.code yX3_writeByNumber cX3_writeByNumber 2 none, Cond.fieldLink RX3 34 "CallClusters" "numbered" "LCallClusters$Row;", Cond.methodLink RX3 127 yX2_empty, Cond.methodLink RX3 130 yX2_append, Cond.methodLink RX3 105 yX1_firstOf, Cond.instanceMethod yX1_firstOf, Cond.selects RX1 yX1_firstOf yX1_firstOf, Cond.code yX1_firstOf cX1_firstOf 2 (some .int)]
def wsX3_cluster : List Cond := .code yX3_cluster cX3_cluster 2 (some .int) :: ((wsX3_cluster_r1 ++ (wsX3_cluster_r2 ++ (wsX3_cluster_r3 ++ (wsX3_cluster_r4 ++ wsX3_cluster_r5)))) ++ wsX30 ++ wsX00 ++ wsX10 ++ wsX20)
def wsX3_cost_r1 : List Cond := [Cond.fieldLink RX3 16 "CallClusters" "table" "LCallClusters$CallTable;", Cond.fieldLink RX3 30 "CallClusters" "placed" "LCallClusters$Row;", Cond.fieldLink RX3 34 "CallClusters" "numbered" "LCallClusters$Row;", Cond.constantLong RX3 62 (-1), Cond.methodLink RX3 85 yX3_refresh, Cond.instanceMethod yX3_refresh, Cond.selects RX3 yX3_refresh yX3_refresh, Cond.initialized RX3, Cond.code yX3_refresh cX3_refresh 1 none, Cond.fieldLink RX3 44 "CallClusters" "stale" "Z", Cond.fieldLink RX3 9 "CallClusters" "sizes" "[I", Cond.fieldLink RX3 23 "CallClusters" "clustering" "LCallClusters$Clustering;", Cond.fieldLink RX3 41 "CallClusters" "pageBytes" "I", Cond.methodLink RX3 112 yX0_findCallers, Cond.instanceMethod yX0_findCallers, Cond.selects RX0 yX0_findCallers yX0_findCallers, Cond.initialized RX0, Cond.code yX0_findCallers cX0_findCallers 3 none, Cond.fieldLink RX0 25 "CallClusters$CallTable" "strongest" "[I", Cond.fieldLink RX0 28 "CallClusters$CallTable" "used" "I", Cond.fieldLink RX0 9 "CallClusters$CallTable" "from" "[I", Cond.fieldLink RX0 15 "CallClusters$CallTable" "to" "[I", Cond.methodLink RX0 46 yJ7_fill_53178, Cond.static yJ7_fill_53178]
def wsX3_cost_r2 : List Cond := [Cond.initialized RJ7, Cond.code yJ7_fill_53178 cJ7_fill_53178 4 none, Cond.methodLink RX0 49 yX0_isStronger, Cond.instanceMethod yX0_isStronger, Cond.selects RX0 yX0_isStronger yX0_isStronger, Cond.code yX0_isStronger cX0_isStronger 3 (some .boolean), Cond.fieldLink RX0 18 "CallClusters$CallTable" "counts" "[J", Cond.methodLink RX3 116 yX1_build, Cond.instanceMethod yX1_build, Cond.selects RX1 yX1_build yX1_build, Cond.initialized RX1, Cond.code yX1_build cX1_build 8 none, Cond.fieldLink RX1 9 "CallClusters$Clustering" "first" "[I", Cond.fieldLink RX1 31 "CallClusters$Clustering" "looked" "[I", Cond.fieldLink RX1 24 "CallClusters$Clustering" "bytes" "[J", Cond.methodLink RX1 37 yX1_standAlone, Cond.instanceMethod yX1_standAlone, Cond.selects RX1 yX1_standAlone yX1_standAlone, Cond.code yX1_standAlone cX1_standAlone 4 none, Cond.fieldLink RX1 15 "CallClusters$Clustering" "next" "[I", Cond.fieldLink RX1 18 "CallClusters$Clustering" "last" "[I", Cond.fieldLink RX1 21 "CallClusters$Clustering" "least" "[I", Cond.fieldLink RX1 28 "CallClusters$Clustering" "heat" "[J", Cond.methodLink RX1 70 yX0_heatOf]
def wsX3_cost_r3 : List Cond := [Cond.instanceMethod yX0_heatOf, Cond.selects RX0 yX0_heatOf yX0_heatOf, Cond.code yX0_heatOf cX0_heatOf 2 (some .long), Cond.fieldLink RX0 22 "CallClusters$CallTable" "heats" "[J", Cond.methodLink RX1 41 yX1_orderByHeat, Cond.instanceMethod yX1_orderByHeat, Cond.selects RX1 yX1_orderByHeat yX1_orderByHeat, Cond.code yX1_orderByHeat cX1_orderByHeat 5 (some .int), Cond.methodLink RX1 45 yX0_callerOf, Cond.instanceMethod yX0_callerOf, Cond.selects RX0 yX0_callerOf yX0_callerOf, Cond.code yX0_callerOf cX0_callerOf 2 (some .int), Cond.methodLink RX1 51 yX1_join, Cond.instanceMethod yX1_join, Cond.selects RX1 yX1_join yX1_join, Cond.code yX1_join cX1_join 5 none, Cond.methodLink RX1 74 Lib.Math.min.name, Cond.static Lib.Math.min.name, Cond.initialized "java/lang/Math", Cond.code Lib.Math.min.name Lib.Math.min.code 2 (some .int), Cond.methodLink RX1 55 yX1_rank, Cond.instanceMethod yX1_rank, Cond.selects RX1 yX1_rank yX1_rank, Cond.code yX1_rank cX1_rank 3 none]
def wsX3_cost_r4 : List Cond := [Cond.fieldLink RX1 58 "CallClusters$Clustering" "rankedCount" "I", Cond.fieldLink RX1 34 "CallClusters$Clustering" "ranked" "[I", Cond.methodLink RX1 80 yX1_isDenser, Cond.instanceMethod yX1_isDenser, Cond.selects RX1 yX1_isDenser yX1_isDenser, Cond.code yX1_isDenser cX1_isDenser 7 (some .boolean), Cond.methodLink RX3 120 yX1_writeTo, Cond.instanceMethod yX1_writeTo, Cond.selects RX1 yX1_writeTo yX1_writeTo, Cond.code yX1_writeTo cX1_writeTo 6 none, Cond.methodLink RX1 62 yX2_empty, Cond.instanceMethod yX2_empty, Cond.selects RX2 yX2_empty yX2_empty, Cond.initialized RX2, Cond.code yX2_empty cX2_empty 1 none, Cond.fieldLink RX2 19 "CallClusters$Row" "used" "I", Cond.fieldLink RX2 23 "CallClusters$Row" "end" "J", Cond.fieldLink RX2 15 "CallClusters$Row" "begins" "[J", Cond.constantLong RX2 27 (-1), Cond.methodLink RX2 29 yJ7_fill_d0a16, Cond.static yJ7_fill_d0a16, Cond.code yJ7_fill_d0a16 cJ7_fill_d0a16 5 none, Cond.methodLink RX1 67 yX2_append, Cond.instanceMethod yX2_append]
def wsX3_cost_r5 : List Cond := [Cond.selects RX2 yX2_append yX2_append, Cond.code yX2_append cX2_append 3 none, Cond.fieldLink RX2 9 "CallClusters$Row" "members" "[I", Cond.methodLink RX3 124 yX3_writeByNumber, Cond.instanceMethod yX3_writeByNumber, Cond.selects RX3 yX3_writeByNumber yX3_writeByNumber, Cond.code yX3_writeByNumber cX3_writeByNumber 2 none, Cond.fieldLink RX3 37 "CallClusters" "functionCount" "I", Cond.methodLink RX3 127 yX2_empty, Cond.methodLink RX3 130 yX2_append, Cond.methodLink RX3 108 yX0_costIn, Cond.instanceMethod yX0_costIn, Cond.selects RX0 yX0_costIn yX0_costIn, Cond.code yX0_costIn cX0_costIn 9 (some .long), Cond.constantLong RX0 59 (-1), Cond.methodLink RX0 61 Lib.MathLoose.abs_long.x, Cond.static Lib.MathLoose.abs_long.x, Cond.code Lib.MathLoose.abs_long.x Lib.MathLoose.abs_long.code 2 (some .long), Cond.methodLink RX0 53 yX2_beginOf, Cond.instanceMethod yX2_beginOf, Cond.selects RX2 yX2_beginOf yX2_beginOf, Cond.code yX2_beginOf cX2_beginOf 2 (some .long)]
def wsX3_cost : List Cond := .code yX3_cost cX3_cost 2 (some .long) :: ((wsX3_cost_r1 ++ (wsX3_cost_r2 ++ (wsX3_cost_r3 ++ (wsX3_cost_r4 ++ wsX3_cost_r5)))) ++ wsX30 ++ wsX00 ++ wsX10 ++ wsX20)
def wsX4_init : List Cond := .code yX4_init cX4_init 1 none :: ([.methodLink RX4 1 objectInit, .instanceMethod objectInit, .code objectInit ⟨#[0xb1]⟩ 1 none, .fieldLink RX4 7 "CallClustersModel" "many" "I", .fieldLink RX4 13 "CallClustersModel" "limit" "I", .arrayClass .int, .fieldLink RX4 16 "CallClustersModel" "bytes" "[I", .fieldLink RX4 20 "CallClustersModel" "callers" "[I", .fieldLink RX4 23 "CallClustersModel" "called" "[I", .arrayClass .long, .fieldLink RX4 26 "CallClustersModel" "counts" "[J", .fieldLink RX4 30 "CallClustersModel" "heats" "[J", .fieldLink RX4 33 "CallClustersModel" "best" "[I", .fieldLink RX4 36 "CallClustersModel" "of" "[I", .fieldLink RX4 39 "CallClustersModel" "behind" "[I", .fieldLink RX4 42 "CallClustersModel" "last" "[I", .fieldLink RX4 45 "CallClustersModel" "warm" "[J", .fieldLink RX4 48 "CallClustersModel" "great" "[J", .fieldLink RX4 51 "CallClustersModel" "order" "[I", .fieldLink RX4 54 "CallClustersModel" "begins" "[J", .fieldLink RX4 57 "CallClustersModel" "most" "[J", .arrayClass .boolean, .fieldLink RX4 60 "CallClustersModel" "isDone" "[Z"] ++ wsX40)
def wsX4_isFunction : List Cond := .code yX4_isFunction cX4_isFunction 2 (some .boolean) :: ([.fieldLink RX4 7 "CallClustersModel" "many" "I"] ++ wsX40)
def wsX4_functions : List Cond := .code yX4_functions cX4_functions 3 (some .boolean) :: ([.fieldLink RX4 7 "CallClustersModel" "many" "I", .fieldLink RX4 64 "CallClustersModel" "pairs" "I", .fieldLink RX4 16 "CallClustersModel" "bytes" "[I", .fieldLink RX4 67 "CallClustersModel" "isKnown" "Z"] ++ wsX40)
def wsX4_size : List Cond := .code yX4_size cX4_size 3 (some .boolean) :: ([.constant RX4 75 (1000000), .fieldLink RX4 16 "CallClustersModel" "bytes" "[I", .fieldLink RX4 67 "CallClustersModel" "isKnown" "Z", .methodLink RX4 71 yX4_isFunction, .instanceMethod yX4_isFunction, .selects RX4 yX4_isFunction yX4_isFunction, .initialized RX4, .code yX4_isFunction cX4_isFunction 2 (some .boolean), .fieldLink RX4 7 "CallClustersModel" "many" "I"] ++ wsX40)
def wsX4_call : List Cond := .code yX4_call cX4_call 5 (some .long) :: ([.constantLong RX4 76 (-1), .constant RX4 78 (1000000000), .constantLong RX4 79 (-2), .fieldLink RX4 64 "CallClustersModel" "pairs" "I", .fieldLink RX4 20 "CallClustersModel" "callers" "[I", .fieldLink RX4 23 "CallClustersModel" "called" "[I", .constantLong RX4 81 (-3), .fieldLink RX4 26 "CallClustersModel" "counts" "[J", .constantLong RX4 83 (1000000000000), .methodLink RX4 85 Lib.MathLoose.min_long.x, .static Lib.MathLoose.min_long.x, .initialized "java/lang/Math", .code Lib.MathLoose.min_long.x Lib.MathLoose.min_long.code 4 (some .long), .fieldLink RX4 67 "CallClustersModel" "isKnown" "Z", .methodLink RX4 71 yX4_isFunction, .instanceMethod yX4_isFunction, .selects RX4 yX4_isFunction yX4_isFunction, .initialized RX4, .code yX4_isFunction cX4_isFunction 2 (some .boolean), .fieldLink RX4 7 "CallClustersModel" "many" "I"] ++ wsX40)
def wsX4_page : List Cond := .code yX4_page cX4_page 2 (some .boolean) :: ([.constant RX4 91 (100000000), .fieldLink RX4 13 "CallClustersModel" "limit" "I", .fieldLink RX4 67 "CallClustersModel" "isKnown" "Z"] ++ wsX40)
def wsX4_join : List Cond := .code yX4_join cX4_join 6 none :: ([.fieldLink RX4 33 "CallClustersModel" "best" "[I", .fieldLink RX4 36 "CallClustersModel" "of" "[I", .fieldLink RX4 48 "CallClustersModel" "great" "[J", .fieldLink RX4 13 "CallClustersModel" "limit" "I", .fieldLink RX4 39 "CallClustersModel" "behind" "[I", .fieldLink RX4 42 "CallClustersModel" "last" "[I", .fieldLink RX4 45 "CallClustersModel" "warm" "[J"] ++ wsX40)
def wsX4_isDenser : List Cond := .code yX4_isDenser cX4_isDenser 7 (some .boolean) :: ([.fieldLink RX4 45 "CallClustersModel" "warm" "[J", .fieldLink RX4 48 "CallClustersModel" "great" "[J"] ++ wsX40)
def wsX4_inOrder : List Cond := .code yX4_inOrder cX4_inOrder 5 none :: ([.fieldLink RX4 99 "CallClustersModel" "inRow" "I", .fieldLink RX4 102 "CallClustersModel" "groups" "I", .fieldLink RX4 7 "CallClustersModel" "many" "I", .fieldLink RX4 60 "CallClustersModel" "isDone" "[Z", .fieldLink RX4 36 "CallClustersModel" "of" "[I", .fieldLink RX4 51 "CallClustersModel" "order" "[I", .fieldLink RX4 54 "CallClustersModel" "begins" "[J", .fieldLink RX4 16 "CallClustersModel" "bytes" "[I", .fieldLink RX4 39 "CallClustersModel" "behind" "[I", .methodLink RX4 105 yX4_isDenser, .instanceMethod yX4_isDenser, .selects RX4 yX4_isDenser yX4_isDenser, .initialized RX4, .code yX4_isDenser cX4_isDenser 7 (some .boolean), .fieldLink RX4 45 "CallClustersModel" "warm" "[J", .fieldLink RX4 48 "CallClustersModel" "great" "[J"] ++ wsX40)
def wsX4_know_r1 : List Cond := [Cond.fieldLink RX4 67 "CallClustersModel" "isKnown" "Z", Cond.fieldLink RX4 7 "CallClustersModel" "many" "I", Cond.fieldLink RX4 30 "CallClustersModel" "heats" "[J", Cond.fieldLink RX4 33 "CallClustersModel" "best" "[I", Cond.fieldLink RX4 57 "CallClustersModel" "most" "[J", Cond.fieldLink RX4 36 "CallClustersModel" "of" "[I", Cond.fieldLink RX4 16 "CallClustersModel" "bytes" "[I", Cond.fieldLink RX4 39 "CallClustersModel" "behind" "[I", Cond.fieldLink RX4 42 "CallClustersModel" "last" "[I", Cond.fieldLink RX4 48 "CallClustersModel" "great" "[J", Cond.fieldLink RX4 64 "CallClustersModel" "pairs" "I", Cond.fieldLink RX4 20 "CallClustersModel" "callers" "[I", Cond.fieldLink RX4 23 "CallClustersModel" "called" "[I", Cond.fieldLink RX4 26 "CallClustersModel" "counts" "[J", Cond.fieldLink RX4 45 "CallClustersModel" "warm" "[J", Cond.fieldLink RX4 60 "CallClustersModel" "isDone" "[Z", Cond.methodLink RX4 92 yX4_join, Cond.instanceMethod yX4_join, Cond.selects RX4 yX4_join yX4_join, Cond.initialized RX4, Cond.code yX4_join cX4_join 6 none, Cond.fieldLink RX4 13 "CallClustersModel" "limit" "I", Cond.methodLink RX4 96 yX4_inOrder, Cond.instanceMethod yX4_inOrder]
def wsX4_know_r2 : List Cond := [Cond.selects RX4 yX4_inOrder yX4_inOrder, Cond.code yX4_inOrder cX4_inOrder 5 none, Cond.fieldLink RX4 99 "CallClustersModel" "inRow" "I", Cond.fieldLink RX4 102 "CallClustersModel" "groups" "I", Cond.fieldLink RX4 51 "CallClustersModel" "order" "[I", Cond.fieldLink RX4 54 "CallClustersModel" "begins" "[J", Cond.methodLink RX4 105 yX4_isDenser, Cond.instanceMethod yX4_isDenser, Cond.selects RX4 yX4_isDenser yX4_isDenser, Cond.code yX4_isDenser cX4_isDenser 7 (some .boolean)]
def wsX4_know : List Cond := .code yX4_know cX4_know 4 none :: ((wsX4_know_r1 ++ wsX4_know_r2) ++ wsX40)
def wsX4_heat_r1 : List Cond := [Cond.fieldLink RX4 30 "CallClustersModel" "heats" "[J", Cond.constantLong RX4 76 (-1), Cond.methodLink RX4 109 yX4_know, Cond.instanceMethod yX4_know, Cond.selects RX4 yX4_know yX4_know, Cond.initialized RX4, Cond.code yX4_know cX4_know 4 none, Cond.fieldLink RX4 67 "CallClustersModel" "isKnown" "Z", Cond.fieldLink RX4 7 "CallClustersModel" "many" "I", Cond.fieldLink RX4 33 "CallClustersModel" "best" "[I", Cond.fieldLink RX4 57 "CallClustersModel" "most" "[J", Cond.fieldLink RX4 36 "CallClustersModel" "of" "[I", Cond.fieldLink RX4 16 "CallClustersModel" "bytes" "[I", Cond.fieldLink RX4 39 "CallClustersModel" "behind" "[I", Cond.fieldLink RX4 42 "CallClustersModel" "last" "[I", Cond.fieldLink RX4 48 "CallClustersModel" "great" "[J", Cond.fieldLink RX4 64 "CallClustersModel" "pairs" "I", Cond.fieldLink RX4 20 "CallClustersModel" "callers" "[I", Cond.fieldLink RX4 23 "CallClustersModel" "called" "[I", Cond.fieldLink RX4 26 "CallClustersModel" "counts" "[J", Cond.fieldLink RX4 45 "CallClustersModel" "warm" "[J", Cond.fieldLink RX4 60 "CallClustersModel" "isDone" "[Z", Cond.methodLink RX4 92 yX4_join, Cond.instanceMethod yX4_join]
def wsX4_heat_r2 : List Cond := [Cond.selects RX4 yX4_join yX4_join, Cond.code yX4_join cX4_join 6 none, Cond.fieldLink RX4 13 "CallClustersModel" "limit" "I", Cond.methodLink RX4 96 yX4_inOrder, Cond.instanceMethod yX4_inOrder, Cond.selects RX4 yX4_inOrder yX4_inOrder, Cond.code yX4_inOrder cX4_inOrder 5 none, Cond.fieldLink RX4 99 "CallClustersModel" "inRow" "I", Cond.fieldLink RX4 102 "CallClustersModel" "groups" "I", Cond.fieldLink RX4 51 "CallClustersModel" "order" "[I", Cond.fieldLink RX4 54 "CallClustersModel" "begins" "[J", Cond.methodLink RX4 105 yX4_isDenser, Cond.instanceMethod yX4_isDenser, Cond.selects RX4 yX4_isDenser yX4_isDenser, Cond.code yX4_isDenser cX4_isDenser 7 (some .boolean), Cond.methodLink RX4 71 yX4_isFunction, Cond.instanceMethod yX4_isFunction, Cond.selects RX4 yX4_isFunction yX4_isFunction, Cond.code yX4_isFunction cX4_isFunction 2 (some .boolean)]
def wsX4_heat : List Cond := .code yX4_heat cX4_heat 2 (some .long) :: ((wsX4_heat_r1 ++ wsX4_heat_r2) ++ wsX40)
def wsX4_caller_r1 : List Cond := [Cond.fieldLink RX4 16 "CallClustersModel" "bytes" "[I", Cond.fieldLink RX4 33 "CallClustersModel" "best" "[I", Cond.methodLink RX4 109 yX4_know, Cond.instanceMethod yX4_know, Cond.selects RX4 yX4_know yX4_know, Cond.initialized RX4, Cond.code yX4_know cX4_know 4 none, Cond.fieldLink RX4 67 "CallClustersModel" "isKnown" "Z", Cond.fieldLink RX4 7 "CallClustersModel" "many" "I", Cond.fieldLink RX4 30 "CallClustersModel" "heats" "[J", Cond.fieldLink RX4 57 "CallClustersModel" "most" "[J", Cond.fieldLink RX4 36 "CallClustersModel" "of" "[I", Cond.fieldLink RX4 39 "CallClustersModel" "behind" "[I", Cond.fieldLink RX4 42 "CallClustersModel" "last" "[I", Cond.fieldLink RX4 48 "CallClustersModel" "great" "[J", Cond.fieldLink RX4 64 "CallClustersModel" "pairs" "I", Cond.fieldLink RX4 20 "CallClustersModel" "callers" "[I", Cond.fieldLink RX4 23 "CallClustersModel" "called" "[I", Cond.fieldLink RX4 26 "CallClustersModel" "counts" "[J", Cond.fieldLink RX4 45 "CallClustersModel" "warm" "[J", Cond.fieldLink RX4 60 "CallClustersModel" "isDone" "[Z", Cond.methodLink RX4 92 yX4_join, Cond.instanceMethod yX4_join, Cond.selects RX4 yX4_join yX4_join]
def wsX4_caller_r2 : List Cond := [Cond.code yX4_join cX4_join 6 none, Cond.fieldLink RX4 13 "CallClustersModel" "limit" "I", Cond.methodLink RX4 96 yX4_inOrder, Cond.instanceMethod yX4_inOrder, Cond.selects RX4 yX4_inOrder yX4_inOrder, Cond.code yX4_inOrder cX4_inOrder 5 none, Cond.fieldLink RX4 99 "CallClustersModel" "inRow" "I", Cond.fieldLink RX4 102 "CallClustersModel" "groups" "I", Cond.fieldLink RX4 51 "CallClustersModel" "order" "[I", Cond.fieldLink RX4 54 "CallClustersModel" "begins" "[J", Cond.methodLink RX4 105 yX4_isDenser, Cond.instanceMethod yX4_isDenser, Cond.selects RX4 yX4_isDenser yX4_isDenser, Cond.code yX4_isDenser cX4_isDenser 7 (some .boolean), Cond.methodLink RX4 71 yX4_isFunction, Cond.instanceMethod yX4_isFunction, Cond.selects RX4 yX4_isFunction yX4_isFunction, Cond.code yX4_isFunction cX4_isFunction 2 (some .boolean)]
def wsX4_caller : List Cond := .code yX4_caller cX4_caller 2 (some .int) :: ((wsX4_caller_r1 ++ wsX4_caller_r2) ++ wsX40)
def wsX4_length_r1 : List Cond := [Cond.fieldLink RX4 99 "CallClustersModel" "inRow" "I", Cond.methodLink RX4 109 yX4_know, Cond.instanceMethod yX4_know, Cond.selects RX4 yX4_know yX4_know, Cond.initialized RX4, Cond.code yX4_know cX4_know 4 none, Cond.fieldLink RX4 67 "CallClustersModel" "isKnown" "Z", Cond.fieldLink RX4 7 "CallClustersModel" "many" "I", Cond.fieldLink RX4 30 "CallClustersModel" "heats" "[J", Cond.fieldLink RX4 33 "CallClustersModel" "best" "[I", Cond.fieldLink RX4 57 "CallClustersModel" "most" "[J", Cond.fieldLink RX4 36 "CallClustersModel" "of" "[I", Cond.fieldLink RX4 16 "CallClustersModel" "bytes" "[I", Cond.fieldLink RX4 39 "CallClustersModel" "behind" "[I", Cond.fieldLink RX4 42 "CallClustersModel" "last" "[I", Cond.fieldLink RX4 48 "CallClustersModel" "great" "[J", Cond.fieldLink RX4 64 "CallClustersModel" "pairs" "I", Cond.fieldLink RX4 20 "CallClustersModel" "callers" "[I", Cond.fieldLink RX4 23 "CallClustersModel" "called" "[I", Cond.fieldLink RX4 26 "CallClustersModel" "counts" "[J", Cond.fieldLink RX4 45 "CallClustersModel" "warm" "[J", Cond.fieldLink RX4 60 "CallClustersModel" "isDone" "[Z", Cond.methodLink RX4 92 yX4_join, Cond.instanceMethod yX4_join]
def wsX4_length_r2 : List Cond := [Cond.selects RX4 yX4_join yX4_join, Cond.code yX4_join cX4_join 6 none, Cond.fieldLink RX4 13 "CallClustersModel" "limit" "I", Cond.methodLink RX4 96 yX4_inOrder, Cond.instanceMethod yX4_inOrder, Cond.selects RX4 yX4_inOrder yX4_inOrder, Cond.code yX4_inOrder cX4_inOrder 5 none, Cond.fieldLink RX4 102 "CallClustersModel" "groups" "I", Cond.fieldLink RX4 51 "CallClustersModel" "order" "[I", Cond.fieldLink RX4 54 "CallClustersModel" "begins" "[J", Cond.methodLink RX4 105 yX4_isDenser, Cond.instanceMethod yX4_isDenser, Cond.selects RX4 yX4_isDenser yX4_isDenser, Cond.code yX4_isDenser cX4_isDenser 7 (some .boolean)]
def wsX4_length : List Cond := .code yX4_length cX4_length 1 (some .int) :: ((wsX4_length_r1 ++ wsX4_length_r2) ++ wsX40)
def wsX4_row_r1 : List Cond := [Cond.fieldLink RX4 99 "CallClustersModel" "inRow" "I", Cond.fieldLink RX4 51 "CallClustersModel" "order" "[I", Cond.methodLink RX4 109 yX4_know, Cond.instanceMethod yX4_know, Cond.selects RX4 yX4_know yX4_know, Cond.initialized RX4, Cond.code yX4_know cX4_know 4 none, Cond.fieldLink RX4 67 "CallClustersModel" "isKnown" "Z", Cond.fieldLink RX4 7 "CallClustersModel" "many" "I", Cond.fieldLink RX4 30 "CallClustersModel" "heats" "[J", Cond.fieldLink RX4 33 "CallClustersModel" "best" "[I", Cond.fieldLink RX4 57 "CallClustersModel" "most" "[J", Cond.fieldLink RX4 36 "CallClustersModel" "of" "[I", Cond.fieldLink RX4 16 "CallClustersModel" "bytes" "[I", Cond.fieldLink RX4 39 "CallClustersModel" "behind" "[I", Cond.fieldLink RX4 42 "CallClustersModel" "last" "[I", Cond.fieldLink RX4 48 "CallClustersModel" "great" "[J", Cond.fieldLink RX4 64 "CallClustersModel" "pairs" "I", Cond.fieldLink RX4 20 "CallClustersModel" "callers" "[I", Cond.fieldLink RX4 23 "CallClustersModel" "called" "[I", Cond.fieldLink RX4 26 "CallClustersModel" "counts" "[J", Cond.fieldLink RX4 45 "CallClustersModel" "warm" "[J", Cond.fieldLink RX4 60 "CallClustersModel" "isDone" "[Z", Cond.methodLink RX4 92 yX4_join]
def wsX4_row_r2 : List Cond := [Cond.instanceMethod yX4_join, Cond.selects RX4 yX4_join yX4_join, Cond.code yX4_join cX4_join 6 none, Cond.fieldLink RX4 13 "CallClustersModel" "limit" "I", Cond.methodLink RX4 96 yX4_inOrder, Cond.instanceMethod yX4_inOrder, Cond.selects RX4 yX4_inOrder yX4_inOrder, Cond.code yX4_inOrder cX4_inOrder 5 none, Cond.fieldLink RX4 102 "CallClustersModel" "groups" "I", Cond.fieldLink RX4 54 "CallClustersModel" "begins" "[J", Cond.methodLink RX4 105 yX4_isDenser, Cond.instanceMethod yX4_isDenser, Cond.selects RX4 yX4_isDenser yX4_isDenser, Cond.code yX4_isDenser cX4_isDenser 7 (some .boolean)]
def wsX4_row : List Cond := .code yX4_row cX4_row 2 (some .int) :: ((wsX4_row_r1 ++ wsX4_row_r2) ++ wsX40)
def wsX4_begin_r1 : List Cond := [Cond.fieldLink RX4 16 "CallClustersModel" "bytes" "[I", Cond.fieldLink RX4 54 "CallClustersModel" "begins" "[J", Cond.constantLong RX4 76 (-1), Cond.methodLink RX4 109 yX4_know, Cond.instanceMethod yX4_know, Cond.selects RX4 yX4_know yX4_know, Cond.initialized RX4, Cond.code yX4_know cX4_know 4 none, Cond.fieldLink RX4 67 "CallClustersModel" "isKnown" "Z", Cond.fieldLink RX4 7 "CallClustersModel" "many" "I", Cond.fieldLink RX4 30 "CallClustersModel" "heats" "[J", Cond.fieldLink RX4 33 "CallClustersModel" "best" "[I", Cond.fieldLink RX4 57 "CallClustersModel" "most" "[J", Cond.fieldLink RX4 36 "CallClustersModel" "of" "[I", Cond.fieldLink RX4 39 "CallClustersModel" "behind" "[I", Cond.fieldLink RX4 42 "CallClustersModel" "last" "[I", Cond.fieldLink RX4 48 "CallClustersModel" "great" "[J", Cond.fieldLink RX4 64 "CallClustersModel" "pairs" "I", Cond.fieldLink RX4 20 "CallClustersModel" "callers" "[I", Cond.fieldLink RX4 23 "CallClustersModel" "called" "[I", Cond.fieldLink RX4 26 "CallClustersModel" "counts" "[J", Cond.fieldLink RX4 45 "CallClustersModel" "warm" "[J", Cond.fieldLink RX4 60 "CallClustersModel" "isDone" "[Z", Cond.methodLink RX4 92 yX4_join]
def wsX4_begin_r2 : List Cond := [Cond.instanceMethod yX4_join, Cond.selects RX4 yX4_join yX4_join, Cond.code yX4_join cX4_join 6 none, Cond.fieldLink RX4 13 "CallClustersModel" "limit" "I", Cond.methodLink RX4 96 yX4_inOrder, Cond.instanceMethod yX4_inOrder, Cond.selects RX4 yX4_inOrder yX4_inOrder, Cond.code yX4_inOrder cX4_inOrder 5 none, Cond.fieldLink RX4 99 "CallClustersModel" "inRow" "I", Cond.fieldLink RX4 102 "CallClustersModel" "groups" "I", Cond.fieldLink RX4 51 "CallClustersModel" "order" "[I", Cond.methodLink RX4 105 yX4_isDenser, Cond.instanceMethod yX4_isDenser, Cond.selects RX4 yX4_isDenser yX4_isDenser, Cond.code yX4_isDenser cX4_isDenser 7 (some .boolean), Cond.methodLink RX4 71 yX4_isFunction, Cond.instanceMethod yX4_isFunction, Cond.selects RX4 yX4_isFunction yX4_isFunction, Cond.code yX4_isFunction cX4_isFunction 2 (some .boolean)]
def wsX4_begin : List Cond := .code yX4_begin cX4_begin 2 (some .long) :: ((wsX4_begin_r1 ++ wsX4_begin_r2) ++ wsX40)
def wsX4_clusters_r1 : List Cond := [Cond.fieldLink RX4 102 "CallClustersModel" "groups" "I", Cond.methodLink RX4 109 yX4_know, Cond.instanceMethod yX4_know, Cond.selects RX4 yX4_know yX4_know, Cond.initialized RX4, Cond.code yX4_know cX4_know 4 none, Cond.fieldLink RX4 67 "CallClustersModel" "isKnown" "Z", Cond.fieldLink RX4 7 "CallClustersModel" "many" "I", Cond.fieldLink RX4 30 "CallClustersModel" "heats" "[J", Cond.fieldLink RX4 33 "CallClustersModel" "best" "[I", Cond.fieldLink RX4 57 "CallClustersModel" "most" "[J", Cond.fieldLink RX4 36 "CallClustersModel" "of" "[I", Cond.fieldLink RX4 16 "CallClustersModel" "bytes" "[I", Cond.fieldLink RX4 39 "CallClustersModel" "behind" "[I", Cond.fieldLink RX4 42 "CallClustersModel" "last" "[I", Cond.fieldLink RX4 48 "CallClustersModel" "great" "[J", Cond.fieldLink RX4 64 "CallClustersModel" "pairs" "I", Cond.fieldLink RX4 20 "CallClustersModel" "callers" "[I", Cond.fieldLink RX4 23 "CallClustersModel" "called" "[I", Cond.fieldLink RX4 26 "CallClustersModel" "counts" "[J", Cond.fieldLink RX4 45 "CallClustersModel" "warm" "[J", Cond.fieldLink RX4 60 "CallClustersModel" "isDone" "[Z", Cond.methodLink RX4 92 yX4_join, Cond.instanceMethod yX4_join]
def wsX4_clusters_r2 : List Cond := [Cond.selects RX4 yX4_join yX4_join, Cond.code yX4_join cX4_join 6 none, Cond.fieldLink RX4 13 "CallClustersModel" "limit" "I", Cond.methodLink RX4 96 yX4_inOrder, Cond.instanceMethod yX4_inOrder, Cond.selects RX4 yX4_inOrder yX4_inOrder, Cond.code yX4_inOrder cX4_inOrder 5 none, Cond.fieldLink RX4 99 "CallClustersModel" "inRow" "I", Cond.fieldLink RX4 51 "CallClustersModel" "order" "[I", Cond.fieldLink RX4 54 "CallClustersModel" "begins" "[J", Cond.methodLink RX4 105 yX4_isDenser, Cond.instanceMethod yX4_isDenser, Cond.selects RX4 yX4_isDenser yX4_isDenser, Cond.code yX4_isDenser cX4_isDenser 7 (some .boolean)]
def wsX4_clusters : List Cond := .code yX4_clusters cX4_clusters 1 (some .int) :: ((wsX4_clusters_r1 ++ wsX4_clusters_r2) ++ wsX40)
def wsX4_cluster_r1 : List Cond := [Cond.fieldLink RX4 36 "CallClustersModel" "of" "[I", Cond.methodLink RX4 109 yX4_know, Cond.instanceMethod yX4_know, Cond.selects RX4 yX4_know yX4_know, Cond.initialized RX4, Cond.code yX4_know cX4_know 4 none, Cond.fieldLink RX4 67 "CallClustersModel" "isKnown" "Z", Cond.fieldLink RX4 7 "CallClustersModel" "many" "I", Cond.fieldLink RX4 30 "CallClustersModel" "heats" "[J", Cond.fieldLink RX4 33 "CallClustersModel" "best" "[I", Cond.fieldLink RX4 57 "CallClustersModel" "most" "[J", Cond.fieldLink RX4 16 "CallClustersModel" "bytes" "[I", Cond.fieldLink RX4 39 "CallClustersModel" "behind" "[I", Cond.fieldLink RX4 42 "CallClustersModel" "last" "[I", Cond.fieldLink RX4 48 "CallClustersModel" "great" "[J", Cond.fieldLink RX4 64 "CallClustersModel" "pairs" "I", Cond.fieldLink RX4 20 "CallClustersModel" "callers" "[I", Cond.fieldLink RX4 23 "CallClustersModel" "called" "[I", Cond.fieldLink RX4 26 "CallClustersModel" "counts" "[J", Cond.fieldLink RX4 45 "CallClustersModel" "warm" "[J", Cond.fieldLink RX4 60 "CallClustersModel" "isDone" "[Z", Cond.methodLink RX4 92 yX4_join, Cond.instanceMethod yX4_join, Cond.selects RX4 yX4_join yX4_join]
def wsX4_cluster_r2 : List Cond := [Cond.code yX4_join cX4_join 6 none, Cond.fieldLink RX4 13 "CallClustersModel" "limit" "I", Cond.methodLink RX4 96 yX4_inOrder, Cond.instanceMethod yX4_inOrder, Cond.selects RX4 yX4_inOrder yX4_inOrder, Cond.code yX4_inOrder cX4_inOrder 5 none, Cond.fieldLink RX4 99 "CallClustersModel" "inRow" "I", Cond.fieldLink RX4 102 "CallClustersModel" "groups" "I", Cond.fieldLink RX4 51 "CallClustersModel" "order" "[I", Cond.fieldLink RX4 54 "CallClustersModel" "begins" "[J", Cond.methodLink RX4 105 yX4_isDenser, Cond.instanceMethod yX4_isDenser, Cond.selects RX4 yX4_isDenser yX4_isDenser, Cond.code yX4_isDenser cX4_isDenser 7 (some .boolean), Cond.methodLink RX4 71 yX4_isFunction, Cond.instanceMethod yX4_isFunction, Cond.selects RX4 yX4_isFunction yX4_isFunction, Cond.code yX4_isFunction cX4_isFunction 2 (some .boolean)]
def wsX4_cluster : List Cond := .code yX4_cluster cX4_cluster 2 (some .int) :: ((wsX4_cluster_r1 ++ wsX4_cluster_r2) ++ wsX40)
def wsX4_before : List Cond := .code yX4_before cX4_before 5 (some .long) :: ([.fieldLink RX4 16 "CallClustersModel" "bytes" "[I"] ++ wsX40)
def wsX4_cost_r1 : List Cond := [Cond.constantLong RX4 76 (-1), Cond.fieldLink RX4 64 "CallClustersModel" "pairs" "I", Cond.fieldLink RX4 20 "CallClustersModel" "callers" "[I", Cond.fieldLink RX4 23 "CallClustersModel" "called" "[I", Cond.fieldLink RX4 16 "CallClustersModel" "bytes" "[I", Cond.fieldLink RX4 54 "CallClustersModel" "begins" "[J", Cond.fieldLink RX4 26 "CallClustersModel" "counts" "[J", Cond.methodLink RX4 109 yX4_know, Cond.instanceMethod yX4_know, Cond.selects RX4 yX4_know yX4_know, Cond.initialized RX4, Cond.code yX4_know cX4_know 4 none, Cond.fieldLink RX4 67 "CallClustersModel" "isKnown" "Z", Cond.fieldLink RX4 7 "CallClustersModel" "many" "I", Cond.fieldLink RX4 30 "CallClustersModel" "heats" "[J", Cond.fieldLink RX4 33 "CallClustersModel" "best" "[I", Cond.fieldLink RX4 57 "CallClustersModel" "most" "[J", Cond.fieldLink RX4 36 "CallClustersModel" "of" "[I", Cond.fieldLink RX4 39 "CallClustersModel" "behind" "[I", Cond.fieldLink RX4 42 "CallClustersModel" "last" "[I", Cond.fieldLink RX4 48 "CallClustersModel" "great" "[J", Cond.fieldLink RX4 45 "CallClustersModel" "warm" "[J", Cond.fieldLink RX4 60 "CallClustersModel" "isDone" "[Z", Cond.methodLink RX4 92 yX4_join]
def wsX4_cost_r2 : List Cond := [Cond.instanceMethod yX4_join, Cond.selects RX4 yX4_join yX4_join, Cond.code yX4_join cX4_join 6 none, Cond.fieldLink RX4 13 "CallClustersModel" "limit" "I", Cond.methodLink RX4 96 yX4_inOrder, Cond.instanceMethod yX4_inOrder, Cond.selects RX4 yX4_inOrder yX4_inOrder, Cond.code yX4_inOrder cX4_inOrder 5 none, Cond.fieldLink RX4 99 "CallClustersModel" "inRow" "I", Cond.fieldLink RX4 102 "CallClustersModel" "groups" "I", Cond.fieldLink RX4 51 "CallClustersModel" "order" "[I", Cond.methodLink RX4 105 yX4_isDenser, Cond.instanceMethod yX4_isDenser, Cond.selects RX4 yX4_isDenser yX4_isDenser, Cond.code yX4_isDenser cX4_isDenser 7 (some .boolean), Cond.methodLink RX4 112 yX4_before, Cond.instanceMethod yX4_before, Cond.selects RX4 yX4_before yX4_before, Cond.code yX4_before cX4_before 5 (some .long)]
def wsX4_cost : List Cond := .code yX4_cost cX4_cost 11 (some .long) :: ((wsX4_cost_r1 ++ wsX4_cost_r2) ++ wsX40)
def wsJ9_abs_067f4 : List Cond := .code yJ9_abs_067f4 cJ9_abs_067f4 2 (some .long) :: ([])
def wsJ9_min_7cf53 : List Cond := .code yJ9_min_7cf53 cJ9_min_7cf53 2 (some .int) :: ([])
def wsJ9_min_f86c9 : List Cond := .code yJ9_min_f86c9 cJ9_min_f86c9 4 (some .long) :: ([])
abbrev vwCl : List vw_C := [(RX0, TX0, 6), (RX1, TX1, 9), (RX2, TX2, 4), (RX3, TX3, 8), (RX4, TX4, 21)]
end
section

/-- a truth as the machine has it -/
def bI (P : Prop) [Decidable P] : Int32 := if P then 1 else 0
theorem bI_t {P : Prop} [Decidable P] (h : P) : bI P = 1 := if_pos h
theorem bI_f {P : Prop} [Decidable P] (h : ¬ P) : bI P = 0 := if_neg h
section BB
variable {p : Program} {l : Launch} {e : Env} {R : Room} {s : State} {m : MethodId} {args : Array Value} {below : List Frame} {meth : Method} {c : Code} {H : Heap} {locs : List Loc} {cells slots : Nat} {Q : State → Prop} {cc : ByteArray} {pc : Nat} {ls : Array Slot} {rest : List Value} {D : va_G} {cl : List vw_C} {ws : va_W} {tys : List (ClassId × FieldType)} {A : Nat → Prop} {H0 : Heap}
theorem tp_i {x y : Int32} (h : x = y) (k : W p l e R s m args below meth c H locs cells slots Q (F0 m pc ls (.int y :: rest))) : W p l e R s m args below meth c H locs cells slots Q (F0 m pc ls (.int x :: rest)) := h ▸ k
theorem tp_l {x y : Int64} (h : x = y) (k : W p l e R s m args below meth c H locs cells slots Q (F0 m pc ls (.long y :: rest))) : W p l e R s m args below meth c H locs cells slots Q (F0 m pc ls (.long x :: rest)) := h ▸ k
theorem pre_V {C : String} {T : u_T} {N ci b : Nat} {fs As : List Value} (hK : va_K D cl tys s) (hP : va_P D cl ws H) (hD : va_D A ws) (hc : cl[ci]? = some (C, T, N)) (he : ws[0]? = some (b, .inr (ci, fs))) : PreV s H C b (va_Pc (.ref b :: As) (fun U => U.heap.size = H.size ∧ va_P D cl ws U.heap ∧ va_K D cl tys U ∧ va_D (fun _ => True) ws)) As :=
  ⟨fun a U g mk q => by obtain ⟨q0, q1, qP, qK, qD⟩ := q; exact ⟨q0, q1, qP, va_K.moved (u := U) (U := U.calling g mk a) (Vm.Alike.refl U.vm) qK, qD⟩, va_recv hK hP hc he, fun U hU hW => ⟨rfl, by rw [hU], by rw [hU]; exact hP, va_K.moved hW.alike hK, hD.weaken (fun _ _ _ _ => trivial)⟩⟩
theorem pre_S {As : List Value} (hK : va_K D cl tys s) (hP : va_P D cl ws H) (hD : va_D A ws) : PreS s H (va_Pc As (fun U => U.heap.size = H.size ∧ va_P D cl ws U.heap ∧ va_K D cl tys U ∧ va_D (fun _ => True) ws)) As :=
  ⟨fun a U g mk q => by obtain ⟨q0, q1, qP, qK, qD⟩ := q; exact ⟨q0, q1, qP, va_K.moved (u := U) (U := U.calling g mk a) (Vm.Alike.refl U.vm) qK, qD⟩, fun U hU hW => ⟨rfl, by rw [hU], by rw [hU]; exact hP, va_K.moved hW.alike hK, hD.weaken (fun _ _ _ _ => trivial)⟩⟩
theorem vp_zero_i (n : Nat) (cA : ClassId) : vp_cell cA (n, .inl (fun _ => 0)) = arrV cA n (fun _ => defaultValue .int) := rfl
theorem vp_zero_l (n : Nat) (cA : ClassId) : vp_cell cA (n, .inr (.inl (fun _ => 0))) = arrV cA n (fun _ => defaultValue .long) := rfl
theorem vp_zero_z (n : Nat) (cA : ClassId) : vp_cell cA (n, .inl (fun _ => 0)) = arrV cA n (fun _ => defaultValue .boolean) := rfl
theorem new_a (hexec : p.tables.exec = Jvm.exec) (hb : c.code = cc) {atype : ArrayType} {ty : FieldType} (harr : (Cond.arrayClass ty).before args s = true) (hty : newarray.typeOf atype = ty) (hK : va_K D cl tys s) (t0 : Nat) {cA : ClassId} (ht : tys[t0]? = some (cA, ty)) (hra : ∀ (U : State) (c : ClassId), va_RA U c ty → U.vm.findClass ("[" ++ ty.toString) = some c) (hP : va_P D cl ws H) (hD : va_D A ws) (hS : va_S A H0 H locs) (hA : ∀ q, H0.size ≤ q → A q)
    {n : Int32} {N' : Nat} {a0 : vp_A} (ha : ∀ cA : ClassId, vp_cell cA a0 = arrV cA N' (fun _ => defaultValue ty)) (hn : ¬ n < 0) (hN : n.toNatClampNeg = N') (hbytes : N' * componentBytes ty ≤ 536870912) (hcells : cells + 1 ≤ R.cells) (hslots : slots + N' ≤ R.slots) (hdg : decode cc pc = .ok (.newarray atype, 2))
    (kk : ∀ (q : Nat) (H1 : Heap), va_P D cl (ws ++ [(q, .inl (cA, a0))]) H1 → va_D A (ws ++ [(q, .inl (cA, a0))]) → va_S A H0 H1 locs →
      W p l e R s m args below meth c H1 locs (cells + 1) (slots + N') Q (F0 m (pc + 2) ls (.ref q :: rest))) : W p l e R s m args below meth c H locs cells slots Q (F0 m pc ls (.int n :: rest)) := by
  subst hty
  refine va_newa hexec hb harr rfl hK hP hD hS hA ha hn hN hbytes hcells hslots hdg (fun q cB H1 hK2 hP2 hD2 hS2 => ?_)
  have h1 := hra s cB (hK2.2 tys.length (cB, newarray.typeOf atype) (by rw [List.getElem?_append_right (Nat.le_refl _), Nat.sub_self]; rfl)).2
  have h2 := hra s cA (hK.2 t0 _ ht).2
  have h3 : cB = cA := Option.some.inj (h1.symm.trans h2)
  subst h3
  exact kk q H1 hP2 hD2 hS2
end BB
/-- the same cell, by what its places hold -/
theorem cell_ei {cA : ClassId} {n : Nat} {f g : Nat → Int32} (h : ∀ j, j < n → f j = g j) : vp_cell cA (n, .inl f) = vp_cell cA (n, .inl g) := by
  rw [vp_cell_i, vp_cell_i]
  unfold arrV
  congr 1
  apply Array.ext
  · simp
  · intro j h1 h2
    have h3 : j < n := by simpa using h1
    simp [h j h3]
theorem cell_el {cA : ClassId} {n : Nat} {f g : Nat → Int64} (h : ∀ j, j < n → f j = g j) : vp_cell cA (n, .inr (.inl f)) = vp_cell cA (n, .inr (.inl g)) := by
  rw [vp_cell_l, vp_cell_l]
  unfold arrV
  congr 1
  apply Array.ext
  · simp
  · intro j h1 h2
    have h3 : j < n := by simpa using h1
    simp [h j h3]
/-- what an array's places hold may be written otherwise -/
theorem va_P.ei {D : va_G} {cl : List vw_C} {ws : va_W} {H : Heap} (hP : va_P D cl ws H) (k : Nat) {a : Nat} {cA : ClassId} {n : Nat} {f : Nat → Int32} (g : Nat → Int32) (he : ws[k]? = some (a, .inl (cA, n, .inl f))) (h : ∀ j, j < n → f j = g j) : va_P D cl (ws.set k (a, .inl (cA, n, .inl g))) H := by
  intro i q hq
  rw [List.getElem?_set] at hq
  split at hq
  · rename_i hik
    subst hik
    split at hq
    · cases hq
      show H[a]? = some (vp_cell cA (n, .inl g))
      rw [← cell_ei h]
      exact hP k _ he
    · cases hq
  · exact hP i q hq
theorem va_P.el {D : va_G} {cl : List vw_C} {ws : va_W} {H : Heap} (hP : va_P D cl ws H) (k : Nat) {a : Nat} {cA : ClassId} {n : Nat} {f : Nat → Int64} (g : Nat → Int64) (he : ws[k]? = some (a, .inl (cA, n, .inr (.inl f)))) (h : ∀ j, j < n → f j = g j) : va_P D cl (ws.set k (a, .inl (cA, n, .inr (.inl g)))) H := by
  intro i q hq
  rw [List.getElem?_set] at hq
  split at hq
  · rename_i hik
    subst hik
    split at hq
    · cases hq
      show H[a]? = some (vp_cell cA (n, .inr (.inl g)))
      rw [← cell_el h]
      exact hP k _ he
    · cases hq
  · exact hP i q hq
/-- 'fill' and loops that write a row from the left: X up to k, then what was -/
def mix {α : Type} (k : Nat) (X f : Nat → α) : Nat → α := fun j => if j < k then X j else f j
theorem mix_0 {α : Type} (X f : Nat → α) : mix 0 X f = f := by funext j; simp [mix]
theorem mix_lt {α : Type} {k j : Nat} (X f : Nat → α) (h : j < k) : mix k X f j = X j := if_pos h
theorem mix_ge {α : Type} {k j : Nat} (X f : Nat → α) (h : k ≤ j) : mix k X f j = f j := if_neg (Nat.not_lt.mpr h)
theorem mix_i (k : Nat) (X f : Nat → Int32) {x : Int32} (h : x = X k) : upd (mix k X f) k x = mix (k + 1) X f := by
  funext j
  unfold upd mix
  by_cases h1 : j = k
  · subst h1; simp [h]
  · by_cases h2 : j < k
    · simp [h1, h2, Nat.lt_succ_of_lt h2]
    · have h3 : ¬ j < k + 1 := by omega
      simp [h1, h2, h3]
theorem mix_l (k : Nat) (X f : Nat → Int64) {x : Int64} (h : x = X k) : vp_updL (mix k X f) k x = mix (k + 1) X f := by
  funext j
  unfold vp_updL mix
  by_cases h1 : j = k
  · subst h1; simp [h]
  · by_cases h2 : j < k
    · simp [h1, h2, Nat.lt_succ_of_lt h2]
    · have h3 : ¬ j < k + 1 := by omega
      simp [h1, h2, h3]
theorem ix_n {k : Nat} (h : k < 2000000) : (nI k).toNatClampNeg = k := nI_clamp (by omega)
theorem inn {k n : Nat} (h : k < n) (hn : n < 2000000) : vp_in (nI k) n := vp_in_nI h (by omega)
theorem in_300 {k u : Int32} {n : Nat} (h0 : 0 ≤ k) (h1 : k < u) (hu : u.toInt ≤ n) : vp_in k n := by
  rw [vp_in_iff]
  rw [Int32.le_iff_toInt_le] at h0
  rw [Int32.lt_iff_toInt_lt] at h1
  exact ⟨h0, by omega⟩
end
section
theorem dJ9_abs_067f4_0 : decode cJ9_abs_067f4 0 = .ok (.lload_n 0, 1) := by decide +kernel
theorem dJ9_abs_067f4_1 : decode cJ9_abs_067f4 1 = .ok (.lconst 0, 1) := by decide +kernel
theorem dJ9_abs_067f4_2 : decode cJ9_abs_067f4 2 = .ok (.lcmp, 1) := by decide +kernel
theorem dJ9_abs_067f4_3 : decode cJ9_abs_067f4 3 = .ok (.ifCond .ge 8, 3) := by decide +kernel
theorem dJ9_abs_067f4_6 : decode cJ9_abs_067f4 6 = .ok (.lload_n 0, 1) := by decide +kernel
theorem dJ9_abs_067f4_7 : decode cJ9_abs_067f4 7 = .ok (.lneg, 1) := by decide +kernel
theorem dJ9_abs_067f4_8 : decode cJ9_abs_067f4 8 = .ok (.goto 4, 3) := by decide +kernel
theorem dJ9_abs_067f4_11 : decode cJ9_abs_067f4 11 = .ok (.lload_n 0, 1) := by decide +kernel
theorem dJ9_abs_067f4_12 : decode cJ9_abs_067f4 12 = .ok (.lreturn, 1) := by decide +kernel
theorem dJ9_min_7cf53_0 : decode cJ9_min_7cf53 0 = .ok (.iload_n 0, 1) := by decide +kernel
theorem dJ9_min_7cf53_1 : decode cJ9_min_7cf53 1 = .ok (.iload_n 1, 1) := by decide +kernel
theorem dJ9_min_7cf53_2 : decode cJ9_min_7cf53 2 = .ok (.if_icmp .gt 7, 3) := by decide +kernel
theorem dJ9_min_7cf53_5 : decode cJ9_min_7cf53 5 = .ok (.iload_n 0, 1) := by decide +kernel
theorem dJ9_min_7cf53_6 : decode cJ9_min_7cf53 6 = .ok (.goto 4, 3) := by decide +kernel
theorem dJ9_min_7cf53_9 : decode cJ9_min_7cf53 9 = .ok (.iload_n 1, 1) := by decide +kernel
theorem dJ9_min_7cf53_10 : decode cJ9_min_7cf53 10 = .ok (.ireturn, 1) := by decide +kernel
theorem dJ9_min_f86c9_0 : decode cJ9_min_f86c9 0 = .ok (.lload_n 0, 1) := by decide +kernel
theorem dJ9_min_f86c9_1 : decode cJ9_min_f86c9 1 = .ok (.lload_n 2, 1) := by decide +kernel
theorem dJ9_min_f86c9_2 : decode cJ9_min_f86c9 2 = .ok (.lcmp, 1) := by decide +kernel
theorem dJ9_min_f86c9_3 : decode cJ9_min_f86c9 3 = .ok (.ifCond .gt 7, 3) := by decide +kernel
theorem dJ9_min_f86c9_6 : decode cJ9_min_f86c9 6 = .ok (.lload_n 0, 1) := by decide +kernel
theorem dJ9_min_f86c9_7 : decode cJ9_min_f86c9 7 = .ok (.goto 4, 3) := by decide +kernel
theorem dJ9_min_f86c9_10 : decode cJ9_min_f86c9 10 = .ok (.lload_n 2, 1) := by decide +kernel
theorem dJ9_min_f86c9_11 : decode cJ9_min_f86c9 11 = .ok (.lreturn, 1) := by decide +kernel
theorem dJ7_fill_d0a16_0 : decode cJ7_fill_d0a16 0 = .ok (.iconst 0, 1) := by decide +kernel
theorem dJ7_fill_d0a16_1 : decode cJ7_fill_d0a16 1 = .ok (.istore_n 3, 1) := by decide +kernel
theorem dJ7_fill_d0a16_2 : decode cJ7_fill_d0a16 2 = .ok (.aload_n 0, 1) := by decide +kernel
theorem dJ7_fill_d0a16_3 : decode cJ7_fill_d0a16 3 = .ok (.arraylength, 1) := by decide +kernel
theorem dJ7_fill_d0a16_4 : decode cJ7_fill_d0a16 4 = .ok (.istore 4, 2) := by decide +kernel
theorem dJ7_fill_d0a16_6 : decode cJ7_fill_d0a16 6 = .ok (.iload_n 3, 1) := by decide +kernel
theorem dJ7_fill_d0a16_7 : decode cJ7_fill_d0a16 7 = .ok (.iload 4, 2) := by decide +kernel
theorem dJ7_fill_d0a16_9 : decode cJ7_fill_d0a16 9 = .ok (.if_icmp .ge 13, 3) := by decide +kernel
theorem dJ7_fill_d0a16_12 : decode cJ7_fill_d0a16 12 = .ok (.aload_n 0, 1) := by decide +kernel
theorem dJ7_fill_d0a16_13 : decode cJ7_fill_d0a16 13 = .ok (.iload_n 3, 1) := by decide +kernel
theorem dJ7_fill_d0a16_14 : decode cJ7_fill_d0a16 14 = .ok (.lload_n 1, 1) := by decide +kernel
theorem dJ7_fill_d0a16_15 : decode cJ7_fill_d0a16 15 = .ok (.lastore, 1) := by decide +kernel
theorem dJ7_fill_d0a16_16 : decode cJ7_fill_d0a16 16 = .ok (.iinc 3 1, 3) := by decide +kernel
theorem dJ7_fill_d0a16_19 : decode cJ7_fill_d0a16 19 = .ok (.goto (-13), 3) := by decide +kernel
theorem dJ7_fill_d0a16_22 : decode cJ7_fill_d0a16 22 = .ok (.return_, 1) := by decide +kernel
theorem dJ7_fill_53178_0 : decode cJ7_fill_53178 0 = .ok (.iconst 0, 1) := by decide +kernel
theorem dJ7_fill_53178_1 : decode cJ7_fill_53178 1 = .ok (.istore_n 2, 1) := by decide +kernel
theorem dJ7_fill_53178_2 : decode cJ7_fill_53178 2 = .ok (.aload_n 0, 1) := by decide +kernel
theorem dJ7_fill_53178_3 : decode cJ7_fill_53178 3 = .ok (.arraylength, 1) := by decide +kernel
theorem dJ7_fill_53178_4 : decode cJ7_fill_53178 4 = .ok (.istore_n 3, 1) := by decide +kernel
theorem dJ7_fill_53178_5 : decode cJ7_fill_53178 5 = .ok (.iload_n 2, 1) := by decide +kernel
theorem dJ7_fill_53178_6 : decode cJ7_fill_53178 6 = .ok (.iload_n 3, 1) := by decide +kernel
theorem dJ7_fill_53178_7 : decode cJ7_fill_53178 7 = .ok (.if_icmp .ge 13, 3) := by decide +kernel
theorem dJ7_fill_53178_10 : decode cJ7_fill_53178 10 = .ok (.aload_n 0, 1) := by decide +kernel
theorem dJ7_fill_53178_11 : decode cJ7_fill_53178 11 = .ok (.iload_n 2, 1) := by decide +kernel
theorem dJ7_fill_53178_12 : decode cJ7_fill_53178 12 = .ok (.iload_n 1, 1) := by decide +kernel
theorem dJ7_fill_53178_13 : decode cJ7_fill_53178 13 = .ok (.iastore, 1) := by decide +kernel
theorem dJ7_fill_53178_14 : decode cJ7_fill_53178 14 = .ok (.iinc 2 1, 3) := by decide +kernel
theorem dJ7_fill_53178_17 : decode cJ7_fill_53178 17 = .ok (.goto (-12), 3) := by decide +kernel
theorem dJ7_fill_53178_20 : decode cJ7_fill_53178 20 = .ok (.return_, 1) := by decide +kernel
end
section
set_option maxHeartbeats 4000000 in
set_option maxRecDepth 100000 in
theorem lpJ7_fill_53178 {p : Program} {l : Launch} {ev : Env} {R : Room} {s : State} {m : MethodId} {args : Array Value} {below : List Frame} {meth : Method} {c : Code} {Q : State → Prop} {A : Nat → Prop} {dC : Nat → ClassId} {dI : Nat → Nat → Nat} {cI cJ cZ : ClassId} {cells slots : Nat} (hx : p.tables.exec = Jvm.exec) (hb : c.code = cJ7_fill_53178) (hK : va_K (dC, dI) vwCl [(cI, .int), (cJ, .long), (cZ, .boolean)] s) {a0 n : Nat} {f : Nat → Int32} {v : Int32} (hn : n < 2000000) (kk : ∀ (H : Heap) (locs : List Loc) (ls : Array Slot), va_P (dC, dI) vwCl [(a0, .inl (cI, n, .inl (mix n (fun _ => v) f)))] H → va_D A [(a0, .inl (cI, n, .inl (mix n (fun _ => v) f)))] → va_S A s.heap H locs → W p l ev R s m args below meth c H locs cells slots Q (F0 m 20 ls [])) : ∀ (j k : Nat), k + j = n → ∀ (H : Heap) (locs : List Loc) (ls : Array Slot), va_P (dC, dI) vwCl [(a0, .inl (cI, n, .inl (mix k (fun _ => v) f)))] H → va_D A [(a0, .inl (cI, n, .inl (mix k (fun _ => v) f)))] → va_S A s.heap H locs → lv_has ls 4 [(0, .ref a0), (1, .int v), (2, .int (nI k)), (3, .int (nI n))] → W p l ev R s m args below meth c H locs cells slots Q (F0 m 5 ls []) := by
  intro j
  induction j with
  | zero =>
    intro k hk H locs ls hP hD hS hl
    have hk : k = n := by omega
    subst hk
    refine lv_iload_n hx hb dJ7_fill_53178_5 rfl (lv_at hl 2 rfl) ?_
    refine lv_iload_n hx hb dJ7_fill_53178_6 rfl (lv_at hl 3 rfl) ?_
    refine lv_icmp_ge (tgt := 20) hx hb dJ7_fill_53178_7 (by decide) (fun c_1 => ?_) (fun c_1 => ?_)
    · -- pc 7, side 0
      exact kk H locs ls hP hD hS
    · -- pc 7, side 1
      exact absurd (nI_le (Nat.le_refl _) (by omega)) c_1
  | succ j ih =>
    intro k hk H locs ls hP hD hS hl
    refine lv_iload_n hx hb dJ7_fill_53178_5 rfl (lv_at hl 2 rfl) ?_
    refine lv_iload_n hx hb dJ7_fill_53178_6 rfl (lv_at hl 3 rfl) ?_
    refine lv_icmp_ge (tgt := 20) hx hb dJ7_fill_53178_7 (by decide) (fun c_2 => ?_) (fun c_2 => ?_)
    · -- pc 7, side 0
      exact absurd c_2 (nI_ge (show k < n by omega) (by omega))
    · -- pc 7, side 1
      refine lv_aload_n hx hb dJ7_fill_53178_10 rfl (lv_at hl 0 rfl) ?_
      refine lv_iload_n hx hb dJ7_fill_53178_11 rfl (lv_at hl 2 rfl) ?_
      refine lv_iload_n hx hb dJ7_fill_53178_12 rfl (lv_at hl 1 rfl) ?_
      refine va_iast hx hb hK hP hD hS 0 0 rfl rfl (inn (show k < n by omega) hn) dJ7_fill_53178_13 (fun H locs hP hD hS => ?_)
      have hf13 : upd (mix k (fun _ => v) f) ((nI k).toNatClampNeg) v = mix (k + 1) (fun _ => v) f := by rw [ix_n (by omega)]; exact mix_i k _ f rfl
      have hP : va_P (dC, dI) vwCl [(a0, .inl (cI, n, .inl (upd (mix k (fun _ => v) f) ((nI k).toNatClampNeg) v)))] H := hP
      have hD : va_D A [(a0, .inl (cI, n, .inl (upd (mix k (fun _ => v) f) ((nI k).toNatClampNeg) v)))] := hD
      rw [hf13] at hP hD
      refine lv_iinc (v := nI (k + 1)) (lv' := [(2, .int (nI (k + 1))), (0, .ref a0), (1, .int v), (3, .int (nI n))]) hx hb dJ7_fill_53178_14 hl (k := 2) rfl (by exact nI_1 k) (by decide) rfl (fun ls hl => ?_)
      refine lv_goto (tgt := 5) hx hb dJ7_fill_53178_17 (by decide) ?_
      exact ih (k + 1) (by omega) H locs ls hP hD hS (lv_sub hl [1, 2, 0, 3] rfl)
set_option maxHeartbeats 4000000 in
set_option maxRecDepth 100000 in
theorem ct_J7_fill_53178 (l : Launch) (dC : Nat → ClassId) (dI : Nat → Nat → Nat) (cI cJ cZ : ClassId) (sz : Nat) (a0 : Nat) (n : Nat) (f : Nat → Int32) (v : Int32) (hn : n < 2000000) : Met l yJ7_fill_53178 wsJ7_fill_53178 ({ frames := 0, cells := 0, slots := 0, locals := 0 }) (va_Pc [.ref a0, .int v] (fun U => U.heap.size = sz ∧ va_P (dC, dI) vwCl [(a0, .inl (cI, n, .inl f))] U.heap ∧ va_K (dC, dI) vwCl [(cI, .int), (cJ, .long), (cZ, .boolean)] U ∧ va_D (fun _ => True) [(a0, .inl (cI, n, .inl f))])) (va_Qv (fun (uu : Unit) => True) (fun (uu : Unit) (t : State) => va_P (dC, dI) vwCl [(a0, .inl (cI, n, .inl (mix n (fun _ => v) f)))] t.heap ∧ va_K (dC, dI) vwCl [(cI, .int), (cJ, .long), (cZ, .boolean)] t ∧ va_D (va_A [(a0, .inl (cI, n, .inl f))] sz) [(a0, .inl (cI, n, .inl (mix n (fun _ => v) f)))]) (va_A [(a0, .inl (cI, n, .inl f))] sz)) 0 0 (va_A [(a0, .inl (cI, n, .inl f))] sz) := by
  refine Met.ofW (cc := cJ7_fill_53178) (maxL := 4) (ret := none) (by decide) rfl ?_
  intro p ev s m args below meth c s₁ Bd hml hv
  obtain ⟨rfl, hsz, hP, hK, hD0⟩ := hv
  have hx := Bd.exec
  have hb := Bd.bytes
  have hr := Bd.returns
  have hts := atoms_spec (ws := wsJ7_fill_53178) Bd.pre
  have hown : s.vm.findClass RJ7 = some m.cls := findClass_of_methodNamed Bd.named
  have hlocks := Bd.notSynchronized
  subst hsz
  have hD := hD0.self (sz := s.heap.size)
  generalize hAe : va_A [(a0, .inl (cI, n, .inl f))] s.heap.size = A at hD ⊢
  have hA : ∀ q : Nat, s.heap.size ≤ q → A q := fun q h => by rw [← hAe]; exact Or.inr h
  have hS : va_S A s.heap s.heap [] := va_S.rf
  have hl := lv_entry ([.ref a0, .int v]) (n := 4) (Nat.le_of_ble_eq_true rfl)
  rw [lg_entry_eq]
  generalize (lg_sl ([.ref a0, .int v]) ++ List.replicate (4 - (lg_sl ([.ref a0, .int v])).length) Slot.unset).toArray = ls at hl ⊢
  have hl : lv_has ls 4 [(0, .ref a0), (1, .int v)] := hl
  generalize hHe : s.heap = H at hP ⊢
  have hS : va_S A s.heap H [] := hHe ▸ hS
  refine lv_iconst (v := 0) hx hb dJ7_fill_53178_0 (by decide) ?_
  refine lv_istore_n (lv' := [(2, .int 0), (0, .ref a0), (1, .int v)]) hx hb dJ7_fill_53178_1 rfl hl (by decide) rfl (fun ls hl => ?_)
  refine lv_aload_n hx hb dJ7_fill_53178_2 rfl (lv_at hl 1 rfl) ?_
  refine va_alen hx hb hK hP 0 0 rfl rfl (v := nI n) rfl dJ7_fill_53178_3 ?_
  refine lv_istore_n (lv' := [(3, .int (nI n)), (2, .int 0), (0, .ref a0), (1, .int v)]) hx hb dJ7_fill_53178_4 rfl hl (by decide) rfl (fun ls hl => ?_)
  refine lpJ7_fill_53178 (a0 := a0) (n := n) (f := f) (v := v) hx hb hK hn (fun H locs ls hP hD hS => ?_) n 0 (by omega) H _ ls (by rw [mix_0]; exact hP) (by rw [mix_0]; exact hD) hS (lv_sub hl [2, 3, 1, 0] rfl)
  have hP9 : va_P (dC, dI) vwCl [(a0, .inl (cI, n, .inl (mix n (fun _ => v) f)))] H := hP
  have hD9 : va_D A [(a0, .inl (cI, n, .inl (mix n (fun _ => v) f)))] := hD
  exact W.vret hx hb hr (fun t ht hW => ⟨⟨(), rfl, trivial, by rw [ht]; exact hP9, va_K.moved hW.alike hK, hD9⟩, hS.F ht⟩) hS.2.2 dJ7_fill_53178_20
set_option maxHeartbeats 4000000 in
set_option maxRecDepth 100000 in
theorem lpJ7_fill_d0a16 {p : Program} {l : Launch} {ev : Env} {R : Room} {s : State} {m : MethodId} {args : Array Value} {below : List Frame} {meth : Method} {c : Code} {Q : State → Prop} {A : Nat → Prop} {dC : Nat → ClassId} {dI : Nat → Nat → Nat} {cI cJ cZ : ClassId} {cells slots : Nat} (hx : p.tables.exec = Jvm.exec) (hb : c.code = cJ7_fill_d0a16) (hK : va_K (dC, dI) vwCl [(cI, .int), (cJ, .long), (cZ, .boolean)] s) {a0 n : Nat} {f : Nat → Int64} {v : Int64} (hn : n < 2000000) (kk : ∀ (H : Heap) (locs : List Loc) (ls : Array Slot), va_P (dC, dI) vwCl [(a0, .inl (cJ, n, .inr (.inl (mix n (fun _ => v) f))))] H → va_D A [(a0, .inl (cJ, n, .inr (.inl (mix n (fun _ => v) f))))] → va_S A s.heap H locs → W p l ev R s m args below meth c H locs cells slots Q (F0 m 22 ls [])) : ∀ (j k : Nat), k + j = n → ∀ (H : Heap) (locs : List Loc) (ls : Array Slot), va_P (dC, dI) vwCl [(a0, .inl (cJ, n, .inr (.inl (mix k (fun _ => v) f))))] H → va_D A [(a0, .inl (cJ, n, .inr (.inl (mix k (fun _ => v) f))))] → va_S A s.heap H locs → lv_has ls 5 [(0, .ref a0), (1, .long v), (3, .int (nI k)), (4, .int (nI n))] → W p l ev R s m args below meth c H locs cells slots Q (F0 m 6 ls []) := by
  intro j
  induction j with
  | zero =>
    intro k hk H locs ls hP hD hS hl
    have hk : k = n := by omega
    subst hk
    refine lv_iload_n hx hb dJ7_fill_d0a16_6 rfl (lv_at hl 2 rfl) ?_
    refine lv_iload hx hb dJ7_fill_d0a16_7 (lv_at hl 3 rfl) ?_
    refine lv_icmp_ge (tgt := 22) hx hb dJ7_fill_d0a16_9 (by decide) (fun c_1 => ?_) (fun c_1 => ?_)
    · -- pc 9, side 0
      exact kk H locs ls hP hD hS
    · -- pc 9, side 1
      exact absurd (nI_le (Nat.le_refl _) (by omega)) c_1
  | succ j ih =>
    intro k hk H locs ls hP hD hS hl
    refine lv_iload_n hx hb dJ7_fill_d0a16_6 rfl (lv_at hl 2 rfl) ?_
    refine lv_iload hx hb dJ7_fill_d0a16_7 (lv_at hl 3 rfl) ?_
    refine lv_icmp_ge (tgt := 22) hx hb dJ7_fill_d0a16_9 (by decide) (fun c_2 => ?_) (fun c_2 => ?_)
    · -- pc 9, side 0
      exact absurd c_2 (nI_ge (show k < n by omega) (by omega))
    · -- pc 9, side 1
      refine lv_aload_n hx hb dJ7_fill_d0a16_12 rfl (lv_at hl 0 rfl) ?_
      refine lv_iload_n hx hb dJ7_fill_d0a16_13 rfl (lv_at hl 2 rfl) ?_
      refine lv_lload_n hx hb dJ7_fill_d0a16_14 rfl (lv_at hl 1 rfl) ?_
      refine va_last hx hb hK hP hD hS 0 1 rfl rfl (inn (show k < n by omega) hn) dJ7_fill_d0a16_15 (fun H locs hP hD hS => ?_)
      have hf15 : vp_updL (mix k (fun _ => v) f) ((nI k).toNatClampNeg) v = mix (k + 1) (fun _ => v) f := by rw [ix_n (by omega)]; exact mix_l k _ f rfl
      have hP : va_P (dC, dI) vwCl [(a0, .inl (cJ, n, .inr (.inl (vp_updL (mix k (fun _ => v) f) ((nI k).toNatClampNeg) v))))] H := hP
      have hD : va_D A [(a0, .inl (cJ, n, .inr (.inl (vp_updL (mix k (fun _ => v) f) ((nI k).toNatClampNeg) v))))] := hD
      rw [hf15] at hP hD
      refine lv_iinc (v := nI (k + 1)) (lv' := [(3, .int (nI (k + 1))), (0, .ref a0), (1, .long v), (4, .int (nI n))]) hx hb dJ7_fill_d0a16_16 hl (k := 2) rfl (by exact nI_1 k) (by decide) rfl (fun ls hl => ?_)
      refine lv_goto (tgt := 6) hx hb dJ7_fill_d0a16_19 (by decide) ?_
      exact ih (k + 1) (by omega) H locs ls hP hD hS (lv_sub hl [1, 2, 0, 3] rfl)
set_option maxHeartbeats 4000000 in
set_option maxRecDepth 100000 in
theorem ct_J7_fill_d0a16 (l : Launch) (dC : Nat → ClassId) (dI : Nat → Nat → Nat) (cI cJ cZ : ClassId) (sz : Nat) (a0 : Nat) (n : Nat) (f : Nat → Int64) (v : Int64) (hn : n < 2000000) : Met l yJ7_fill_d0a16 wsJ7_fill_d0a16 ({ frames := 0, cells := 0, slots := 0, locals := 0 }) (va_Pc [.ref a0, .long v] (fun U => U.heap.size = sz ∧ va_P (dC, dI) vwCl [(a0, .inl (cJ, n, .inr (.inl f)))] U.heap ∧ va_K (dC, dI) vwCl [(cI, .int), (cJ, .long), (cZ, .boolean)] U ∧ va_D (fun _ => True) [(a0, .inl (cJ, n, .inr (.inl f)))])) (va_Qv (fun (uu : Unit) => True) (fun (uu : Unit) (t : State) => va_P (dC, dI) vwCl [(a0, .inl (cJ, n, .inr (.inl (mix n (fun _ => v) f))))] t.heap ∧ va_K (dC, dI) vwCl [(cI, .int), (cJ, .long), (cZ, .boolean)] t ∧ va_D (va_A [(a0, .inl (cJ, n, .inr (.inl f)))] sz) [(a0, .inl (cJ, n, .inr (.inl (mix n (fun _ => v) f))))]) (va_A [(a0, .inl (cJ, n, .inr (.inl f)))] sz)) 0 0 (va_A [(a0, .inl (cJ, n, .inr (.inl f)))] sz) := by
  refine Met.ofW (cc := cJ7_fill_d0a16) (maxL := 5) (ret := none) (by decide) rfl ?_
  intro p ev s m args below meth c s₁ Bd hml hv
  obtain ⟨rfl, hsz, hP, hK, hD0⟩ := hv
  have hx := Bd.exec
  have hb := Bd.bytes
  have hr := Bd.returns
  have hts := atoms_spec (ws := wsJ7_fill_d0a16) Bd.pre
  have hown : s.vm.findClass RJ7 = some m.cls := findClass_of_methodNamed Bd.named
  have hlocks := Bd.notSynchronized
  subst hsz
  have hD := hD0.self (sz := s.heap.size)
  generalize hAe : va_A [(a0, .inl (cJ, n, .inr (.inl f)))] s.heap.size = A at hD ⊢
  have hA : ∀ q : Nat, s.heap.size ≤ q → A q := fun q h => by rw [← hAe]; exact Or.inr h
  have hS : va_S A s.heap s.heap [] := va_S.rf
  have hl := lv_entry ([.ref a0, .long v]) (n := 5) (Nat.le_of_ble_eq_true rfl)
  rw [lg_entry_eq]
  generalize (lg_sl ([.ref a0, .long v]) ++ List.replicate (5 - (lg_sl ([.ref a0, .long v])).length) Slot.unset).toArray = ls at hl ⊢
  have hl : lv_has ls 5 [(0, .ref a0), (1, .long v)] := hl
  generalize hHe : s.heap = H at hP ⊢
  have hS : va_S A s.heap H [] := hHe ▸ hS
  refine lv_iconst (v := 0) hx hb dJ7_fill_d0a16_0 (by decide) ?_
  refine lv_istore_n (lv' := [(3, .int 0), (0, .ref a0), (1, .long v)]) hx hb dJ7_fill_d0a16_1 rfl hl (by decide) rfl (fun ls hl => ?_)
  refine lv_aload_n hx hb dJ7_fill_d0a16_2 rfl (lv_at hl 1 rfl) ?_
  refine va_alen hx hb hK hP 0 1 rfl rfl (v := nI n) rfl dJ7_fill_d0a16_3 ?_
  refine lv_istore (lv' := [(4, .int (nI n)), (3, .int 0), (0, .ref a0), (1, .long v)]) hx hb dJ7_fill_d0a16_4 hl (by decide) rfl (fun ls hl => ?_)
  refine lpJ7_fill_d0a16 (a0 := a0) (n := n) (f := f) (v := v) hx hb hK hn (fun H locs ls hP hD hS => ?_) n 0 (by omega) H _ ls (by rw [mix_0]; exact hP) (by rw [mix_0]; exact hD) hS (lv_sub hl [2, 3, 1, 0] rfl)
  have hP9 : va_P (dC, dI) vwCl [(a0, .inl (cJ, n, .inr (.inl (mix n (fun _ => v) f))))] H := hP
  have hD9 : va_D A [(a0, .inl (cJ, n, .inr (.inl (mix n (fun _ => v) f))))] := hD
  exact W.vret hx hb hr (fun t ht hW => ⟨⟨(), rfl, trivial, by rw [ht]; exact hP9, va_K.moved hW.alike hK, hD9⟩, hS.F ht⟩) hS.2.2 dJ7_fill_d0a16_22
end
section
theorem dX2_init_0 : decode cX2_init 0 = .ok (.aload_n 0, 1) := by decide +kernel
theorem dX2_init_1 : decode cX2_init 1 = .ok (.invokespecial 3, 3) := by decide +kernel
theorem dX2_init_4 : decode cX2_init 4 = .ok (.aload_n 0, 1) := by decide +kernel
theorem dX2_init_5 : decode cX2_init 5 = .ok (.sipush 300, 3) := by decide +kernel
theorem dX2_init_8 : decode cX2_init 8 = .ok (.newarray .int, 2) := by decide +kernel
theorem dX2_init_10 : decode cX2_init 10 = .ok (.putfield 9, 3) := by decide +kernel
theorem dX2_init_13 : decode cX2_init 13 = .ok (.aload_n 0, 1) := by decide +kernel
theorem dX2_init_14 : decode cX2_init 14 = .ok (.sipush 300, 3) := by decide +kernel
theorem dX2_init_17 : decode cX2_init 17 = .ok (.newarray .long, 2) := by decide +kernel
theorem dX2_init_19 : decode cX2_init 19 = .ok (.putfield 15, 3) := by decide +kernel
theorem dX2_init_22 : decode cX2_init 22 = .ok (.return_, 1) := by decide +kernel
set_option maxRecDepth 20000 in
theorem ggX2_empty_J7_fill_d0a16 : GoodIn wsX2_empty wsJ7_fill_d0a16 := goodIn_r _ [8] (by decide +kernel) (by decide +kernel)
set_option maxRecDepth 20000 in
theorem gX2_empty_J7_fill_d0a16 : GoodIn wsX2_empty (va_wsS RX2 29 yJ7_fill_d0a16 wsJ7_fill_d0a16) := goodIn_app (goodIn_of _ (by decide +kernel)) ggX2_empty_J7_fill_d0a16
theorem dX2_empty_0 : decode cX2_empty 0 = .ok (.aload_n 0, 1) := by decide +kernel
theorem dX2_empty_1 : decode cX2_empty 1 = .ok (.iconst 0, 1) := by decide +kernel
theorem dX2_empty_2 : decode cX2_empty 2 = .ok (.putfield 19, 3) := by decide +kernel
theorem dX2_empty_5 : decode cX2_empty 5 = .ok (.aload_n 0, 1) := by decide +kernel
theorem dX2_empty_6 : decode cX2_empty 6 = .ok (.lconst 0, 1) := by decide +kernel
theorem dX2_empty_7 : decode cX2_empty 7 = .ok (.putfield 23, 3) := by decide +kernel
theorem dX2_empty_10 : decode cX2_empty 10 = .ok (.aload_n 0, 1) := by decide +kernel
theorem dX2_empty_11 : decode cX2_empty 11 = .ok (.getfield 15, 3) := by decide +kernel
theorem dX2_empty_14 : decode cX2_empty 14 = .ok (.ldc2_w 27, 3) := by decide +kernel
theorem dX2_empty_17 : decode cX2_empty 17 = .ok (.invokestatic 29, 3) := by decide +kernel
theorem dX2_empty_20 : decode cX2_empty 20 = .ok (.return_, 1) := by decide +kernel
theorem dX2_append_0 : decode cX2_append 0 = .ok (.aload_n 0, 1) := by decide +kernel
theorem dX2_append_1 : decode cX2_append 1 = .ok (.getfield 19, 3) := by decide +kernel
theorem dX2_append_4 : decode cX2_append 4 = .ok (.sipush 300, 3) := by decide +kernel
theorem dX2_append_7 : decode cX2_append 7 = .ok (.if_icmp .lt 4, 3) := by decide +kernel
theorem dX2_append_10 : decode cX2_append 10 = .ok (.return_, 1) := by decide +kernel
theorem dX2_append_11 : decode cX2_append 11 = .ok (.aload_n 0, 1) := by decide +kernel
theorem dX2_append_12 : decode cX2_append 12 = .ok (.getfield 9, 3) := by decide +kernel
theorem dX2_append_15 : decode cX2_append 15 = .ok (.aload_n 0, 1) := by decide +kernel
theorem dX2_append_16 : decode cX2_append 16 = .ok (.getfield 19, 3) := by decide +kernel
theorem dX2_append_19 : decode cX2_append 19 = .ok (.iload_n 1, 1) := by decide +kernel
theorem dX2_append_20 : decode cX2_append 20 = .ok (.iastore, 1) := by decide +kernel
theorem dX2_append_21 : decode cX2_append 21 = .ok (.aload_n 0, 1) := by decide +kernel
theorem dX2_append_22 : decode cX2_append 22 = .ok (.dup, 1) := by decide +kernel
theorem dX2_append_23 : decode cX2_append 23 = .ok (.getfield 19, 3) := by decide +kernel
theorem dX2_append_26 : decode cX2_append 26 = .ok (.iconst 1, 1) := by decide +kernel
theorem dX2_append_27 : decode cX2_append 27 = .ok (.iadd, 1) := by decide +kernel
theorem dX2_append_28 : decode cX2_append 28 = .ok (.putfield 19, 3) := by decide +kernel
theorem dX2_append_31 : decode cX2_append 31 = .ok (.aload_n 0, 1) := by decide +kernel
theorem dX2_append_32 : decode cX2_append 32 = .ok (.getfield 15, 3) := by decide +kernel
theorem dX2_append_35 : decode cX2_append 35 = .ok (.iload_n 1, 1) := by decide +kernel
theorem dX2_append_36 : decode cX2_append 36 = .ok (.aload_n 0, 1) := by decide +kernel
theorem dX2_append_37 : decode cX2_append 37 = .ok (.getfield 23, 3) := by decide +kernel
theorem dX2_append_40 : decode cX2_append 40 = .ok (.lastore, 1) := by decide +kernel
theorem dX2_append_41 : decode cX2_append 41 = .ok (.aload_n 0, 1) := by decide +kernel
theorem dX2_append_42 : decode cX2_append 42 = .ok (.dup, 1) := by decide +kernel
theorem dX2_append_43 : decode cX2_append 43 = .ok (.getfield 23, 3) := by decide +kernel
theorem dX2_append_46 : decode cX2_append 46 = .ok (.iload_n 2, 1) := by decide +kernel
theorem dX2_append_47 : decode cX2_append 47 = .ok (.i2l, 1) := by decide +kernel
theorem dX2_append_48 : decode cX2_append 48 = .ok (.ladd, 1) := by decide +kernel
theorem dX2_append_49 : decode cX2_append 49 = .ok (.putfield 23, 3) := by decide +kernel
theorem dX2_append_52 : decode cX2_append 52 = .ok (.return_, 1) := by decide +kernel
theorem dX2_memberCount_0 : decode cX2_memberCount 0 = .ok (.aload_n 0, 1) := by decide +kernel
theorem dX2_memberCount_1 : decode cX2_memberCount 1 = .ok (.getfield 19, 3) := by decide +kernel
theorem dX2_memberCount_4 : decode cX2_memberCount 4 = .ok (.ireturn, 1) := by decide +kernel
theorem dX2_memberAt_0 : decode cX2_memberAt 0 = .ok (.iload_n 1, 1) := by decide +kernel
theorem dX2_memberAt_1 : decode cX2_memberAt 1 = .ok (.ifCond .lt 20, 3) := by decide +kernel
theorem dX2_memberAt_4 : decode cX2_memberAt 4 = .ok (.iload_n 1, 1) := by decide +kernel
theorem dX2_memberAt_5 : decode cX2_memberAt 5 = .ok (.aload_n 0, 1) := by decide +kernel
theorem dX2_memberAt_6 : decode cX2_memberAt 6 = .ok (.getfield 19, 3) := by decide +kernel
theorem dX2_memberAt_9 : decode cX2_memberAt 9 = .ok (.if_icmp .ge 12, 3) := by decide +kernel
theorem dX2_memberAt_12 : decode cX2_memberAt 12 = .ok (.aload_n 0, 1) := by decide +kernel
theorem dX2_memberAt_13 : decode cX2_memberAt 13 = .ok (.getfield 9, 3) := by decide +kernel
theorem dX2_memberAt_16 : decode cX2_memberAt 16 = .ok (.iload_n 1, 1) := by decide +kernel
theorem dX2_memberAt_17 : decode cX2_memberAt 17 = .ok (.iaload, 1) := by decide +kernel
theorem dX2_memberAt_18 : decode cX2_memberAt 18 = .ok (.goto 4, 3) := by decide +kernel
theorem dX2_memberAt_21 : decode cX2_memberAt 21 = .ok (.iconst (-1), 1) := by decide +kernel
theorem dX2_memberAt_22 : decode cX2_memberAt 22 = .ok (.ireturn, 1) := by decide +kernel
theorem dX2_beginOf_0 : decode cX2_beginOf 0 = .ok (.aload_n 0, 1) := by decide +kernel
theorem dX2_beginOf_1 : decode cX2_beginOf 1 = .ok (.getfield 15, 3) := by decide +kernel
theorem dX2_beginOf_4 : decode cX2_beginOf 4 = .ok (.iload_n 1, 1) := by decide +kernel
theorem dX2_beginOf_5 : decode cX2_beginOf 5 = .ok (.laload, 1) := by decide +kernel
theorem dX2_beginOf_6 : decode cX2_beginOf 6 = .ok (.lreturn, 1) := by decide +kernel
end
section
set_option maxHeartbeats 4000000 in
set_option maxRecDepth 100000 in
theorem ct_X2_memberCount (l : Launch) (dC : Nat → ClassId) (dI : Nat → Nat → Nat) (cI cJ cZ : ClassId) (sz : Nat) (h0 : Nat) (h1 : Nat) (h2 : Nat) (M : Nat → Int32) (B : Nat → Int64) (u : Int32) (e : Int64)  : Met l yX2_memberCount wsX2_memberCount ({ frames := 0, cells := 0, slots := 0, locals := 0 }) (va_Pc [.ref h0] (fun U => U.heap.size = sz ∧ va_P (dC, dI) vwCl [(h0, .inr (2, [.ref h1, .ref h2, .int u, .long e])), (h1, .inl (cI, 300, .inl M)), (h2, .inl (cJ, 300, .inr (.inl B)))] U.heap ∧ va_K (dC, dI) vwCl [(cI, .int), (cJ, .long), (cZ, .boolean)] U ∧ va_D (fun _ => True) [(h0, .inr (2, [.ref h1, .ref h2, .int u, .long e])), (h1, .inl (cI, 300, .inl M)), (h2, .inl (cJ, 300, .inr (.inl B)))])) (va_Qi (fun (r : Int32) (uu : Unit) => r = u) (fun (uu : Unit) (t : State) => va_P (dC, dI) vwCl [(h0, .inr (2, [.ref h1, .ref h2, .int u, .long e])), (h1, .inl (cI, 300, .inl M)), (h2, .inl (cJ, 300, .inr (.inl B)))] t.heap ∧ va_K (dC, dI) vwCl [(cI, .int), (cJ, .long), (cZ, .boolean)] t ∧ va_D (va_A [(h0, .inr (2, [.ref h1, .ref h2, .int u, .long e])), (h1, .inl (cI, 300, .inl M)), (h2, .inl (cJ, 300, .inr (.inl B)))] sz) [(h0, .inr (2, [.ref h1, .ref h2, .int u, .long e])), (h1, .inl (cI, 300, .inl M)), (h2, .inl (cJ, 300, .inr (.inl B)))]) (va_A [(h0, .inr (2, [.ref h1, .ref h2, .int u, .long e])), (h1, .inl (cI, 300, .inl M)), (h2, .inl (cJ, 300, .inr (.inl B)))] sz)) 0 0 (va_A [(h0, .inr (2, [.ref h1, .ref h2, .int u, .long e])), (h1, .inl (cI, 300, .inl M)), (h2, .inl (cJ, 300, .inr (.inl B)))] sz) := by
  refine Met.ofW (cc := cX2_memberCount) (maxL := 1) (ret := (some .int)) (by decide) rfl ?_
  intro p ev s m args below meth c s₁ Bd hml hv
  obtain ⟨rfl, hsz, hP, hK, hD0⟩ := hv
  have hx := Bd.exec
  have hb := Bd.bytes
  have hr := Bd.returns
  have hts := atoms_spec (ws := wsX2_memberCount) Bd.pre
  have hown : s.vm.findClass RX2 = some m.cls := findClass_of_methodNamed Bd.named
  have hlocks := Bd.notSynchronized
  have hin2 : ∀ w ∈ wsX20, w ∈ wsX2_memberCount := by decide +kernel
  subst hsz
  have hD := hD0.self (sz := s.heap.size)
  generalize hAe : va_A [(h0, .inr (2, [.ref h1, .ref h2, .int u, .long e])), (h1, .inl (cI, 300, .inl M)), (h2, .inl (cJ, 300, .inr (.inl B)))] s.heap.size = A at hD ⊢
  have hA : ∀ q : Nat, s.heap.size ≤ q → A q := fun q h => by rw [← hAe]; exact Or.inr h
  have hS : va_S A s.heap s.heap [] := va_S.rf
  have hl := lv_entry ([.ref h0]) (n := 1) (Nat.le_of_ble_eq_true rfl)
  rw [lg_entry_eq]
  generalize (lg_sl ([.ref h0]) ++ List.replicate (1 - (lg_sl ([.ref h0])).length) Slot.unset).toArray = ls at hl ⊢
  have hl : lv_has ls 1 [(0, .ref h0)] := hl
  generalize hHe : s.heap = H at hP ⊢
  have hS : va_S A s.heap H [] := hHe ▸ hS
  refine lv_aload_n hx hb dX2_memberCount_0 rfl (lv_at hl 0 rfl) ?_
  refine va_get (D := (dC, dI)) (ci := 2) (v := .int u) (C := RX2) (T := TX2) (N := 4) hx hb hts hin2 hown hK hP 0 rfl rfl 2 (by decide) (hts (.fieldLink RX2 19 "CallClusters$Row" "used" "I") (by decide +kernel)) (fun _ h9 => h9) rfl dX2_memberCount_1 ?_
  have hP9 : va_P (dC, dI) vwCl [(h0, .inr (2, [.ref h1, .ref h2, .int u, .long e])), (h1, .inl (cI, 300, .inl M)), (h2, .inl (cJ, 300, .inr (.inl B)))] H := hP
  have hD9 : va_D A [(h0, .inr (2, [.ref h1, .ref h2, .int u, .long e])), (h1, .inl (cI, 300, .inl M)), (h2, .inl (cJ, 300, .inr (.inl B)))] := hD
  exact W.iret (v := u) hx hb hr (fun t ht hW => ⟨⟨u, (), rfl, rfl, by rw [ht]; exact hP9, va_K.moved hW.alike hK, hD9⟩, hS.F ht⟩) hS.2.2 dX2_memberCount_4
set_option maxHeartbeats 4000000 in
set_option maxRecDepth 100000 in
theorem ct_X2_memberAt (l : Launch) (dC : Nat → ClassId) (dI : Nat → Nat → Nat) (cI cJ cZ : ClassId) (sz : Nat) (h0 : Nat) (h1 : Nat) (h2 : Nat) (M : Nat → Int32) (B : Nat → Int64) (u : Int32) (e : Int64) (k : Int32) (hu : u.toInt ≤ 300) : Met l yX2_memberAt wsX2_memberAt ({ frames := 0, cells := 0, slots := 0, locals := 0 }) (va_Pc [.ref h0, .int k] (fun U => U.heap.size = sz ∧ va_P (dC, dI) vwCl [(h0, .inr (2, [.ref h1, .ref h2, .int u, .long e])), (h1, .inl (cI, 300, .inl M)), (h2, .inl (cJ, 300, .inr (.inl B)))] U.heap ∧ va_K (dC, dI) vwCl [(cI, .int), (cJ, .long), (cZ, .boolean)] U ∧ va_D (fun _ => True) [(h0, .inr (2, [.ref h1, .ref h2, .int u, .long e])), (h1, .inl (cI, 300, .inl M)), (h2, .inl (cJ, 300, .inr (.inl B)))])) (va_Qi (fun (r : Int32) (uu : Unit) => r = if 0 ≤ k ∧ k < u then M (k.toNatClampNeg) else -1) (fun (uu : Unit) (t : State) => va_P (dC, dI) vwCl [(h0, .inr (2, [.ref h1, .ref h2, .int u, .long e])), (h1, .inl (cI, 300, .inl M)), (h2, .inl (cJ, 300, .inr (.inl B)))] t.heap ∧ va_K (dC, dI) vwCl [(cI, .int), (cJ, .long), (cZ, .boolean)] t ∧ va_D (va_A [(h0, .inr (2, [.ref h1, .ref h2, .int u, .long e])), (h1, .inl (cI, 300, .inl M)), (h2, .inl (cJ, 300, .inr (.inl B)))] sz) [(h0, .inr (2, [.ref h1, .ref h2, .int u, .long e])), (h1, .inl (cI, 300, .inl M)), (h2, .inl (cJ, 300, .inr (.inl B)))]) (va_A [(h0, .inr (2, [.ref h1, .ref h2, .int u, .long e])), (h1, .inl (cI, 300, .inl M)), (h2, .inl (cJ, 300, .inr (.inl B)))] sz)) 0 0 (va_A [(h0, .inr (2, [.ref h1, .ref h2, .int u, .long e])), (h1, .inl (cI, 300, .inl M)), (h2, .inl (cJ, 300, .inr (.inl B)))] sz) := by
  refine Met.ofW (cc := cX2_memberAt) (maxL := 2) (ret := (some .int)) (by decide) rfl ?_
  intro p ev s m args below meth c s₁ Bd hml hv
  obtain ⟨rfl, hsz, hP, hK, hD0⟩ := hv
  have hx := Bd.exec
  have hb := Bd.bytes
  have hr := Bd.returns
  have hts := atoms_spec (ws := wsX2_memberAt) Bd.pre
  have hown : s.vm.findClass RX2 = some m.cls := findClass_of_methodNamed Bd.named
  have hlocks := Bd.notSynchronized
  have hin2 : ∀ w ∈ wsX20, w ∈ wsX2_memberAt := by decide +kernel
  subst hsz
  have hD := hD0.self (sz := s.heap.size)
  generalize hAe : va_A [(h0, .inr (2, [.ref h1, .ref h2, .int u, .long e])), (h1, .inl (cI, 300, .inl M)), (h2, .inl (cJ, 300, .inr (.inl B)))] s.heap.size = A at hD ⊢
  have hA : ∀ q : Nat, s.heap.size ≤ q → A q := fun q h => by rw [← hAe]; exact Or.inr h
  have hS : va_S A s.heap s.heap [] := va_S.rf
  have hl := lv_entry ([.ref h0, .int k]) (n := 2) (Nat.le_of_ble_eq_true rfl)
  rw [lg_entry_eq]
  generalize (lg_sl ([.ref h0, .int k]) ++ List.replicate (2 - (lg_sl ([.ref h0, .int k])).length) Slot.unset).toArray = ls at hl ⊢
  have hl : lv_has ls 2 [(0, .ref h0), (1, .int k)] := hl
  generalize hHe : s.heap = H at hP ⊢
  have hS : va_S A s.heap H [] := hHe ▸ hS
  refine lv_iload_n hx hb dX2_memberAt_0 rfl (lv_at hl 1 rfl) ?_
  refine lv_if_lt (tgt := 21) hx hb dX2_memberAt_1 (by decide) (fun c_1 => ?_) (fun c_1 => ?_)
  · -- pc 1, side 0
    refine lv_iconst (v := (-1)) hx hb dX2_memberAt_21 (by decide) ?_
    have hP9 : va_P (dC, dI) vwCl [(h0, .inr (2, [.ref h1, .ref h2, .int u, .long e])), (h1, .inl (cI, 300, .inl M)), (h2, .inl (cJ, 300, .inr (.inl B)))] H := hP
    have hD9 : va_D A [(h0, .inr (2, [.ref h1, .ref h2, .int u, .long e])), (h1, .inl (cI, 300, .inl M)), (h2, .inl (cJ, 300, .inr (.inl B)))] := hD
    exact W.iret (v := (-1)) hx hb hr (fun t ht hW => ⟨⟨(-1), (), rfl, by rw [if_neg (fun h9 => absurd h9.1 (Int32.not_le.mpr c_1))], by rw [ht]; exact hP9, va_K.moved hW.alike hK, hD9⟩, hS.F ht⟩) hS.2.2 dX2_memberAt_22
  · -- pc 1, side 1
    refine lv_iload_n hx hb dX2_memberAt_4 rfl (lv_at hl 1 rfl) ?_
    refine lv_aload_n hx hb dX2_memberAt_5 rfl (lv_at hl 0 rfl) ?_
    refine va_get (D := (dC, dI)) (ci := 2) (v := .int u) (C := RX2) (T := TX2) (N := 4) hx hb hts hin2 hown hK hP 0 rfl rfl 2 (by decide) (hts (.fieldLink RX2 19 "CallClusters$Row" "used" "I") (by decide +kernel)) (fun _ h9 => h9) rfl dX2_memberAt_6 ?_
    refine lv_icmp_ge (tgt := 21) hx hb dX2_memberAt_9 (by decide) (fun c_2 => ?_) (fun c_2 => ?_)
    · -- pc 9, side 0
      refine lv_iconst (v := (-1)) hx hb dX2_memberAt_21 (by decide) ?_
      have hP9 : va_P (dC, dI) vwCl [(h0, .inr (2, [.ref h1, .ref h2, .int u, .long e])), (h1, .inl (cI, 300, .inl M)), (h2, .inl (cJ, 300, .inr (.inl B)))] H := hP
      have hD9 : va_D A [(h0, .inr (2, [.ref h1, .ref h2, .int u, .long e])), (h1, .inl (cI, 300, .inl M)), (h2, .inl (cJ, 300, .inr (.inl B)))] := hD
      exact W.iret (v := (-1)) hx hb hr (fun t ht hW => ⟨⟨(-1), (), rfl, by rw [if_neg (fun h9 => absurd h9.2 (Int32.not_lt.mpr c_2))], by rw [ht]; exact hP9, va_K.moved hW.alike hK, hD9⟩, hS.F ht⟩) hS.2.2 dX2_memberAt_22
    · -- pc 9, side 1
      have hin9 : vp_in k 300 := in_300 (Int32.not_lt.mp c_1) (Int32.not_le.mp c_2) hu
      refine lv_aload_n hx hb dX2_memberAt_12 rfl (lv_at hl 0 rfl) ?_
      refine va_get (D := (dC, dI)) (ci := 2) (v := .ref h1) (C := RX2) (T := TX2) (N := 4) hx hb hts hin2 hown hK hP 0 rfl rfl 0 (by decide) (hts (.fieldLink RX2 9 "CallClusters$Row" "members" "[I") (by decide +kernel)) (fun _ h9 => h9) rfl dX2_memberAt_13 ?_
      refine lv_iload_n hx hb dX2_memberAt_16 rfl (lv_at hl 1 rfl) ?_
      refine va_iald hx hb hK hP 1 0 rfl rfl (hin9) dX2_memberAt_17 ?_
      refine lv_goto (tgt := 22) hx hb dX2_memberAt_18 (by decide) ?_
      have hP9 : va_P (dC, dI) vwCl [(h0, .inr (2, [.ref h1, .ref h2, .int u, .long e])), (h1, .inl (cI, 300, .inl M)), (h2, .inl (cJ, 300, .inr (.inl B)))] H := hP
      have hD9 : va_D A [(h0, .inr (2, [.ref h1, .ref h2, .int u, .long e])), (h1, .inl (cI, 300, .inl M)), (h2, .inl (cJ, 300, .inr (.inl B)))] := hD
      exact W.iret (v := M (k.toNatClampNeg)) hx hb hr (fun t ht hW => ⟨⟨M (k.toNatClampNeg), (), rfl, by rw [if_pos ⟨by simpa using Int32.not_lt.mp c_1, by simpa using Int32.not_le.mp c_2⟩], by rw [ht]; exact hP9, va_K.moved hW.alike hK, hD9⟩, hS.F ht⟩) hS.2.2 dX2_memberAt_22
set_option maxHeartbeats 4000000 in
set_option maxRecDepth 100000 in
theorem ct_X2_beginOf (l : Launch) (dC : Nat → ClassId) (dI : Nat → Nat → Nat) (cI cJ cZ : ClassId) (sz : Nat) (h0 : Nat) (h1 : Nat) (h2 : Nat) (M : Nat → Int32) (B : Nat → Int64) (u : Int32) (e : Int64) (k : Int32) (hk : vp_in k 300) : Met l yX2_beginOf wsX2_beginOf ({ frames := 0, cells := 0, slots := 0, locals := 0 }) (va_Pc [.ref h0, .int k] (fun U => U.heap.size = sz ∧ va_P (dC, dI) vwCl [(h0, .inr (2, [.ref h1, .ref h2, .int u, .long e])), (h1, .inl (cI, 300, .inl M)), (h2, .inl (cJ, 300, .inr (.inl B)))] U.heap ∧ va_K (dC, dI) vwCl [(cI, .int), (cJ, .long), (cZ, .boolean)] U ∧ va_D (fun _ => True) [(h0, .inr (2, [.ref h1, .ref h2, .int u, .long e])), (h1, .inl (cI, 300, .inl M)), (h2, .inl (cJ, 300, .inr (.inl B)))])) (va_Ql (fun (r : Int64) (uu : Unit) => r = B (k.toNatClampNeg)) (fun (uu : Unit) (t : State) => va_P (dC, dI) vwCl [(h0, .inr (2, [.ref h1, .ref h2, .int u, .long e])), (h1, .inl (cI, 300, .inl M)), (h2, .inl (cJ, 300, .inr (.inl B)))] t.heap ∧ va_K (dC, dI) vwCl [(cI, .int), (cJ, .long), (cZ, .boolean)] t ∧ va_D (va_A [(h0, .inr (2, [.ref h1, .ref h2, .int u, .long e])), (h1, .inl (cI, 300, .inl M)), (h2, .inl (cJ, 300, .inr (.inl B)))] sz) [(h0, .inr (2, [.ref h1, .ref h2, .int u, .long e])), (h1, .inl (cI, 300, .inl M)), (h2, .inl (cJ, 300, .inr (.inl B)))]) (va_A [(h0, .inr (2, [.ref h1, .ref h2, .int u, .long e])), (h1, .inl (cI, 300, .inl M)), (h2, .inl (cJ, 300, .inr (.inl B)))] sz)) 0 0 (va_A [(h0, .inr (2, [.ref h1, .ref h2, .int u, .long e])), (h1, .inl (cI, 300, .inl M)), (h2, .inl (cJ, 300, .inr (.inl B)))] sz) := by
  refine Met.ofW (cc := cX2_beginOf) (maxL := 2) (ret := (some .long)) (by decide) rfl ?_
  intro p ev s m args below meth c s₁ Bd hml hv
  obtain ⟨rfl, hsz, hP, hK, hD0⟩ := hv
  have hx := Bd.exec
  have hb := Bd.bytes
  have hr := Bd.returns
  have hts := atoms_spec (ws := wsX2_beginOf) Bd.pre
  have hown : s.vm.findClass RX2 = some m.cls := findClass_of_methodNamed Bd.named
  have hlocks := Bd.notSynchronized
  have hin2 : ∀ w ∈ wsX20, w ∈ wsX2_beginOf := by decide +kernel
  subst hsz
  have hD := hD0.self (sz := s.heap.size)
  generalize hAe : va_A [(h0, .inr (2, [.ref h1, .ref h2, .int u, .long e])), (h1, .inl (cI, 300, .inl M)), (h2, .inl (cJ, 300, .inr (.inl B)))] s.heap.size = A at hD ⊢
  have hA : ∀ q : Nat, s.heap.size ≤ q → A q := fun q h => by rw [← hAe]; exact Or.inr h
  have hS : va_S A s.heap s.heap [] := va_S.rf
  have hl := lv_entry ([.ref h0, .int k]) (n := 2) (Nat.le_of_ble_eq_true rfl)
  rw [lg_entry_eq]
  generalize (lg_sl ([.ref h0, .int k]) ++ List.replicate (2 - (lg_sl ([.ref h0, .int k])).length) Slot.unset).toArray = ls at hl ⊢
  have hl : lv_has ls 2 [(0, .ref h0), (1, .int k)] := hl
  generalize hHe : s.heap = H at hP ⊢
  have hS : va_S A s.heap H [] := hHe ▸ hS
  refine lv_aload_n hx hb dX2_beginOf_0 rfl (lv_at hl 0 rfl) ?_
  refine va_get (D := (dC, dI)) (ci := 2) (v := .ref h2) (C := RX2) (T := TX2) (N := 4) hx hb hts hin2 hown hK hP 0 rfl rfl 1 (by decide) (hts (.fieldLink RX2 15 "CallClusters$Row" "begins" "[J") (by decide +kernel)) (fun _ h9 => h9) rfl dX2_beginOf_1 ?_
  refine lv_iload_n hx hb dX2_beginOf_4 rfl (lv_at hl 1 rfl) ?_
  refine va_lald hx hb hK hP 2 1 rfl rfl (hk) dX2_beginOf_5 ?_
  have hP9 : va_P (dC, dI) vwCl [(h0, .inr (2, [.ref h1, .ref h2, .int u, .long e])), (h1, .inl (cI, 300, .inl M)), (h2, .inl (cJ, 300, .inr (.inl B)))] H := hP
  have hD9 : va_D A [(h0, .inr (2, [.ref h1, .ref h2, .int u, .long e])), (h1, .inl (cI, 300, .inl M)), (h2, .inl (cJ, 300, .inr (.inl B)))] := hD
  exact W.lret (v := B (k.toNatClampNeg)) hx hb hr (fun t ht hW => ⟨⟨B (k.toNatClampNeg), (), rfl, rfl, by rw [ht]; exact hP9, va_K.moved hW.alike hK, hD9⟩, hS.F ht⟩) hS.2.2 dX2_beginOf_6
set_option maxHeartbeats 4000000 in
set_option maxRecDepth 100000 in
theorem ct_X2_append (l : Launch) (dC : Nat → ClassId) (dI : Nat → Nat → Nat) (cI cJ cZ : ClassId) (sz : Nat) (h0 : Nat) (h1 : Nat) (h2 : Nat) (M : Nat → Int32) (B : Nat → Int64) (u : Nat) (e : Int64) (f b : Int32) (hu : u < 300) (hf : vp_in f 300) : Met l yX2_append wsX2_append ({ frames := 0, cells := 0, slots := 0, locals := 0 }) (va_Pc [.ref h0, .int f, .int b] (fun U => U.heap.size = sz ∧ va_P (dC, dI) vwCl [(h0, .inr (2, [.ref h1, .ref h2, .int (nI u), .long e])), (h1, .inl (cI, 300, .inl M)), (h2, .inl (cJ, 300, .inr (.inl B)))] U.heap ∧ va_K (dC, dI) vwCl [(cI, .int), (cJ, .long), (cZ, .boolean)] U ∧ va_D (fun _ => True) [(h0, .inr (2, [.ref h1, .ref h2, .int (nI u), .long e])), (h1, .inl (cI, 300, .inl M)), (h2, .inl (cJ, 300, .inr (.inl B)))])) (va_Qv (fun (uu : Unit) => True) (fun (uu : Unit) (t : State) => va_P (dC, dI) vwCl [(h0, .inr (2, [.ref h1, .ref h2, .int (nI (u + 1)), .long (e + b.toInt64)])), (h1, .inl (cI, 300, .inl (upd M u f))), (h2, .inl (cJ, 300, .inr (.inl (vp_updL B (f.toNatClampNeg) e))))] t.heap ∧ va_K (dC, dI) vwCl [(cI, .int), (cJ, .long), (cZ, .boolean)] t ∧ va_D (va_A [(h0, .inr (2, [.ref h1, .ref h2, .int (nI u), .long e])), (h1, .inl (cI, 300, .inl M)), (h2, .inl (cJ, 300, .inr (.inl B)))] sz) [(h0, .inr (2, [.ref h1, .ref h2, .int (nI (u + 1)), .long (e + b.toInt64)])), (h1, .inl (cI, 300, .inl (upd M u f))), (h2, .inl (cJ, 300, .inr (.inl (vp_updL B (f.toNatClampNeg) e))))]) (va_A [(h0, .inr (2, [.ref h1, .ref h2, .int (nI u), .long e])), (h1, .inl (cI, 300, .inl M)), (h2, .inl (cJ, 300, .inr (.inl B)))] sz)) 0 0 (va_A [(h0, .inr (2, [.ref h1, .ref h2, .int (nI u), .long e])), (h1, .inl (cI, 300, .inl M)), (h2, .inl (cJ, 300, .inr (.inl B)))] sz) := by
  refine Met.ofW (cc := cX2_append) (maxL := 3) (ret := none) (by decide) rfl ?_
  intro p ev s m args below meth c s₁ Bd hml hv
  obtain ⟨rfl, hsz, hP, hK, hD0⟩ := hv
  have hx := Bd.exec
  have hb := Bd.bytes
  have hr := Bd.returns
  have hts := atoms_spec (ws := wsX2_append) Bd.pre
  have hown : s.vm.findClass RX2 = some m.cls := findClass_of_methodNamed Bd.named
  have hlocks := Bd.notSynchronized
  have hin2 : ∀ w ∈ wsX20, w ∈ wsX2_append := by decide +kernel
  subst hsz
  have hD := hD0.self (sz := s.heap.size)
  generalize hAe : va_A [(h0, .inr (2, [.ref h1, .ref h2, .int (nI u), .long e])), (h1, .inl (cI, 300, .inl M)), (h2, .inl (cJ, 300, .inr (.inl B)))] s.heap.size = A at hD ⊢
  have hA : ∀ q : Nat, s.heap.size ≤ q → A q := fun q h => by rw [← hAe]; exact Or.inr h
  have hS : va_S A s.heap s.heap [] := va_S.rf
  have hl := lv_entry ([.ref h0, .int f, .int b]) (n := 3) (Nat.le_of_ble_eq_true rfl)
  rw [lg_entry_eq]
  generalize (lg_sl ([.ref h0, .int f, .int b]) ++ List.replicate (3 - (lg_sl ([.ref h0, .int f, .int b])).length) Slot.unset).toArray = ls at hl ⊢
  have hl : lv_has ls 3 [(0, .ref h0), (1, .int f), (2, .int b)] := hl
  generalize hHe : s.heap = H at hP ⊢
  have hS : va_S A s.heap H [] := hHe ▸ hS
  refine lv_aload_n hx hb dX2_append_0 rfl (lv_at hl 0 rfl) ?_
  refine va_get (D := (dC, dI)) (ci := 2) (v := .int (nI u)) (C := RX2) (T := TX2) (N := 4) hx hb hts hin2 hown hK hP 0 rfl rfl 2 (by decide) (hts (.fieldLink RX2 19 "CallClusters$Row" "used" "I") (by decide +kernel)) (fun _ h9 => h9) rfl dX2_append_1 ?_
  refine lv_sipush (v := 300) hx hb dX2_append_4 (by decide) ?_
  refine lv_icmp_lt (tgt := 11) hx hb dX2_append_7 (by decide) (fun c_1 => ?_) (fun c_1 => ?_)
  · -- pc 7, side 0
    refine lv_aload_n hx hb dX2_append_11 rfl (lv_at hl 0 rfl) ?_
    refine va_get (D := (dC, dI)) (ci := 2) (v := .ref h1) (C := RX2) (T := TX2) (N := 4) hx hb hts hin2 hown hK hP 0 rfl rfl 0 (by decide) (hts (.fieldLink RX2 9 "CallClusters$Row" "members" "[I") (by decide +kernel)) (fun _ h9 => h9) rfl dX2_append_12 ?_
    refine lv_aload_n hx hb dX2_append_15 rfl (lv_at hl 0 rfl) ?_
    refine va_get (D := (dC, dI)) (ci := 2) (v := .int (nI u)) (C := RX2) (T := TX2) (N := 4) hx hb hts hin2 hown hK hP 0 rfl rfl 2 (by decide) (hts (.fieldLink RX2 19 "CallClusters$Row" "used" "I") (by decide +kernel)) (fun _ h9 => h9) rfl dX2_append_16 ?_
    refine lv_iload_n hx hb dX2_append_19 rfl (lv_at hl 1 rfl) ?_
    refine va_iast hx hb hK hP hD hS 1 0 rfl rfl (inn hu (by omega)) dX2_append_20 (fun H locs hP hD hS => ?_)
    have hf20 : upd M ((nI u).toNatClampNeg) f = upd M u f := by rw [ix_n (by omega)]
    have hP : va_P (dC, dI) vwCl [(h0, .inr (2, [.ref h1, .ref h2, .int (nI u), .long e])), (h1, .inl (cI, 300, .inl (upd M ((nI u).toNatClampNeg) f))), (h2, .inl (cJ, 300, .inr (.inl B)))] H := hP
    have hD : va_D A [(h0, .inr (2, [.ref h1, .ref h2, .int (nI u), .long e])), (h1, .inl (cI, 300, .inl (upd M ((nI u).toNatClampNeg) f))), (h2, .inl (cJ, 300, .inr (.inl B)))] := hD
    rw [hf20] at hP hD
    refine lv_aload_n hx hb dX2_append_21 rfl (lv_at hl 0 rfl) ?_
    refine lv_dup hx hb dX2_append_22 rfl ?_
    refine va_get (D := (dC, dI)) (ci := 2) (v := .int (nI u)) (C := RX2) (T := TX2) (N := 4) hx hb hts hin2 hown hK hP 0 rfl rfl 2 (by decide) (hts (.fieldLink RX2 19 "CallClusters$Row" "used" "I") (by decide +kernel)) (fun _ h9 => h9) rfl dX2_append_23 ?_
    refine lv_iconst (v := 1) hx hb dX2_append_26 (by decide) ?_
    refine lv_iadd hx hb dX2_append_27 ?_
    refine tp_i (y := nI (u + 1)) (nI_1 u) ?_
    refine va_put (D := (dC, dI)) (ci := 2) (v := .int (nI (u + 1))) (ty := .int) (C := RX2) (T := TX2) (N := 4) hx hb hts hin2 tyX2 tyX2_ok nmX2 hown hK hP hD hS 0 rfl rfl 2 (by decide) (hts (.fieldLink RX2 19 "CallClusters$Row" "used" "I") (by decide +kernel)) (fun _ h9 => h9) rfl (by decide +kernel) (rfl) (rfl) (Nat.le_of_ble_eq_true rfl) dX2_append_28 (fun H locs hP hD hS => ?_)
    have hP : va_P (dC, dI) vwCl [(h0, .inr (2, [.ref h1, .ref h2, .int (nI (u + 1)), .long e])), (h1, .inl (cI, 300, .inl (upd M u f))), (h2, .inl (cJ, 300, .inr (.inl B)))] H := hP
    have hD : va_D A [(h0, .inr (2, [.ref h1, .ref h2, .int (nI (u + 1)), .long e])), (h1, .inl (cI, 300, .inl (upd M u f))), (h2, .inl (cJ, 300, .inr (.inl B)))] := hD
    refine lv_aload_n hx hb dX2_append_31 rfl (lv_at hl 0 rfl) ?_
    refine va_get (D := (dC, dI)) (ci := 2) (v := .ref h2) (C := RX2) (T := TX2) (N := 4) hx hb hts hin2 hown hK hP 0 rfl rfl 1 (by decide) (hts (.fieldLink RX2 15 "CallClusters$Row" "begins" "[J") (by decide +kernel)) (fun _ h9 => h9) rfl dX2_append_32 ?_
    refine lv_iload_n hx hb dX2_append_35 rfl (lv_at hl 1 rfl) ?_
    refine lv_aload_n hx hb dX2_append_36 rfl (lv_at hl 0 rfl) ?_
    refine va_get (D := (dC, dI)) (ci := 2) (v := .long e) (C := RX2) (T := TX2) (N := 4) hx hb hts hin2 hown hK hP 0 rfl rfl 3 (by decide) (hts (.fieldLink RX2 23 "CallClusters$Row" "end" "J") (by decide +kernel)) (fun _ h9 => h9) rfl dX2_append_37 ?_
    refine va_last hx hb hK hP hD hS 2 1 rfl rfl (hf) dX2_append_40 (fun H locs hP hD hS => ?_)
    have hP : va_P (dC, dI) vwCl [(h0, .inr (2, [.ref h1, .ref h2, .int (nI (u + 1)), .long e])), (h1, .inl (cI, 300, .inl (upd M u f))), (h2, .inl (cJ, 300, .inr (.inl (vp_updL B (f.toNatClampNeg) e))))] H := hP
    have hD : va_D A [(h0, .inr (2, [.ref h1, .ref h2, .int (nI (u + 1)), .long e])), (h1, .inl (cI, 300, .inl (upd M u f))), (h2, .inl (cJ, 300, .inr (.inl (vp_updL B (f.toNatClampNeg) e))))] := hD
    refine lv_aload_n hx hb dX2_append_41 rfl (lv_at hl 0 rfl) ?_
    refine lv_dup hx hb dX2_append_42 rfl ?_
    refine va_get (D := (dC, dI)) (ci := 2) (v := .long e) (C := RX2) (T := TX2) (N := 4) hx hb hts hin2 hown hK hP 0 rfl rfl 3 (by decide) (hts (.fieldLink RX2 23 "CallClusters$Row" "end" "J") (by decide +kernel)) (fun _ h9 => h9) rfl dX2_append_43 ?_
    refine lv_iload_n hx hb dX2_append_46 rfl (lv_at hl 2 rfl) ?_
    refine lv_i2l (v := b.toInt64) hx hb dX2_append_47 rfl ?_
    refine lv_ladd hx hb dX2_append_48 ?_
    refine va_put (D := (dC, dI)) (ci := 2) (v := .long (e + b.toInt64)) (ty := .long) (C := RX2) (T := TX2) (N := 4) hx hb hts hin2 tyX2 tyX2_ok nmX2 hown hK hP hD hS 0 rfl rfl 3 (by decide) (hts (.fieldLink RX2 23 "CallClusters$Row" "end" "J") (by decide +kernel)) (fun _ h9 => h9) rfl (by decide +kernel) (rfl) (rfl) (Nat.le_of_ble_eq_true rfl) dX2_append_49 (fun H locs hP hD hS => ?_)
    have hP : va_P (dC, dI) vwCl [(h0, .inr (2, [.ref h1, .ref h2, .int (nI (u + 1)), .long (e + b.toInt64)])), (h1, .inl (cI, 300, .inl (upd M u f))), (h2, .inl (cJ, 300, .inr (.inl (vp_updL B (f.toNatClampNeg) e))))] H := hP
    have hD : va_D A [(h0, .inr (2, [.ref h1, .ref h2, .int (nI (u + 1)), .long (e + b.toInt64)])), (h1, .inl (cI, 300, .inl (upd M u f))), (h2, .inl (cJ, 300, .inr (.inl (vp_updL B (f.toNatClampNeg) e))))] := hD
    have hP9 : va_P (dC, dI) vwCl [(h0, .inr (2, [.ref h1, .ref h2, .int (nI (u + 1)), .long (e + b.toInt64)])), (h1, .inl (cI, 300, .inl (upd M u f))), (h2, .inl (cJ, 300, .inr (.inl (vp_updL B (f.toNatClampNeg) e))))] H := hP
    have hD9 : va_D A [(h0, .inr (2, [.ref h1, .ref h2, .int (nI (u + 1)), .long (e + b.toInt64)])), (h1, .inl (cI, 300, .inl (upd M u f))), (h2, .inl (cJ, 300, .inr (.inl (vp_updL B (f.toNatClampNeg) e))))] := hD
    exact W.vret hx hb hr (fun t ht hW => ⟨⟨(), rfl, trivial, by rw [ht]; exact hP9, va_K.moved hW.alike hK, hD9⟩, hS.F ht⟩) hS.2.2 dX2_append_52
  · -- pc 7, side 1
    exact absurd (nI_lt hu (by omega)) c_1
set_option maxHeartbeats 4000000 in
set_option maxRecDepth 100000 in
theorem ct_X2_empty (l : Launch) (dC : Nat → ClassId) (dI : Nat → Nat → Nat) (cI cJ cZ : ClassId) (sz : Nat) (h0 : Nat) (h1 : Nat) (h2 : Nat) (M : Nat → Int32) (B : Nat → Int64) (u : Int32) (e : Int64)  : Met l yX2_empty wsX2_empty ({ frames := 1, cells := 0, slots := 0, locals := 24 }) (va_Pc [.ref h0] (fun U => U.heap.size = sz ∧ va_P (dC, dI) vwCl [(h0, .inr (2, [.ref h1, .ref h2, .int u, .long e])), (h1, .inl (cI, 300, .inl M)), (h2, .inl (cJ, 300, .inr (.inl B)))] U.heap ∧ va_K (dC, dI) vwCl [(cI, .int), (cJ, .long), (cZ, .boolean)] U ∧ va_D (fun _ => True) [(h0, .inr (2, [.ref h1, .ref h2, .int u, .long e])), (h1, .inl (cI, 300, .inl M)), (h2, .inl (cJ, 300, .inr (.inl B)))])) (va_Qv (fun (uu : Unit) => True) (fun (uu : Unit) (t : State) => va_P (dC, dI) vwCl [(h0, .inr (2, [.ref h1, .ref h2, .int 0, .long 0])), (h1, .inl (cI, 300, .inl M)), (h2, .inl (cJ, 300, .inr (.inl (mix 300 (fun _ => -1) B))))] t.heap ∧ va_K (dC, dI) vwCl [(cI, .int), (cJ, .long), (cZ, .boolean)] t ∧ va_D (va_A [(h0, .inr (2, [.ref h1, .ref h2, .int u, .long e])), (h1, .inl (cI, 300, .inl M)), (h2, .inl (cJ, 300, .inr (.inl B)))] sz) [(h0, .inr (2, [.ref h1, .ref h2, .int 0, .long 0])), (h1, .inl (cI, 300, .inl M)), (h2, .inl (cJ, 300, .inr (.inl (mix 300 (fun _ => -1) B))))]) (va_A [(h0, .inr (2, [.ref h1, .ref h2, .int u, .long e])), (h1, .inl (cI, 300, .inl M)), (h2, .inl (cJ, 300, .inr (.inl B)))] sz)) 0 0 (va_A [(h0, .inr (2, [.ref h1, .ref h2, .int u, .long e])), (h1, .inl (cI, 300, .inl M)), (h2, .inl (cJ, 300, .inr (.inl B)))] sz) := by
  refine Met.ofW (cc := cX2_empty) (maxL := 1) (ret := none) (by decide) rfl ?_
  intro p ev s m args below meth c s₁ Bd hml hv
  obtain ⟨rfl, hsz, hP, hK, hD0⟩ := hv
  have hx := Bd.exec
  have hb := Bd.bytes
  have hr := Bd.returns
  have hts := atoms_spec (ws := wsX2_empty) Bd.pre
  have hown : s.vm.findClass RX2 = some m.cls := findClass_of_methodNamed Bd.named
  have hlocks := Bd.notSynchronized
  have hin2 : ∀ w ∈ wsX20, w ∈ wsX2_empty := by decide +kernel
  subst hsz
  have hD := hD0.self (sz := s.heap.size)
  generalize hAe : va_A [(h0, .inr (2, [.ref h1, .ref h2, .int u, .long e])), (h1, .inl (cI, 300, .inl M)), (h2, .inl (cJ, 300, .inr (.inl B)))] s.heap.size = A at hD ⊢
  have hA : ∀ q : Nat, s.heap.size ≤ q → A q := fun q h => by rw [← hAe]; exact Or.inr h
  have hS : va_S A s.heap s.heap [] := va_S.rf
  have hl := lv_entry ([.ref h0]) (n := 1) (Nat.le_of_ble_eq_true rfl)
  rw [lg_entry_eq]
  generalize (lg_sl ([.ref h0]) ++ List.replicate (1 - (lg_sl ([.ref h0])).length) Slot.unset).toArray = ls at hl ⊢
  have hl : lv_has ls 1 [(0, .ref h0)] := hl
  generalize hHe : s.heap = H at hP ⊢
  have hS : va_S A s.heap H [] := hHe ▸ hS
  refine lv_aload_n hx hb dX2_empty_0 rfl (lv_at hl 0 rfl) ?_
  refine lv_iconst (v := 0) hx hb dX2_empty_1 (by decide) ?_
  refine va_put (D := (dC, dI)) (ci := 2) (v := .int 0) (ty := .int) (C := RX2) (T := TX2) (N := 4) hx hb hts hin2 tyX2 tyX2_ok nmX2 hown hK hP hD hS 0 rfl rfl 2 (by decide) (hts (.fieldLink RX2 19 "CallClusters$Row" "used" "I") (by decide +kernel)) (fun _ h9 => h9) rfl (by decide +kernel) (rfl) (rfl) (Nat.le_of_ble_eq_true rfl) dX2_empty_2 (fun H locs hP hD hS => ?_)
  have hP : va_P (dC, dI) vwCl [(h0, .inr (2, [.ref h1, .ref h2, .int 0, .long e])), (h1, .inl (cI, 300, .inl M)), (h2, .inl (cJ, 300, .inr (.inl B)))] H := hP
  have hD : va_D A [(h0, .inr (2, [.ref h1, .ref h2, .int 0, .long e])), (h1, .inl (cI, 300, .inl M)), (h2, .inl (cJ, 300, .inr (.inl B)))] := hD
  refine lv_aload_n hx hb dX2_empty_5 rfl (lv_at hl 0 rfl) ?_
  refine lv_lconst (v := 0) hx hb dX2_empty_6 (by decide) ?_
  refine va_put (D := (dC, dI)) (ci := 2) (v := .long 0) (ty := .long) (C := RX2) (T := TX2) (N := 4) hx hb hts hin2 tyX2 tyX2_ok nmX2 hown hK hP hD hS 0 rfl rfl 3 (by decide) (hts (.fieldLink RX2 23 "CallClusters$Row" "end" "J") (by decide +kernel)) (fun _ h9 => h9) rfl (by decide +kernel) (rfl) (rfl) (Nat.le_of_ble_eq_true rfl) dX2_empty_7 (fun H locs hP hD hS => ?_)
  have hP : va_P (dC, dI) vwCl [(h0, .inr (2, [.ref h1, .ref h2, .int 0, .long 0])), (h1, .inl (cI, 300, .inl M)), (h2, .inl (cJ, 300, .inr (.inl B)))] H := hP
  have hD : va_D A [(h0, .inr (2, [.ref h1, .ref h2, .int 0, .long 0])), (h1, .inl (cI, 300, .inl M)), (h2, .inl (cJ, 300, .inr (.inl B)))] := hD
  refine lv_aload_n hx hb dX2_empty_10 rfl (lv_at hl 0 rfl) ?_
  refine va_get (D := (dC, dI)) (ci := 2) (v := .ref h2) (C := RX2) (T := TX2) (N := 4) hx hb hts hin2 hown hK hP 0 rfl rfl 1 (by decide) (hts (.fieldLink RX2 15 "CallClusters$Row" "begins" "[J") (by decide +kernel)) (fun _ h9 => h9) rfl dX2_empty_11 ?_
  refine lv_ldc2 (v := (-1)) hx hb hown (hts (.constantLong RX2 27 (-1)) (by decide +kernel)) dX2_empty_14 ?_
  have hPc := hP.sub (ws' := [(h2, .inl (cJ, 300, .inr (.inl B)))]) [2] rfl
  have hDc := hD.sub (ws' := [(h2, .inl (cJ, 300, .inr (.inl B)))]) [2] (by decide) rfl
  have hFc := va_free (wc := [(h2, .inl (cJ, 300, .inr (.inl B)))]) hD hS hA [2] rfl
  refine va_callv (va_runS (As := [.ref h2, .long ((-1))]) (rest := []) ⟨hx, hb, hml, hown, hts⟩ (ct_J7_fill_d0a16 l dC dI cI cJ cZ H.size h2 300 B (-1) (by decide)) (va_cwS 2 hts gX2_empty_J7_fill_d0a16 rfl rfl rfl (by decide +kernel) ⟨Nat.le_of_ble_eq_true rfl, Nat.le_of_ble_eq_true rfl⟩) (pre_S hK hPc hDc) rfl rfl hl.1 rfl (lv_room (Nat.le_of_ble_eq_true rfl)) dX2_empty_17 ⟨Nat.zero_le _, Nat.zero_le _⟩) hS (fun q _ h => hFc q h) hFc (fun uu t H1 locs ht hvm hw hB hz1 hk1 hS => ?_)
  obtain ⟨hP1, hK1, hD1⟩ := hB
  rw [ht] at hP1
  try dsimp only at hw
  have hP1 : va_P (dC, dI) vwCl [(h2, .inl (cJ, 300, .inr (.inl (mix 300 (fun _ => -1) B))))] H1 := hP1
  obtain ⟨hP, hD⟩ := va_join (wr := [(h0, .inr (2, [.ref h1, .ref h2, .int 0, .long 0])), (h1, .inl (cI, 300, .inl M))]) (w1 := [(h2, .inl (cJ, 300, .inr (.inl (mix 300 (fun _ => -1) B))))]) hP hD [2] [0, 1] rfl rfl (by decide) (by decide) hk1 hFc hP1 hD1
  have hP := hP.sub (ws' := [(h0, .inr (2, [.ref h1, .ref h2, .int 0, .long 0])), (h1, .inl (cI, 300, .inl M)), (h2, .inl (cJ, 300, .inr (.inl (mix 300 (fun _ => -1) B))))]) [0, 1, 2] rfl
  have hD := hD.sub (ws' := [(h0, .inr (2, [.ref h1, .ref h2, .int 0, .long 0])), (h1, .inl (cI, 300, .inl M)), (h2, .inl (cJ, 300, .inr (.inl (mix 300 (fun _ => -1) B))))]) [0, 1, 2] (by decide) rfl
  generalize H1 = H at hP hS ⊢
  have hP9 : va_P (dC, dI) vwCl [(h0, .inr (2, [.ref h1, .ref h2, .int 0, .long 0])), (h1, .inl (cI, 300, .inl M)), (h2, .inl (cJ, 300, .inr (.inl (mix 300 (fun _ => -1) B))))] H := hP
  have hD9 : va_D A [(h0, .inr (2, [.ref h1, .ref h2, .int 0, .long 0])), (h1, .inl (cI, 300, .inl M)), (h2, .inl (cJ, 300, .inr (.inl (mix 300 (fun _ => -1) B))))] := hD
  exact W.vret hx hb hr (fun t ht hW => ⟨⟨(), rfl, trivial, by rw [ht]; exact hP9, va_K.moved hW.alike hK, hD9⟩, hS.F ht⟩) hS.2.2 dX2_empty_20
set_option maxHeartbeats 4000000 in
set_option maxRecDepth 100000 in
theorem ct_X2_init (l : Launch) (dC : Nat → ClassId) (dI : Nat → Nat → Nat) (cI cJ cZ : ClassId) (sz : Nat) (h0 : Nat)   : Met l yX2_init wsX2_init ({ frames := 1, cells := 2, slots := 600, locals := 12 }) (va_Pc [.ref h0] (fun U => U.heap.size = sz ∧ va_P (dC, dI) vwCl [(h0, .inr (2, [.null, .null, .int 0, .long 0]))] U.heap ∧ va_K (dC, dI) vwCl [(cI, .int), (cJ, .long), (cZ, .boolean)] U ∧ va_D (fun _ => True) [(h0, .inr (2, [.null, .null, .int 0, .long 0]))])) (va_Qv (fun (uu : Unit) => True) (fun (uu : Unit) (t : State) => ∃ (h1 h2 : Nat), va_P (dC, dI) vwCl [(h0, .inr (2, [.ref h1, .ref h2, .int 0, .long 0])), (h1, .inl (cI, 300, .inl (fun _ => 0))), (h2, .inl (cJ, 300, .inr (.inl (fun _ => 0))))] t.heap ∧ va_K (dC, dI) vwCl [(cI, .int), (cJ, .long), (cZ, .boolean)] t ∧ va_D (va_A [(h0, .inr (2, [.null, .null, .int 0, .long 0]))] sz) [(h0, .inr (2, [.ref h1, .ref h2, .int 0, .long 0])), (h1, .inl (cI, 300, .inl (fun _ => 0))), (h2, .inl (cJ, 300, .inr (.inl (fun _ => 0))))]) (va_A [(h0, .inr (2, [.null, .null, .int 0, .long 0]))] sz)) 2 600 (va_A [(h0, .inr (2, [.null, .null, .int 0, .long 0]))] sz) := by
  refine Met.ofW (cc := cX2_init) (maxL := 1) (ret := none) (by decide) rfl ?_
  intro p ev s m args below meth c s₁ Bd hml hv
  obtain ⟨rfl, hsz, hP, hK, hD0⟩ := hv
  have hx := Bd.exec
  have hb := Bd.bytes
  have hr := Bd.returns
  have hts := atoms_spec (ws := wsX2_init) Bd.pre
  have hown : s.vm.findClass RX2 = some m.cls := findClass_of_methodNamed Bd.named
  have hlocks := Bd.notSynchronized
  have hin : meth.name = "<init>" := (name_of_methodNamed Bd.named Bd.method).1
  have hin2 : ∀ w ∈ wsX20, w ∈ wsX2_init := by decide +kernel
  subst hsz
  have hD := hD0.self (sz := s.heap.size)
  generalize hAe : va_A [(h0, .inr (2, [.null, .null, .int 0, .long 0]))] s.heap.size = A at hD ⊢
  have hA : ∀ q : Nat, s.heap.size ≤ q → A q := fun q h => by rw [← hAe]; exact Or.inr h
  have hS : va_S A s.heap s.heap [] := va_S.rf
  have hl := lv_entry ([.ref h0]) (n := 1) (Nat.le_of_ble_eq_true rfl)
  rw [lg_entry_eq]
  generalize (lg_sl ([.ref h0]) ++ List.replicate (1 - (lg_sl ([.ref h0])).length) Slot.unset).toArray = ls at hl ⊢
  have hl : lv_has ls 1 [(0, .ref h0)] := hl
  generalize hHe : s.heap = H at hP ⊢
  have hS : va_S A s.heap H [] := hHe ▸ hS
  refine lv_aload_n hx hb dX2_init_0 rfl (lv_at hl 0 rfl) ?_
  refine W.objInit hx hb hown (hts (.methodLink RX2 3 objectInit) (by decide +kernel)) (hts (.instanceMethod objectInit) (by decide +kernel)) (hts (.code objectInit ⟨#[0xb1]⟩ 1 none) (by decide +kernel)) rfl (by rw [hml]; exact hl.1) rfl dX2_init_1 (Nat.le_of_ble_eq_true rfl) (Nat.le_of_ble_eq_true rfl) ?_
  refine W.eq (g2 := F0 m 4 ls []) rfl ?_
  refine lv_aload_n hx hb dX2_init_4 rfl (lv_at hl 0 rfl) ?_
  refine lv_sipush (v := 300) hx hb dX2_init_5 (by decide) ?_
  refine new_a (atype := .int) (ty := .int) (cA := cI) (a0 := (300, .inl (fun _ => 0))) (N' := 300) hx hb (hts (.arrayClass .int) (by decide +kernel)) rfl hK 0 rfl (fun _ _ h => h) hP hD hS hA (vp_zero_i _) (by decide) (by decide) (by decide) (by decide) (by decide) dX2_init_8 (fun a_1 H hP hD hS => ?_)
  have hP : va_P (dC, dI) vwCl [(h0, .inr (2, [.null, .null, .int 0, .long 0])), (a_1, .inl (cI, 300, .inl (fun _ => 0)))] H := hP
  have hD : va_D A [(h0, .inr (2, [.null, .null, .int 0, .long 0])), (a_1, .inl (cI, 300, .inl (fun _ => 0)))] := hD
  refine W.widen (k := 1) (n := 300) (by omega) (by omega) ?_
  refine va_putF (D := (dC, dI)) (ci := 2) (v := .ref a_1) (ty := (.array .int)) (C := RX2) (T := TX2) (N := 4) hx hb hts hin2 tyX2 tyX2_ok nmX2 hown hK hP hD hS 0 rfl rfl 0 (by decide) (hts (.fieldLink RX2 9 "CallClusters$Row" "members" "[I") (by decide +kernel)) (fun _ h9 => h9) rfl hin rfl (by decide +kernel) (rfl) (rfl) (Nat.le_of_ble_eq_true rfl) dX2_init_10 (fun H locs hP hD hS => ?_)
  have hP : va_P (dC, dI) vwCl [(h0, .inr (2, [.ref a_1, .null, .int 0, .long 0])), (a_1, .inl (cI, 300, .inl (fun _ => 0)))] H := hP
  have hD : va_D A [(h0, .inr (2, [.ref a_1, .null, .int 0, .long 0])), (a_1, .inl (cI, 300, .inl (fun _ => 0)))] := hD
  refine lv_aload_n hx hb dX2_init_13 rfl (lv_at hl 0 rfl) ?_
  refine lv_sipush (v := 300) hx hb dX2_init_14 (by decide) ?_
  refine new_a (atype := .long) (ty := .long) (cA := cJ) (a0 := (300, .inr (.inl (fun _ => 0)))) (N' := 300) hx hb (hts (.arrayClass .long) (by decide +kernel)) rfl hK 1 rfl (fun _ _ h => h) hP hD hS hA (vp_zero_l _) (by decide) (by decide) (by decide) (by decide) (by decide) dX2_init_17 (fun a_2 H hP hD hS => ?_)
  have hP : va_P (dC, dI) vwCl [(h0, .inr (2, [.ref a_1, .null, .int 0, .long 0])), (a_1, .inl (cI, 300, .inl (fun _ => 0))), (a_2, .inl (cJ, 300, .inr (.inl (fun _ => 0))))] H := hP
  have hD : va_D A [(h0, .inr (2, [.ref a_1, .null, .int 0, .long 0])), (a_1, .inl (cI, 300, .inl (fun _ => 0))), (a_2, .inl (cJ, 300, .inr (.inl (fun _ => 0))))] := hD
  refine W.widen (k := 2) (n := 600) (by omega) (by omega) ?_
  refine va_putF (D := (dC, dI)) (ci := 2) (v := .ref a_2) (ty := (.array .long)) (C := RX2) (T := TX2) (N := 4) hx hb hts hin2 tyX2 tyX2_ok nmX2 hown hK hP hD hS 0 rfl rfl 1 (by decide) (hts (.fieldLink RX2 15 "CallClusters$Row" "begins" "[J") (by decide +kernel)) (fun _ h9 => h9) rfl hin rfl (by decide +kernel) (rfl) (rfl) (Nat.le_of_ble_eq_true rfl) dX2_init_19 (fun H locs hP hD hS => ?_)
  have hP : va_P (dC, dI) vwCl [(h0, .inr (2, [.ref a_1, .ref a_2, .int 0, .long 0])), (a_1, .inl (cI, 300, .inl (fun _ => 0))), (a_2, .inl (cJ, 300, .inr (.inl (fun _ => 0))))] H := hP
  have hD : va_D A [(h0, .inr (2, [.ref a_1, .ref a_2, .int 0, .long 0])), (a_1, .inl (cI, 300, .inl (fun _ => 0))), (a_2, .inl (cJ, 300, .inr (.inl (fun _ => 0))))] := hD
  have hP9 : va_P (dC, dI) vwCl [(h0, .inr (2, [.ref a_1, .ref a_2, .int 0, .long 0])), (a_1, .inl (cI, 300, .inl (fun _ => 0))), (a_2, .inl (cJ, 300, .inr (.inl (fun _ => 0))))] H := hP
  have hD9 : va_D A [(h0, .inr (2, [.ref a_1, .ref a_2, .int 0, .long 0])), (a_1, .inl (cI, 300, .inl (fun _ => 0))), (a_2, .inl (cJ, 300, .inr (.inl (fun _ => 0))))] := hD
  refine W.widen (k := 2) (n := 600) (by omega) (by omega) ?_
  exact W.vret hx hb hr (fun t ht hW => ⟨⟨(), rfl, trivial, a_1, a_2, by rw [ht]; exact hP9, va_K.moved hW.alike hK, hD9⟩, hS.F ht⟩) hS.2.2 dX2_init_22
end
section
theorem dX0_init_0 : decode cX0_init 0 = .ok (.aload_n 0, 1) := by decide +kernel
theorem dX0_init_1 : decode cX0_init 1 = .ok (.invokespecial 3, 3) := by decide +kernel
theorem dX0_init_4 : decode cX0_init 4 = .ok (.aload_n 0, 1) := by decide +kernel
theorem dX0_init_5 : decode cX0_init 5 = .ok (.sipush 2000, 3) := by decide +kernel
theorem dX0_init_8 : decode cX0_init 8 = .ok (.newarray .int, 2) := by decide +kernel
theorem dX0_init_10 : decode cX0_init 10 = .ok (.putfield 9, 3) := by decide +kernel
theorem dX0_init_13 : decode cX0_init 13 = .ok (.aload_n 0, 1) := by decide +kernel
theorem dX0_init_14 : decode cX0_init 14 = .ok (.sipush 2000, 3) := by decide +kernel
theorem dX0_init_17 : decode cX0_init 17 = .ok (.newarray .int, 2) := by decide +kernel
theorem dX0_init_19 : decode cX0_init 19 = .ok (.putfield 15, 3) := by decide +kernel
theorem dX0_init_22 : decode cX0_init 22 = .ok (.aload_n 0, 1) := by decide +kernel
theorem dX0_init_23 : decode cX0_init 23 = .ok (.sipush 2000, 3) := by decide +kernel
theorem dX0_init_26 : decode cX0_init 26 = .ok (.newarray .long, 2) := by decide +kernel
theorem dX0_init_28 : decode cX0_init 28 = .ok (.putfield 18, 3) := by decide +kernel
theorem dX0_init_31 : decode cX0_init 31 = .ok (.aload_n 0, 1) := by decide +kernel
theorem dX0_init_32 : decode cX0_init 32 = .ok (.sipush 300, 3) := by decide +kernel
theorem dX0_init_35 : decode cX0_init 35 = .ok (.newarray .long, 2) := by decide +kernel
theorem dX0_init_37 : decode cX0_init 37 = .ok (.putfield 22, 3) := by decide +kernel
theorem dX0_init_40 : decode cX0_init 40 = .ok (.aload_n 0, 1) := by decide +kernel
theorem dX0_init_41 : decode cX0_init 41 = .ok (.sipush 300, 3) := by decide +kernel
theorem dX0_init_44 : decode cX0_init 44 = .ok (.newarray .int, 2) := by decide +kernel
theorem dX0_init_46 : decode cX0_init 46 = .ok (.putfield 25, 3) := by decide +kernel
theorem dX0_init_49 : decode cX0_init 49 = .ok (.return_, 1) := by decide +kernel
set_option maxRecDepth 20000 in
theorem ggX0_forgetAll_J7_fill_d0a16 : GoodIn wsX0_forgetAll wsJ7_fill_d0a16 := goodIn_r _ [6] (by decide +kernel) (by decide +kernel)
set_option maxRecDepth 20000 in
theorem gX0_forgetAll_J7_fill_d0a16 : GoodIn wsX0_forgetAll (va_wsS RX0 32 yJ7_fill_d0a16 wsJ7_fill_d0a16) := goodIn_app (goodIn_of _ (by decide +kernel)) ggX0_forgetAll_J7_fill_d0a16
theorem dX0_forgetAll_0 : decode cX0_forgetAll 0 = .ok (.aload_n 0, 1) := by decide +kernel
theorem dX0_forgetAll_1 : decode cX0_forgetAll 1 = .ok (.iconst 0, 1) := by decide +kernel
theorem dX0_forgetAll_2 : decode cX0_forgetAll 2 = .ok (.putfield 28, 3) := by decide +kernel
theorem dX0_forgetAll_5 : decode cX0_forgetAll 5 = .ok (.aload_n 0, 1) := by decide +kernel
theorem dX0_forgetAll_6 : decode cX0_forgetAll 6 = .ok (.getfield 22, 3) := by decide +kernel
theorem dX0_forgetAll_9 : decode cX0_forgetAll 9 = .ok (.lconst 0, 1) := by decide +kernel
theorem dX0_forgetAll_10 : decode cX0_forgetAll 10 = .ok (.invokestatic 32, 3) := by decide +kernel
theorem dX0_forgetAll_13 : decode cX0_forgetAll 13 = .ok (.return_, 1) := by decide +kernel
theorem dX0_pairFor_0 : decode cX0_pairFor 0 = .ok (.iconst 0, 1) := by decide +kernel
theorem dX0_pairFor_1 : decode cX0_pairFor 1 = .ok (.istore_n 3, 1) := by decide +kernel
theorem dX0_pairFor_2 : decode cX0_pairFor 2 = .ok (.iload_n 3, 1) := by decide +kernel
theorem dX0_pairFor_3 : decode cX0_pairFor 3 = .ok (.aload_n 0, 1) := by decide +kernel
theorem dX0_pairFor_4 : decode cX0_pairFor 4 = .ok (.getfield 28, 3) := by decide +kernel
theorem dX0_pairFor_7 : decode cX0_pairFor 7 = .ok (.if_icmp .ge 31, 3) := by decide +kernel
theorem dX0_pairFor_10 : decode cX0_pairFor 10 = .ok (.aload_n 0, 1) := by decide +kernel
theorem dX0_pairFor_11 : decode cX0_pairFor 11 = .ok (.getfield 9, 3) := by decide +kernel
theorem dX0_pairFor_14 : decode cX0_pairFor 14 = .ok (.iload_n 3, 1) := by decide +kernel
theorem dX0_pairFor_15 : decode cX0_pairFor 15 = .ok (.iaload, 1) := by decide +kernel
theorem dX0_pairFor_16 : decode cX0_pairFor 16 = .ok (.iload_n 1, 1) := by decide +kernel
theorem dX0_pairFor_17 : decode cX0_pairFor 17 = .ok (.if_icmp .ne 15, 3) := by decide +kernel
theorem dX0_pairFor_20 : decode cX0_pairFor 20 = .ok (.aload_n 0, 1) := by decide +kernel
theorem dX0_pairFor_21 : decode cX0_pairFor 21 = .ok (.getfield 15, 3) := by decide +kernel
theorem dX0_pairFor_24 : decode cX0_pairFor 24 = .ok (.iload_n 3, 1) := by decide +kernel
theorem dX0_pairFor_25 : decode cX0_pairFor 25 = .ok (.iaload, 1) := by decide +kernel
theorem dX0_pairFor_26 : decode cX0_pairFor 26 = .ok (.iload_n 2, 1) := by decide +kernel
theorem dX0_pairFor_27 : decode cX0_pairFor 27 = .ok (.if_icmp .ne 5, 3) := by decide +kernel
theorem dX0_pairFor_30 : decode cX0_pairFor 30 = .ok (.iload_n 3, 1) := by decide +kernel
theorem dX0_pairFor_31 : decode cX0_pairFor 31 = .ok (.ireturn, 1) := by decide +kernel
theorem dX0_pairFor_32 : decode cX0_pairFor 32 = .ok (.iinc 3 1, 3) := by decide +kernel
theorem dX0_pairFor_35 : decode cX0_pairFor 35 = .ok (.goto (-33), 3) := by decide +kernel
theorem dX0_pairFor_38 : decode cX0_pairFor 38 = .ok (.aload_n 0, 1) := by decide +kernel
theorem dX0_pairFor_39 : decode cX0_pairFor 39 = .ok (.getfield 28, 3) := by decide +kernel
theorem dX0_pairFor_42 : decode cX0_pairFor 42 = .ok (.sipush 2000, 3) := by decide +kernel
theorem dX0_pairFor_45 : decode cX0_pairFor 45 = .ok (.if_icmp .lt 5, 3) := by decide +kernel
theorem dX0_pairFor_48 : decode cX0_pairFor 48 = .ok (.iconst (-1), 1) := by decide +kernel
theorem dX0_pairFor_49 : decode cX0_pairFor 49 = .ok (.ireturn, 1) := by decide +kernel
theorem dX0_pairFor_50 : decode cX0_pairFor 50 = .ok (.aload_n 0, 1) := by decide +kernel
theorem dX0_pairFor_51 : decode cX0_pairFor 51 = .ok (.getfield 9, 3) := by decide +kernel
theorem dX0_pairFor_54 : decode cX0_pairFor 54 = .ok (.aload_n 0, 1) := by decide +kernel
theorem dX0_pairFor_55 : decode cX0_pairFor 55 = .ok (.getfield 28, 3) := by decide +kernel
theorem dX0_pairFor_58 : decode cX0_pairFor 58 = .ok (.iload_n 1, 1) := by decide +kernel
theorem dX0_pairFor_59 : decode cX0_pairFor 59 = .ok (.iastore, 1) := by decide +kernel
theorem dX0_pairFor_60 : decode cX0_pairFor 60 = .ok (.aload_n 0, 1) := by decide +kernel
theorem dX0_pairFor_61 : decode cX0_pairFor 61 = .ok (.getfield 15, 3) := by decide +kernel
theorem dX0_pairFor_64 : decode cX0_pairFor 64 = .ok (.aload_n 0, 1) := by decide +kernel
theorem dX0_pairFor_65 : decode cX0_pairFor 65 = .ok (.getfield 28, 3) := by decide +kernel
theorem dX0_pairFor_68 : decode cX0_pairFor 68 = .ok (.iload_n 2, 1) := by decide +kernel
theorem dX0_pairFor_69 : decode cX0_pairFor 69 = .ok (.iastore, 1) := by decide +kernel
theorem dX0_pairFor_70 : decode cX0_pairFor 70 = .ok (.aload_n 0, 1) := by decide +kernel
theorem dX0_pairFor_71 : decode cX0_pairFor 71 = .ok (.getfield 18, 3) := by decide +kernel
theorem dX0_pairFor_74 : decode cX0_pairFor 74 = .ok (.aload_n 0, 1) := by decide +kernel
theorem dX0_pairFor_75 : decode cX0_pairFor 75 = .ok (.getfield 28, 3) := by decide +kernel
theorem dX0_pairFor_78 : decode cX0_pairFor 78 = .ok (.lconst 0, 1) := by decide +kernel
theorem dX0_pairFor_79 : decode cX0_pairFor 79 = .ok (.lastore, 1) := by decide +kernel
theorem dX0_pairFor_80 : decode cX0_pairFor 80 = .ok (.aload_n 0, 1) := by decide +kernel
theorem dX0_pairFor_81 : decode cX0_pairFor 81 = .ok (.dup, 1) := by decide +kernel
theorem dX0_pairFor_82 : decode cX0_pairFor 82 = .ok (.getfield 28, 3) := by decide +kernel
theorem dX0_pairFor_85 : decode cX0_pairFor 85 = .ok (.iconst 1, 1) := by decide +kernel
theorem dX0_pairFor_86 : decode cX0_pairFor 86 = .ok (.iadd, 1) := by decide +kernel
theorem dX0_pairFor_87 : decode cX0_pairFor 87 = .ok (.putfield 28, 3) := by decide +kernel
theorem dX0_pairFor_90 : decode cX0_pairFor 90 = .ok (.aload_n 0, 1) := by decide +kernel
theorem dX0_pairFor_91 : decode cX0_pairFor 91 = .ok (.getfield 28, 3) := by decide +kernel
theorem dX0_pairFor_94 : decode cX0_pairFor 94 = .ok (.iconst 1, 1) := by decide +kernel
theorem dX0_pairFor_95 : decode cX0_pairFor 95 = .ok (.isub, 1) := by decide +kernel
theorem dX0_pairFor_96 : decode cX0_pairFor 96 = .ok (.ireturn, 1) := by decide +kernel
theorem dX0_raise_0 : decode cX0_raise 0 = .ok (.aload_n 0, 1) := by decide +kernel
theorem dX0_raise_1 : decode cX0_raise 1 = .ok (.getfield 18, 3) := by decide +kernel
theorem dX0_raise_4 : decode cX0_raise 4 = .ok (.iload_n 1, 1) := by decide +kernel
theorem dX0_raise_5 : decode cX0_raise 5 = .ok (.laload, 1) := by decide +kernel
theorem dX0_raise_6 : decode cX0_raise 6 = .ok (.iload_n 2, 1) := by decide +kernel
theorem dX0_raise_7 : decode cX0_raise 7 = .ok (.i2l, 1) := by decide +kernel
theorem dX0_raise_8 : decode cX0_raise 8 = .ok (.ladd, 1) := by decide +kernel
theorem dX0_raise_9 : decode cX0_raise 9 = .ok (.ldc2_w 38, 3) := by decide +kernel
theorem dX0_raise_12 : decode cX0_raise 12 = .ok (.invokestatic 40, 3) := by decide +kernel
theorem dX0_raise_15 : decode cX0_raise 15 = .ok (.lstore_n 3, 1) := by decide +kernel
theorem dX0_raise_16 : decode cX0_raise 16 = .ok (.aload_n 0, 1) := by decide +kernel
theorem dX0_raise_17 : decode cX0_raise 17 = .ok (.getfield 22, 3) := by decide +kernel
theorem dX0_raise_20 : decode cX0_raise 20 = .ok (.aload_n 0, 1) := by decide +kernel
theorem dX0_raise_21 : decode cX0_raise 21 = .ok (.getfield 15, 3) := by decide +kernel
theorem dX0_raise_24 : decode cX0_raise 24 = .ok (.iload_n 1, 1) := by decide +kernel
theorem dX0_raise_25 : decode cX0_raise 25 = .ok (.iaload, 1) := by decide +kernel
theorem dX0_raise_26 : decode cX0_raise 26 = .ok (.dup2, 1) := by decide +kernel
theorem dX0_raise_27 : decode cX0_raise 27 = .ok (.laload, 1) := by decide +kernel
theorem dX0_raise_28 : decode cX0_raise 28 = .ok (.lload_n 3, 1) := by decide +kernel
theorem dX0_raise_29 : decode cX0_raise 29 = .ok (.aload_n 0, 1) := by decide +kernel
theorem dX0_raise_30 : decode cX0_raise 30 = .ok (.getfield 18, 3) := by decide +kernel
theorem dX0_raise_33 : decode cX0_raise 33 = .ok (.iload_n 1, 1) := by decide +kernel
theorem dX0_raise_34 : decode cX0_raise 34 = .ok (.laload, 1) := by decide +kernel
theorem dX0_raise_35 : decode cX0_raise 35 = .ok (.lsub, 1) := by decide +kernel
theorem dX0_raise_36 : decode cX0_raise 36 = .ok (.ladd, 1) := by decide +kernel
theorem dX0_raise_37 : decode cX0_raise 37 = .ok (.lastore, 1) := by decide +kernel
theorem dX0_raise_38 : decode cX0_raise 38 = .ok (.aload_n 0, 1) := by decide +kernel
theorem dX0_raise_39 : decode cX0_raise 39 = .ok (.getfield 18, 3) := by decide +kernel
theorem dX0_raise_42 : decode cX0_raise 42 = .ok (.iload_n 1, 1) := by decide +kernel
theorem dX0_raise_43 : decode cX0_raise 43 = .ok (.lload_n 3, 1) := by decide +kernel
theorem dX0_raise_44 : decode cX0_raise 44 = .ok (.lastore, 1) := by decide +kernel
theorem dX0_raise_45 : decode cX0_raise 45 = .ok (.lload_n 3, 1) := by decide +kernel
theorem dX0_raise_46 : decode cX0_raise 46 = .ok (.lreturn, 1) := by decide +kernel
theorem dX0_heatOf_0 : decode cX0_heatOf 0 = .ok (.aload_n 0, 1) := by decide +kernel
theorem dX0_heatOf_1 : decode cX0_heatOf 1 = .ok (.getfield 22, 3) := by decide +kernel
theorem dX0_heatOf_4 : decode cX0_heatOf 4 = .ok (.iload_n 1, 1) := by decide +kernel
theorem dX0_heatOf_5 : decode cX0_heatOf 5 = .ok (.laload, 1) := by decide +kernel
theorem dX0_heatOf_6 : decode cX0_heatOf 6 = .ok (.lreturn, 1) := by decide +kernel
theorem dX0_callerOf_0 : decode cX0_callerOf 0 = .ok (.aload_n 0, 1) := by decide +kernel
theorem dX0_callerOf_1 : decode cX0_callerOf 1 = .ok (.getfield 25, 3) := by decide +kernel
theorem dX0_callerOf_4 : decode cX0_callerOf 4 = .ok (.iload_n 1, 1) := by decide +kernel
theorem dX0_callerOf_5 : decode cX0_callerOf 5 = .ok (.iaload, 1) := by decide +kernel
theorem dX0_callerOf_6 : decode cX0_callerOf 6 = .ok (.iconst (-1), 1) := by decide +kernel
theorem dX0_callerOf_7 : decode cX0_callerOf 7 = .ok (.if_icmp .ne 7, 3) := by decide +kernel
theorem dX0_callerOf_10 : decode cX0_callerOf 10 = .ok (.iconst (-1), 1) := by decide +kernel
theorem dX0_callerOf_11 : decode cX0_callerOf 11 = .ok (.goto 14, 3) := by decide +kernel
theorem dX0_callerOf_14 : decode cX0_callerOf 14 = .ok (.aload_n 0, 1) := by decide +kernel
theorem dX0_callerOf_15 : decode cX0_callerOf 15 = .ok (.getfield 9, 3) := by decide +kernel
theorem dX0_callerOf_18 : decode cX0_callerOf 18 = .ok (.aload_n 0, 1) := by decide +kernel
theorem dX0_callerOf_19 : decode cX0_callerOf 19 = .ok (.getfield 25, 3) := by decide +kernel
theorem dX0_callerOf_22 : decode cX0_callerOf 22 = .ok (.iload_n 1, 1) := by decide +kernel
theorem dX0_callerOf_23 : decode cX0_callerOf 23 = .ok (.iaload, 1) := by decide +kernel
theorem dX0_callerOf_24 : decode cX0_callerOf 24 = .ok (.iaload, 1) := by decide +kernel
theorem dX0_callerOf_25 : decode cX0_callerOf 25 = .ok (.ireturn, 1) := by decide +kernel
set_option maxRecDepth 20000 in
theorem ggX0_findCallers_J7_fill_53178 : GoodIn wsX0_findCallers wsJ7_fill_53178 := goodIn_r _ [8] (by decide +kernel) (by decide +kernel)
set_option maxRecDepth 20000 in
theorem gX0_findCallers_J7_fill_53178 : GoodIn wsX0_findCallers (va_wsS RX0 46 yJ7_fill_53178 wsJ7_fill_53178) := goodIn_app (goodIn_of _ (by decide +kernel)) ggX0_findCallers_J7_fill_53178
set_option maxRecDepth 20000 in
theorem ggX0_findCallers_X0_isStronger : GoodIn wsX0_findCallers wsX0_isStronger := goodIn_r _ [13, 14, 3, 15, 16, 17, 18, 19, 20] (by decide +kernel) (by decide +kernel)
set_option maxRecDepth 20000 in
theorem gX0_findCallers_X0_isStronger : GoodIn wsX0_findCallers (wsV RX0 49 RX0 yX0_isStronger wsX0_isStronger) := goodIn_app (goodIn_of _ (by decide +kernel)) ggX0_findCallers_X0_isStronger
theorem dX0_findCallers_0 : decode cX0_findCallers 0 = .ok (.aload_n 0, 1) := by decide +kernel
theorem dX0_findCallers_1 : decode cX0_findCallers 1 = .ok (.getfield 25, 3) := by decide +kernel
theorem dX0_findCallers_4 : decode cX0_findCallers 4 = .ok (.iconst (-1), 1) := by decide +kernel
theorem dX0_findCallers_5 : decode cX0_findCallers 5 = .ok (.invokestatic 46, 3) := by decide +kernel
theorem dX0_findCallers_8 : decode cX0_findCallers 8 = .ok (.iconst 0, 1) := by decide +kernel
theorem dX0_findCallers_9 : decode cX0_findCallers 9 = .ok (.istore_n 2, 1) := by decide +kernel
theorem dX0_findCallers_10 : decode cX0_findCallers 10 = .ok (.iload_n 2, 1) := by decide +kernel
theorem dX0_findCallers_11 : decode cX0_findCallers 11 = .ok (.aload_n 0, 1) := by decide +kernel
theorem dX0_findCallers_12 : decode cX0_findCallers 12 = .ok (.getfield 28, 3) := by decide +kernel
theorem dX0_findCallers_15 : decode cX0_findCallers 15 = .ok (.if_icmp .ge 66, 3) := by decide +kernel
theorem dX0_findCallers_18 : decode cX0_findCallers 18 = .ok (.aload_n 0, 1) := by decide +kernel
theorem dX0_findCallers_19 : decode cX0_findCallers 19 = .ok (.getfield 9, 3) := by decide +kernel
theorem dX0_findCallers_22 : decode cX0_findCallers 22 = .ok (.iload_n 2, 1) := by decide +kernel
theorem dX0_findCallers_23 : decode cX0_findCallers 23 = .ok (.iaload, 1) := by decide +kernel
theorem dX0_findCallers_24 : decode cX0_findCallers 24 = .ok (.aload_n 0, 1) := by decide +kernel
theorem dX0_findCallers_25 : decode cX0_findCallers 25 = .ok (.getfield 15, 3) := by decide +kernel
theorem dX0_findCallers_28 : decode cX0_findCallers 28 = .ok (.iload_n 2, 1) := by decide +kernel
theorem dX0_findCallers_29 : decode cX0_findCallers 29 = .ok (.iaload, 1) := by decide +kernel
theorem dX0_findCallers_30 : decode cX0_findCallers 30 = .ok (.if_icmp .eq 45, 3) := by decide +kernel
theorem dX0_findCallers_33 : decode cX0_findCallers 33 = .ok (.aload_n 1, 1) := by decide +kernel
theorem dX0_findCallers_34 : decode cX0_findCallers 34 = .ok (.aload_n 0, 1) := by decide +kernel
theorem dX0_findCallers_35 : decode cX0_findCallers 35 = .ok (.getfield 9, 3) := by decide +kernel
theorem dX0_findCallers_38 : decode cX0_findCallers 38 = .ok (.iload_n 2, 1) := by decide +kernel
theorem dX0_findCallers_39 : decode cX0_findCallers 39 = .ok (.iaload, 1) := by decide +kernel
theorem dX0_findCallers_40 : decode cX0_findCallers 40 = .ok (.iaload, 1) := by decide +kernel
theorem dX0_findCallers_41 : decode cX0_findCallers 41 = .ok (.ifCond .le 34, 3) := by decide +kernel
theorem dX0_findCallers_44 : decode cX0_findCallers 44 = .ok (.aload_n 0, 1) := by decide +kernel
theorem dX0_findCallers_45 : decode cX0_findCallers 45 = .ok (.iload_n 2, 1) := by decide +kernel
theorem dX0_findCallers_46 : decode cX0_findCallers 46 = .ok (.aload_n 0, 1) := by decide +kernel
theorem dX0_findCallers_47 : decode cX0_findCallers 47 = .ok (.getfield 25, 3) := by decide +kernel
theorem dX0_findCallers_50 : decode cX0_findCallers 50 = .ok (.aload_n 0, 1) := by decide +kernel
theorem dX0_findCallers_51 : decode cX0_findCallers 51 = .ok (.getfield 15, 3) := by decide +kernel
theorem dX0_findCallers_54 : decode cX0_findCallers 54 = .ok (.iload_n 2, 1) := by decide +kernel
theorem dX0_findCallers_55 : decode cX0_findCallers 55 = .ok (.iaload, 1) := by decide +kernel
theorem dX0_findCallers_56 : decode cX0_findCallers 56 = .ok (.iaload, 1) := by decide +kernel
theorem dX0_findCallers_57 : decode cX0_findCallers 57 = .ok (.invokevirtual 49, 3) := by decide +kernel
theorem dX0_findCallers_60 : decode cX0_findCallers 60 = .ok (.ifCond .eq 15, 3) := by decide +kernel
theorem dX0_findCallers_63 : decode cX0_findCallers 63 = .ok (.aload_n 0, 1) := by decide +kernel
theorem dX0_findCallers_64 : decode cX0_findCallers 64 = .ok (.getfield 25, 3) := by decide +kernel
theorem dX0_findCallers_67 : decode cX0_findCallers 67 = .ok (.aload_n 0, 1) := by decide +kernel
theorem dX0_findCallers_68 : decode cX0_findCallers 68 = .ok (.getfield 15, 3) := by decide +kernel
theorem dX0_findCallers_71 : decode cX0_findCallers 71 = .ok (.iload_n 2, 1) := by decide +kernel
theorem dX0_findCallers_72 : decode cX0_findCallers 72 = .ok (.iaload, 1) := by decide +kernel
theorem dX0_findCallers_73 : decode cX0_findCallers 73 = .ok (.iload_n 2, 1) := by decide +kernel
theorem dX0_findCallers_74 : decode cX0_findCallers 74 = .ok (.iastore, 1) := by decide +kernel
theorem dX0_findCallers_75 : decode cX0_findCallers 75 = .ok (.iinc 2 1, 3) := by decide +kernel
theorem dX0_findCallers_78 : decode cX0_findCallers 78 = .ok (.goto (-68), 3) := by decide +kernel
theorem dX0_findCallers_81 : decode cX0_findCallers 81 = .ok (.return_, 1) := by decide +kernel
theorem dX0_isStronger_0 : decode cX0_isStronger 0 = .ok (.iload_n 2, 1) := by decide +kernel
theorem dX0_isStronger_1 : decode cX0_isStronger 1 = .ok (.iconst (-1), 1) := by decide +kernel
theorem dX0_isStronger_2 : decode cX0_isStronger 2 = .ok (.if_icmp .eq 19, 3) := by decide +kernel
theorem dX0_isStronger_5 : decode cX0_isStronger 5 = .ok (.aload_n 0, 1) := by decide +kernel
theorem dX0_isStronger_6 : decode cX0_isStronger 6 = .ok (.getfield 18, 3) := by decide +kernel
theorem dX0_isStronger_9 : decode cX0_isStronger 9 = .ok (.iload_n 1, 1) := by decide +kernel
theorem dX0_isStronger_10 : decode cX0_isStronger 10 = .ok (.laload, 1) := by decide +kernel
theorem dX0_isStronger_11 : decode cX0_isStronger 11 = .ok (.aload_n 0, 1) := by decide +kernel
theorem dX0_isStronger_12 : decode cX0_isStronger 12 = .ok (.getfield 18, 3) := by decide +kernel
theorem dX0_isStronger_15 : decode cX0_isStronger 15 = .ok (.iload_n 2, 1) := by decide +kernel
theorem dX0_isStronger_16 : decode cX0_isStronger 16 = .ok (.laload, 1) := by decide +kernel
theorem dX0_isStronger_17 : decode cX0_isStronger 17 = .ok (.lcmp, 1) := by decide +kernel
theorem dX0_isStronger_18 : decode cX0_isStronger 18 = .ok (.ifCond .le 5, 3) := by decide +kernel
theorem dX0_isStronger_21 : decode cX0_isStronger 21 = .ok (.iconst 1, 1) := by decide +kernel
theorem dX0_isStronger_22 : decode cX0_isStronger 22 = .ok (.ireturn, 1) := by decide +kernel
theorem dX0_isStronger_23 : decode cX0_isStronger 23 = .ok (.aload_n 0, 1) := by decide +kernel
theorem dX0_isStronger_24 : decode cX0_isStronger 24 = .ok (.getfield 18, 3) := by decide +kernel
theorem dX0_isStronger_27 : decode cX0_isStronger 27 = .ok (.iload_n 1, 1) := by decide +kernel
theorem dX0_isStronger_28 : decode cX0_isStronger 28 = .ok (.laload, 1) := by decide +kernel
theorem dX0_isStronger_29 : decode cX0_isStronger 29 = .ok (.aload_n 0, 1) := by decide +kernel
theorem dX0_isStronger_30 : decode cX0_isStronger 30 = .ok (.getfield 18, 3) := by decide +kernel
theorem dX0_isStronger_33 : decode cX0_isStronger 33 = .ok (.iload_n 2, 1) := by decide +kernel
theorem dX0_isStronger_34 : decode cX0_isStronger 34 = .ok (.laload, 1) := by decide +kernel
theorem dX0_isStronger_35 : decode cX0_isStronger 35 = .ok (.lcmp, 1) := by decide +kernel
theorem dX0_isStronger_36 : decode cX0_isStronger 36 = .ok (.ifCond .ne 22, 3) := by decide +kernel
theorem dX0_isStronger_39 : decode cX0_isStronger 39 = .ok (.aload_n 0, 1) := by decide +kernel
theorem dX0_isStronger_40 : decode cX0_isStronger 40 = .ok (.getfield 9, 3) := by decide +kernel
theorem dX0_isStronger_43 : decode cX0_isStronger 43 = .ok (.iload_n 1, 1) := by decide +kernel
theorem dX0_isStronger_44 : decode cX0_isStronger 44 = .ok (.iaload, 1) := by decide +kernel
theorem dX0_isStronger_45 : decode cX0_isStronger 45 = .ok (.aload_n 0, 1) := by decide +kernel
theorem dX0_isStronger_46 : decode cX0_isStronger 46 = .ok (.getfield 9, 3) := by decide +kernel
theorem dX0_isStronger_49 : decode cX0_isStronger 49 = .ok (.iload_n 2, 1) := by decide +kernel
theorem dX0_isStronger_50 : decode cX0_isStronger 50 = .ok (.iaload, 1) := by decide +kernel
theorem dX0_isStronger_51 : decode cX0_isStronger 51 = .ok (.if_icmp .ge 7, 3) := by decide +kernel
theorem dX0_isStronger_54 : decode cX0_isStronger 54 = .ok (.iconst 1, 1) := by decide +kernel
theorem dX0_isStronger_55 : decode cX0_isStronger 55 = .ok (.goto 4, 3) := by decide +kernel
theorem dX0_isStronger_58 : decode cX0_isStronger 58 = .ok (.iconst 0, 1) := by decide +kernel
theorem dX0_isStronger_59 : decode cX0_isStronger 59 = .ok (.ireturn, 1) := by decide +kernel
set_option maxRecDepth 20000 in
theorem ggX0_costIn_X2_beginOf : GoodIn wsX0_costIn wsX2_beginOf := goodIn_r _ [14, 15, 22, 23, 24, 25] (by decide +kernel) (by decide +kernel)
set_option maxRecDepth 20000 in
theorem gX0_costIn_X2_beginOf : GoodIn wsX0_costIn (wsV RX0 53 RX2 yX2_beginOf wsX2_beginOf) := goodIn_app (goodIn_of _ (by decide +kernel)) ggX0_costIn_X2_beginOf
theorem dX0_costIn_0 : decode cX0_costIn 0 = .ok (.lconst 0, 1) := by decide +kernel
theorem dX0_costIn_1 : decode cX0_costIn 1 = .ok (.lstore_n 2, 1) := by decide +kernel
theorem dX0_costIn_2 : decode cX0_costIn 2 = .ok (.iconst 0, 1) := by decide +kernel
theorem dX0_costIn_3 : decode cX0_costIn 3 = .ok (.istore 4, 2) := by decide +kernel
theorem dX0_costIn_5 : decode cX0_costIn 5 = .ok (.iload 4, 2) := by decide +kernel
theorem dX0_costIn_7 : decode cX0_costIn 7 = .ok (.aload_n 0, 1) := by decide +kernel
theorem dX0_costIn_8 : decode cX0_costIn 8 = .ok (.getfield 28, 3) := by decide +kernel
theorem dX0_costIn_11 : decode cX0_costIn 11 = .ok (.if_icmp .ge 72, 3) := by decide +kernel
theorem dX0_costIn_14 : decode cX0_costIn 14 = .ok (.aload_n 1, 1) := by decide +kernel
theorem dX0_costIn_15 : decode cX0_costIn 15 = .ok (.aload_n 0, 1) := by decide +kernel
theorem dX0_costIn_16 : decode cX0_costIn 16 = .ok (.getfield 9, 3) := by decide +kernel
theorem dX0_costIn_19 : decode cX0_costIn 19 = .ok (.iload 4, 2) := by decide +kernel
theorem dX0_costIn_21 : decode cX0_costIn 21 = .ok (.iaload, 1) := by decide +kernel
theorem dX0_costIn_22 : decode cX0_costIn 22 = .ok (.invokevirtual 53, 3) := by decide +kernel
theorem dX0_costIn_25 : decode cX0_costIn 25 = .ok (.lstore 5, 2) := by decide +kernel
theorem dX0_costIn_27 : decode cX0_costIn 27 = .ok (.aload_n 1, 1) := by decide +kernel
theorem dX0_costIn_28 : decode cX0_costIn 28 = .ok (.aload_n 0, 1) := by decide +kernel
theorem dX0_costIn_29 : decode cX0_costIn 29 = .ok (.getfield 15, 3) := by decide +kernel
theorem dX0_costIn_32 : decode cX0_costIn 32 = .ok (.iload 4, 2) := by decide +kernel
theorem dX0_costIn_34 : decode cX0_costIn 34 = .ok (.iaload, 1) := by decide +kernel
theorem dX0_costIn_35 : decode cX0_costIn 35 = .ok (.invokevirtual 53, 3) := by decide +kernel
theorem dX0_costIn_38 : decode cX0_costIn 38 = .ok (.lstore 7, 2) := by decide +kernel
theorem dX0_costIn_40 : decode cX0_costIn 40 = .ok (.lload 5, 2) := by decide +kernel
theorem dX0_costIn_42 : decode cX0_costIn 42 = .ok (.ldc2_w 59, 3) := by decide +kernel
theorem dX0_costIn_45 : decode cX0_costIn 45 = .ok (.lcmp, 1) := by decide +kernel
theorem dX0_costIn_46 : decode cX0_costIn 46 = .ok (.ifCond .eq 31, 3) := by decide +kernel
theorem dX0_costIn_49 : decode cX0_costIn 49 = .ok (.lload 7, 2) := by decide +kernel
theorem dX0_costIn_51 : decode cX0_costIn 51 = .ok (.ldc2_w 59, 3) := by decide +kernel
theorem dX0_costIn_54 : decode cX0_costIn 54 = .ok (.lcmp, 1) := by decide +kernel
theorem dX0_costIn_55 : decode cX0_costIn 55 = .ok (.ifCond .eq 22, 3) := by decide +kernel
theorem dX0_costIn_58 : decode cX0_costIn 58 = .ok (.lload_n 2, 1) := by decide +kernel
theorem dX0_costIn_59 : decode cX0_costIn 59 = .ok (.aload_n 0, 1) := by decide +kernel
theorem dX0_costIn_60 : decode cX0_costIn 60 = .ok (.getfield 18, 3) := by decide +kernel
theorem dX0_costIn_63 : decode cX0_costIn 63 = .ok (.iload 4, 2) := by decide +kernel
theorem dX0_costIn_65 : decode cX0_costIn 65 = .ok (.laload, 1) := by decide +kernel
theorem dX0_costIn_66 : decode cX0_costIn 66 = .ok (.lload 5, 2) := by decide +kernel
theorem dX0_costIn_68 : decode cX0_costIn 68 = .ok (.lload 7, 2) := by decide +kernel
theorem dX0_costIn_70 : decode cX0_costIn 70 = .ok (.lsub, 1) := by decide +kernel
theorem dX0_costIn_71 : decode cX0_costIn 71 = .ok (.invokestatic 61, 3) := by decide +kernel
theorem dX0_costIn_74 : decode cX0_costIn 74 = .ok (.lmul, 1) := by decide +kernel
theorem dX0_costIn_75 : decode cX0_costIn 75 = .ok (.ladd, 1) := by decide +kernel
theorem dX0_costIn_76 : decode cX0_costIn 76 = .ok (.lstore_n 2, 1) := by decide +kernel
theorem dX0_costIn_77 : decode cX0_costIn 77 = .ok (.iinc 4 1, 3) := by decide +kernel
theorem dX0_costIn_80 : decode cX0_costIn 80 = .ok (.goto (-75), 3) := by decide +kernel
theorem dX0_costIn_83 : decode cX0_costIn 83 = .ok (.lload_n 2, 1) := by decide +kernel
theorem dX0_costIn_84 : decode cX0_costIn 84 = .ok (.lreturn, 1) := by decide +kernel
end
section
/-- the place of a pair among n from k on, or k + n -/
def pfind (F T : Nat → Int32) (f g : Int32) : Nat → Nat → Nat
  | 0, k => k
  | n + 1, k => if F k = f ∧ T k = g then k else pfind F T f g n (k + 1)
/-- a count that is raised -/
def capadd (x : Int64) (y : Int32) : Int64 := if (1000000000000 : Int64) < x + y.toInt64 then 1000000000000 else x + y.toInt64
/-- the caller by the strongest pair -/
def cof (S F : Nat → Int32) (k : Nat) : Int32 := if S k = -1 then -1 else F ((S k).toNatClampNeg)
def strgI (C : Nat → Int64) (F : Nat → Int32) (i : Nat) (t : Int32) : Int32 := if t = -1 then 1 else if C (t.toNatClampNeg) < C i then 1 else if C i = C (t.toNatClampNeg) then (if F i < F (t.toNatClampNeg) then 1 else 0) else 0
def fcStep (F T : Nat → Int32) (C : Nat → Int64) (z : Nat → Int32) (i : Nat) (S : Nat → Int32) : Nat → Int32 := if F i = T i then S else if z ((F i).toNatClampNeg) ≤ 0 then S else if strgI C F i (S ((T i).toNatClampNeg)) = 0 then S else upd S ((T i).toNatClampNeg) (nI i)
def fcN (F T : Nat → Int32) (C : Nat → Int64) (z : Nat → Int32) : Nat → (Nat → Int32)
  | 0 => fun _ => -1
  | k + 1 => fcStep F T C z k (fcN F T C z k)
def costT (C : Int64) (a b : Int64) (x : Int64) : Int64 := if a = -1 then x else if b = -1 then x else x + C * (if 0 < a - b then a - b else -(a - b))
def costN (F T : Nat → Int32) (C B : Nat → Int64) : Nat → Int64
  | 0 => 0
  | k + 1 => costT (C k) (B ((F k).toNatClampNeg)) (B ((T k).toNatClampNeg)) (costN F T C B k)
theorem fcN_in (F T : Nat → Int32) (C : Nat → Int64) (z : Nat → Int32) : ∀ (k j : Nat), fcN F T C z k j = -1 ∨ ∃ i, i < k ∧ fcN F T C z k j = nI i := by
  intro k
  induction k with
  | zero => intro j; exact Or.inl rfl
  | succ k ih =>
    intro j
    have h0 : fcN F T C z k j = -1 ∨ ∃ i, i < k + 1 ∧ fcN F T C z k j = nI i := by
      rcases ih j with h | ⟨i, h1, h2⟩
      · exact Or.inl h
      · exact Or.inr ⟨i, by omega, h2⟩
    show fcStep F T C z k (fcN F T C z k) j = -1 ∨ ∃ i, i < k + 1 ∧ fcStep F T C z k (fcN F T C z k) j = nI i
    unfold fcStep
    split
    · exact h0
    · split
      · exact h0
      · split
        · exact h0
        · unfold upd
          split
          · exact Or.inr ⟨k, by omega, rfl⟩
          · exact h0
theorem fcN_vin {F T : Nat → Int32} {C : Nat → Int64} {z : Nat → Int32} {k : Nat} (j : Nat) (hk : k ≤ 2000) : fcN F T C z k j = -1 ∨ vp_in (fcN F T C z k j) 2000 := by
  rcases fcN_in F T C z k j with h | ⟨i, h1, h2⟩
  · exact Or.inl h
  · exact Or.inr (by rw [h2]; exact inn (by omega) (by omega))
set_option maxHeartbeats 4000000 in
set_option maxRecDepth 100000 in
theorem ct_X0_heatOf (l : Launch) (dC : Nat → ClassId) (dI : Nat → Nat → Nat) (cI cJ cZ : ClassId) (sz : Nat) (h0 : Nat) (h1 : Nat) (h2 : Nat) (h3 : Nat) (h4 : Nat) (h5 : Nat) (F T : Nat → Int32) (C Hh : Nat → Int64) (S : Nat → Int32) (u : Nat) (k : Int32) (hk : vp_in k 300) : Met l yX0_heatOf wsX0_heatOf ({ frames := 0, cells := 0, slots := 0, locals := 0 }) (va_Pc [.ref h0, .int k] (fun U => U.heap.size = sz ∧ va_P (dC, dI) vwCl [(h0, .inr (0, [.ref h1, .ref h2, .ref h3, .ref h4, .ref h5, .int (nI u)])), (h1, .inl (cI, 2000, .inl F)), (h2, .inl (cI, 2000, .inl T)), (h3, .inl (cJ, 2000, .inr (.inl C))), (h4, .inl (cJ, 300, .inr (.inl Hh))), (h5, .inl (cI, 300, .inl S))] U.heap ∧ va_K (dC, dI) vwCl [(cI, .int), (cJ, .long), (cZ, .boolean)] U ∧ va_D (fun _ => True) [(h0, .inr (0, [.ref h1, .ref h2, .ref h3, .ref h4, .ref h5, .int (nI u)])), (h1, .inl (cI, 2000, .inl F)), (h2, .inl (cI, 2000, .inl T)), (h3, .inl (cJ, 2000, .inr (.inl C))), (h4, .inl (cJ, 300, .inr (.inl Hh))), (h5, .inl (cI, 300, .inl S))])) (va_Ql (fun (r : Int64) (uu : Unit) => r = Hh (k.toNatClampNeg)) (fun (uu : Unit) (t : State) => va_P (dC, dI) vwCl [(h0, .inr (0, [.ref h1, .ref h2, .ref h3, .ref h4, .ref h5, .int (nI u)])), (h1, .inl (cI, 2000, .inl F)), (h2, .inl (cI, 2000, .inl T)), (h3, .inl (cJ, 2000, .inr (.inl C))), (h4, .inl (cJ, 300, .inr (.inl Hh))), (h5, .inl (cI, 300, .inl S))] t.heap ∧ va_K (dC, dI) vwCl [(cI, .int), (cJ, .long), (cZ, .boolean)] t ∧ va_D (va_A [(h0, .inr (0, [.ref h1, .ref h2, .ref h3, .ref h4, .ref h5, .int (nI u)])), (h1, .inl (cI, 2000, .inl F)), (h2, .inl (cI, 2000, .inl T)), (h3, .inl (cJ, 2000, .inr (.inl C))), (h4, .inl (cJ, 300, .inr (.inl Hh))), (h5, .inl (cI, 300, .inl S))] sz) [(h0, .inr (0, [.ref h1, .ref h2, .ref h3, .ref h4, .ref h5, .int (nI u)])), (h1, .inl (cI, 2000, .inl F)), (h2, .inl (cI, 2000, .inl T)), (h3, .inl (cJ, 2000, .inr (.inl C))), (h4, .inl (cJ, 300, .inr (.inl Hh))), (h5, .inl (cI, 300, .inl S))]) (va_A [(h0, .inr (0, [.ref h1, .ref h2, .ref h3, .ref h4, .ref h5, .int (nI u)])), (h1, .inl (cI, 2000, .inl F)), (h2, .inl (cI, 2000, .inl T)), (h3, .inl (cJ, 2000, .inr (.inl C))), (h4, .inl (cJ, 300, .inr (.inl Hh))), (h5, .inl (cI, 300, .inl S))] sz)) 0 0 (va_A [(h0, .inr (0, [.ref h1, .ref h2, .ref h3, .ref h4, .ref h5, .int (nI u)])), (h1, .inl (cI, 2000, .inl F)), (h2, .inl (cI, 2000, .inl T)), (h3, .inl (cJ, 2000, .inr (.inl C))), (h4, .inl (cJ, 300, .inr (.inl Hh))), (h5, .inl (cI, 300, .inl S))] sz) := by
  refine Met.ofW (cc := cX0_heatOf) (maxL := 2) (ret := (some .long)) (by decide) rfl ?_
  intro p ev s m args below meth c s₁ Bd hml hv
  obtain ⟨rfl, hsz, hP, hK, hD0⟩ := hv
  have hx := Bd.exec
  have hb := Bd.bytes
  have hr := Bd.returns
  have hts := atoms_spec (ws := wsX0_heatOf) Bd.pre
  have hown : s.vm.findClass RX0 = some m.cls := findClass_of_methodNamed Bd.named
  have hlocks := Bd.notSynchronized
  have hin0 : ∀ w ∈ wsX00, w ∈ wsX0_heatOf := by decide +kernel
  subst hsz
  have hD := hD0.self (sz := s.heap.size)
  generalize hAe : va_A [(h0, .inr (0, [.ref h1, .ref h2, .ref h3, .ref h4, .ref h5, .int (nI u)])), (h1, .inl (cI, 2000, .inl F)), (h2, .inl (cI, 2000, .inl T)), (h3, .inl (cJ, 2000, .inr (.inl C))), (h4, .inl (cJ, 300, .inr (.inl Hh))), (h5, .inl (cI, 300, .inl S))] s.heap.size = A at hD ⊢
  have hA : ∀ q : Nat, s.heap.size ≤ q → A q := fun q h => by rw [← hAe]; exact Or.inr h
  have hS : va_S A s.heap s.heap [] := va_S.rf
  have hl := lv_entry ([.ref h0, .int k]) (n := 2) (Nat.le_of_ble_eq_true rfl)
  rw [lg_entry_eq]
  generalize (lg_sl ([.ref h0, .int k]) ++ List.replicate (2 - (lg_sl ([.ref h0, .int k])).length) Slot.unset).toArray = ls at hl ⊢
  have hl : lv_has ls 2 [(0, .ref h0), (1, .int k)] := hl
  generalize hHe : s.heap = H at hP ⊢
  have hS : va_S A s.heap H [] := hHe ▸ hS
  refine lv_aload_n hx hb dX0_heatOf_0 rfl (lv_at hl 0 rfl) ?_
  refine va_get (D := (dC, dI)) (ci := 0) (v := .ref h4) (C := RX0) (T := TX0) (N := 6) hx hb hts hin0 hown hK hP 0 rfl rfl 3 (by decide) (hts (.fieldLink RX0 22 "CallClusters$CallTable" "heats" "[J") (by decide +kernel)) (fun _ h9 => h9) rfl dX0_heatOf_1 ?_
  refine lv_iload_n hx hb dX0_heatOf_4 rfl (lv_at hl 1 rfl) ?_
  refine va_lald hx hb hK hP 4 1 rfl rfl (hk) dX0_heatOf_5 ?_
  have hP9 : va_P (dC, dI) vwCl [(h0, .inr (0, [.ref h1, .ref h2, .ref h3, .ref h4, .ref h5, .int (nI u)])), (h1, .inl (cI, 2000, .inl F)), (h2, .inl (cI, 2000, .inl T)), (h3, .inl (cJ, 2000, .inr (.inl C))), (h4, .inl (cJ, 300, .inr (.inl Hh))), (h5, .inl (cI, 300, .inl S))] H := hP
  have hD9 : va_D A [(h0, .inr (0, [.ref h1, .ref h2, .ref h3, .ref h4, .ref h5, .int (nI u)])), (h1, .inl (cI, 2000, .inl F)), (h2, .inl (cI, 2000, .inl T)), (h3, .inl (cJ, 2000, .inr (.inl C))), (h4, .inl (cJ, 300, .inr (.inl Hh))), (h5, .inl (cI, 300, .inl S))] := hD
  exact W.lret (v := Hh (k.toNatClampNeg)) hx hb hr (fun t ht hW => ⟨⟨Hh (k.toNatClampNeg), (), rfl, rfl, by rw [ht]; exact hP9, va_K.moved hW.alike hK, hD9⟩, hS.F ht⟩) hS.2.2 dX0_heatOf_6
set_option maxHeartbeats 4000000 in
set_option maxRecDepth 100000 in
theorem ct_X0_callerOf (l : Launch) (dC : Nat → ClassId) (dI : Nat → Nat → Nat) (cI cJ cZ : ClassId) (sz : Nat) (h0 : Nat) (h1 : Nat) (h2 : Nat) (h3 : Nat) (h4 : Nat) (h5 : Nat) (F T : Nat → Int32) (C Hh : Nat → Int64) (S : Nat → Int32) (u : Nat) (k : Int32) (hk : vp_in k 300) (hs : S (k.toNatClampNeg) = -1 ∨ vp_in (S (k.toNatClampNeg)) 2000) : Met l yX0_callerOf wsX0_callerOf ({ frames := 0, cells := 0, slots := 0, locals := 0 }) (va_Pc [.ref h0, .int k] (fun U => U.heap.size = sz ∧ va_P (dC, dI) vwCl [(h0, .inr (0, [.ref h1, .ref h2, .ref h3, .ref h4, .ref h5, .int (nI u)])), (h1, .inl (cI, 2000, .inl F)), (h2, .inl (cI, 2000, .inl T)), (h3, .inl (cJ, 2000, .inr (.inl C))), (h4, .inl (cJ, 300, .inr (.inl Hh))), (h5, .inl (cI, 300, .inl S))] U.heap ∧ va_K (dC, dI) vwCl [(cI, .int), (cJ, .long), (cZ, .boolean)] U ∧ va_D (fun _ => True) [(h0, .inr (0, [.ref h1, .ref h2, .ref h3, .ref h4, .ref h5, .int (nI u)])), (h1, .inl (cI, 2000, .inl F)), (h2, .inl (cI, 2000, .inl T)), (h3, .inl (cJ, 2000, .inr (.inl C))), (h4, .inl (cJ, 300, .inr (.inl Hh))), (h5, .inl (cI, 300, .inl S))])) (va_Qi (fun (r : Int32) (uu : Unit) => r = cof S F (k.toNatClampNeg)) (fun (uu : Unit) (t : State) => va_P (dC, dI) vwCl [(h0, .inr (0, [.ref h1, .ref h2, .ref h3, .ref h4, .ref h5, .int (nI u)])), (h1, .inl (cI, 2000, .inl F)), (h2, .inl (cI, 2000, .inl T)), (h3, .inl (cJ, 2000, .inr (.inl C))), (h4, .inl (cJ, 300, .inr (.inl Hh))), (h5, .inl (cI, 300, .inl S))] t.heap ∧ va_K (dC, dI) vwCl [(cI, .int), (cJ, .long), (cZ, .boolean)] t ∧ va_D (va_A [(h0, .inr (0, [.ref h1, .ref h2, .ref h3, .ref h4, .ref h5, .int (nI u)])), (h1, .inl (cI, 2000, .inl F)), (h2, .inl (cI, 2000, .inl T)), (h3, .inl (cJ, 2000, .inr (.inl C))), (h4, .inl (cJ, 300, .inr (.inl Hh))), (h5, .inl (cI, 300, .inl S))] sz) [(h0, .inr (0, [.ref h1, .ref h2, .ref h3, .ref h4, .ref h5, .int (nI u)])), (h1, .inl (cI, 2000, .inl F)), (h2, .inl (cI, 2000, .inl T)), (h3, .inl (cJ, 2000, .inr (.inl C))), (h4, .inl (cJ, 300, .inr (.inl Hh))), (h5, .inl (cI, 300, .inl S))]) (va_A [(h0, .inr (0, [.ref h1, .ref h2, .ref h3, .ref h4, .ref h5, .int (nI u)])), (h1, .inl (cI, 2000, .inl F)), (h2, .inl (cI, 2000, .inl T)), (h3, .inl (cJ, 2000, .inr (.inl C))), (h4, .inl (cJ, 300, .inr (.inl Hh))), (h5, .inl (cI, 300, .inl S))] sz)) 0 0 (va_A [(h0, .inr (0, [.ref h1, .ref h2, .ref h3, .ref h4, .ref h5, .int (nI u)])), (h1, .inl (cI, 2000, .inl F)), (h2, .inl (cI, 2000, .inl T)), (h3, .inl (cJ, 2000, .inr (.inl C))), (h4, .inl (cJ, 300, .inr (.inl Hh))), (h5, .inl (cI, 300, .inl S))] sz) := by
  refine Met.ofW (cc := cX0_callerOf) (maxL := 2) (ret := (some .int)) (by decide) rfl ?_
  intro p ev s m args below meth c s₁ Bd hml hv
  obtain ⟨rfl, hsz, hP, hK, hD0⟩ := hv
  have hx := Bd.exec
  have hb := Bd.bytes
  have hr := Bd.returns
  have hts := atoms_spec (ws := wsX0_callerOf) Bd.pre
  have hown : s.vm.findClass RX0 = some m.cls := findClass_of_methodNamed Bd.named
  have hlocks := Bd.notSynchronized
  have hin0 : ∀ w ∈ wsX00, w ∈ wsX0_callerOf := by decide +kernel
  subst hsz
  have hD := hD0.self (sz := s.heap.size)
  generalize hAe : va_A [(h0, .inr (0, [.ref h1, .ref h2, .ref h3, .ref h4, .ref h5, .int (nI u)])), (h1, .inl (cI, 2000, .inl F)), (h2, .inl (cI, 2000, .inl T)), (h3, .inl (cJ, 2000, .inr (.inl C))), (h4, .inl (cJ, 300, .inr (.inl Hh))), (h5, .inl (cI, 300, .inl S))] s.heap.size = A at hD ⊢
  have hA : ∀ q : Nat, s.heap.size ≤ q → A q := fun q h => by rw [← hAe]; exact Or.inr h
  have hS : va_S A s.heap s.heap [] := va_S.rf
  have hl := lv_entry ([.ref h0, .int k]) (n := 2) (Nat.le_of_ble_eq_true rfl)
  rw [lg_entry_eq]
  generalize (lg_sl ([.ref h0, .int k]) ++ List.replicate (2 - (lg_sl ([.ref h0, .int k])).length) Slot.unset).toArray = ls at hl ⊢
  have hl : lv_has ls 2 [(0, .ref h0), (1, .int k)] := hl
  generalize hHe : s.heap = H at hP ⊢
  have hS : va_S A s.heap H [] := hHe ▸ hS
  refine lv_aload_n hx hb dX0_callerOf_0 rfl (lv_at hl 0 rfl) ?_
  refine va_get (D := (dC, dI)) (ci := 0) (v := .ref h5) (C := RX0) (T := TX0) (N := 6) hx hb hts hin0 hown hK hP 0 rfl rfl 4 (by decide) (hts (.fieldLink RX0 25 "CallClusters$CallTable" "strongest" "[I") (by decide +kernel)) (fun _ h9 => h9) rfl dX0_callerOf_1 ?_
  refine lv_iload_n hx hb dX0_callerOf_4 rfl (lv_at hl 1 rfl) ?_
  refine va_iald hx hb hK hP 5 0 rfl rfl (hk) dX0_callerOf_5 ?_
  refine lv_iconst (v := (-1)) hx hb dX0_callerOf_6 (by decide) ?_
  refine lv_icmp_ne (tgt := 14) hx hb dX0_callerOf_7 (by decide) (fun c_1 => ?_) (fun c_1 => ?_)
  · -- pc 7, side 0
    refine lv_aload_n hx hb dX0_callerOf_14 rfl (lv_at hl 0 rfl) ?_
    refine va_get (D := (dC, dI)) (ci := 0) (v := .ref h1) (C := RX0) (T := TX0) (N := 6) hx hb hts hin0 hown hK hP 0 rfl rfl 0 (by decide) (hts (.fieldLink RX0 9 "CallClusters$CallTable" "from" "[I") (by decide +kernel)) (fun _ h9 => h9) rfl dX0_callerOf_15 ?_
    refine lv_aload_n hx hb dX0_callerOf_18 rfl (lv_at hl 0 rfl) ?_
    refine va_get (D := (dC, dI)) (ci := 0) (v := .ref h5) (C := RX0) (T := TX0) (N := 6) hx hb hts hin0 hown hK hP 0 rfl rfl 4 (by decide) (hts (.fieldLink RX0 25 "CallClusters$CallTable" "strongest" "[I") (by decide +kernel)) (fun _ h9 => h9) rfl dX0_callerOf_19 ?_
    refine lv_iload_n hx hb dX0_callerOf_22 rfl (lv_at hl 1 rfl) ?_
    refine va_iald hx hb hK hP 5 0 rfl rfl (hk) dX0_callerOf_23 ?_
    refine va_iald hx hb hK hP 1 0 rfl rfl (hs.resolve_left c_1) dX0_callerOf_24 ?_
    have hP9 : va_P (dC, dI) vwCl [(h0, .inr (0, [.ref h1, .ref h2, .ref h3, .ref h4, .ref h5, .int (nI u)])), (h1, .inl (cI, 2000, .inl F)), (h2, .inl (cI, 2000, .inl T)), (h3, .inl (cJ, 2000, .inr (.inl C))), (h4, .inl (cJ, 300, .inr (.inl Hh))), (h5, .inl (cI, 300, .inl S))] H := hP
    have hD9 : va_D A [(h0, .inr (0, [.ref h1, .ref h2, .ref h3, .ref h4, .ref h5, .int (nI u)])), (h1, .inl (cI, 2000, .inl F)), (h2, .inl (cI, 2000, .inl T)), (h3, .inl (cJ, 2000, .inr (.inl C))), (h4, .inl (cJ, 300, .inr (.inl Hh))), (h5, .inl (cI, 300, .inl S))] := hD
    exact W.iret (v := F ((S (k.toNatClampNeg)).toNatClampNeg)) hx hb hr (fun t ht hW => ⟨⟨F ((S (k.toNatClampNeg)).toNatClampNeg), (), rfl, by simp [cof, c_1], by rw [ht]; exact hP9, va_K.moved hW.alike hK, hD9⟩, hS.F ht⟩) hS.2.2 dX0_callerOf_25
  · -- pc 7, side 1
    refine lv_iconst (v := (-1)) hx hb dX0_callerOf_10 (by decide) ?_
    refine lv_goto (tgt := 25) hx hb dX0_callerOf_11 (by decide) ?_
    have hP9 : va_P (dC, dI) vwCl [(h0, .inr (0, [.ref h1, .ref h2, .ref h3, .ref h4, .ref h5, .int (nI u)])), (h1, .inl (cI, 2000, .inl F)), (h2, .inl (cI, 2000, .inl T)), (h3, .inl (cJ, 2000, .inr (.inl C))), (h4, .inl (cJ, 300, .inr (.inl Hh))), (h5, .inl (cI, 300, .inl S))] H := hP
    have hD9 : va_D A [(h0, .inr (0, [.ref h1, .ref h2, .ref h3, .ref h4, .ref h5, .int (nI u)])), (h1, .inl (cI, 2000, .inl F)), (h2, .inl (cI, 2000, .inl T)), (h3, .inl (cJ, 2000, .inr (.inl C))), (h4, .inl (cJ, 300, .inr (.inl Hh))), (h5, .inl (cI, 300, .inl S))] := hD
    exact W.iret (v := (-1)) hx hb hr (fun t ht hW => ⟨⟨(-1), (), rfl, by simp [cof, c_1], by rw [ht]; exact hP9, va_K.moved hW.alike hK, hD9⟩, hS.F ht⟩) hS.2.2 dX0_callerOf_25
set_option maxHeartbeats 4000000 in
set_option maxRecDepth 100000 in
theorem ct_X0_isStronger (l : Launch) (dC : Nat → ClassId) (dI : Nat → Nat → Nat) (cI cJ cZ : ClassId) (sz : Nat) (h0 : Nat) (h1 : Nat) (h2 : Nat) (h3 : Nat) (h4 : Nat) (h5 : Nat) (F T : Nat → Int32) (C Hh : Nat → Int64) (S : Nat → Int32) (u : Nat) (i : Nat) (t0 : Int32) (hi : i < 2000) (ht0 : t0 = -1 ∨ vp_in t0 2000) : Met l yX0_isStronger wsX0_isStronger ({ frames := 0, cells := 0, slots := 0, locals := 0 }) (va_Pc [.ref h0, .int (nI i), .int t0] (fun U => U.heap.size = sz ∧ va_P (dC, dI) vwCl [(h0, .inr (0, [.ref h1, .ref h2, .ref h3, .ref h4, .ref h5, .int (nI u)])), (h1, .inl (cI, 2000, .inl F)), (h2, .inl (cI, 2000, .inl T)), (h3, .inl (cJ, 2000, .inr (.inl C))), (h4, .inl (cJ, 300, .inr (.inl Hh))), (h5, .inl (cI, 300, .inl S))] U.heap ∧ va_K (dC, dI) vwCl [(cI, .int), (cJ, .long), (cZ, .boolean)] U ∧ va_D (fun _ => True) [(h0, .inr (0, [.ref h1, .ref h2, .ref h3, .ref h4, .ref h5, .int (nI u)])), (h1, .inl (cI, 2000, .inl F)), (h2, .inl (cI, 2000, .inl T)), (h3, .inl (cJ, 2000, .inr (.inl C))), (h4, .inl (cJ, 300, .inr (.inl Hh))), (h5, .inl (cI, 300, .inl S))])) (va_Qi (fun (r : Int32) (uu : Unit) => r = strgI C F i t0) (fun (uu : Unit) (t : State) => va_P (dC, dI) vwCl [(h0, .inr (0, [.ref h1, .ref h2, .ref h3, .ref h4, .ref h5, .int (nI u)])), (h1, .inl (cI, 2000, .inl F)), (h2, .inl (cI, 2000, .inl T)), (h3, .inl (cJ, 2000, .inr (.inl C))), (h4, .inl (cJ, 300, .inr (.inl Hh))), (h5, .inl (cI, 300, .inl S))] t.heap ∧ va_K (dC, dI) vwCl [(cI, .int), (cJ, .long), (cZ, .boolean)] t ∧ va_D (va_A [(h0, .inr (0, [.ref h1, .ref h2, .ref h3, .ref h4, .ref h5, .int (nI u)])), (h1, .inl (cI, 2000, .inl F)), (h2, .inl (cI, 2000, .inl T)), (h3, .inl (cJ, 2000, .inr (.inl C))), (h4, .inl (cJ, 300, .inr (.inl Hh))), (h5, .inl (cI, 300, .inl S))] sz) [(h0, .inr (0, [.ref h1, .ref h2, .ref h3, .ref h4, .ref h5, .int (nI u)])), (h1, .inl (cI, 2000, .inl F)), (h2, .inl (cI, 2000, .inl T)), (h3, .inl (cJ, 2000, .inr (.inl C))), (h4, .inl (cJ, 300, .inr (.inl Hh))), (h5, .inl (cI, 300, .inl S))]) (va_A [(h0, .inr (0, [.ref h1, .ref h2, .ref h3, .ref h4, .ref h5, .int (nI u)])), (h1, .inl (cI, 2000, .inl F)), (h2, .inl (cI, 2000, .inl T)), (h3, .inl (cJ, 2000, .inr (.inl C))), (h4, .inl (cJ, 300, .inr (.inl Hh))), (h5, .inl (cI, 300, .inl S))] sz)) 0 0 (va_A [(h0, .inr (0, [.ref h1, .ref h2, .ref h3, .ref h4, .ref h5, .int (nI u)])), (h1, .inl (cI, 2000, .inl F)), (h2, .inl (cI, 2000, .inl T)), (h3, .inl (cJ, 2000, .inr (.inl C))), (h4, .inl (cJ, 300, .inr (.inl Hh))), (h5, .inl (cI, 300, .inl S))] sz) := by
  refine Met.ofW (cc := cX0_isStronger) (maxL := 3) (ret := (some .boolean)) (by decide) rfl ?_
  intro p ev s m args below meth c s₁ Bd hml hv
  obtain ⟨rfl, hsz, hP, hK, hD0⟩ := hv
  have hx := Bd.exec
  have hb := Bd.bytes
  have hr := Bd.returns
  have hts := atoms_spec (ws := wsX0_isStronger) Bd.pre
  have hown : s.vm.findClass RX0 = some m.cls := findClass_of_methodNamed Bd.named
  have hlocks := Bd.notSynchronized
  have hin0 : ∀ w ∈ wsX00, w ∈ wsX0_isStronger := by decide +kernel
  subst hsz
  have hD := hD0.self (sz := s.heap.size)
  generalize hAe : va_A [(h0, .inr (0, [.ref h1, .ref h2, .ref h3, .ref h4, .ref h5, .int (nI u)])), (h1, .inl (cI, 2000, .inl F)), (h2, .inl (cI, 2000, .inl T)), (h3, .inl (cJ, 2000, .inr (.inl C))), (h4, .inl (cJ, 300, .inr (.inl Hh))), (h5, .inl (cI, 300, .inl S))] s.heap.size = A at hD ⊢
  have hA : ∀ q : Nat, s.heap.size ≤ q → A q := fun q h => by rw [← hAe]; exact Or.inr h
  have hS : va_S A s.heap s.heap [] := va_S.rf
  have hl := lv_entry ([.ref h0, .int (nI i), .int t0]) (n := 3) (Nat.le_of_ble_eq_true rfl)
  rw [lg_entry_eq]
  generalize (lg_sl ([.ref h0, .int (nI i), .int t0]) ++ List.replicate (3 - (lg_sl ([.ref h0, .int (nI i), .int t0])).length) Slot.unset).toArray = ls at hl ⊢
  have hl : lv_has ls 3 [(0, .ref h0), (1, .int (nI i)), (2, .int t0)] := hl
  generalize hHe : s.heap = H at hP ⊢
  have hS : va_S A s.heap H [] := hHe ▸ hS
  refine lv_iload_n hx hb dX0_isStronger_0 rfl (lv_at hl 2 rfl) ?_
  refine lv_iconst (v := (-1)) hx hb dX0_isStronger_1 (by decide) ?_
  refine lv_icmp_eq (tgt := 21) hx hb dX0_isStronger_2 (by decide) (fun c_1 => ?_) (fun c_1 => ?_)
  · -- pc 2, side 0
    refine lv_iconst (v := 1) hx hb dX0_isStronger_21 (by decide) ?_
    have hP9 : va_P (dC, dI) vwCl [(h0, .inr (0, [.ref h1, .ref h2, .ref h3, .ref h4, .ref h5, .int (nI u)])), (h1, .inl (cI, 2000, .inl F)), (h2, .inl (cI, 2000, .inl T)), (h3, .inl (cJ, 2000, .inr (.inl C))), (h4, .inl (cJ, 300, .inr (.inl Hh))), (h5, .inl (cI, 300, .inl S))] H := hP
    have hD9 : va_D A [(h0, .inr (0, [.ref h1, .ref h2, .ref h3, .ref h4, .ref h5, .int (nI u)])), (h1, .inl (cI, 2000, .inl F)), (h2, .inl (cI, 2000, .inl T)), (h3, .inl (cJ, 2000, .inr (.inl C))), (h4, .inl (cJ, 300, .inr (.inl Hh))), (h5, .inl (cI, 300, .inl S))] := hD
    exact W.zret (v := 1) hx hb hr (by decide) (fun t ht hW => ⟨⟨1, (), rfl, by simp [strgI, c_1], by rw [ht]; exact hP9, va_K.moved hW.alike hK, hD9⟩, hS.F ht⟩) hS.2.2 dX0_isStronger_22
  · -- pc 2, side 1
    refine lv_aload_n hx hb dX0_isStronger_5 rfl (lv_at hl 0 rfl) ?_
    refine va_get (D := (dC, dI)) (ci := 0) (v := .ref h3) (C := RX0) (T := TX0) (N := 6) hx hb hts hin0 hown hK hP 0 rfl rfl 2 (by decide) (hts (.fieldLink RX0 18 "CallClusters$CallTable" "counts" "[J") (by decide +kernel)) (fun _ h9 => h9) rfl dX0_isStronger_6 ?_
    refine lv_iload_n hx hb dX0_isStronger_9 rfl (lv_at hl 1 rfl) ?_
    refine va_lald hx hb hK hP 3 1 rfl rfl (inn hi (by omega)) dX0_isStronger_10 ?_
    refine tp_l (y := C i) (by rw [ix_n (by omega)]) ?_
    refine lv_aload_n hx hb dX0_isStronger_11 rfl (lv_at hl 0 rfl) ?_
    refine va_get (D := (dC, dI)) (ci := 0) (v := .ref h3) (C := RX0) (T := TX0) (N := 6) hx hb hts hin0 hown hK hP 0 rfl rfl 2 (by decide) (hts (.fieldLink RX0 18 "CallClusters$CallTable" "counts" "[J") (by decide +kernel)) (fun _ h9 => h9) rfl dX0_isStronger_12 ?_
    refine lv_iload_n hx hb dX0_isStronger_15 rfl (lv_at hl 2 rfl) ?_
    refine va_lald hx hb hK hP 3 1 rfl rfl (ht0.resolve_left c_1) dX0_isStronger_16 ?_
    refine W.lcmp hx hb dX0_isStronger_17 ?_
    refine lv_if_le (tgt := 23) hx hb dX0_isStronger_18 (by decide) (fun c_2 => ?_) (fun c_2 => ?_)
    · -- pc 18, side 0
      rw [lg_cmp_le] at c_2
      refine lv_aload_n hx hb dX0_isStronger_23 rfl (lv_at hl 0 rfl) ?_
      refine va_get (D := (dC, dI)) (ci := 0) (v := .ref h3) (C := RX0) (T := TX0) (N := 6) hx hb hts hin0 hown hK hP 0 rfl rfl 2 (by decide) (hts (.fieldLink RX0 18 "CallClusters$CallTable" "counts" "[J") (by decide +kernel)) (fun _ h9 => h9) rfl dX0_isStronger_24 ?_
      refine lv_iload_n hx hb dX0_isStronger_27 rfl (lv_at hl 1 rfl) ?_
      refine va_lald hx hb hK hP 3 1 rfl rfl (inn hi (by omega)) dX0_isStronger_28 ?_
      refine tp_l (y := C i) (by rw [ix_n (by omega)]) ?_
      refine lv_aload_n hx hb dX0_isStronger_29 rfl (lv_at hl 0 rfl) ?_
      refine va_get (D := (dC, dI)) (ci := 0) (v := .ref h3) (C := RX0) (T := TX0) (N := 6) hx hb hts hin0 hown hK hP 0 rfl rfl 2 (by decide) (hts (.fieldLink RX0 18 "CallClusters$CallTable" "counts" "[J") (by decide +kernel)) (fun _ h9 => h9) rfl dX0_isStronger_30 ?_
      refine lv_iload_n hx hb dX0_isStronger_33 rfl (lv_at hl 2 rfl) ?_
      refine va_lald hx hb hK hP 3 1 rfl rfl (ht0.resolve_left c_1) dX0_isStronger_34 ?_
      refine W.lcmp hx hb dX0_isStronger_35 ?_
      refine lv_if_ne (tgt := 58) hx hb dX0_isStronger_36 (by decide) (fun c_3 => ?_) (fun c_3 => ?_)
      · -- pc 36, side 0
        rw [lg_cmp_eq] at c_3
        refine lv_iconst (v := 0) hx hb dX0_isStronger_58 (by decide) ?_
        have hP9 : va_P (dC, dI) vwCl [(h0, .inr (0, [.ref h1, .ref h2, .ref h3, .ref h4, .ref h5, .int (nI u)])), (h1, .inl (cI, 2000, .inl F)), (h2, .inl (cI, 2000, .inl T)), (h3, .inl (cJ, 2000, .inr (.inl C))), (h4, .inl (cJ, 300, .inr (.inl Hh))), (h5, .inl (cI, 300, .inl S))] H := hP
        have hD9 : va_D A [(h0, .inr (0, [.ref h1, .ref h2, .ref h3, .ref h4, .ref h5, .int (nI u)])), (h1, .inl (cI, 2000, .inl F)), (h2, .inl (cI, 2000, .inl T)), (h3, .inl (cJ, 2000, .inr (.inl C))), (h4, .inl (cJ, 300, .inr (.inl Hh))), (h5, .inl (cI, 300, .inl S))] := hD
        exact W.zret (v := 0) hx hb hr (by decide) (fun t ht hW => ⟨⟨0, (), rfl, by simp [strgI, c_1, c_2, c_3], by rw [ht]; exact hP9, va_K.moved hW.alike hK, hD9⟩, hS.F ht⟩) hS.2.2 dX0_isStronger_59
      · -- pc 36, side 1
        rw [lg_cmp_eq] at c_3
        refine lv_aload_n hx hb dX0_isStronger_39 rfl (lv_at hl 0 rfl) ?_
        refine va_get (D := (dC, dI)) (ci := 0) (v := .ref h1) (C := RX0) (T := TX0) (N := 6) hx hb hts hin0 hown hK hP 0 rfl rfl 0 (by decide) (hts (.fieldLink RX0 9 "CallClusters$CallTable" "from" "[I") (by decide +kernel)) (fun _ h9 => h9) rfl dX0_isStronger_40 ?_
        refine lv_iload_n hx hb dX0_isStronger_43 rfl (lv_at hl 1 rfl) ?_
        refine va_iald hx hb hK hP 1 0 rfl rfl (inn hi (by omega)) dX0_isStronger_44 ?_
        refine tp_i (y := F i) (by rw [ix_n (by omega)]) ?_
        refine lv_aload_n hx hb dX0_isStronger_45 rfl (lv_at hl 0 rfl) ?_
        refine va_get (D := (dC, dI)) (ci := 0) (v := .ref h1) (C := RX0) (T := TX0) (N := 6) hx hb hts hin0 hown hK hP 0 rfl rfl 0 (by decide) (hts (.fieldLink RX0 9 "CallClusters$CallTable" "from" "[I") (by decide +kernel)) (fun _ h9 => h9) rfl dX0_isStronger_46 ?_
        refine lv_iload_n hx hb dX0_isStronger_49 rfl (lv_at hl 2 rfl) ?_
        refine va_iald hx hb hK hP 1 0 rfl rfl (ht0.resolve_left c_1) dX0_isStronger_50 ?_
        refine lv_icmp_ge (tgt := 58) hx hb dX0_isStronger_51 (by decide) (fun c_4 => ?_) (fun c_4 => ?_)
        · -- pc 51, side 0
          refine lv_iconst (v := 0) hx hb dX0_isStronger_58 (by decide) ?_
          have hP9 : va_P (dC, dI) vwCl [(h0, .inr (0, [.ref h1, .ref h2, .ref h3, .ref h4, .ref h5, .int (nI u)])), (h1, .inl (cI, 2000, .inl F)), (h2, .inl (cI, 2000, .inl T)), (h3, .inl (cJ, 2000, .inr (.inl C))), (h4, .inl (cJ, 300, .inr (.inl Hh))), (h5, .inl (cI, 300, .inl S))] H := hP
          have hD9 : va_D A [(h0, .inr (0, [.ref h1, .ref h2, .ref h3, .ref h4, .ref h5, .int (nI u)])), (h1, .inl (cI, 2000, .inl F)), (h2, .inl (cI, 2000, .inl T)), (h3, .inl (cJ, 2000, .inr (.inl C))), (h4, .inl (cJ, 300, .inr (.inl Hh))), (h5, .inl (cI, 300, .inl S))] := hD
          exact W.zret (v := 0) hx hb hr (by decide) (fun t ht hW => ⟨⟨0, (), rfl, by simp [strgI, c_1, c_2, c_3, c_4], by rw [ht]; exact hP9, va_K.moved hW.alike hK, hD9⟩, hS.F ht⟩) hS.2.2 dX0_isStronger_59
        · -- pc 51, side 1
          refine lv_iconst (v := 1) hx hb dX0_isStronger_54 (by decide) ?_
          refine lv_goto (tgt := 59) hx hb dX0_isStronger_55 (by decide) ?_
          have hP9 : va_P (dC, dI) vwCl [(h0, .inr (0, [.ref h1, .ref h2, .ref h3, .ref h4, .ref h5, .int (nI u)])), (h1, .inl (cI, 2000, .inl F)), (h2, .inl (cI, 2000, .inl T)), (h3, .inl (cJ, 2000, .inr (.inl C))), (h4, .inl (cJ, 300, .inr (.inl Hh))), (h5, .inl (cI, 300, .inl S))] H := hP
          have hD9 : va_D A [(h0, .inr (0, [.ref h1, .ref h2, .ref h3, .ref h4, .ref h5, .int (nI u)])), (h1, .inl (cI, 2000, .inl F)), (h2, .inl (cI, 2000, .inl T)), (h3, .inl (cJ, 2000, .inr (.inl C))), (h4, .inl (cJ, 300, .inr (.inl Hh))), (h5, .inl (cI, 300, .inl S))] := hD
          exact W.zret (v := 1) hx hb hr (by decide) (fun t ht hW => ⟨⟨1, (), rfl, by simp [strgI, c_1, c_2, c_3, c_4], by rw [ht]; exact hP9, va_K.moved hW.alike hK, hD9⟩, hS.F ht⟩) hS.2.2 dX0_isStronger_59
    · -- pc 18, side 1
      rw [lg_cmp_le] at c_2
      refine lv_iconst (v := 1) hx hb dX0_isStronger_21 (by decide) ?_
      have hP9 : va_P (dC, dI) vwCl [(h0, .inr (0, [.ref h1, .ref h2, .ref h3, .ref h4, .ref h5, .int (nI u)])), (h1, .inl (cI, 2000, .inl F)), (h2, .inl (cI, 2000, .inl T)), (h3, .inl (cJ, 2000, .inr (.inl C))), (h4, .inl (cJ, 300, .inr (.inl Hh))), (h5, .inl (cI, 300, .inl S))] H := hP
      have hD9 : va_D A [(h0, .inr (0, [.ref h1, .ref h2, .ref h3, .ref h4, .ref h5, .int (nI u)])), (h1, .inl (cI, 2000, .inl F)), (h2, .inl (cI, 2000, .inl T)), (h3, .inl (cJ, 2000, .inr (.inl C))), (h4, .inl (cJ, 300, .inr (.inl Hh))), (h5, .inl (cI, 300, .inl S))] := hD
      exact W.zret (v := 1) hx hb hr (by decide) (fun t ht hW => ⟨⟨1, (), rfl, by simp [strgI, c_1, c_2], by rw [ht]; exact hP9, va_K.moved hW.alike hK, hD9⟩, hS.F ht⟩) hS.2.2 dX0_isStronger_22
set_option maxHeartbeats 4000000 in
set_option maxRecDepth 100000 in
theorem ct_X0_forgetAll (l : Launch) (dC : Nat → ClassId) (dI : Nat → Nat → Nat) (cI cJ cZ : ClassId) (sz : Nat) (h0 : Nat) (h1 : Nat) (h2 : Nat) (h3 : Nat) (h4 : Nat) (h5 : Nat) (F T : Nat → Int32) (C Hh : Nat → Int64) (S : Nat → Int32) (u : Nat)  : Met l yX0_forgetAll wsX0_forgetAll ({ frames := 1, cells := 0, slots := 0, locals := 24 }) (va_Pc [.ref h0] (fun U => U.heap.size = sz ∧ va_P (dC, dI) vwCl [(h0, .inr (0, [.ref h1, .ref h2, .ref h3, .ref h4, .ref h5, .int (nI u)])), (h1, .inl (cI, 2000, .inl F)), (h2, .inl (cI, 2000, .inl T)), (h3, .inl (cJ, 2000, .inr (.inl C))), (h4, .inl (cJ, 300, .inr (.inl Hh))), (h5, .inl (cI, 300, .inl S))] U.heap ∧ va_K (dC, dI) vwCl [(cI, .int), (cJ, .long), (cZ, .boolean)] U ∧ va_D (fun _ => True) [(h0, .inr (0, [.ref h1, .ref h2, .ref h3, .ref h4, .ref h5, .int (nI u)])), (h1, .inl (cI, 2000, .inl F)), (h2, .inl (cI, 2000, .inl T)), (h3, .inl (cJ, 2000, .inr (.inl C))), (h4, .inl (cJ, 300, .inr (.inl Hh))), (h5, .inl (cI, 300, .inl S))])) (va_Qv (fun (uu : Unit) => True) (fun (uu : Unit) (t : State) => va_P (dC, dI) vwCl [(h0, .inr (0, [.ref h1, .ref h2, .ref h3, .ref h4, .ref h5, .int 0])), (h1, .inl (cI, 2000, .inl F)), (h2, .inl (cI, 2000, .inl T)), (h3, .inl (cJ, 2000, .inr (.inl C))), (h4, .inl (cJ, 300, .inr (.inl (mix 300 (fun _ => 0) Hh)))), (h5, .inl (cI, 300, .inl S))] t.heap ∧ va_K (dC, dI) vwCl [(cI, .int), (cJ, .long), (cZ, .boolean)] t ∧ va_D (va_A [(h0, .inr (0, [.ref h1, .ref h2, .ref h3, .ref h4, .ref h5, .int (nI u)])), (h1, .inl (cI, 2000, .inl F)), (h2, .inl (cI, 2000, .inl T)), (h3, .inl (cJ, 2000, .inr (.inl C))), (h4, .inl (cJ, 300, .inr (.inl Hh))), (h5, .inl (cI, 300, .inl S))] sz) [(h0, .inr (0, [.ref h1, .ref h2, .ref h3, .ref h4, .ref h5, .int 0])), (h1, .inl (cI, 2000, .inl F)), (h2, .inl (cI, 2000, .inl T)), (h3, .inl (cJ, 2000, .inr (.inl C))), (h4, .inl (cJ, 300, .inr (.inl (mix 300 (fun _ => 0) Hh)))), (h5, .inl (cI, 300, .inl S))]) (va_A [(h0, .inr (0, [.ref h1, .ref h2, .ref h3, .ref h4, .ref h5, .int (nI u)])), (h1, .inl (cI, 2000, .inl F)), (h2, .inl (cI, 2000, .inl T)), (h3, .inl (cJ, 2000, .inr (.inl C))), (h4, .inl (cJ, 300, .inr (.inl Hh))), (h5, .inl (cI, 300, .inl S))] sz)) 0 0 (va_A [(h0, .inr (0, [.ref h1, .ref h2, .ref h3, .ref h4, .ref h5, .int (nI u)])), (h1, .inl (cI, 2000, .inl F)), (h2, .inl (cI, 2000, .inl T)), (h3, .inl (cJ, 2000, .inr (.inl C))), (h4, .inl (cJ, 300, .inr (.inl Hh))), (h5, .inl (cI, 300, .inl S))] sz) := by
  refine Met.ofW (cc := cX0_forgetAll) (maxL := 1) (ret := none) (by decide) rfl ?_
  intro p ev s m args below meth c s₁ Bd hml hv
  obtain ⟨rfl, hsz, hP, hK, hD0⟩ := hv
  have hx := Bd.exec
  have hb := Bd.bytes
  have hr := Bd.returns
  have hts := atoms_spec (ws := wsX0_forgetAll) Bd.pre
  have hown : s.vm.findClass RX0 = some m.cls := findClass_of_methodNamed Bd.named
  have hlocks := Bd.notSynchronized
  have hin0 : ∀ w ∈ wsX00, w ∈ wsX0_forgetAll := by decide +kernel
  subst hsz
  have hD := hD0.self (sz := s.heap.size)
  generalize hAe : va_A [(h0, .inr (0, [.ref h1, .ref h2, .ref h3, .ref h4, .ref h5, .int (nI u)])), (h1, .inl (cI, 2000, .inl F)), (h2, .inl (cI, 2000, .inl T)), (h3, .inl (cJ, 2000, .inr (.inl C))), (h4, .inl (cJ, 300, .inr (.inl Hh))), (h5, .inl (cI, 300, .inl S))] s.heap.size = A at hD ⊢
  have hA : ∀ q : Nat, s.heap.size ≤ q → A q := fun q h => by rw [← hAe]; exact Or.inr h
  have hS : va_S A s.heap s.heap [] := va_S.rf
  have hl := lv_entry ([.ref h0]) (n := 1) (Nat.le_of_ble_eq_true rfl)
  rw [lg_entry_eq]
  generalize (lg_sl ([.ref h0]) ++ List.replicate (1 - (lg_sl ([.ref h0])).length) Slot.unset).toArray = ls at hl ⊢
  have hl : lv_has ls 1 [(0, .ref h0)] := hl
  generalize hHe : s.heap = H at hP ⊢
  have hS : va_S A s.heap H [] := hHe ▸ hS
  refine lv_aload_n hx hb dX0_forgetAll_0 rfl (lv_at hl 0 rfl) ?_
  refine lv_iconst (v := 0) hx hb dX0_forgetAll_1 (by decide) ?_
  refine va_put (D := (dC, dI)) (ci := 0) (v := .int 0) (ty := .int) (C := RX0) (T := TX0) (N := 6) hx hb hts hin0 tyX0 tyX0_ok nmX0 hown hK hP hD hS 0 rfl rfl 5 (by decide) (hts (.fieldLink RX0 28 "CallClusters$CallTable" "used" "I") (by decide +kernel)) (fun _ h9 => h9) rfl (by decide +kernel) (rfl) (rfl) (Nat.le_of_ble_eq_true rfl) dX0_forgetAll_2 (fun H locs hP hD hS => ?_)
  have hP : va_P (dC, dI) vwCl [(h0, .inr (0, [.ref h1, .ref h2, .ref h3, .ref h4, .ref h5, .int 0])), (h1, .inl (cI, 2000, .inl F)), (h2, .inl (cI, 2000, .inl T)), (h3, .inl (cJ, 2000, .inr (.inl C))), (h4, .inl (cJ, 300, .inr (.inl Hh))), (h5, .inl (cI, 300, .inl S))] H := hP
  have hD : va_D A [(h0, .inr (0, [.ref h1, .ref h2, .ref h3, .ref h4, .ref h5, .int 0])), (h1, .inl (cI, 2000, .inl F)), (h2, .inl (cI, 2000, .inl T)), (h3, .inl (cJ, 2000, .inr (.inl C))), (h4, .inl (cJ, 300, .inr (.inl Hh))), (h5, .inl (cI, 300, .inl S))] := hD
  refine lv_aload_n hx hb dX0_forgetAll_5 rfl (lv_at hl 0 rfl) ?_
  refine va_get (D := (dC, dI)) (ci := 0) (v := .ref h4) (C := RX0) (T := TX0) (N := 6) hx hb hts hin0 hown hK hP 0 rfl rfl 3 (by decide) (hts (.fieldLink RX0 22 "CallClusters$CallTable" "heats" "[J") (by decide +kernel)) (fun _ h9 => h9) rfl dX0_forgetAll_6 ?_
  refine lv_lconst (v := 0) hx hb dX0_forgetAll_9 (by decide) ?_
  have hPc := hP.sub (ws' := [(h4, .inl (cJ, 300, .inr (.inl Hh)))]) [4] rfl
  have hDc := hD.sub (ws' := [(h4, .inl (cJ, 300, .inr (.inl Hh)))]) [4] (by decide) rfl
  have hFc := va_free (wc := [(h4, .inl (cJ, 300, .inr (.inl Hh)))]) hD hS hA [4] rfl
  refine va_callv (va_runS (As := [.ref h4, .long 0]) (rest := []) ⟨hx, hb, hml, hown, hts⟩ (ct_J7_fill_d0a16 l dC dI cI cJ cZ H.size h4 300 Hh 0 (by decide)) (va_cwS 2 hts gX0_forgetAll_J7_fill_d0a16 rfl rfl rfl (by decide +kernel) ⟨Nat.le_of_ble_eq_true rfl, Nat.le_of_ble_eq_true rfl⟩) (pre_S hK hPc hDc) rfl rfl hl.1 rfl (lv_room (Nat.le_of_ble_eq_true rfl)) dX0_forgetAll_10 ⟨Nat.zero_le _, Nat.zero_le _⟩) hS (fun q _ h => hFc q h) hFc (fun uu t H1 locs ht hvm hw hB hz1 hk1 hS => ?_)
  obtain ⟨hP1, hK1, hD1⟩ := hB
  rw [ht] at hP1
  try dsimp only at hw
  have hP1 : va_P (dC, dI) vwCl [(h4, .inl (cJ, 300, .inr (.inl (mix 300 (fun _ => 0) Hh))))] H1 := hP1
  obtain ⟨hP, hD⟩ := va_join (wr := [(h0, .inr (0, [.ref h1, .ref h2, .ref h3, .ref h4, .ref h5, .int 0])), (h1, .inl (cI, 2000, .inl F)), (h2, .inl (cI, 2000, .inl T)), (h3, .inl (cJ, 2000, .inr (.inl C))), (h5, .inl (cI, 300, .inl S))]) (w1 := [(h4, .inl (cJ, 300, .inr (.inl (mix 300 (fun _ => 0) Hh))))]) hP hD [4] [0, 1, 2, 3, 5] rfl rfl (by decide) (by decide) hk1 hFc hP1 hD1
  have hP := hP.sub (ws' := [(h0, .inr (0, [.ref h1, .ref h2, .ref h3, .ref h4, .ref h5, .int 0])), (h1, .inl (cI, 2000, .inl F)), (h2, .inl (cI, 2000, .inl T)), (h3, .inl (cJ, 2000, .inr (.inl C))), (h4, .inl (cJ, 300, .inr (.inl (mix 300 (fun _ => 0) Hh)))), (h5, .inl (cI, 300, .inl S))]) [0, 1, 2, 3, 5, 4] rfl
  have hD := hD.sub (ws' := [(h0, .inr (0, [.ref h1, .ref h2, .ref h3, .ref h4, .ref h5, .int 0])), (h1, .inl (cI, 2000, .inl F)), (h2, .inl (cI, 2000, .inl T)), (h3, .inl (cJ, 2000, .inr (.inl C))), (h4, .inl (cJ, 300, .inr (.inl (mix 300 (fun _ => 0) Hh)))), (h5, .inl (cI, 300, .inl S))]) [0, 1, 2, 3, 5, 4] (by decide) rfl
  generalize H1 = H at hP hS ⊢
  have hP9 : va_P (dC, dI) vwCl [(h0, .inr (0, [.ref h1, .ref h2, .ref h3, .ref h4, .ref h5, .int 0])), (h1, .inl (cI, 2000, .inl F)), (h2, .inl (cI, 2000, .inl T)), (h3, .inl (cJ, 2000, .inr (.inl C))), (h4, .inl (cJ, 300, .inr (.inl (mix 300 (fun _ => 0) Hh)))), (h5, .inl (cI, 300, .inl S))] H := hP
  have hD9 : va_D A [(h0, .inr (0, [.ref h1, .ref h2, .ref h3, .ref h4, .ref h5, .int 0])), (h1, .inl (cI, 2000, .inl F)), (h2, .inl (cI, 2000, .inl T)), (h3, .inl (cJ, 2000, .inr (.inl C))), (h4, .inl (cJ, 300, .inr (.inl (mix 300 (fun _ => 0) Hh)))), (h5, .inl (cI, 300, .inl S))] := hD
  exact W.vret hx hb hr (fun t ht hW => ⟨⟨(), rfl, trivial, by rw [ht]; exact hP9, va_K.moved hW.alike hK, hD9⟩, hS.F ht⟩) hS.2.2 dX0_forgetAll_13
set_option maxHeartbeats 4000000 in
set_option maxRecDepth 100000 in
theorem ct_X0_raise (l : Launch) (dC : Nat → ClassId) (dI : Nat → Nat → Nat) (cI cJ cZ : ClassId) (sz : Nat) (h0 : Nat) (h1 : Nat) (h2 : Nat) (h3 : Nat) (h4 : Nat) (h5 : Nat) (F T : Nat → Int32) (C Hh : Nat → Int64) (S : Nat → Int32) (u : Nat) (i : Nat) (y : Int32) (hi : i < 2000) (hT : vp_in (T i) 300) : Met l yX0_raise wsX0_raise ({ frames := 1, cells := 0, slots := 0, locals := 15 }) (va_Pc [.ref h0, .int (nI i), .int y] (fun U => U.heap.size = sz ∧ va_P (dC, dI) vwCl [(h0, .inr (0, [.ref h1, .ref h2, .ref h3, .ref h4, .ref h5, .int (nI u)])), (h1, .inl (cI, 2000, .inl F)), (h2, .inl (cI, 2000, .inl T)), (h3, .inl (cJ, 2000, .inr (.inl C))), (h4, .inl (cJ, 300, .inr (.inl Hh))), (h5, .inl (cI, 300, .inl S))] U.heap ∧ va_K (dC, dI) vwCl [(cI, .int), (cJ, .long), (cZ, .boolean)] U ∧ va_D (fun _ => True) [(h0, .inr (0, [.ref h1, .ref h2, .ref h3, .ref h4, .ref h5, .int (nI u)])), (h1, .inl (cI, 2000, .inl F)), (h2, .inl (cI, 2000, .inl T)), (h3, .inl (cJ, 2000, .inr (.inl C))), (h4, .inl (cJ, 300, .inr (.inl Hh))), (h5, .inl (cI, 300, .inl S))])) (va_Ql (fun (r : Int64) (uu : Unit) => r = capadd (C i) y) (fun (uu : Unit) (t : State) => va_P (dC, dI) vwCl [(h0, .inr (0, [.ref h1, .ref h2, .ref h3, .ref h4, .ref h5, .int (nI u)])), (h1, .inl (cI, 2000, .inl F)), (h2, .inl (cI, 2000, .inl T)), (h3, .inl (cJ, 2000, .inr (.inl (vp_updL C i (capadd (C i) y))))), (h4, .inl (cJ, 300, .inr (.inl (vp_updL Hh ((T i).toNatClampNeg) (Hh ((T i).toNatClampNeg) + (capadd (C i) y - C i)))))), (h5, .inl (cI, 300, .inl S))] t.heap ∧ va_K (dC, dI) vwCl [(cI, .int), (cJ, .long), (cZ, .boolean)] t ∧ va_D (va_A [(h0, .inr (0, [.ref h1, .ref h2, .ref h3, .ref h4, .ref h5, .int (nI u)])), (h1, .inl (cI, 2000, .inl F)), (h2, .inl (cI, 2000, .inl T)), (h3, .inl (cJ, 2000, .inr (.inl C))), (h4, .inl (cJ, 300, .inr (.inl Hh))), (h5, .inl (cI, 300, .inl S))] sz) [(h0, .inr (0, [.ref h1, .ref h2, .ref h3, .ref h4, .ref h5, .int (nI u)])), (h1, .inl (cI, 2000, .inl F)), (h2, .inl (cI, 2000, .inl T)), (h3, .inl (cJ, 2000, .inr (.inl (vp_updL C i (capadd (C i) y))))), (h4, .inl (cJ, 300, .inr (.inl (vp_updL Hh ((T i).toNatClampNeg) (Hh ((T i).toNatClampNeg) + (capadd (C i) y - C i)))))), (h5, .inl (cI, 300, .inl S))]) (va_A [(h0, .inr (0, [.ref h1, .ref h2, .ref h3, .ref h4, .ref h5, .int (nI u)])), (h1, .inl (cI, 2000, .inl F)), (h2, .inl (cI, 2000, .inl T)), (h3, .inl (cJ, 2000, .inr (.inl C))), (h4, .inl (cJ, 300, .inr (.inl Hh))), (h5, .inl (cI, 300, .inl S))] sz)) 0 0 (va_A [(h0, .inr (0, [.ref h1, .ref h2, .ref h3, .ref h4, .ref h5, .int (nI u)])), (h1, .inl (cI, 2000, .inl F)), (h2, .inl (cI, 2000, .inl T)), (h3, .inl (cJ, 2000, .inr (.inl C))), (h4, .inl (cJ, 300, .inr (.inl Hh))), (h5, .inl (cI, 300, .inl S))] sz) := by
  refine Met.ofW (cc := cX0_raise) (maxL := 5) (ret := (some .long)) (by decide) rfl ?_
  intro p ev s m args below meth c s₁ Bd hml hv
  obtain ⟨rfl, hsz, hP, hK, hD0⟩ := hv
  have hx := Bd.exec
  have hb := Bd.bytes
  have hr := Bd.returns
  have hts := atoms_spec (ws := wsX0_raise) Bd.pre
  have hown : s.vm.findClass RX0 = some m.cls := findClass_of_methodNamed Bd.named
  have hlocks := Bd.notSynchronized
  have hin0 : ∀ w ∈ wsX00, w ∈ wsX0_raise := by decide +kernel
  subst hsz
  have hD := hD0.self (sz := s.heap.size)
  generalize hAe : va_A [(h0, .inr (0, [.ref h1, .ref h2, .ref h3, .ref h4, .ref h5, .int (nI u)])), (h1, .inl (cI, 2000, .inl F)), (h2, .inl (cI, 2000, .inl T)), (h3, .inl (cJ, 2000, .inr (.inl C))), (h4, .inl (cJ, 300, .inr (.inl Hh))), (h5, .inl (cI, 300, .inl S))] s.heap.size = A at hD ⊢
  have hA : ∀ q : Nat, s.heap.size ≤ q → A q := fun q h => by rw [← hAe]; exact Or.inr h
  have hS : va_S A s.heap s.heap [] := va_S.rf
  have hl := lv_entry ([.ref h0, .int (nI i), .int y]) (n := 5) (Nat.le_of_ble_eq_true rfl)
  rw [lg_entry_eq]
  generalize (lg_sl ([.ref h0, .int (nI i), .int y]) ++ List.replicate (5 - (lg_sl ([.ref h0, .int (nI i), .int y])).length) Slot.unset).toArray = ls at hl ⊢
  have hl : lv_has ls 5 [(0, .ref h0), (1, .int (nI i)), (2, .int y)] := hl
  generalize hHe : s.heap = H at hP ⊢
  have hS : va_S A s.heap H [] := hHe ▸ hS
  refine lv_aload_n hx hb dX0_raise_0 rfl (lv_at hl 0 rfl) ?_
  refine va_get (D := (dC, dI)) (ci := 0) (v := .ref h3) (C := RX0) (T := TX0) (N := 6) hx hb hts hin0 hown hK hP 0 rfl rfl 2 (by decide) (hts (.fieldLink RX0 18 "CallClusters$CallTable" "counts" "[J") (by decide +kernel)) (fun _ h9 => h9) rfl dX0_raise_1 ?_
  refine lv_iload_n hx hb dX0_raise_4 rfl (lv_at hl 1 rfl) ?_
  refine va_lald hx hb hK hP 3 1 rfl rfl (inn hi (by omega)) dX0_raise_5 ?_
  refine tp_l (y := C i) (by rw [ix_n (by omega)]) ?_
  refine lv_iload_n hx hb dX0_raise_6 rfl (lv_at hl 2 rfl) ?_
  refine lv_i2l (v := y.toInt64) hx hb dX0_raise_7 rfl ?_
  refine lv_ladd hx hb dX0_raise_8 ?_
  refine lv_ldc2 (v := 1000000000000) hx hb hown (hts (.constantLong RX0 38 (1000000000000)) (by decide +kernel)) dX0_raise_9 ?_
  refine va_mmin_long hx hb (hml.trans hl.1.symm) hown (hts (.methodLink RX0 40 Lib.MathLoose.min_long.x) (by decide +kernel)) (hts (.static Lib.MathLoose.min_long.x) (by decide +kernel)) (hts (.initialized "java/lang/Math") (by decide +kernel)) (hts (.code Lib.MathLoose.min_long.x Lib.MathLoose.min_long.code 4 (some .long)) (by decide +kernel)) (Nat.le_of_ble_eq_true rfl) (Nat.le_of_ble_eq_true rfl) (Nat.zero_le _) (Nat.zero_le _) dX0_raise_12 ?_
  refine tp_l (y := capadd (C i) y) (rfl) ?_
  refine lv_lstore_n (lv' := [(3, .long (capadd (C i) y)), (0, .ref h0), (1, .int (nI i)), (2, .int y)]) hx hb dX0_raise_15 rfl hl (by decide) rfl (fun ls hl => ?_)
  refine lv_aload_n hx hb dX0_raise_16 rfl (lv_at hl 1 rfl) ?_
  refine va_get (D := (dC, dI)) (ci := 0) (v := .ref h4) (C := RX0) (T := TX0) (N := 6) hx hb hts hin0 hown hK hP 0 rfl rfl 3 (by decide) (hts (.fieldLink RX0 22 "CallClusters$CallTable" "heats" "[J") (by decide +kernel)) (fun _ h9 => h9) rfl dX0_raise_17 ?_
  refine lv_aload_n hx hb dX0_raise_20 rfl (lv_at hl 1 rfl) ?_
  refine va_get (D := (dC, dI)) (ci := 0) (v := .ref h2) (C := RX0) (T := TX0) (N := 6) hx hb hts hin0 hown hK hP 0 rfl rfl 1 (by decide) (hts (.fieldLink RX0 15 "CallClusters$CallTable" "to" "[I") (by decide +kernel)) (fun _ h9 => h9) rfl dX0_raise_21 ?_
  refine lv_iload_n hx hb dX0_raise_24 rfl (lv_at hl 2 rfl) ?_
  refine va_iald hx hb hK hP 2 0 rfl rfl (inn hi (by omega)) dX0_raise_25 ?_
  refine tp_i (y := T i) (by rw [ix_n (by omega)]) ?_
  refine lv_dup2_11 hx hb dX0_raise_26 rfl rfl ?_
  refine va_lald hx hb hK hP 4 1 rfl rfl (hT) dX0_raise_27 ?_
  refine lv_lload_n hx hb dX0_raise_28 rfl (lv_at hl 0 rfl) ?_
  refine lv_aload_n hx hb dX0_raise_29 rfl (lv_at hl 1 rfl) ?_
  refine va_get (D := (dC, dI)) (ci := 0) (v := .ref h3) (C := RX0) (T := TX0) (N := 6) hx hb hts hin0 hown hK hP 0 rfl rfl 2 (by decide) (hts (.fieldLink RX0 18 "CallClusters$CallTable" "counts" "[J") (by decide +kernel)) (fun _ h9 => h9) rfl dX0_raise_30 ?_
  refine lv_iload_n hx hb dX0_raise_33 rfl (lv_at hl 2 rfl) ?_
  refine va_lald hx hb hK hP 3 1 rfl rfl (inn hi (by omega)) dX0_raise_34 ?_
  refine tp_l (y := C i) (by rw [ix_n (by omega)]) ?_
  refine lv_lsub hx hb dX0_raise_35 ?_
  refine lv_ladd hx hb dX0_raise_36 ?_
  refine va_last hx hb hK hP hD hS 4 1 rfl rfl (hT) dX0_raise_37 (fun H locs hP hD hS => ?_)
  have hP : va_P (dC, dI) vwCl [(h0, .inr (0, [.ref h1, .ref h2, .ref h3, .ref h4, .ref h5, .int (nI u)])), (h1, .inl (cI, 2000, .inl F)), (h2, .inl (cI, 2000, .inl T)), (h3, .inl (cJ, 2000, .inr (.inl C))), (h4, .inl (cJ, 300, .inr (.inl (vp_updL Hh ((T i).toNatClampNeg) ((Hh ((T i).toNatClampNeg)) + ((capadd (C i) y) - (C i))))))), (h5, .inl (cI, 300, .inl S))] H := hP
  have hD : va_D A [(h0, .inr (0, [.ref h1, .ref h2, .ref h3, .ref h4, .ref h5, .int (nI u)])), (h1, .inl (cI, 2000, .inl F)), (h2, .inl (cI, 2000, .inl T)), (h3, .inl (cJ, 2000, .inr (.inl C))), (h4, .inl (cJ, 300, .inr (.inl (vp_updL Hh ((T i).toNatClampNeg) ((Hh ((T i).toNatClampNeg)) + ((capadd (C i) y) - (C i))))))), (h5, .inl (cI, 300, .inl S))] := hD
  refine lv_aload_n hx hb dX0_raise_38 rfl (lv_at hl 1 rfl) ?_
  refine va_get (D := (dC, dI)) (ci := 0) (v := .ref h3) (C := RX0) (T := TX0) (N := 6) hx hb hts hin0 hown hK hP 0 rfl rfl 2 (by decide) (hts (.fieldLink RX0 18 "CallClusters$CallTable" "counts" "[J") (by decide +kernel)) (fun _ h9 => h9) rfl dX0_raise_39 ?_
  refine lv_iload_n hx hb dX0_raise_42 rfl (lv_at hl 2 rfl) ?_
  refine lv_lload_n hx hb dX0_raise_43 rfl (lv_at hl 0 rfl) ?_
  refine va_last hx hb hK hP hD hS 3 1 rfl rfl (inn hi (by omega)) dX0_raise_44 (fun H locs hP hD hS => ?_)
  have hf44 : vp_updL C ((nI i).toNatClampNeg) (capadd (C i) y) = vp_updL C i (capadd (C i) y) := by rw [ix_n (by omega)]
  have hP : va_P (dC, dI) vwCl [(h0, .inr (0, [.ref h1, .ref h2, .ref h3, .ref h4, .ref h5, .int (nI u)])), (h1, .inl (cI, 2000, .inl F)), (h2, .inl (cI, 2000, .inl T)), (h3, .inl (cJ, 2000, .inr (.inl (vp_updL C ((nI i).toNatClampNeg) (capadd (C i) y))))), (h4, .inl (cJ, 300, .inr (.inl (vp_updL Hh ((T i).toNatClampNeg) ((Hh ((T i).toNatClampNeg)) + ((capadd (C i) y) - (C i))))))), (h5, .inl (cI, 300, .inl S))] H := hP
  have hD : va_D A [(h0, .inr (0, [.ref h1, .ref h2, .ref h3, .ref h4, .ref h5, .int (nI u)])), (h1, .inl (cI, 2000, .inl F)), (h2, .inl (cI, 2000, .inl T)), (h3, .inl (cJ, 2000, .inr (.inl (vp_updL C ((nI i).toNatClampNeg) (capadd (C i) y))))), (h4, .inl (cJ, 300, .inr (.inl (vp_updL Hh ((T i).toNatClampNeg) ((Hh ((T i).toNatClampNeg)) + ((capadd (C i) y) - (C i))))))), (h5, .inl (cI, 300, .inl S))] := hD
  rw [hf44] at hP hD
  refine lv_lload_n hx hb dX0_raise_45 rfl (lv_at hl 0 rfl) ?_
  have hP9 : va_P (dC, dI) vwCl [(h0, .inr (0, [.ref h1, .ref h2, .ref h3, .ref h4, .ref h5, .int (nI u)])), (h1, .inl (cI, 2000, .inl F)), (h2, .inl (cI, 2000, .inl T)), (h3, .inl (cJ, 2000, .inr (.inl (vp_updL C i (capadd (C i) y))))), (h4, .inl (cJ, 300, .inr (.inl (vp_updL Hh ((T i).toNatClampNeg) ((Hh ((T i).toNatClampNeg)) + ((capadd (C i) y) - (C i))))))), (h5, .inl (cI, 300, .inl S))] H := hP
  have hD9 : va_D A [(h0, .inr (0, [.ref h1, .ref h2, .ref h3, .ref h4, .ref h5, .int (nI u)])), (h1, .inl (cI, 2000, .inl F)), (h2, .inl (cI, 2000, .inl T)), (h3, .inl (cJ, 2000, .inr (.inl (vp_updL C i (capadd (C i) y))))), (h4, .inl (cJ, 300, .inr (.inl (vp_updL Hh ((T i).toNatClampNeg) ((Hh ((T i).toNatClampNeg)) + ((capadd (C i) y) - (C i))))))), (h5, .inl (cI, 300, .inl S))] := hD
  exact W.lret (v := capadd (C i) y) hx hb hr (fun t ht hW => ⟨⟨capadd (C i) y, (), rfl, rfl, by rw [ht]; exact hP9, va_K.moved hW.alike hK, hD9⟩, hS.F ht⟩) hS.2.2 dX0_raise_46
set_option maxHeartbeats 4000000 in
set_option maxRecDepth 100000 in
theorem lpX0_pairFor {p : Program} {l : Launch} {ev : Env} {s : State} {m : MethodId} {args : Array Value} {below : List Frame} {meth : Method} {c : Code} {Q : State → Prop} {A : Nat → Prop} {dC : Nat → ClassId} {dI : Nat → Nat → Nat} {cI cJ cZ : ClassId} {R : Room} {cells slots : Nat} (hx : p.tables.exec = Jvm.exec) (hb : c.code = cX0_pairFor) (hml : c.maxLocals = 4) (hts : ∀ w ∈ wsX0_pairFor, w.before args s = true) (hown : s.vm.findClass RX0 = some m.cls) (hK : va_K (dC, dI) vwCl [(cI, .int), (cJ, .long), (cZ, .boolean)] s) (hA : ∀ q : Nat, s.heap.size ≤ q → A q) {h0 : Nat} {h1 : Nat} {h2 : Nat} {h3 : Nat} {h4 : Nat} {h5 : Nat} {F T : Nat → Int32} {C Hh : Nat → Int64} {S : Nat → Int32} {u : Nat} {f g : Int32} (hu : u ≤ 2000)  (kf : ∀ (k : Nat), k < u → pfind F T f g u 0 = k → ∀ (H : Heap) (locs : List Loc) (ls : Array Slot), va_P (dC, dI) vwCl [(h0, .inr (0, [.ref h1, .ref h2, .ref h3, .ref h4, .ref h5, .int (nI u)])), (h1, .inl (cI, 2000, .inl F)), (h2, .inl (cI, 2000, .inl T)), (h3, .inl (cJ, 2000, .inr (.inl C))), (h4, .inl (cJ, 300, .inr (.inl Hh))), (h5, .inl (cI, 300, .inl S))] H → va_D A [(h0, .inr (0, [.ref h1, .ref h2, .ref h3, .ref h4, .ref h5, .int (nI u)])), (h1, .inl (cI, 2000, .inl F)), (h2, .inl (cI, 2000, .inl T)), (h3, .inl (cJ, 2000, .inr (.inl C))), (h4, .inl (cJ, 300, .inr (.inl Hh))), (h5, .inl (cI, 300, .inl S))] → va_S A s.heap H locs → lv_has ls 4 [(0, .ref h0), (1, .int f), (2, .int g), (3, .int (nI k))] → W p l ev R s m args below meth c H locs cells slots Q (F0 m 30 ls [])) (kn : pfind F T f g u 0 = u → ∀ (H : Heap) (locs : List Loc) (ls : Array Slot), va_P (dC, dI) vwCl [(h0, .inr (0, [.ref h1, .ref h2, .ref h3, .ref h4, .ref h5, .int (nI u)])), (h1, .inl (cI, 2000, .inl F)), (h2, .inl (cI, 2000, .inl T)), (h3, .inl (cJ, 2000, .inr (.inl C))), (h4, .inl (cJ, 300, .inr (.inl Hh))), (h5, .inl (cI, 300, .inl S))] H → va_D A [(h0, .inr (0, [.ref h1, .ref h2, .ref h3, .ref h4, .ref h5, .int (nI u)])), (h1, .inl (cI, 2000, .inl F)), (h2, .inl (cI, 2000, .inl T)), (h3, .inl (cJ, 2000, .inr (.inl C))), (h4, .inl (cJ, 300, .inr (.inl Hh))), (h5, .inl (cI, 300, .inl S))] → va_S A s.heap H locs → lv_has ls 4 [(0, .ref h0), (1, .int f), (2, .int g)] → W p l ev R s m args below meth c H locs cells slots Q (F0 m 38 ls [])) : ∀ (n : Nat) (k : Nat), k + n = u → pfind F T f g u 0 = pfind F T f g n k → ∀ (H : Heap) (locs : List Loc) (ls : Array Slot), va_P (dC, dI) vwCl [(h0, .inr (0, [.ref h1, .ref h2, .ref h3, .ref h4, .ref h5, .int (nI u)])), (h1, .inl (cI, 2000, .inl F)), (h2, .inl (cI, 2000, .inl T)), (h3, .inl (cJ, 2000, .inr (.inl C))), (h4, .inl (cJ, 300, .inr (.inl Hh))), (h5, .inl (cI, 300, .inl S))] H → va_D A [(h0, .inr (0, [.ref h1, .ref h2, .ref h3, .ref h4, .ref h5, .int (nI u)])), (h1, .inl (cI, 2000, .inl F)), (h2, .inl (cI, 2000, .inl T)), (h3, .inl (cJ, 2000, .inr (.inl C))), (h4, .inl (cJ, 300, .inr (.inl Hh))), (h5, .inl (cI, 300, .inl S))] → va_S A s.heap H locs → lv_has ls 4 [(0, .ref h0), (1, .int f), (2, .int g), (3, .int (nI k))] → W p l ev R s m args below meth c H locs cells slots Q (F0 m 2 ls []) := by
  have hin0 : ∀ w ∈ wsX00, w ∈ wsX0_pairFor := by decide +kernel
  intro n
  induction n with
  | zero =>
    intro k hk hp H locs ls hP hD hS hl
    have hk : k = u := by omega
    subst hk
    have hp : pfind F T f g k 0 = k := hp
    refine lv_iload_n hx hb dX0_pairFor_2 rfl (lv_at hl 3 rfl) ?_
    refine lv_aload_n hx hb dX0_pairFor_3 rfl (lv_at hl 0 rfl) ?_
    refine va_get (D := (dC, dI)) (ci := 0) (v := .int (nI k)) (C := RX0) (T := TX0) (N := 6) hx hb hts hin0 hown hK hP 0 rfl rfl 5 (by decide) (hts (.fieldLink RX0 28 "CallClusters$CallTable" "used" "I") (by decide +kernel)) (fun _ h9 => h9) rfl dX0_pairFor_4 ?_
    refine lv_icmp_ge (tgt := 38) hx hb dX0_pairFor_7 (by decide) (fun c_1 => ?_) (fun c_1 => ?_)
    · -- pc 7, side 0
      exact kn  (hp) H locs ls hP hD hS (lv_sub hl [0, 1, 2] rfl)
    · -- pc 7, side 1
      exact absurd (nI_le (Nat.le_refl _) (by omega)) c_1
  | succ n ih =>
    intro k hk hp H locs ls hP hD hS hl
    refine lv_iload_n hx hb dX0_pairFor_2 rfl (lv_at hl 3 rfl) ?_
    refine lv_aload_n hx hb dX0_pairFor_3 rfl (lv_at hl 0 rfl) ?_
    refine va_get (D := (dC, dI)) (ci := 0) (v := .int (nI u)) (C := RX0) (T := TX0) (N := 6) hx hb hts hin0 hown hK hP 0 rfl rfl 5 (by decide) (hts (.fieldLink RX0 28 "CallClusters$CallTable" "used" "I") (by decide +kernel)) (fun _ h9 => h9) rfl dX0_pairFor_4 ?_
    refine lv_icmp_ge (tgt := 38) hx hb dX0_pairFor_7 (by decide) (fun c_2 => ?_) (fun c_2 => ?_)
    · -- pc 7, side 0
      exact absurd c_2 (nI_ge (show k < u by omega) (by omega))
    · -- pc 7, side 1
      refine lv_aload_n hx hb dX0_pairFor_10 rfl (lv_at hl 0 rfl) ?_
      refine va_get (D := (dC, dI)) (ci := 0) (v := .ref h1) (C := RX0) (T := TX0) (N := 6) hx hb hts hin0 hown hK hP 0 rfl rfl 0 (by decide) (hts (.fieldLink RX0 9 "CallClusters$CallTable" "from" "[I") (by decide +kernel)) (fun _ h9 => h9) rfl dX0_pairFor_11 ?_
      refine lv_iload_n hx hb dX0_pairFor_14 rfl (lv_at hl 3 rfl) ?_
      refine va_iald hx hb hK hP 1 0 rfl rfl (inn (show k < 2000 by omega) (by omega)) dX0_pairFor_15 ?_
      refine tp_i (y := F k) (by rw [ix_n (by omega)]) ?_
      refine lv_iload_n hx hb dX0_pairFor_16 rfl (lv_at hl 1 rfl) ?_
      refine lv_icmp_ne (tgt := 32) hx hb dX0_pairFor_17 (by decide) (fun c_3 => ?_) (fun c_3 => ?_)
      · -- pc 17, side 0
        refine lv_iinc (v := nI (k + 1)) (lv' := [(3, .int (nI (k + 1))), (0, .ref h0), (1, .int f), (2, .int g)]) hx hb dX0_pairFor_32 hl (k := 3) rfl (by exact nI_1 k) (by decide) rfl (fun ls hl => ?_)
        refine lv_goto (tgt := 2) hx hb dX0_pairFor_35 (by decide) ?_
        exact ih (k + 1) (by omega) (by rw [hp]; conv => lhs; unfold pfind; rw [if_neg (fun h9 => c_3 h9.1)]) H locs ls hP hD hS (lv_sub hl [1, 2, 3, 0] rfl)
      · -- pc 17, side 1
        refine lv_aload_n hx hb dX0_pairFor_20 rfl (lv_at hl 0 rfl) ?_
        refine va_get (D := (dC, dI)) (ci := 0) (v := .ref h2) (C := RX0) (T := TX0) (N := 6) hx hb hts hin0 hown hK hP 0 rfl rfl 1 (by decide) (hts (.fieldLink RX0 15 "CallClusters$CallTable" "to" "[I") (by decide +kernel)) (fun _ h9 => h9) rfl dX0_pairFor_21 ?_
        refine lv_iload_n hx hb dX0_pairFor_24 rfl (lv_at hl 3 rfl) ?_
        refine va_iald hx hb hK hP 2 0 rfl rfl (inn (show k < 2000 by omega) (by omega)) dX0_pairFor_25 ?_
        refine tp_i (y := T k) (by rw [ix_n (by omega)]) ?_
        refine lv_iload_n hx hb dX0_pairFor_26 rfl (lv_at hl 2 rfl) ?_
        refine lv_icmp_ne (tgt := 32) hx hb dX0_pairFor_27 (by decide) (fun c_4 => ?_) (fun c_4 => ?_)
        · -- pc 27, side 0
          refine lv_iinc (v := nI (k + 1)) (lv' := [(3, .int (nI (k + 1))), (0, .ref h0), (1, .int f), (2, .int g)]) hx hb dX0_pairFor_32 hl (k := 3) rfl (by exact nI_1 k) (by decide) rfl (fun ls hl => ?_)
          refine lv_goto (tgt := 2) hx hb dX0_pairFor_35 (by decide) ?_
          exact ih (k + 1) (by omega) (by rw [hp]; conv => lhs; unfold pfind; rw [if_neg (fun h9 => c_4 h9.2)]) H locs ls hP hD hS (lv_sub hl [1, 2, 3, 0] rfl)
        · -- pc 27, side 1
          exact kf k (by omega) (by rw [hp]; unfold pfind; rw [if_pos ⟨c_3, c_4⟩]) H locs ls hP hD hS (lv_sub hl [0, 1, 2, 3] rfl)
set_option maxHeartbeats 4000000 in
set_option maxRecDepth 100000 in
theorem ct_X0_pairFor (l : Launch) (dC : Nat → ClassId) (dI : Nat → Nat → Nat) (cI cJ cZ : ClassId) (sz : Nat) (h0 : Nat) (h1 : Nat) (h2 : Nat) (h3 : Nat) (h4 : Nat) (h5 : Nat) (F T : Nat → Int32) (C Hh : Nat → Int64) (S : Nat → Int32) (u : Nat) (f g : Int32) (hu : u ≤ 2000) : Met l yX0_pairFor wsX0_pairFor ({ frames := 0, cells := 0, slots := 0, locals := 0 }) (va_Pc [.ref h0, .int f, .int g] (fun U => U.heap.size = sz ∧ va_P (dC, dI) vwCl [(h0, .inr (0, [.ref h1, .ref h2, .ref h3, .ref h4, .ref h5, .int (nI u)])), (h1, .inl (cI, 2000, .inl F)), (h2, .inl (cI, 2000, .inl T)), (h3, .inl (cJ, 2000, .inr (.inl C))), (h4, .inl (cJ, 300, .inr (.inl Hh))), (h5, .inl (cI, 300, .inl S))] U.heap ∧ va_K (dC, dI) vwCl [(cI, .int), (cJ, .long), (cZ, .boolean)] U ∧ va_D (fun _ => True) [(h0, .inr (0, [.ref h1, .ref h2, .ref h3, .ref h4, .ref h5, .int (nI u)])), (h1, .inl (cI, 2000, .inl F)), (h2, .inl (cI, 2000, .inl T)), (h3, .inl (cJ, 2000, .inr (.inl C))), (h4, .inl (cJ, 300, .inr (.inl Hh))), (h5, .inl (cI, 300, .inl S))])) (va_Qi (fun (r : Int32) (uu : (Nat → Int32) × (Nat → Int32) × (Nat → Int64) × Nat) => match uu with | (F', T', C', u') => (pfind F T f g u 0 < u ∧ r = nI (pfind F T f g u 0) ∧ F' = F ∧ T' = T ∧ C' = C ∧ u' = u) ∨ (pfind F T f g u 0 = u ∧ u = 2000 ∧ r = -1 ∧ F' = F ∧ T' = T ∧ C' = C ∧ u' = u) ∨ (pfind F T f g u 0 = u ∧ u < 2000 ∧ r = nI u ∧ F' = upd F u f ∧ T' = upd T u g ∧ C' = vp_updL C u 0 ∧ u' = u + 1)) (fun (uu : (Nat → Int32) × (Nat → Int32) × (Nat → Int64) × Nat) (t : State) => match uu with | (F', T', C', u') => va_P (dC, dI) vwCl [(h0, .inr (0, [.ref h1, .ref h2, .ref h3, .ref h4, .ref h5, .int (nI u')])), (h1, .inl (cI, 2000, .inl (F'))), (h2, .inl (cI, 2000, .inl (T'))), (h3, .inl (cJ, 2000, .inr (.inl (C')))), (h4, .inl (cJ, 300, .inr (.inl Hh))), (h5, .inl (cI, 300, .inl S))] t.heap ∧ va_K (dC, dI) vwCl [(cI, .int), (cJ, .long), (cZ, .boolean)] t ∧ va_D (va_A [(h0, .inr (0, [.ref h1, .ref h2, .ref h3, .ref h4, .ref h5, .int (nI u)])), (h1, .inl (cI, 2000, .inl F)), (h2, .inl (cI, 2000, .inl T)), (h3, .inl (cJ, 2000, .inr (.inl C))), (h4, .inl (cJ, 300, .inr (.inl Hh))), (h5, .inl (cI, 300, .inl S))] sz) [(h0, .inr (0, [.ref h1, .ref h2, .ref h3, .ref h4, .ref h5, .int (nI u')])), (h1, .inl (cI, 2000, .inl (F'))), (h2, .inl (cI, 2000, .inl (T'))), (h3, .inl (cJ, 2000, .inr (.inl (C')))), (h4, .inl (cJ, 300, .inr (.inl Hh))), (h5, .inl (cI, 300, .inl S))]) (va_A [(h0, .inr (0, [.ref h1, .ref h2, .ref h3, .ref h4, .ref h5, .int (nI u)])), (h1, .inl (cI, 2000, .inl F)), (h2, .inl (cI, 2000, .inl T)), (h3, .inl (cJ, 2000, .inr (.inl C))), (h4, .inl (cJ, 300, .inr (.inl Hh))), (h5, .inl (cI, 300, .inl S))] sz)) 0 0 (va_A [(h0, .inr (0, [.ref h1, .ref h2, .ref h3, .ref h4, .ref h5, .int (nI u)])), (h1, .inl (cI, 2000, .inl F)), (h2, .inl (cI, 2000, .inl T)), (h3, .inl (cJ, 2000, .inr (.inl C))), (h4, .inl (cJ, 300, .inr (.inl Hh))), (h5, .inl (cI, 300, .inl S))] sz) := by
  refine Met.ofW (cc := cX0_pairFor) (maxL := 4) (ret := (some .int)) (by decide) rfl ?_
  intro p ev s m args below meth c s₁ Bd hml hv
  obtain ⟨rfl, hsz, hP, hK, hD0⟩ := hv
  have hx := Bd.exec
  have hb := Bd.bytes
  have hr := Bd.returns
  have hts := atoms_spec (ws := wsX0_pairFor) Bd.pre
  have hown : s.vm.findClass RX0 = some m.cls := findClass_of_methodNamed Bd.named
  have hlocks := Bd.notSynchronized
  have hin0 : ∀ w ∈ wsX00, w ∈ wsX0_pairFor := by decide +kernel
  subst hsz
  have hD := hD0.self (sz := s.heap.size)
  generalize hAe : va_A [(h0, .inr (0, [.ref h1, .ref h2, .ref h3, .ref h4, .ref h5, .int (nI u)])), (h1, .inl (cI, 2000, .inl F)), (h2, .inl (cI, 2000, .inl T)), (h3, .inl (cJ, 2000, .inr (.inl C))), (h4, .inl (cJ, 300, .inr (.inl Hh))), (h5, .inl (cI, 300, .inl S))] s.heap.size = A at hD ⊢
  have hA : ∀ q : Nat, s.heap.size ≤ q → A q := fun q h => by rw [← hAe]; exact Or.inr h
  have hS : va_S A s.heap s.heap [] := va_S.rf
  have hl := lv_entry ([.ref h0, .int f, .int g]) (n := 4) (Nat.le_of_ble_eq_true rfl)
  rw [lg_entry_eq]
  generalize (lg_sl ([.ref h0, .int f, .int g]) ++ List.replicate (4 - (lg_sl ([.ref h0, .int f, .int g])).length) Slot.unset).toArray = ls at hl ⊢
  have hl : lv_has ls 4 [(0, .ref h0), (1, .int f), (2, .int g)] := hl
  generalize hHe : s.heap = H at hP ⊢
  have hS : va_S A s.heap H [] := hHe ▸ hS
  have h00 : (0 : Int32) = nI 0 := nI_0.symm
  refine lv_iconst (v := 0) hx hb dX0_pairFor_0 (by decide) ?_
  refine tp_i (y := nI 0) (nI_0.symm) ?_
  refine lv_istore_n (lv' := [(3, .int (nI 0)), (0, .ref h0), (1, .int f), (2, .int g)]) hx hb dX0_pairFor_1 rfl hl (by decide) rfl (fun ls hl => ?_)
  refine lpX0_pairFor (F := F) (T := T) (f := f) (g := g) (u := u) hx hb hml hts hown hK hA hu (fun k hk hp H locs ls hP hD hS hl => ?_) (fun hp H locs ls hP hD hS hl => ?_) (u) 0 (by omega) (rfl) H _ ls hP hD hS (lv_sub hl [1, 2, 3, 0] rfl)
  · -- kf
    refine lv_iload_n hx hb dX0_pairFor_30 rfl (lv_at hl 3 rfl) ?_
    have hP9 : va_P (dC, dI) vwCl [(h0, .inr (0, [.ref h1, .ref h2, .ref h3, .ref h4, .ref h5, .int (nI u)])), (h1, .inl (cI, 2000, .inl F)), (h2, .inl (cI, 2000, .inl T)), (h3, .inl (cJ, 2000, .inr (.inl C))), (h4, .inl (cJ, 300, .inr (.inl Hh))), (h5, .inl (cI, 300, .inl S))] H := hP
    have hD9 : va_D A [(h0, .inr (0, [.ref h1, .ref h2, .ref h3, .ref h4, .ref h5, .int (nI u)])), (h1, .inl (cI, 2000, .inl F)), (h2, .inl (cI, 2000, .inl T)), (h3, .inl (cJ, 2000, .inr (.inl C))), (h4, .inl (cJ, 300, .inr (.inl Hh))), (h5, .inl (cI, 300, .inl S))] := hD
    exact W.iret (v := nI k) hx hb hr (fun t ht hW => ⟨⟨nI k, (F, T, C, u), rfl, Or.inl ⟨by omega, by rw [hp], rfl, rfl, rfl, rfl⟩, by rw [ht]; exact hP9, va_K.moved hW.alike hK, hD9⟩, hS.F ht⟩) hS.2.2 dX0_pairFor_31
  · -- kn
    refine lv_aload_n hx hb dX0_pairFor_38 rfl (lv_at hl 0 rfl) ?_
    refine va_get (D := (dC, dI)) (ci := 0) (v := .int (nI u)) (C := RX0) (T := TX0) (N := 6) hx hb hts hin0 hown hK hP 0 rfl rfl 5 (by decide) (hts (.fieldLink RX0 28 "CallClusters$CallTable" "used" "I") (by decide +kernel)) (fun _ h9 => h9) rfl dX0_pairFor_39 ?_
    refine lv_sipush (v := 2000) hx hb dX0_pairFor_42 (by decide) ?_
    refine lv_icmp_lt (tgt := 50) hx hb dX0_pairFor_45 (by decide) (fun c_1 => ?_) (fun c_1 => ?_)
    · -- pc 45, side 0
      have hu9 : u < 2000 := (nI_ltI (by omega) (by omega)).mp c_1
      refine lv_aload_n hx hb dX0_pairFor_50 rfl (lv_at hl 0 rfl) ?_
      refine va_get (D := (dC, dI)) (ci := 0) (v := .ref h1) (C := RX0) (T := TX0) (N := 6) hx hb hts hin0 hown hK hP 0 rfl rfl 0 (by decide) (hts (.fieldLink RX0 9 "CallClusters$CallTable" "from" "[I") (by decide +kernel)) (fun _ h9 => h9) rfl dX0_pairFor_51 ?_
      refine lv_aload_n hx hb dX0_pairFor_54 rfl (lv_at hl 0 rfl) ?_
      refine va_get (D := (dC, dI)) (ci := 0) (v := .int (nI u)) (C := RX0) (T := TX0) (N := 6) hx hb hts hin0 hown hK hP 0 rfl rfl 5 (by decide) (hts (.fieldLink RX0 28 "CallClusters$CallTable" "used" "I") (by decide +kernel)) (fun _ h9 => h9) rfl dX0_pairFor_55 ?_
      refine lv_iload_n hx hb dX0_pairFor_58 rfl (lv_at hl 1 rfl) ?_
      refine va_iast hx hb hK hP hD hS 1 0 rfl rfl (inn hu9 (by omega)) dX0_pairFor_59 (fun H locs hP hD hS => ?_)
      have hf59 : upd F ((nI u).toNatClampNeg) f = upd F u f := by rw [ix_n (by omega)]
      have hP : va_P (dC, dI) vwCl [(h0, .inr (0, [.ref h1, .ref h2, .ref h3, .ref h4, .ref h5, .int (nI u)])), (h1, .inl (cI, 2000, .inl (upd F ((nI u).toNatClampNeg) f))), (h2, .inl (cI, 2000, .inl T)), (h3, .inl (cJ, 2000, .inr (.inl C))), (h4, .inl (cJ, 300, .inr (.inl Hh))), (h5, .inl (cI, 300, .inl S))] H := hP
      have hD : va_D A [(h0, .inr (0, [.ref h1, .ref h2, .ref h3, .ref h4, .ref h5, .int (nI u)])), (h1, .inl (cI, 2000, .inl (upd F ((nI u).toNatClampNeg) f))), (h2, .inl (cI, 2000, .inl T)), (h3, .inl (cJ, 2000, .inr (.inl C))), (h4, .inl (cJ, 300, .inr (.inl Hh))), (h5, .inl (cI, 300, .inl S))] := hD
      rw [hf59] at hP hD
      refine lv_aload_n hx hb dX0_pairFor_60 rfl (lv_at hl 0 rfl) ?_
      refine va_get (D := (dC, dI)) (ci := 0) (v := .ref h2) (C := RX0) (T := TX0) (N := 6) hx hb hts hin0 hown hK hP 0 rfl rfl 1 (by decide) (hts (.fieldLink RX0 15 "CallClusters$CallTable" "to" "[I") (by decide +kernel)) (fun _ h9 => h9) rfl dX0_pairFor_61 ?_
      refine lv_aload_n hx hb dX0_pairFor_64 rfl (lv_at hl 0 rfl) ?_
      refine va_get (D := (dC, dI)) (ci := 0) (v := .int (nI u)) (C := RX0) (T := TX0) (N := 6) hx hb hts hin0 hown hK hP 0 rfl rfl 5 (by decide) (hts (.fieldLink RX0 28 "CallClusters$CallTable" "used" "I") (by decide +kernel)) (fun _ h9 => h9) rfl dX0_pairFor_65 ?_
      refine lv_iload_n hx hb dX0_pairFor_68 rfl (lv_at hl 2 rfl) ?_
      refine va_iast hx hb hK hP hD hS 2 0 rfl rfl (inn hu9 (by omega)) dX0_pairFor_69 (fun H locs hP hD hS => ?_)
      have hf69 : upd T ((nI u).toNatClampNeg) g = upd T u g := by rw [ix_n (by omega)]
      have hP : va_P (dC, dI) vwCl [(h0, .inr (0, [.ref h1, .ref h2, .ref h3, .ref h4, .ref h5, .int (nI u)])), (h1, .inl (cI, 2000, .inl (upd F u f))), (h2, .inl (cI, 2000, .inl (upd T ((nI u).toNatClampNeg) g))), (h3, .inl (cJ, 2000, .inr (.inl C))), (h4, .inl (cJ, 300, .inr (.inl Hh))), (h5, .inl (cI, 300, .inl S))] H := hP
      have hD : va_D A [(h0, .inr (0, [.ref h1, .ref h2, .ref h3, .ref h4, .ref h5, .int (nI u)])), (h1, .inl (cI, 2000, .inl (upd F u f))), (h2, .inl (cI, 2000, .inl (upd T ((nI u).toNatClampNeg) g))), (h3, .inl (cJ, 2000, .inr (.inl C))), (h4, .inl (cJ, 300, .inr (.inl Hh))), (h5, .inl (cI, 300, .inl S))] := hD
      rw [hf69] at hP hD
      refine lv_aload_n hx hb dX0_pairFor_70 rfl (lv_at hl 0 rfl) ?_
      refine va_get (D := (dC, dI)) (ci := 0) (v := .ref h3) (C := RX0) (T := TX0) (N := 6) hx hb hts hin0 hown hK hP 0 rfl rfl 2 (by decide) (hts (.fieldLink RX0 18 "CallClusters$CallTable" "counts" "[J") (by decide +kernel)) (fun _ h9 => h9) rfl dX0_pairFor_71 ?_
      refine lv_aload_n hx hb dX0_pairFor_74 rfl (lv_at hl 0 rfl) ?_
      refine va_get (D := (dC, dI)) (ci := 0) (v := .int (nI u)) (C := RX0) (T := TX0) (N := 6) hx hb hts hin0 hown hK hP 0 rfl rfl 5 (by decide) (hts (.fieldLink RX0 28 "CallClusters$CallTable" "used" "I") (by decide +kernel)) (fun _ h9 => h9) rfl dX0_pairFor_75 ?_
      refine lv_lconst (v := 0) hx hb dX0_pairFor_78 (by decide) ?_
      refine va_last hx hb hK hP hD hS 3 1 rfl rfl (inn hu9 (by omega)) dX0_pairFor_79 (fun H locs hP hD hS => ?_)
      have hf79 : vp_updL C ((nI u).toNatClampNeg) 0 = vp_updL C u 0 := by rw [ix_n (by omega)]
      have hP : va_P (dC, dI) vwCl [(h0, .inr (0, [.ref h1, .ref h2, .ref h3, .ref h4, .ref h5, .int (nI u)])), (h1, .inl (cI, 2000, .inl (upd F u f))), (h2, .inl (cI, 2000, .inl (upd T u g))), (h3, .inl (cJ, 2000, .inr (.inl (vp_updL C ((nI u).toNatClampNeg) 0)))), (h4, .inl (cJ, 300, .inr (.inl Hh))), (h5, .inl (cI, 300, .inl S))] H := hP
      have hD : va_D A [(h0, .inr (0, [.ref h1, .ref h2, .ref h3, .ref h4, .ref h5, .int (nI u)])), (h1, .inl (cI, 2000, .inl (upd F u f))), (h2, .inl (cI, 2000, .inl (upd T u g))), (h3, .inl (cJ, 2000, .inr (.inl (vp_updL C ((nI u).toNatClampNeg) 0)))), (h4, .inl (cJ, 300, .inr (.inl Hh))), (h5, .inl (cI, 300, .inl S))] := hD
      rw [hf79] at hP hD
      refine lv_aload_n hx hb dX0_pairFor_80 rfl (lv_at hl 0 rfl) ?_
      refine lv_dup hx hb dX0_pairFor_81 rfl ?_
      refine va_get (D := (dC, dI)) (ci := 0) (v := .int (nI u)) (C := RX0) (T := TX0) (N := 6) hx hb hts hin0 hown hK hP 0 rfl rfl 5 (by decide) (hts (.fieldLink RX0 28 "CallClusters$CallTable" "used" "I") (by decide +kernel)) (fun _ h9 => h9) rfl dX0_pairFor_82 ?_
      refine lv_iconst (v := 1) hx hb dX0_pairFor_85 (by decide) ?_
      refine lv_iadd hx hb dX0_pairFor_86 ?_
      refine tp_i (y := nI (u + 1)) (nI_1 u) ?_
      refine va_put (D := (dC, dI)) (ci := 0) (v := .int (nI (u + 1))) (ty := .int) (C := RX0) (T := TX0) (N := 6) hx hb hts hin0 tyX0 tyX0_ok nmX0 hown hK hP hD hS 0 rfl rfl 5 (by decide) (hts (.fieldLink RX0 28 "CallClusters$CallTable" "used" "I") (by decide +kernel)) (fun _ h9 => h9) rfl (by decide +kernel) (rfl) (rfl) (Nat.le_of_ble_eq_true rfl) dX0_pairFor_87 (fun H locs hP hD hS => ?_)
      have hP : va_P (dC, dI) vwCl [(h0, .inr (0, [.ref h1, .ref h2, .ref h3, .ref h4, .ref h5, .int (nI (u + 1))])), (h1, .inl (cI, 2000, .inl (upd F u f))), (h2, .inl (cI, 2000, .inl (upd T u g))), (h3, .inl (cJ, 2000, .inr (.inl (vp_updL C u 0)))), (h4, .inl (cJ, 300, .inr (.inl Hh))), (h5, .inl (cI, 300, .inl S))] H := hP
      have hD : va_D A [(h0, .inr (0, [.ref h1, .ref h2, .ref h3, .ref h4, .ref h5, .int (nI (u + 1))])), (h1, .inl (cI, 2000, .inl (upd F u f))), (h2, .inl (cI, 2000, .inl (upd T u g))), (h3, .inl (cJ, 2000, .inr (.inl (vp_updL C u 0)))), (h4, .inl (cJ, 300, .inr (.inl Hh))), (h5, .inl (cI, 300, .inl S))] := hD
      refine lv_aload_n hx hb dX0_pairFor_90 rfl (lv_at hl 0 rfl) ?_
      refine va_get (D := (dC, dI)) (ci := 0) (v := .int (nI (u + 1))) (C := RX0) (T := TX0) (N := 6) hx hb hts hin0 hown hK hP 0 rfl rfl 5 (by decide) (hts (.fieldLink RX0 28 "CallClusters$CallTable" "used" "I") (by decide +kernel)) (fun _ h9 => h9) rfl dX0_pairFor_91 ?_
      refine lv_iconst (v := 1) hx hb dX0_pairFor_94 (by decide) ?_
      refine lv_isub hx hb dX0_pairFor_95 ?_
      refine tp_i (y := nI u) (nI_pred u) ?_
      have hP9 : va_P (dC, dI) vwCl [(h0, .inr (0, [.ref h1, .ref h2, .ref h3, .ref h4, .ref h5, .int (nI (u + 1))])), (h1, .inl (cI, 2000, .inl (upd F u f))), (h2, .inl (cI, 2000, .inl (upd T u g))), (h3, .inl (cJ, 2000, .inr (.inl (vp_updL C u 0)))), (h4, .inl (cJ, 300, .inr (.inl Hh))), (h5, .inl (cI, 300, .inl S))] H := hP
      have hD9 : va_D A [(h0, .inr (0, [.ref h1, .ref h2, .ref h3, .ref h4, .ref h5, .int (nI (u + 1))])), (h1, .inl (cI, 2000, .inl (upd F u f))), (h2, .inl (cI, 2000, .inl (upd T u g))), (h3, .inl (cJ, 2000, .inr (.inl (vp_updL C u 0)))), (h4, .inl (cJ, 300, .inr (.inl Hh))), (h5, .inl (cI, 300, .inl S))] := hD
      exact W.iret (v := nI u) hx hb hr (fun t ht hW => ⟨⟨nI u, (upd F u f, upd T u g, vp_updL C u 0, u + 1), rfl, Or.inr (Or.inr ⟨hp, hu9, rfl, rfl, rfl, rfl, rfl⟩), by rw [ht]; exact hP9, va_K.moved hW.alike hK, hD9⟩, hS.F ht⟩) hS.2.2 dX0_pairFor_96
    · -- pc 45, side 1
      have hu9 : u = 2000 := by have h9 : ¬ nI u < nI 2000 := c_1; have h8 : ¬ u < 2000 := fun h7 => h9 (nI_lt h7 (by omega)); omega
      refine lv_iconst (v := (-1)) hx hb dX0_pairFor_48 (by decide) ?_
      have hP9 : va_P (dC, dI) vwCl [(h0, .inr (0, [.ref h1, .ref h2, .ref h3, .ref h4, .ref h5, .int (nI u)])), (h1, .inl (cI, 2000, .inl F)), (h2, .inl (cI, 2000, .inl T)), (h3, .inl (cJ, 2000, .inr (.inl C))), (h4, .inl (cJ, 300, .inr (.inl Hh))), (h5, .inl (cI, 300, .inl S))] H := hP
      have hD9 : va_D A [(h0, .inr (0, [.ref h1, .ref h2, .ref h3, .ref h4, .ref h5, .int (nI u)])), (h1, .inl (cI, 2000, .inl F)), (h2, .inl (cI, 2000, .inl T)), (h3, .inl (cJ, 2000, .inr (.inl C))), (h4, .inl (cJ, 300, .inr (.inl Hh))), (h5, .inl (cI, 300, .inl S))] := hD
      exact W.iret (v := (-1)) hx hb hr (fun t ht hW => ⟨⟨(-1), (F, T, C, u), rfl, Or.inr (Or.inl ⟨hp, hu9, rfl, rfl, rfl, rfl, rfl⟩), by rw [ht]; exact hP9, va_K.moved hW.alike hK, hD9⟩, hS.F ht⟩) hS.2.2 dX0_pairFor_49
set_option maxHeartbeats 4000000 in
set_option maxRecDepth 100000 in
theorem lpX0_findCallers {p : Program} {l : Launch} {ev : Env} {s : State} {m : MethodId} {args : Array Value} {below : List Frame} {meth : Method} {c : Code} {Q : State → Prop} {A : Nat → Prop} {dC : Nat → ClassId} {dI : Nat → Nat → Nat} {cI cJ cZ : ClassId} (hx : p.tables.exec = Jvm.exec) (hb : c.code = cX0_findCallers) (hml : c.maxLocals = 3) (hts : ∀ w ∈ wsX0_findCallers, w.before args s = true) (hown : s.vm.findClass RX0 = some m.cls) (hK : va_K (dC, dI) vwCl [(cI, .int), (cJ, .long), (cZ, .boolean)] s) (hA : ∀ q : Nat, s.heap.size ≤ q → A q) {h0 : Nat} {h1 : Nat} {h2 : Nat} {h3 : Nat} {h4 : Nat} {h5 : Nat} {h6 : Nat} {F T : Nat → Int32} {C Hh : Nat → Int64} {z : Nat → Int32} {u : Nat} (hu : u ≤ 2000) (hF : ∀ i, i < u → vp_in (F i) 300) (hT : ∀ i, i < u → vp_in (T i) 300)  (kn : ∀ (H : Heap) (locs : List Loc) (ls : Array Slot), va_P (dC, dI) vwCl [(h0, .inr (0, [.ref h1, .ref h2, .ref h3, .ref h4, .ref h5, .int (nI u)])), (h1, .inl (cI, 2000, .inl F)), (h2, .inl (cI, 2000, .inl T)), (h3, .inl (cJ, 2000, .inr (.inl C))), (h4, .inl (cJ, 300, .inr (.inl Hh))), (h5, .inl (cI, 300, .inl (fcN F T C z u))), (h6, .inl (cI, 300, .inl z))] H → va_D A [(h0, .inr (0, [.ref h1, .ref h2, .ref h3, .ref h4, .ref h5, .int (nI u)])), (h1, .inl (cI, 2000, .inl F)), (h2, .inl (cI, 2000, .inl T)), (h3, .inl (cJ, 2000, .inr (.inl C))), (h4, .inl (cJ, 300, .inr (.inl Hh))), (h5, .inl (cI, 300, .inl (fcN F T C z u))), (h6, .inl (cI, 300, .inl z))] → va_S A s.heap H locs → lv_has ls 3 [(0, .ref h0), (1, .ref h6)] → W p l ev ({ frames := 1, cells := 0, slots := 0, locals := 23 } : Room) s m args below meth c H locs 0 0 Q (F0 m 81 ls [])) : ∀ (n : Nat) (k : Nat), k + n = u → ∀ (H : Heap) (locs : List Loc) (ls : Array Slot), va_P (dC, dI) vwCl [(h0, .inr (0, [.ref h1, .ref h2, .ref h3, .ref h4, .ref h5, .int (nI u)])), (h1, .inl (cI, 2000, .inl F)), (h2, .inl (cI, 2000, .inl T)), (h3, .inl (cJ, 2000, .inr (.inl C))), (h4, .inl (cJ, 300, .inr (.inl Hh))), (h5, .inl (cI, 300, .inl (fcN F T C z k))), (h6, .inl (cI, 300, .inl z))] H → va_D A [(h0, .inr (0, [.ref h1, .ref h2, .ref h3, .ref h4, .ref h5, .int (nI u)])), (h1, .inl (cI, 2000, .inl F)), (h2, .inl (cI, 2000, .inl T)), (h3, .inl (cJ, 2000, .inr (.inl C))), (h4, .inl (cJ, 300, .inr (.inl Hh))), (h5, .inl (cI, 300, .inl (fcN F T C z k))), (h6, .inl (cI, 300, .inl z))] → va_S A s.heap H locs → lv_has ls 3 [(0, .ref h0), (1, .ref h6), (2, .int (nI k))] → W p l ev ({ frames := 1, cells := 0, slots := 0, locals := 23 } : Room) s m args below meth c H locs 0 0 Q (F0 m 10 ls []) := by
  have hin0 : ∀ w ∈ wsX00, w ∈ wsX0_findCallers := by decide +kernel
  intro n
  induction n with
  | zero =>
    intro k hk H locs ls hP hD hS hl
    have hk : k = u := by omega
    subst hk
    refine lv_iload_n hx hb dX0_findCallers_10 rfl (lv_at hl 2 rfl) ?_
    refine lv_aload_n hx hb dX0_findCallers_11 rfl (lv_at hl 0 rfl) ?_
    refine va_get (D := (dC, dI)) (ci := 0) (v := .int (nI k)) (C := RX0) (T := TX0) (N := 6) hx hb hts hin0 hown hK hP 0 rfl rfl 5 (by decide) (hts (.fieldLink RX0 28 "CallClusters$CallTable" "used" "I") (by decide +kernel)) (fun _ h9 => h9) rfl dX0_findCallers_12 ?_
    refine lv_icmp_ge (tgt := 81) hx hb dX0_findCallers_15 (by decide) (fun c_1 => ?_) (fun c_1 => ?_)
    · -- pc 15, side 0
      exact kn   H locs ls hP hD hS (lv_sub hl [0, 1] rfl)
    · -- pc 15, side 1
      exact absurd (nI_le (Nat.le_refl _) (by omega)) c_1
  | succ n ih =>
    intro k hk H locs ls hP hD hS hl
    refine lv_iload_n hx hb dX0_findCallers_10 rfl (lv_at hl 2 rfl) ?_
    refine lv_aload_n hx hb dX0_findCallers_11 rfl (lv_at hl 0 rfl) ?_
    refine va_get (D := (dC, dI)) (ci := 0) (v := .int (nI u)) (C := RX0) (T := TX0) (N := 6) hx hb hts hin0 hown hK hP 0 rfl rfl 5 (by decide) (hts (.fieldLink RX0 28 "CallClusters$CallTable" "used" "I") (by decide +kernel)) (fun _ h9 => h9) rfl dX0_findCallers_12 ?_
    refine lv_icmp_ge (tgt := 81) hx hb dX0_findCallers_15 (by decide) (fun c_2 => ?_) (fun c_2 => ?_)
    · -- pc 15, side 0
      exact absurd c_2 (nI_ge (show k < u by omega) (by omega))
    · -- pc 15, side 1
      refine lv_aload_n hx hb dX0_findCallers_18 rfl (lv_at hl 0 rfl) ?_
      refine va_get (D := (dC, dI)) (ci := 0) (v := .ref h1) (C := RX0) (T := TX0) (N := 6) hx hb hts hin0 hown hK hP 0 rfl rfl 0 (by decide) (hts (.fieldLink RX0 9 "CallClusters$CallTable" "from" "[I") (by decide +kernel)) (fun _ h9 => h9) rfl dX0_findCallers_19 ?_
      refine lv_iload_n hx hb dX0_findCallers_22 rfl (lv_at hl 2 rfl) ?_
      refine va_iald hx hb hK hP 1 0 rfl rfl (inn (show k < 2000 by omega) (by omega)) dX0_findCallers_23 ?_
      refine tp_i (y := F k) (by rw [ix_n (by omega)]) ?_
      refine lv_aload_n hx hb dX0_findCallers_24 rfl (lv_at hl 0 rfl) ?_
      refine va_get (D := (dC, dI)) (ci := 0) (v := .ref h2) (C := RX0) (T := TX0) (N := 6) hx hb hts hin0 hown hK hP 0 rfl rfl 1 (by decide) (hts (.fieldLink RX0 15 "CallClusters$CallTable" "to" "[I") (by decide +kernel)) (fun _ h9 => h9) rfl dX0_findCallers_25 ?_
      refine lv_iload_n hx hb dX0_findCallers_28 rfl (lv_at hl 2 rfl) ?_
      refine va_iald hx hb hK hP 2 0 rfl rfl (inn (show k < 2000 by omega) (by omega)) dX0_findCallers_29 ?_
      refine tp_i (y := T k) (by rw [ix_n (by omega)]) ?_
      refine lv_icmp_eq (tgt := 75) hx hb dX0_findCallers_30 (by decide) (fun c_3 => ?_) (fun c_3 => ?_)
      · -- pc 30, side 0
        refine lv_iinc (v := nI (k + 1)) (lv' := [(2, .int (nI (k + 1))), (0, .ref h0), (1, .ref h6)]) hx hb dX0_findCallers_75 hl (k := 2) rfl (by exact nI_1 k) (by decide) rfl (fun ls hl => ?_)
        refine lv_goto (tgt := 10) hx hb dX0_findCallers_78 (by decide) ?_
        have hq : fcN F T C z k = fcN F T C z (k + 1) := by show _ = fcStep F T C z k (fcN F T C z k); unfold fcStep; simp only [c_3, if_true, if_false]
        rw [hq] at hP hD
        exact ih (k + 1) (by omega) H locs ls hP hD hS (lv_sub hl [1, 2, 0] rfl)
      · -- pc 30, side 1
        refine lv_aload_n hx hb dX0_findCallers_33 rfl (lv_at hl 1 rfl) ?_
        refine lv_aload_n hx hb dX0_findCallers_34 rfl (lv_at hl 0 rfl) ?_
        refine va_get (D := (dC, dI)) (ci := 0) (v := .ref h1) (C := RX0) (T := TX0) (N := 6) hx hb hts hin0 hown hK hP 0 rfl rfl 0 (by decide) (hts (.fieldLink RX0 9 "CallClusters$CallTable" "from" "[I") (by decide +kernel)) (fun _ h9 => h9) rfl dX0_findCallers_35 ?_
        refine lv_iload_n hx hb dX0_findCallers_38 rfl (lv_at hl 2 rfl) ?_
        refine va_iald hx hb hK hP 1 0 rfl rfl (inn (show k < 2000 by omega) (by omega)) dX0_findCallers_39 ?_
        refine tp_i (y := F k) (by rw [ix_n (by omega)]) ?_
        refine va_iald hx hb hK hP 6 0 rfl rfl (hF k (by omega)) dX0_findCallers_40 ?_
        refine lv_if_le (tgt := 75) hx hb dX0_findCallers_41 (by decide) (fun c_4 => ?_) (fun c_4 => ?_)
        · -- pc 41, side 0
          refine lv_iinc (v := nI (k + 1)) (lv' := [(2, .int (nI (k + 1))), (0, .ref h0), (1, .ref h6)]) hx hb dX0_findCallers_75 hl (k := 2) rfl (by exact nI_1 k) (by decide) rfl (fun ls hl => ?_)
          refine lv_goto (tgt := 10) hx hb dX0_findCallers_78 (by decide) ?_
          have hq : fcN F T C z k = fcN F T C z (k + 1) := by show _ = fcStep F T C z k (fcN F T C z k); unfold fcStep; simp only [c_3, c_4, if_true, if_false]
          rw [hq] at hP hD
          exact ih (k + 1) (by omega) H locs ls hP hD hS (lv_sub hl [1, 2, 0] rfl)
        · -- pc 41, side 1
          refine lv_aload_n hx hb dX0_findCallers_44 rfl (lv_at hl 0 rfl) ?_
          refine lv_iload_n hx hb dX0_findCallers_45 rfl (lv_at hl 2 rfl) ?_
          refine lv_aload_n hx hb dX0_findCallers_46 rfl (lv_at hl 0 rfl) ?_
          refine va_get (D := (dC, dI)) (ci := 0) (v := .ref h5) (C := RX0) (T := TX0) (N := 6) hx hb hts hin0 hown hK hP 0 rfl rfl 4 (by decide) (hts (.fieldLink RX0 25 "CallClusters$CallTable" "strongest" "[I") (by decide +kernel)) (fun _ h9 => h9) rfl dX0_findCallers_47 ?_
          refine lv_aload_n hx hb dX0_findCallers_50 rfl (lv_at hl 0 rfl) ?_
          refine va_get (D := (dC, dI)) (ci := 0) (v := .ref h2) (C := RX0) (T := TX0) (N := 6) hx hb hts hin0 hown hK hP 0 rfl rfl 1 (by decide) (hts (.fieldLink RX0 15 "CallClusters$CallTable" "to" "[I") (by decide +kernel)) (fun _ h9 => h9) rfl dX0_findCallers_51 ?_
          refine lv_iload_n hx hb dX0_findCallers_54 rfl (lv_at hl 2 rfl) ?_
          refine va_iald hx hb hK hP 2 0 rfl rfl (inn (show k < 2000 by omega) (by omega)) dX0_findCallers_55 ?_
          refine tp_i (y := T k) (by rw [ix_n (by omega)]) ?_
          refine va_iald hx hb hK hP 5 0 rfl rfl (hT k (by omega)) dX0_findCallers_56 ?_
          have hPc := hP.sub (ws' := [(h0, .inr (0, [.ref h1, .ref h2, .ref h3, .ref h4, .ref h5, .int (nI u)])), (h1, .inl (cI, 2000, .inl F)), (h2, .inl (cI, 2000, .inl T)), (h3, .inl (cJ, 2000, .inr (.inl C))), (h4, .inl (cJ, 300, .inr (.inl Hh))), (h5, .inl (cI, 300, .inl (fcN F T C z k)))]) [0, 1, 2, 3, 4, 5] rfl
          have hDc := hD.sub (ws' := [(h0, .inr (0, [.ref h1, .ref h2, .ref h3, .ref h4, .ref h5, .int (nI u)])), (h1, .inl (cI, 2000, .inl F)), (h2, .inl (cI, 2000, .inl T)), (h3, .inl (cJ, 2000, .inr (.inl C))), (h4, .inl (cJ, 300, .inr (.inl Hh))), (h5, .inl (cI, 300, .inl (fcN F T C z k)))]) [0, 1, 2, 3, 4, 5] (by decide) rfl
          have hFc := va_free (wc := [(h0, .inr (0, [.ref h1, .ref h2, .ref h3, .ref h4, .ref h5, .int (nI u)])), (h1, .inl (cI, 2000, .inl F)), (h2, .inl (cI, 2000, .inl T)), (h3, .inl (cJ, 2000, .inr (.inl C))), (h4, .inl (cJ, 300, .inr (.inl Hh))), (h5, .inl (cI, 300, .inl (fcN F T C z k)))]) hD hS hA [0, 1, 2, 3, 4, 5] rfl
          refine va_calli (va_runV (As := [.int (nI k), .int ((fcN F T C z k) ((T k).toNatClampNeg))]) (rest := []) ⟨hx, hb, hml, hown, hts⟩ (ct_X0_isStronger l dC dI cI cJ cZ H.size h0 h1 h2 h3 h4 h5 F T C Hh (fcN F T C z k) u k ((fcN F T C z k) ((T k).toNatClampNeg)) (by omega) (fcN_vin _ (by omega))) (cwV 2 hts gX0_findCallers_X0_isStronger rfl rfl rfl (by decide +kernel) ⟨Nat.le_of_ble_eq_true rfl, Nat.le_of_ble_eq_true rfl⟩) (pre_V hK hPc hDc (ci := 0) rfl rfl) rfl rfl hl.1 rfl (lv_room (Nat.le_of_ble_eq_true rfl)) dX0_findCallers_57 ⟨Nat.zero_le _, Nat.zero_le _⟩) hS (fun q _ h => hFc q h) hFc (fun r_5 uu t H1 locs ht hvm hw hB hz1 hk1 hS => ?_)
          obtain ⟨hP1, hK1, hD1⟩ := hB
          rw [ht] at hP1
          try dsimp only at hw
          have hP1 : va_P (dC, dI) vwCl [(h0, .inr (0, [.ref h1, .ref h2, .ref h3, .ref h4, .ref h5, .int (nI u)])), (h1, .inl (cI, 2000, .inl F)), (h2, .inl (cI, 2000, .inl T)), (h3, .inl (cJ, 2000, .inr (.inl C))), (h4, .inl (cJ, 300, .inr (.inl Hh))), (h5, .inl (cI, 300, .inl (fcN F T C z k)))] H1 := hP1
          obtain ⟨hP, hD⟩ := va_join (wr := [(h6, .inl (cI, 300, .inl z))]) (w1 := [(h0, .inr (0, [.ref h1, .ref h2, .ref h3, .ref h4, .ref h5, .int (nI u)])), (h1, .inl (cI, 2000, .inl F)), (h2, .inl (cI, 2000, .inl T)), (h3, .inl (cJ, 2000, .inr (.inl C))), (h4, .inl (cJ, 300, .inr (.inl Hh))), (h5, .inl (cI, 300, .inl (fcN F T C z k)))]) hP hD [0, 1, 2, 3, 4, 5] [6] rfl rfl (by decide) (by decide) hk1 hFc hP1 hD1
          have hP := hP.sub (ws' := [(h0, .inr (0, [.ref h1, .ref h2, .ref h3, .ref h4, .ref h5, .int (nI u)])), (h1, .inl (cI, 2000, .inl F)), (h2, .inl (cI, 2000, .inl T)), (h3, .inl (cJ, 2000, .inr (.inl C))), (h4, .inl (cJ, 300, .inr (.inl Hh))), (h5, .inl (cI, 300, .inl (fcN F T C z k))), (h6, .inl (cI, 300, .inl z))]) [1, 2, 3, 4, 5, 6, 0] rfl
          have hD := hD.sub (ws' := [(h0, .inr (0, [.ref h1, .ref h2, .ref h3, .ref h4, .ref h5, .int (nI u)])), (h1, .inl (cI, 2000, .inl F)), (h2, .inl (cI, 2000, .inl T)), (h3, .inl (cJ, 2000, .inr (.inl C))), (h4, .inl (cJ, 300, .inr (.inl Hh))), (h5, .inl (cI, 300, .inl (fcN F T C z k))), (h6, .inl (cI, 300, .inl z))]) [1, 2, 3, 4, 5, 6, 0] (by decide) rfl
          generalize H1 = H at hP hS ⊢
          refine lv_if_eq (tgt := 75) hx hb dX0_findCallers_60 (by decide) (fun c_6 => ?_) (fun c_6 => ?_)
          · -- pc 60, side 0
            rw [hw] at c_6
            refine lv_iinc (v := nI (k + 1)) (lv' := [(2, .int (nI (k + 1))), (0, .ref h0), (1, .ref h6)]) hx hb dX0_findCallers_75 hl (k := 2) rfl (by exact nI_1 k) (by decide) rfl (fun ls hl => ?_)
            refine lv_goto (tgt := 10) hx hb dX0_findCallers_78 (by decide) ?_
            have hq : fcN F T C z k = fcN F T C z (k + 1) := by show _ = fcStep F T C z k (fcN F T C z k); unfold fcStep; simp only [c_3, c_4, c_6, if_true, if_false]
            rw [hq] at hP hD
            exact ih (k + 1) (by omega) H locs ls hP hD hS (lv_sub hl [1, 2, 0] rfl)
          · -- pc 60, side 1
            rw [hw] at c_6
            refine lv_aload_n hx hb dX0_findCallers_63 rfl (lv_at hl 0 rfl) ?_
            refine va_get (D := (dC, dI)) (ci := 0) (v := .ref h5) (C := RX0) (T := TX0) (N := 6) hx hb hts hin0 hown hK hP 0 rfl rfl 4 (by decide) (hts (.fieldLink RX0 25 "CallClusters$CallTable" "strongest" "[I") (by decide +kernel)) (fun _ h9 => h9) rfl dX0_findCallers_64 ?_
            refine lv_aload_n hx hb dX0_findCallers_67 rfl (lv_at hl 0 rfl) ?_
            refine va_get (D := (dC, dI)) (ci := 0) (v := .ref h2) (C := RX0) (T := TX0) (N := 6) hx hb hts hin0 hown hK hP 0 rfl rfl 1 (by decide) (hts (.fieldLink RX0 15 "CallClusters$CallTable" "to" "[I") (by decide +kernel)) (fun _ h9 => h9) rfl dX0_findCallers_68 ?_
            refine lv_iload_n hx hb dX0_findCallers_71 rfl (lv_at hl 2 rfl) ?_
            refine va_iald hx hb hK hP 2 0 rfl rfl (inn (show k < 2000 by omega) (by omega)) dX0_findCallers_72 ?_
            refine tp_i (y := T k) (by rw [ix_n (by omega)]) ?_
            refine lv_iload_n hx hb dX0_findCallers_73 rfl (lv_at hl 2 rfl) ?_
            refine va_iast hx hb hK hP hD hS 5 0 rfl rfl (hT k (by omega)) dX0_findCallers_74 (fun H locs hP hD hS => ?_)
            have hP : va_P (dC, dI) vwCl [(h0, .inr (0, [.ref h1, .ref h2, .ref h3, .ref h4, .ref h5, .int (nI u)])), (h1, .inl (cI, 2000, .inl F)), (h2, .inl (cI, 2000, .inl T)), (h3, .inl (cJ, 2000, .inr (.inl C))), (h4, .inl (cJ, 300, .inr (.inl Hh))), (h5, .inl (cI, 300, .inl (upd (fcN F T C z k) ((T k).toNatClampNeg) (nI k)))), (h6, .inl (cI, 300, .inl z))] H := hP
            have hD : va_D A [(h0, .inr (0, [.ref h1, .ref h2, .ref h3, .ref h4, .ref h5, .int (nI u)])), (h1, .inl (cI, 2000, .inl F)), (h2, .inl (cI, 2000, .inl T)), (h3, .inl (cJ, 2000, .inr (.inl C))), (h4, .inl (cJ, 300, .inr (.inl Hh))), (h5, .inl (cI, 300, .inl (upd (fcN F T C z k) ((T k).toNatClampNeg) (nI k)))), (h6, .inl (cI, 300, .inl z))] := hD
            refine lv_iinc (v := nI (k + 1)) (lv' := [(2, .int (nI (k + 1))), (0, .ref h0), (1, .ref h6)]) hx hb dX0_findCallers_75 hl (k := 2) rfl (by exact nI_1 k) (by decide) rfl (fun ls hl => ?_)
            refine lv_goto (tgt := 10) hx hb dX0_findCallers_78 (by decide) ?_
            have hq : upd (fcN F T C z k) ((T k).toNatClampNeg) (nI k) = fcN F T C z (k + 1) := by show _ = fcStep F T C z k (fcN F T C z k); unfold fcStep; simp only [c_3, c_4, c_6, if_true, if_false]
            rw [hq] at hP hD
            exact ih (k + 1) (by omega) H locs ls hP hD hS (lv_sub hl [1, 2, 0] rfl)
set_option maxHeartbeats 4000000 in
set_option maxRecDepth 100000 in
theorem ct_X0_findCallers (l : Launch) (dC : Nat → ClassId) (dI : Nat → Nat → Nat) (cI cJ cZ : ClassId) (sz : Nat) (h0 : Nat) (h1 : Nat) (h2 : Nat) (h3 : Nat) (h4 : Nat) (h5 : Nat) (h6 : Nat) (F T : Nat → Int32) (C Hh : Nat → Int64) (S : Nat → Int32) (u : Nat) (z : Nat → Int32) (hu : u ≤ 2000) (hF : ∀ i, i < u → vp_in (F i) 300) (hT : ∀ i, i < u → vp_in (T i) 300) : Met l yX0_findCallers wsX0_findCallers ({ frames := 1, cells := 0, slots := 0, locals := 23 }) (va_Pc [.ref h0, .ref h6] (fun U => U.heap.size = sz ∧ va_P (dC, dI) vwCl [(h0, .inr (0, [.ref h1, .ref h2, .ref h3, .ref h4, .ref h5, .int (nI u)])), (h1, .inl (cI, 2000, .inl F)), (h2, .inl (cI, 2000, .inl T)), (h3, .inl (cJ, 2000, .inr (.inl C))), (h4, .inl (cJ, 300, .inr (.inl Hh))), (h5, .inl (cI, 300, .inl S)), (h6, .inl (cI, 300, .inl z))] U.heap ∧ va_K (dC, dI) vwCl [(cI, .int), (cJ, .long), (cZ, .boolean)] U ∧ va_D (fun _ => True) [(h0, .inr (0, [.ref h1, .ref h2, .ref h3, .ref h4, .ref h5, .int (nI u)])), (h1, .inl (cI, 2000, .inl F)), (h2, .inl (cI, 2000, .inl T)), (h3, .inl (cJ, 2000, .inr (.inl C))), (h4, .inl (cJ, 300, .inr (.inl Hh))), (h5, .inl (cI, 300, .inl S)), (h6, .inl (cI, 300, .inl z))])) (va_Qv (fun (uu : Unit) => True) (fun (uu : Unit) (t : State) => va_P (dC, dI) vwCl [(h0, .inr (0, [.ref h1, .ref h2, .ref h3, .ref h4, .ref h5, .int (nI u)])), (h1, .inl (cI, 2000, .inl F)), (h2, .inl (cI, 2000, .inl T)), (h3, .inl (cJ, 2000, .inr (.inl C))), (h4, .inl (cJ, 300, .inr (.inl Hh))), (h5, .inl (cI, 300, .inl (fcN F T C z u))), (h6, .inl (cI, 300, .inl z))] t.heap ∧ va_K (dC, dI) vwCl [(cI, .int), (cJ, .long), (cZ, .boolean)] t ∧ va_D (va_A [(h0, .inr (0, [.ref h1, .ref h2, .ref h3, .ref h4, .ref h5, .int (nI u)])), (h1, .inl (cI, 2000, .inl F)), (h2, .inl (cI, 2000, .inl T)), (h3, .inl (cJ, 2000, .inr (.inl C))), (h4, .inl (cJ, 300, .inr (.inl Hh))), (h5, .inl (cI, 300, .inl S)), (h6, .inl (cI, 300, .inl z))] sz) [(h0, .inr (0, [.ref h1, .ref h2, .ref h3, .ref h4, .ref h5, .int (nI u)])), (h1, .inl (cI, 2000, .inl F)), (h2, .inl (cI, 2000, .inl T)), (h3, .inl (cJ, 2000, .inr (.inl C))), (h4, .inl (cJ, 300, .inr (.inl Hh))), (h5, .inl (cI, 300, .inl (fcN F T C z u))), (h6, .inl (cI, 300, .inl z))]) (va_A [(h0, .inr (0, [.ref h1, .ref h2, .ref h3, .ref h4, .ref h5, .int (nI u)])), (h1, .inl (cI, 2000, .inl F)), (h2, .inl (cI, 2000, .inl T)), (h3, .inl (cJ, 2000, .inr (.inl C))), (h4, .inl (cJ, 300, .inr (.inl Hh))), (h5, .inl (cI, 300, .inl S)), (h6, .inl (cI, 300, .inl z))] sz)) 0 0 (va_A [(h0, .inr (0, [.ref h1, .ref h2, .ref h3, .ref h4, .ref h5, .int (nI u)])), (h1, .inl (cI, 2000, .inl F)), (h2, .inl (cI, 2000, .inl T)), (h3, .inl (cJ, 2000, .inr (.inl C))), (h4, .inl (cJ, 300, .inr (.inl Hh))), (h5, .inl (cI, 300, .inl S)), (h6, .inl (cI, 300, .inl z))] sz) := by
  refine Met.ofW (cc := cX0_findCallers) (maxL := 3) (ret := none) (by decide) rfl ?_
  intro p ev s m args below meth c s₁ Bd hml hv
  obtain ⟨rfl, hsz, hP, hK, hD0⟩ := hv
  have hx := Bd.exec
  have hb := Bd.bytes
  have hr := Bd.returns
  have hts := atoms_spec (ws := wsX0_findCallers) Bd.pre
  have hown : s.vm.findClass RX0 = some m.cls := findClass_of_methodNamed Bd.named
  have hlocks := Bd.notSynchronized
  have hin0 : ∀ w ∈ wsX00, w ∈ wsX0_findCallers := by decide +kernel
  subst hsz
  have hD := hD0.self (sz := s.heap.size)
  generalize hAe : va_A [(h0, .inr (0, [.ref h1, .ref h2, .ref h3, .ref h4, .ref h5, .int (nI u)])), (h1, .inl (cI, 2000, .inl F)), (h2, .inl (cI, 2000, .inl T)), (h3, .inl (cJ, 2000, .inr (.inl C))), (h4, .inl (cJ, 300, .inr (.inl Hh))), (h5, .inl (cI, 300, .inl S)), (h6, .inl (cI, 300, .inl z))] s.heap.size = A at hD ⊢
  have hA : ∀ q : Nat, s.heap.size ≤ q → A q := fun q h => by rw [← hAe]; exact Or.inr h
  have hS : va_S A s.heap s.heap [] := va_S.rf
  have hl := lv_entry ([.ref h0, .ref h6]) (n := 3) (Nat.le_of_ble_eq_true rfl)
  rw [lg_entry_eq]
  generalize (lg_sl ([.ref h0, .ref h6]) ++ List.replicate (3 - (lg_sl ([.ref h0, .ref h6])).length) Slot.unset).toArray = ls at hl ⊢
  have hl : lv_has ls 3 [(0, .ref h0), (1, .ref h6)] := hl
  generalize hHe : s.heap = H at hP ⊢
  have hS : va_S A s.heap H [] := hHe ▸ hS
  refine lv_aload_n hx hb dX0_findCallers_0 rfl (lv_at hl 0 rfl) ?_
  refine va_get (D := (dC, dI)) (ci := 0) (v := .ref h5) (C := RX0) (T := TX0) (N := 6) hx hb hts hin0 hown hK hP 0 rfl rfl 4 (by decide) (hts (.fieldLink RX0 25 "CallClusters$CallTable" "strongest" "[I") (by decide +kernel)) (fun _ h9 => h9) rfl dX0_findCallers_1 ?_
  refine lv_iconst (v := (-1)) hx hb dX0_findCallers_4 (by decide) ?_
  have hPc := hP.sub (ws' := [(h5, .inl (cI, 300, .inl S))]) [5] rfl
  have hDc := hD.sub (ws' := [(h5, .inl (cI, 300, .inl S))]) [5] (by decide) rfl
  have hFc := va_free (wc := [(h5, .inl (cI, 300, .inl S))]) hD hS hA [5] rfl
  refine va_callv (va_runS (As := [.ref h5, .int ((-1))]) (rest := []) ⟨hx, hb, hml, hown, hts⟩ (ct_J7_fill_53178 l dC dI cI cJ cZ H.size h5 300 S (-1) (by decide)) (va_cwS 2 hts gX0_findCallers_J7_fill_53178 rfl rfl rfl (by decide +kernel) ⟨Nat.le_of_ble_eq_true rfl, Nat.le_of_ble_eq_true rfl⟩) (pre_S hK hPc hDc) rfl rfl hl.1 rfl (lv_room (Nat.le_of_ble_eq_true rfl)) dX0_findCallers_5 ⟨Nat.zero_le _, Nat.zero_le _⟩) hS (fun q _ h => hFc q h) hFc (fun uu t H1 locs ht hvm hw hB hz1 hk1 hS => ?_)
  obtain ⟨hP1, hK1, hD1⟩ := hB
  rw [ht] at hP1
  try dsimp only at hw
  have hP1 : va_P (dC, dI) vwCl [(h5, .inl (cI, 300, .inl (mix 300 (fun _ => (-1)) S)))] H1 := hP1
  obtain ⟨hP, hD⟩ := va_join (wr := [(h0, .inr (0, [.ref h1, .ref h2, .ref h3, .ref h4, .ref h5, .int (nI u)])), (h1, .inl (cI, 2000, .inl F)), (h2, .inl (cI, 2000, .inl T)), (h3, .inl (cJ, 2000, .inr (.inl C))), (h4, .inl (cJ, 300, .inr (.inl Hh))), (h6, .inl (cI, 300, .inl z))]) (w1 := [(h5, .inl (cI, 300, .inl (mix 300 (fun _ => (-1)) S)))]) hP hD [5] [0, 1, 2, 3, 4, 6] rfl rfl (by decide) (by decide) hk1 hFc hP1 hD1
  have hP := hP.sub (ws' := [(h0, .inr (0, [.ref h1, .ref h2, .ref h3, .ref h4, .ref h5, .int (nI u)])), (h1, .inl (cI, 2000, .inl F)), (h2, .inl (cI, 2000, .inl T)), (h3, .inl (cJ, 2000, .inr (.inl C))), (h4, .inl (cJ, 300, .inr (.inl Hh))), (h5, .inl (cI, 300, .inl (mix 300 (fun _ => (-1)) S))), (h6, .inl (cI, 300, .inl z))]) [0, 1, 2, 3, 4, 6, 5] rfl
  have hD := hD.sub (ws' := [(h0, .inr (0, [.ref h1, .ref h2, .ref h3, .ref h4, .ref h5, .int (nI u)])), (h1, .inl (cI, 2000, .inl F)), (h2, .inl (cI, 2000, .inl T)), (h3, .inl (cJ, 2000, .inr (.inl C))), (h4, .inl (cJ, 300, .inr (.inl Hh))), (h5, .inl (cI, 300, .inl (mix 300 (fun _ => (-1)) S))), (h6, .inl (cI, 300, .inl z))]) [0, 1, 2, 3, 4, 6, 5] (by decide) rfl
  generalize H1 = H at hP hS ⊢
  refine lv_iconst (v := 0) hx hb dX0_findCallers_8 (by decide) ?_
  refine tp_i (y := nI 0) (nI_0.symm) ?_
  refine lv_istore_n (lv' := [(2, .int (nI 0)), (0, .ref h0), (1, .ref h6)]) hx hb dX0_findCallers_9 rfl hl (by decide) rfl (fun ls hl => ?_)
  have hP := hP.ei 5 (fun _ => -1) rfl (fun j hj => mix_lt _ _ hj)
  have hD := hD.set (p := 5) (e := .inl (cI, 300, .inl (fun _ => -1))) rfl
  have hP : va_P (dC, dI) vwCl [(h0, .inr (0, [.ref h1, .ref h2, .ref h3, .ref h4, .ref h5, .int (nI u)])), (h1, .inl (cI, 2000, .inl F)), (h2, .inl (cI, 2000, .inl T)), (h3, .inl (cJ, 2000, .inr (.inl C))), (h4, .inl (cJ, 300, .inr (.inl Hh))), (h5, .inl (cI, 300, .inl (fun _ => -1))), (h6, .inl (cI, 300, .inl z))] H := hP
  have hD : va_D A [(h0, .inr (0, [.ref h1, .ref h2, .ref h3, .ref h4, .ref h5, .int (nI u)])), (h1, .inl (cI, 2000, .inl F)), (h2, .inl (cI, 2000, .inl T)), (h3, .inl (cJ, 2000, .inr (.inl C))), (h4, .inl (cJ, 300, .inr (.inl Hh))), (h5, .inl (cI, 300, .inl (fun _ => -1))), (h6, .inl (cI, 300, .inl z))] := hD
  refine lpX0_findCallers (F := F) (T := T) (C := C) (z := z) (u := u) hx hb hml hts hown hK hA hu hF hT (fun  H locs ls hP hD hS hl => ?_) (u) 0 (by omega) H _ ls hP hD hS (lv_sub hl [1, 2, 0] rfl)
  · -- kn
    have hP9 : va_P (dC, dI) vwCl [(h0, .inr (0, [.ref h1, .ref h2, .ref h3, .ref h4, .ref h5, .int (nI u)])), (h1, .inl (cI, 2000, .inl F)), (h2, .inl (cI, 2000, .inl T)), (h3, .inl (cJ, 2000, .inr (.inl C))), (h4, .inl (cJ, 300, .inr (.inl Hh))), (h5, .inl (cI, 300, .inl (fcN F T C z u))), (h6, .inl (cI, 300, .inl z))] H := hP
    have hD9 : va_D A [(h0, .inr (0, [.ref h1, .ref h2, .ref h3, .ref h4, .ref h5, .int (nI u)])), (h1, .inl (cI, 2000, .inl F)), (h2, .inl (cI, 2000, .inl T)), (h3, .inl (cJ, 2000, .inr (.inl C))), (h4, .inl (cJ, 300, .inr (.inl Hh))), (h5, .inl (cI, 300, .inl (fcN F T C z u))), (h6, .inl (cI, 300, .inl z))] := hD
    exact W.vret hx hb hr (fun t ht hW => ⟨⟨(), rfl, trivial, by rw [ht]; exact hP9, va_K.moved hW.alike hK, hD9⟩, hS.F ht⟩) hS.2.2 dX0_findCallers_81
set_option maxHeartbeats 4000000 in
set_option maxRecDepth 100000 in
theorem lpX0_costIn {p : Program} {l : Launch} {ev : Env} {s : State} {m : MethodId} {args : Array Value} {below : List Frame} {meth : Method} {c : Code} {Q : State → Prop} {A : Nat → Prop} {dC : Nat → ClassId} {dI : Nat → Nat → Nat} {cI cJ cZ : ClassId} (hx : p.tables.exec = Jvm.exec) (hb : c.code = cX0_costIn) (hml : c.maxLocals = 9) (hts : ∀ w ∈ wsX0_costIn, w.before args s = true) (hown : s.vm.findClass RX0 = some m.cls) (hK : va_K (dC, dI) vwCl [(cI, .int), (cJ, .long), (cZ, .boolean)] s) (hA : ∀ q : Nat, s.heap.size ≤ q → A q) {h0 : Nat} {h1 : Nat} {h2 : Nat} {h3 : Nat} {h4 : Nat} {h5 : Nat} {h6 : Nat} {h7 : Nat} {h8 : Nat} {F T : Nat → Int32} {C Hh : Nat → Int64} {S : Nat → Int32} {u : Nat} {M : Nat → Int32} {B : Nat → Int64} {v : Int32} {y : Int64} (hu : u ≤ 2000) (hF : ∀ i, i < u → vp_in (F i) 300) (hT : ∀ i, i < u → vp_in (T i) 300)  (kn : ∀ (H : Heap) (locs : List Loc) (ls : Array Slot), va_P (dC, dI) vwCl [(h0, .inr (0, [.ref h1, .ref h2, .ref h3, .ref h4, .ref h5, .int (nI u)])), (h1, .inl (cI, 2000, .inl F)), (h2, .inl (cI, 2000, .inl T)), (h3, .inl (cJ, 2000, .inr (.inl C))), (h4, .inl (cJ, 300, .inr (.inl Hh))), (h5, .inl (cI, 300, .inl S)), (h6, .inr (2, [.ref h7, .ref h8, .int v, .long y])), (h7, .inl (cI, 300, .inl M)), (h8, .inl (cJ, 300, .inr (.inl B)))] H → va_D A [(h0, .inr (0, [.ref h1, .ref h2, .ref h3, .ref h4, .ref h5, .int (nI u)])), (h1, .inl (cI, 2000, .inl F)), (h2, .inl (cI, 2000, .inl T)), (h3, .inl (cJ, 2000, .inr (.inl C))), (h4, .inl (cJ, 300, .inr (.inl Hh))), (h5, .inl (cI, 300, .inl S)), (h6, .inr (2, [.ref h7, .ref h8, .int v, .long y])), (h7, .inl (cI, 300, .inl M)), (h8, .inl (cJ, 300, .inr (.inl B)))] → va_S A s.heap H locs → lv_has ls 9 [(0, .ref h0), (2, .long (costN F T C B u))] → W p l ev ({ frames := 1, cells := 0, slots := 0, locals := 21 } : Room) s m args below meth c H locs 0 0 Q (F0 m 83 ls [])) : ∀ (n : Nat) (k : Nat), k + n = u → ∀ (H : Heap) (locs : List Loc) (ls : Array Slot), va_P (dC, dI) vwCl [(h0, .inr (0, [.ref h1, .ref h2, .ref h3, .ref h4, .ref h5, .int (nI u)])), (h1, .inl (cI, 2000, .inl F)), (h2, .inl (cI, 2000, .inl T)), (h3, .inl (cJ, 2000, .inr (.inl C))), (h4, .inl (cJ, 300, .inr (.inl Hh))), (h5, .inl (cI, 300, .inl S)), (h6, .inr (2, [.ref h7, .ref h8, .int v, .long y])), (h7, .inl (cI, 300, .inl M)), (h8, .inl (cJ, 300, .inr (.inl B)))] H → va_D A [(h0, .inr (0, [.ref h1, .ref h2, .ref h3, .ref h4, .ref h5, .int (nI u)])), (h1, .inl (cI, 2000, .inl F)), (h2, .inl (cI, 2000, .inl T)), (h3, .inl (cJ, 2000, .inr (.inl C))), (h4, .inl (cJ, 300, .inr (.inl Hh))), (h5, .inl (cI, 300, .inl S)), (h6, .inr (2, [.ref h7, .ref h8, .int v, .long y])), (h7, .inl (cI, 300, .inl M)), (h8, .inl (cJ, 300, .inr (.inl B)))] → va_S A s.heap H locs → lv_has ls 9 [(0, .ref h0), (1, .ref h6), (2, .long (costN F T C B k)), (4, .int (nI k))] → W p l ev ({ frames := 1, cells := 0, slots := 0, locals := 21 } : Room) s m args below meth c H locs 0 0 Q (F0 m 5 ls []) := by
  have hin0 : ∀ w ∈ wsX00, w ∈ wsX0_costIn := by decide +kernel
  intro n
  induction n with
  | zero =>
    intro k hk H locs ls hP hD hS hl
    have hk : k = u := by omega
    subst hk
    refine lv_iload hx hb dX0_costIn_5 (lv_at hl 3 rfl) ?_
    refine lv_aload_n hx hb dX0_costIn_7 rfl (lv_at hl 0 rfl) ?_
    refine va_get (D := (dC, dI)) (ci := 0) (v := .int (nI k)) (C := RX0) (T := TX0) (N := 6) hx hb hts hin0 hown hK hP 0 rfl rfl 5 (by decide) (hts (.fieldLink RX0 28 "CallClusters$CallTable" "used" "I") (by decide +kernel)) (fun _ h9 => h9) rfl dX0_costIn_8 ?_
    refine lv_icmp_ge (tgt := 83) hx hb dX0_costIn_11 (by decide) (fun c_1 => ?_) (fun c_1 => ?_)
    · -- pc 11, side 0
      exact kn   H locs ls hP hD hS (lv_sub hl [0, 2] rfl)
    · -- pc 11, side 1
      exact absurd (nI_le (Nat.le_refl _) (by omega)) c_1
  | succ n ih =>
    intro k hk H locs ls hP hD hS hl
    refine lv_iload hx hb dX0_costIn_5 (lv_at hl 3 rfl) ?_
    refine lv_aload_n hx hb dX0_costIn_7 rfl (lv_at hl 0 rfl) ?_
    refine va_get (D := (dC, dI)) (ci := 0) (v := .int (nI u)) (C := RX0) (T := TX0) (N := 6) hx hb hts hin0 hown hK hP 0 rfl rfl 5 (by decide) (hts (.fieldLink RX0 28 "CallClusters$CallTable" "used" "I") (by decide +kernel)) (fun _ h9 => h9) rfl dX0_costIn_8 ?_
    refine lv_icmp_ge (tgt := 83) hx hb dX0_costIn_11 (by decide) (fun c_2 => ?_) (fun c_2 => ?_)
    · -- pc 11, side 0
      exact absurd c_2 (nI_ge (show k < u by omega) (by omega))
    · -- pc 11, side 1
      refine lv_aload_n hx hb dX0_costIn_14 rfl (lv_at hl 1 rfl) ?_
      refine lv_aload_n hx hb dX0_costIn_15 rfl (lv_at hl 0 rfl) ?_
      refine va_get (D := (dC, dI)) (ci := 0) (v := .ref h1) (C := RX0) (T := TX0) (N := 6) hx hb hts hin0 hown hK hP 0 rfl rfl 0 (by decide) (hts (.fieldLink RX0 9 "CallClusters$CallTable" "from" "[I") (by decide +kernel)) (fun _ h9 => h9) rfl dX0_costIn_16 ?_
      refine lv_iload hx hb dX0_costIn_19 (lv_at hl 3 rfl) ?_
      refine va_iald hx hb hK hP 1 0 rfl rfl (inn (show k < 2000 by omega) (by omega)) dX0_costIn_21 ?_
      refine tp_i (y := F k) (by rw [ix_n (by omega)]) ?_
      have hPc := hP.sub (ws' := [(h6, .inr (2, [.ref h7, .ref h8, .int v, .long y])), (h7, .inl (cI, 300, .inl M)), (h8, .inl (cJ, 300, .inr (.inl B)))]) [6, 7, 8] rfl
      have hDc := hD.sub (ws' := [(h6, .inr (2, [.ref h7, .ref h8, .int v, .long y])), (h7, .inl (cI, 300, .inl M)), (h8, .inl (cJ, 300, .inr (.inl B)))]) [6, 7, 8] (by decide) rfl
      have hFc := va_free (wc := [(h6, .inr (2, [.ref h7, .ref h8, .int v, .long y])), (h7, .inl (cI, 300, .inl M)), (h8, .inl (cJ, 300, .inr (.inl B)))]) hD hS hA [6, 7, 8] rfl
      refine va_calll (va_runV (As := [.int (F k)]) (rest := []) ⟨hx, hb, hml, hown, hts⟩ (ct_X2_beginOf l dC dI cI cJ cZ H.size h6 h7 h8 M B v y (F k) (hF k (by omega))) (cwV 1 hts gX0_costIn_X2_beginOf rfl rfl rfl (by decide +kernel) ⟨Nat.le_of_ble_eq_true rfl, Nat.le_of_ble_eq_true rfl⟩) (pre_V hK hPc hDc (ci := 2) rfl rfl) rfl rfl hl.1 rfl (lv_room (Nat.le_of_ble_eq_true rfl)) dX0_costIn_22 ⟨Nat.zero_le _, Nat.zero_le _⟩) hS (fun q _ h => hFc q h) hFc (fun r_3 uu t H1 locs ht hvm hw hB hz1 hk1 hS => ?_)
      obtain ⟨hP1, hK1, hD1⟩ := hB
      rw [ht] at hP1
      try dsimp only at hw
      have hP1 : va_P (dC, dI) vwCl [(h6, .inr (2, [.ref h7, .ref h8, .int v, .long y])), (h7, .inl (cI, 300, .inl M)), (h8, .inl (cJ, 300, .inr (.inl B)))] H1 := hP1
      obtain ⟨hP, hD⟩ := va_join (wr := [(h0, .inr (0, [.ref h1, .ref h2, .ref h3, .ref h4, .ref h5, .int (nI u)])), (h1, .inl (cI, 2000, .inl F)), (h2, .inl (cI, 2000, .inl T)), (h3, .inl (cJ, 2000, .inr (.inl C))), (h4, .inl (cJ, 300, .inr (.inl Hh))), (h5, .inl (cI, 300, .inl S))]) (w1 := [(h6, .inr (2, [.ref h7, .ref h8, .int v, .long y])), (h7, .inl (cI, 300, .inl M)), (h8, .inl (cJ, 300, .inr (.inl B)))]) hP hD [6, 7, 8] [0, 1, 2, 3, 4, 5] rfl rfl (by decide) (by decide) hk1 hFc hP1 hD1
      have hP := hP.sub (ws' := [(h0, .inr (0, [.ref h1, .ref h2, .ref h3, .ref h4, .ref h5, .int (nI u)])), (h1, .inl (cI, 2000, .inl F)), (h2, .inl (cI, 2000, .inl T)), (h3, .inl (cJ, 2000, .inr (.inl C))), (h4, .inl (cJ, 300, .inr (.inl Hh))), (h5, .inl (cI, 300, .inl S)), (h6, .inr (2, [.ref h7, .ref h8, .int v, .long y])), (h7, .inl (cI, 300, .inl M)), (h8, .inl (cJ, 300, .inr (.inl B)))]) [0, 1, 2, 3, 4, 5, 6, 7, 8] rfl
      have hD := hD.sub (ws' := [(h0, .inr (0, [.ref h1, .ref h2, .ref h3, .ref h4, .ref h5, .int (nI u)])), (h1, .inl (cI, 2000, .inl F)), (h2, .inl (cI, 2000, .inl T)), (h3, .inl (cJ, 2000, .inr (.inl C))), (h4, .inl (cJ, 300, .inr (.inl Hh))), (h5, .inl (cI, 300, .inl S)), (h6, .inr (2, [.ref h7, .ref h8, .int v, .long y])), (h7, .inl (cI, 300, .inl M)), (h8, .inl (cJ, 300, .inr (.inl B)))]) [0, 1, 2, 3, 4, 5, 6, 7, 8] (by decide) rfl
      generalize H1 = H at hP hS ⊢
      subst hw
      refine lv_lstore (lv' := [(5, .long (B ((F k).toNatClampNeg))), (0, .ref h0), (1, .ref h6), (2, .long (costN F T C B k)), (4, .int (nI k))]) hx hb dX0_costIn_25 hl (by decide) rfl (fun ls hl => ?_)
      refine lv_aload_n hx hb dX0_costIn_27 rfl (lv_at hl 2 rfl) ?_
      refine lv_aload_n hx hb dX0_costIn_28 rfl (lv_at hl 1 rfl) ?_
      refine va_get (D := (dC, dI)) (ci := 0) (v := .ref h2) (C := RX0) (T := TX0) (N := 6) hx hb hts hin0 hown hK hP 0 rfl rfl 1 (by decide) (hts (.fieldLink RX0 15 "CallClusters$CallTable" "to" "[I") (by decide +kernel)) (fun _ h9 => h9) rfl dX0_costIn_29 ?_
      refine lv_iload hx hb dX0_costIn_32 (lv_at hl 4 rfl) ?_
      refine va_iald hx hb hK hP 2 0 rfl rfl (inn (show k < 2000 by omega) (by omega)) dX0_costIn_34 ?_
      refine tp_i (y := T k) (by rw [ix_n (by omega)]) ?_
      have hPc := hP.sub (ws' := [(h6, .inr (2, [.ref h7, .ref h8, .int v, .long y])), (h7, .inl (cI, 300, .inl M)), (h8, .inl (cJ, 300, .inr (.inl B)))]) [6, 7, 8] rfl
      have hDc := hD.sub (ws' := [(h6, .inr (2, [.ref h7, .ref h8, .int v, .long y])), (h7, .inl (cI, 300, .inl M)), (h8, .inl (cJ, 300, .inr (.inl B)))]) [6, 7, 8] (by decide) rfl
      have hFc := va_free (wc := [(h6, .inr (2, [.ref h7, .ref h8, .int v, .long y])), (h7, .inl (cI, 300, .inl M)), (h8, .inl (cJ, 300, .inr (.inl B)))]) hD hS hA [6, 7, 8] rfl
      refine va_calll (va_runV (As := [.int (T k)]) (rest := []) ⟨hx, hb, hml, hown, hts⟩ (ct_X2_beginOf l dC dI cI cJ cZ H.size h6 h7 h8 M B v y (T k) (hT k (by omega))) (cwV 1 hts gX0_costIn_X2_beginOf rfl rfl rfl (by decide +kernel) ⟨Nat.le_of_ble_eq_true rfl, Nat.le_of_ble_eq_true rfl⟩) (pre_V hK hPc hDc (ci := 2) rfl rfl) rfl rfl hl.1 rfl (lv_room (Nat.le_of_ble_eq_true rfl)) dX0_costIn_35 ⟨Nat.zero_le _, Nat.zero_le _⟩) hS (fun q _ h => hFc q h) hFc (fun r_4 uu t H1 locs ht hvm hw hB hz1 hk1 hS => ?_)
      obtain ⟨hP1, hK1, hD1⟩ := hB
      rw [ht] at hP1
      try dsimp only at hw
      have hP1 : va_P (dC, dI) vwCl [(h6, .inr (2, [.ref h7, .ref h8, .int v, .long y])), (h7, .inl (cI, 300, .inl M)), (h8, .inl (cJ, 300, .inr (.inl B)))] H1 := hP1
      obtain ⟨hP, hD⟩ := va_join (wr := [(h0, .inr (0, [.ref h1, .ref h2, .ref h3, .ref h4, .ref h5, .int (nI u)])), (h1, .inl (cI, 2000, .inl F)), (h2, .inl (cI, 2000, .inl T)), (h3, .inl (cJ, 2000, .inr (.inl C))), (h4, .inl (cJ, 300, .inr (.inl Hh))), (h5, .inl (cI, 300, .inl S))]) (w1 := [(h6, .inr (2, [.ref h7, .ref h8, .int v, .long y])), (h7, .inl (cI, 300, .inl M)), (h8, .inl (cJ, 300, .inr (.inl B)))]) hP hD [6, 7, 8] [0, 1, 2, 3, 4, 5] rfl rfl (by decide) (by decide) hk1 hFc hP1 hD1
      have hP := hP.sub (ws' := [(h0, .inr (0, [.ref h1, .ref h2, .ref h3, .ref h4, .ref h5, .int (nI u)])), (h1, .inl (cI, 2000, .inl F)), (h2, .inl (cI, 2000, .inl T)), (h3, .inl (cJ, 2000, .inr (.inl C))), (h4, .inl (cJ, 300, .inr (.inl Hh))), (h5, .inl (cI, 300, .inl S)), (h6, .inr (2, [.ref h7, .ref h8, .int v, .long y])), (h7, .inl (cI, 300, .inl M)), (h8, .inl (cJ, 300, .inr (.inl B)))]) [0, 1, 2, 3, 4, 5, 6, 7, 8] rfl
      have hD := hD.sub (ws' := [(h0, .inr (0, [.ref h1, .ref h2, .ref h3, .ref h4, .ref h5, .int (nI u)])), (h1, .inl (cI, 2000, .inl F)), (h2, .inl (cI, 2000, .inl T)), (h3, .inl (cJ, 2000, .inr (.inl C))), (h4, .inl (cJ, 300, .inr (.inl Hh))), (h5, .inl (cI, 300, .inl S)), (h6, .inr (2, [.ref h7, .ref h8, .int v, .long y])), (h7, .inl (cI, 300, .inl M)), (h8, .inl (cJ, 300, .inr (.inl B)))]) [0, 1, 2, 3, 4, 5, 6, 7, 8] (by decide) rfl
      generalize H1 = H at hP hS ⊢
      subst hw
      refine lv_lstore (lv' := [(7, .long (B ((T k).toNatClampNeg))), (5, .long (B ((F k).toNatClampNeg))), (0, .ref h0), (1, .ref h6), (2, .long (costN F T C B k)), (4, .int (nI k))]) hx hb dX0_costIn_38 hl (by decide) rfl (fun ls hl => ?_)
      refine lv_lload hx hb dX0_costIn_40 (lv_at hl 1 rfl) ?_
      refine lv_ldc2 (v := (-1)) hx hb hown (hts (.constantLong RX0 59 (-1)) (by decide +kernel)) dX0_costIn_42 ?_
      refine W.lcmp hx hb dX0_costIn_45 ?_
      refine lv_if_eq (tgt := 77) hx hb dX0_costIn_46 (by decide) (fun c_5 => ?_) (fun c_5 => ?_)
      · -- pc 46, side 0
        rw [lg_cmp_eq] at c_5
        refine lv_iinc (v := nI (k + 1)) (lv' := [(4, .int (nI (k + 1))), (7, .long (B ((T k).toNatClampNeg))), (5, .long (B ((F k).toNatClampNeg))), (0, .ref h0), (1, .ref h6), (2, .long (costN F T C B k))]) hx hb dX0_costIn_77 hl (k := 5) rfl (by exact nI_1 k) (by decide) rfl (fun ls hl => ?_)
        refine lv_goto (tgt := 5) hx hb dX0_costIn_80 (by decide) ?_
        have hq : costN F T C B k = costN F T C B (k + 1) := by show _ = costT (C k) (B ((F k).toNatClampNeg)) (B ((T k).toNatClampNeg)) (costN F T C B k); unfold costT; simp only [c_5, if_true, if_false]
        rw [hq] at hl
        exact ih (k + 1) (by omega) H locs ls hP hD hS (lv_sub hl [3, 4, 5, 0] rfl)
      · -- pc 46, side 1
        rw [lg_cmp_eq] at c_5
        refine lv_lload hx hb dX0_costIn_49 (lv_at hl 0 rfl) ?_
        refine lv_ldc2 (v := (-1)) hx hb hown (hts (.constantLong RX0 59 (-1)) (by decide +kernel)) dX0_costIn_51 ?_
        refine W.lcmp hx hb dX0_costIn_54 ?_
        refine lv_if_eq (tgt := 77) hx hb dX0_costIn_55 (by decide) (fun c_6 => ?_) (fun c_6 => ?_)
        · -- pc 55, side 0
          rw [lg_cmp_eq] at c_6
          refine lv_iinc (v := nI (k + 1)) (lv' := [(4, .int (nI (k + 1))), (7, .long (B ((T k).toNatClampNeg))), (5, .long (B ((F k).toNatClampNeg))), (0, .ref h0), (1, .ref h6), (2, .long (costN F T C B k))]) hx hb dX0_costIn_77 hl (k := 5) rfl (by exact nI_1 k) (by decide) rfl (fun ls hl => ?_)
          refine lv_goto (tgt := 5) hx hb dX0_costIn_80 (by decide) ?_
          have hq : costN F T C B k = costN F T C B (k + 1) := by show _ = costT (C k) (B ((F k).toNatClampNeg)) (B ((T k).toNatClampNeg)) (costN F T C B k); unfold costT; simp only [c_5, c_6, if_true, if_false]
          rw [hq] at hl
          exact ih (k + 1) (by omega) H locs ls hP hD hS (lv_sub hl [3, 4, 5, 0] rfl)
        · -- pc 55, side 1
          rw [lg_cmp_eq] at c_6
          refine lv_lload_n hx hb dX0_costIn_58 rfl (lv_at hl 4 rfl) ?_
          refine lv_aload_n hx hb dX0_costIn_59 rfl (lv_at hl 2 rfl) ?_
          refine va_get (D := (dC, dI)) (ci := 0) (v := .ref h3) (C := RX0) (T := TX0) (N := 6) hx hb hts hin0 hown hK hP 0 rfl rfl 2 (by decide) (hts (.fieldLink RX0 18 "CallClusters$CallTable" "counts" "[J") (by decide +kernel)) (fun _ h9 => h9) rfl dX0_costIn_60 ?_
          refine lv_iload hx hb dX0_costIn_63 (lv_at hl 5 rfl) ?_
          refine va_lald hx hb hK hP 3 1 rfl rfl (inn (show k < 2000 by omega) (by omega)) dX0_costIn_65 ?_
          refine tp_l (y := C k) (by rw [ix_n (by omega)]) ?_
          refine lv_lload hx hb dX0_costIn_66 (lv_at hl 1 rfl) ?_
          refine lv_lload hx hb dX0_costIn_68 (lv_at hl 0 rfl) ?_
          refine lv_lsub hx hb dX0_costIn_70 ?_
          refine va_mabs_long hx hb (hml.trans hl.1.symm) hown (hts (.methodLink RX0 61 Lib.MathLoose.abs_long.x) (by decide +kernel)) (hts (.static Lib.MathLoose.abs_long.x) (by decide +kernel)) (hts (.initialized "java/lang/Math") (by decide +kernel)) (hts (.code Lib.MathLoose.abs_long.x Lib.MathLoose.abs_long.code 2 (some .long)) (by decide +kernel)) (Nat.le_of_ble_eq_true rfl) (Nat.le_of_ble_eq_true rfl) (Nat.zero_le _) (Nat.zero_le _) dX0_costIn_71 ?_
          refine lv_lmul hx hb dX0_costIn_74 ?_
          refine lv_ladd hx hb dX0_costIn_75 ?_
          refine lv_lstore_n (lv' := [(2, .long ((costN F T C B k) + ((C k) * (if 0 < (B ((F k).toNatClampNeg)) - (B ((T k).toNatClampNeg)) then (B ((F k).toNatClampNeg)) - (B ((T k).toNatClampNeg)) else -((B ((F k).toNatClampNeg)) - (B ((T k).toNatClampNeg))))))), (7, .long (B ((T k).toNatClampNeg))), (5, .long (B ((F k).toNatClampNeg))), (0, .ref h0), (1, .ref h6), (4, .int (nI k))]) hx hb dX0_costIn_76 rfl hl (by decide) rfl (fun ls hl => ?_)
          refine lv_iinc (v := nI (k + 1)) (lv' := [(4, .int (nI (k + 1))), (2, .long ((costN F T C B k) + ((C k) * (if 0 < (B ((F k).toNatClampNeg)) - (B ((T k).toNatClampNeg)) then (B ((F k).toNatClampNeg)) - (B ((T k).toNatClampNeg)) else -((B ((F k).toNatClampNeg)) - (B ((T k).toNatClampNeg))))))), (7, .long (B ((T k).toNatClampNeg))), (5, .long (B ((F k).toNatClampNeg))), (0, .ref h0), (1, .ref h6)]) hx hb dX0_costIn_77 hl (k := 5) rfl (by exact nI_1 k) (by decide) rfl (fun ls hl => ?_)
          refine lv_goto (tgt := 5) hx hb dX0_costIn_80 (by decide) ?_
          have hq : (costN F T C B k) + ((C k) * (if 0 < (B ((F k).toNatClampNeg)) - (B ((T k).toNatClampNeg)) then (B ((F k).toNatClampNeg)) - (B ((T k).toNatClampNeg)) else -((B ((F k).toNatClampNeg)) - (B ((T k).toNatClampNeg))))) = costN F T C B (k + 1) := by show _ = costT (C k) (B ((F k).toNatClampNeg)) (B ((T k).toNatClampNeg)) (costN F T C B k); unfold costT; simp only [c_5, c_6, if_true, if_false]
          rw [hq] at hl
          exact ih (k + 1) (by omega) H locs ls hP hD hS (lv_sub hl [4, 5, 1, 0] rfl)
set_option maxHeartbeats 4000000 in
set_option maxRecDepth 100000 in
theorem ct_X0_costIn (l : Launch) (dC : Nat → ClassId) (dI : Nat → Nat → Nat) (cI cJ cZ : ClassId) (sz : Nat) (h0 : Nat) (h1 : Nat) (h2 : Nat) (h3 : Nat) (h4 : Nat) (h5 : Nat) (h6 : Nat) (h7 : Nat) (h8 : Nat) (F T : Nat → Int32) (C Hh : Nat → Int64) (S : Nat → Int32) (u : Nat) (M : Nat → Int32) (B : Nat → Int64) (v : Int32) (y : Int64) (hu : u ≤ 2000) (hF : ∀ i, i < u → vp_in (F i) 300) (hT : ∀ i, i < u → vp_in (T i) 300) : Met l yX0_costIn wsX0_costIn ({ frames := 1, cells := 0, slots := 0, locals := 21 }) (va_Pc [.ref h0, .ref h6] (fun U => U.heap.size = sz ∧ va_P (dC, dI) vwCl [(h0, .inr (0, [.ref h1, .ref h2, .ref h3, .ref h4, .ref h5, .int (nI u)])), (h1, .inl (cI, 2000, .inl F)), (h2, .inl (cI, 2000, .inl T)), (h3, .inl (cJ, 2000, .inr (.inl C))), (h4, .inl (cJ, 300, .inr (.inl Hh))), (h5, .inl (cI, 300, .inl S)), (h6, .inr (2, [.ref h7, .ref h8, .int v, .long y])), (h7, .inl (cI, 300, .inl M)), (h8, .inl (cJ, 300, .inr (.inl B)))] U.heap ∧ va_K (dC, dI) vwCl [(cI, .int), (cJ, .long), (cZ, .boolean)] U ∧ va_D (fun _ => True) [(h0, .inr (0, [.ref h1, .ref h2, .ref h3, .ref h4, .ref h5, .int (nI u)])), (h1, .inl (cI, 2000, .inl F)), (h2, .inl (cI, 2000, .inl T)), (h3, .inl (cJ, 2000, .inr (.inl C))), (h4, .inl (cJ, 300, .inr (.inl Hh))), (h5, .inl (cI, 300, .inl S)), (h6, .inr (2, [.ref h7, .ref h8, .int v, .long y])), (h7, .inl (cI, 300, .inl M)), (h8, .inl (cJ, 300, .inr (.inl B)))])) (va_Ql (fun (r : Int64) (uu : Unit) => r = costN F T C B u) (fun (uu : Unit) (t : State) => va_P (dC, dI) vwCl [(h0, .inr (0, [.ref h1, .ref h2, .ref h3, .ref h4, .ref h5, .int (nI u)])), (h1, .inl (cI, 2000, .inl F)), (h2, .inl (cI, 2000, .inl T)), (h3, .inl (cJ, 2000, .inr (.inl C))), (h4, .inl (cJ, 300, .inr (.inl Hh))), (h5, .inl (cI, 300, .inl S)), (h6, .inr (2, [.ref h7, .ref h8, .int v, .long y])), (h7, .inl (cI, 300, .inl M)), (h8, .inl (cJ, 300, .inr (.inl B)))] t.heap ∧ va_K (dC, dI) vwCl [(cI, .int), (cJ, .long), (cZ, .boolean)] t ∧ va_D (va_A [(h0, .inr (0, [.ref h1, .ref h2, .ref h3, .ref h4, .ref h5, .int (nI u)])), (h1, .inl (cI, 2000, .inl F)), (h2, .inl (cI, 2000, .inl T)), (h3, .inl (cJ, 2000, .inr (.inl C))), (h4, .inl (cJ, 300, .inr (.inl Hh))), (h5, .inl (cI, 300, .inl S)), (h6, .inr (2, [.ref h7, .ref h8, .int v, .long y])), (h7, .inl (cI, 300, .inl M)), (h8, .inl (cJ, 300, .inr (.inl B)))] sz) [(h0, .inr (0, [.ref h1, .ref h2, .ref h3, .ref h4, .ref h5, .int (nI u)])), (h1, .inl (cI, 2000, .inl F)), (h2, .inl (cI, 2000, .inl T)), (h3, .inl (cJ, 2000, .inr (.inl C))), (h4, .inl (cJ, 300, .inr (.inl Hh))), (h5, .inl (cI, 300, .inl S)), (h6, .inr (2, [.ref h7, .ref h8, .int v, .long y])), (h7, .inl (cI, 300, .inl M)), (h8, .inl (cJ, 300, .inr (.inl B)))]) (va_A [(h0, .inr (0, [.ref h1, .ref h2, .ref h3, .ref h4, .ref h5, .int (nI u)])), (h1, .inl (cI, 2000, .inl F)), (h2, .inl (cI, 2000, .inl T)), (h3, .inl (cJ, 2000, .inr (.inl C))), (h4, .inl (cJ, 300, .inr (.inl Hh))), (h5, .inl (cI, 300, .inl S)), (h6, .inr (2, [.ref h7, .ref h8, .int v, .long y])), (h7, .inl (cI, 300, .inl M)), (h8, .inl (cJ, 300, .inr (.inl B)))] sz)) 0 0 (va_A [(h0, .inr (0, [.ref h1, .ref h2, .ref h3, .ref h4, .ref h5, .int (nI u)])), (h1, .inl (cI, 2000, .inl F)), (h2, .inl (cI, 2000, .inl T)), (h3, .inl (cJ, 2000, .inr (.inl C))), (h4, .inl (cJ, 300, .inr (.inl Hh))), (h5, .inl (cI, 300, .inl S)), (h6, .inr (2, [.ref h7, .ref h8, .int v, .long y])), (h7, .inl (cI, 300, .inl M)), (h8, .inl (cJ, 300, .inr (.inl B)))] sz) := by
  refine Met.ofW (cc := cX0_costIn) (maxL := 9) (ret := (some .long)) (by decide) rfl ?_
  intro p ev s m args below meth c s₁ Bd hml hv
  obtain ⟨rfl, hsz, hP, hK, hD0⟩ := hv
  have hx := Bd.exec
  have hb := Bd.bytes
  have hr := Bd.returns
  have hts := atoms_spec (ws := wsX0_costIn) Bd.pre
  have hown : s.vm.findClass RX0 = some m.cls := findClass_of_methodNamed Bd.named
  have hlocks := Bd.notSynchronized
  have hin0 : ∀ w ∈ wsX00, w ∈ wsX0_costIn := by decide +kernel
  subst hsz
  have hD := hD0.self (sz := s.heap.size)
  generalize hAe : va_A [(h0, .inr (0, [.ref h1, .ref h2, .ref h3, .ref h4, .ref h5, .int (nI u)])), (h1, .inl (cI, 2000, .inl F)), (h2, .inl (cI, 2000, .inl T)), (h3, .inl (cJ, 2000, .inr (.inl C))), (h4, .inl (cJ, 300, .inr (.inl Hh))), (h5, .inl (cI, 300, .inl S)), (h6, .inr (2, [.ref h7, .ref h8, .int v, .long y])), (h7, .inl (cI, 300, .inl M)), (h8, .inl (cJ, 300, .inr (.inl B)))] s.heap.size = A at hD ⊢
  have hA : ∀ q : Nat, s.heap.size ≤ q → A q := fun q h => by rw [← hAe]; exact Or.inr h
  have hS : va_S A s.heap s.heap [] := va_S.rf
  have hl := lv_entry ([.ref h0, .ref h6]) (n := 9) (Nat.le_of_ble_eq_true rfl)
  rw [lg_entry_eq]
  generalize (lg_sl ([.ref h0, .ref h6]) ++ List.replicate (9 - (lg_sl ([.ref h0, .ref h6])).length) Slot.unset).toArray = ls at hl ⊢
  have hl : lv_has ls 9 [(0, .ref h0), (1, .ref h6)] := hl
  generalize hHe : s.heap = H at hP ⊢
  have hS : va_S A s.heap H [] := hHe ▸ hS
  refine lv_lconst (v := 0) hx hb dX0_costIn_0 (by decide) ?_
  refine tp_l (y := costN F T C B 0) (rfl) ?_
  refine lv_lstore_n (lv' := [(2, .long (costN F T C B 0)), (0, .ref h0), (1, .ref h6)]) hx hb dX0_costIn_1 rfl hl (by decide) rfl (fun ls hl => ?_)
  refine lv_iconst (v := 0) hx hb dX0_costIn_2 (by decide) ?_
  refine tp_i (y := nI 0) (nI_0.symm) ?_
  refine lv_istore (lv' := [(4, .int (nI 0)), (2, .long (costN F T C B 0)), (0, .ref h0), (1, .ref h6)]) hx hb dX0_costIn_3 hl (by decide) rfl (fun ls hl => ?_)
  refine lpX0_costIn (F := F) (T := T) (C := C) (B := B) (u := u) hx hb hml hts hown hK hA hu hF hT (fun  H locs ls hP hD hS hl => ?_) (u) 0 (by omega) H _ ls hP hD hS (lv_sub hl [2, 3, 1, 0] rfl)
  · -- kn
    refine lv_lload_n hx hb dX0_costIn_83 rfl (lv_at hl 1 rfl) ?_
    have hP9 : va_P (dC, dI) vwCl [(h0, .inr (0, [.ref h1, .ref h2, .ref h3, .ref h4, .ref h5, .int (nI u)])), (h1, .inl (cI, 2000, .inl F)), (h2, .inl (cI, 2000, .inl T)), (h3, .inl (cJ, 2000, .inr (.inl C))), (h4, .inl (cJ, 300, .inr (.inl Hh))), (h5, .inl (cI, 300, .inl S)), (h6, .inr (2, [.ref h7, .ref h8, .int v, .long y])), (h7, .inl (cI, 300, .inl M)), (h8, .inl (cJ, 300, .inr (.inl B)))] H := hP
    have hD9 : va_D A [(h0, .inr (0, [.ref h1, .ref h2, .ref h3, .ref h4, .ref h5, .int (nI u)])), (h1, .inl (cI, 2000, .inl F)), (h2, .inl (cI, 2000, .inl T)), (h3, .inl (cJ, 2000, .inr (.inl C))), (h4, .inl (cJ, 300, .inr (.inl Hh))), (h5, .inl (cI, 300, .inl S)), (h6, .inr (2, [.ref h7, .ref h8, .int v, .long y])), (h7, .inl (cI, 300, .inl M)), (h8, .inl (cJ, 300, .inr (.inl B)))] := hD
    exact W.lret (v := costN F T C B u) hx hb hr (fun t ht hW => ⟨⟨costN F T C B u, (), rfl, rfl, by rw [ht]; exact hP9, va_K.moved hW.alike hK, hD9⟩, hS.F ht⟩) hS.2.2 dX0_costIn_84
set_option maxHeartbeats 4000000 in
set_option maxRecDepth 100000 in
theorem ct_X0_init (l : Launch) (dC : Nat → ClassId) (dI : Nat → Nat → Nat) (cI cJ cZ : ClassId) (sz : Nat) (h0 : Nat)   : Met l yX0_init wsX0_init ({ frames := 1, cells := 5, slots := 6600, locals := 12 }) (va_Pc [.ref h0] (fun U => U.heap.size = sz ∧ va_P (dC, dI) vwCl [(h0, .inr (0, [.null, .null, .null, .null, .null, .int 0]))] U.heap ∧ va_K (dC, dI) vwCl [(cI, .int), (cJ, .long), (cZ, .boolean)] U ∧ va_D (fun _ => True) [(h0, .inr (0, [.null, .null, .null, .null, .null, .int 0]))])) (va_Qv (fun (uu : Unit) => True) (fun (uu : Unit) (t : State) => ∃ (h1 h2 h3 h4 h5 : Nat), va_P (dC, dI) vwCl [(h0, .inr (0, [.ref h1, .ref h2, .ref h3, .ref h4, .ref h5, .int 0])), (h1, .inl (cI, 2000, .inl (fun _ => 0))), (h2, .inl (cI, 2000, .inl (fun _ => 0))), (h3, .inl (cJ, 2000, .inr (.inl (fun _ => 0)))), (h4, .inl (cJ, 300, .inr (.inl (fun _ => 0)))), (h5, .inl (cI, 300, .inl (fun _ => 0)))] t.heap ∧ va_K (dC, dI) vwCl [(cI, .int), (cJ, .long), (cZ, .boolean)] t ∧ va_D (va_A [(h0, .inr (0, [.null, .null, .null, .null, .null, .int 0]))] sz) [(h0, .inr (0, [.ref h1, .ref h2, .ref h3, .ref h4, .ref h5, .int 0])), (h1, .inl (cI, 2000, .inl (fun _ => 0))), (h2, .inl (cI, 2000, .inl (fun _ => 0))), (h3, .inl (cJ, 2000, .inr (.inl (fun _ => 0)))), (h4, .inl (cJ, 300, .inr (.inl (fun _ => 0)))), (h5, .inl (cI, 300, .inl (fun _ => 0)))]) (va_A [(h0, .inr (0, [.null, .null, .null, .null, .null, .int 0]))] sz)) 5 6600 (va_A [(h0, .inr (0, [.null, .null, .null, .null, .null, .int 0]))] sz) := by
  refine Met.ofW (cc := cX0_init) (maxL := 1) (ret := none) (by decide) rfl ?_
  intro p ev s m args below meth c s₁ Bd hml hv
  obtain ⟨rfl, hsz, hP, hK, hD0⟩ := hv
  have hx := Bd.exec
  have hb := Bd.bytes
  have hr := Bd.returns
  have hts := atoms_spec (ws := wsX0_init) Bd.pre
  have hown : s.vm.findClass RX0 = some m.cls := findClass_of_methodNamed Bd.named
  have hlocks := Bd.notSynchronized
  have hin : meth.name = "<init>" := (name_of_methodNamed Bd.named Bd.method).1
  have hin0 : ∀ w ∈ wsX00, w ∈ wsX0_init := by decide +kernel
  subst hsz
  have hD := hD0.self (sz := s.heap.size)
  generalize hAe : va_A [(h0, .inr (0, [.null, .null, .null, .null, .null, .int 0]))] s.heap.size = A at hD ⊢
  have hA : ∀ q : Nat, s.heap.size ≤ q → A q := fun q h => by rw [← hAe]; exact Or.inr h
  have hS : va_S A s.heap s.heap [] := va_S.rf
  have hl := lv_entry ([.ref h0]) (n := 1) (Nat.le_of_ble_eq_true rfl)
  rw [lg_entry_eq]
  generalize (lg_sl ([.ref h0]) ++ List.replicate (1 - (lg_sl ([.ref h0])).length) Slot.unset).toArray = ls at hl ⊢
  have hl : lv_has ls 1 [(0, .ref h0)] := hl
  generalize hHe : s.heap = H at hP ⊢
  have hS : va_S A s.heap H [] := hHe ▸ hS
  refine lv_aload_n hx hb dX0_init_0 rfl (lv_at hl 0 rfl) ?_
  refine W.objInit hx hb hown (hts (.methodLink RX0 3 objectInit) (by decide +kernel)) (hts (.instanceMethod objectInit) (by decide +kernel)) (hts (.code objectInit ⟨#[0xb1]⟩ 1 none) (by decide +kernel)) rfl (by rw [hml]; exact hl.1) rfl dX0_init_1 (Nat.le_of_ble_eq_true rfl) (Nat.le_of_ble_eq_true rfl) ?_
  refine W.eq (g2 := F0 m 4 ls []) rfl ?_
  refine lv_aload_n hx hb dX0_init_4 rfl (lv_at hl 0 rfl) ?_
  refine lv_sipush (v := 2000) hx hb dX0_init_5 (by decide) ?_
  refine new_a (atype := .int) (ty := .int) (cA := cI) (a0 := (2000, .inl (fun _ => 0))) (N' := 2000) hx hb (hts (.arrayClass .int) (by decide +kernel)) rfl hK 0 rfl (fun _ _ h => h) hP hD hS hA (vp_zero_i _) (by decide) (by decide) (by decide) (by decide) (by decide) dX0_init_8 (fun a_1 H hP hD hS => ?_)
  have hP : va_P (dC, dI) vwCl [(h0, .inr (0, [.null, .null, .null, .null, .null, .int 0])), (a_1, .inl (cI, 2000, .inl (fun _ => 0)))] H := hP
  have hD : va_D A [(h0, .inr (0, [.null, .null, .null, .null, .null, .int 0])), (a_1, .inl (cI, 2000, .inl (fun _ => 0)))] := hD
  refine W.widen (k := 1) (n := 2000) (by omega) (by omega) ?_
  refine va_putF (D := (dC, dI)) (ci := 0) (v := .ref a_1) (ty := (.array .int)) (C := RX0) (T := TX0) (N := 6) hx hb hts hin0 tyX0 tyX0_ok nmX0 hown hK hP hD hS 0 rfl rfl 0 (by decide) (hts (.fieldLink RX0 9 "CallClusters$CallTable" "from" "[I") (by decide +kernel)) (fun _ h9 => h9) rfl hin rfl (by decide +kernel) (rfl) (rfl) (Nat.le_of_ble_eq_true rfl) dX0_init_10 (fun H locs hP hD hS => ?_)
  have hP : va_P (dC, dI) vwCl [(h0, .inr (0, [.ref a_1, .null, .null, .null, .null, .int 0])), (a_1, .inl (cI, 2000, .inl (fun _ => 0)))] H := hP
  have hD : va_D A [(h0, .inr (0, [.ref a_1, .null, .null, .null, .null, .int 0])), (a_1, .inl (cI, 2000, .inl (fun _ => 0)))] := hD
  refine lv_aload_n hx hb dX0_init_13 rfl (lv_at hl 0 rfl) ?_
  refine lv_sipush (v := 2000) hx hb dX0_init_14 (by decide) ?_
  refine new_a (atype := .int) (ty := .int) (cA := cI) (a0 := (2000, .inl (fun _ => 0))) (N' := 2000) hx hb (hts (.arrayClass .int) (by decide +kernel)) rfl hK 0 rfl (fun _ _ h => h) hP hD hS hA (vp_zero_i _) (by decide) (by decide) (by decide) (by decide) (by decide) dX0_init_17 (fun a_2 H hP hD hS => ?_)
  have hP : va_P (dC, dI) vwCl [(h0, .inr (0, [.ref a_1, .null, .null, .null, .null, .int 0])), (a_1, .inl (cI, 2000, .inl (fun _ => 0))), (a_2, .inl (cI, 2000, .inl (fun _ => 0)))] H := hP
  have hD : va_D A [(h0, .inr (0, [.ref a_1, .null, .null, .null, .null, .int 0])), (a_1, .inl (cI, 2000, .inl (fun _ => 0))), (a_2, .inl (cI, 2000, .inl (fun _ => 0)))] := hD
  refine W.widen (k := 2) (n := 4000) (by omega) (by omega) ?_
  refine va_putF (D := (dC, dI)) (ci := 0) (v := .ref a_2) (ty := (.array .int)) (C := RX0) (T := TX0) (N := 6) hx hb hts hin0 tyX0 tyX0_ok nmX0 hown hK hP hD hS 0 rfl rfl 1 (by decide) (hts (.fieldLink RX0 15 "CallClusters$CallTable" "to" "[I") (by decide +kernel)) (fun _ h9 => h9) rfl hin rfl (by decide +kernel) (rfl) (rfl) (Nat.le_of_ble_eq_true rfl) dX0_init_19 (fun H locs hP hD hS => ?_)
  have hP : va_P (dC, dI) vwCl [(h0, .inr (0, [.ref a_1, .ref a_2, .null, .null, .null, .int 0])), (a_1, .inl (cI, 2000, .inl (fun _ => 0))), (a_2, .inl (cI, 2000, .inl (fun _ => 0)))] H := hP
  have hD : va_D A [(h0, .inr (0, [.ref a_1, .ref a_2, .null, .null, .null, .int 0])), (a_1, .inl (cI, 2000, .inl (fun _ => 0))), (a_2, .inl (cI, 2000, .inl (fun _ => 0)))] := hD
  refine lv_aload_n hx hb dX0_init_22 rfl (lv_at hl 0 rfl) ?_
  refine lv_sipush (v := 2000) hx hb dX0_init_23 (by decide) ?_
  refine new_a (atype := .long) (ty := .long) (cA := cJ) (a0 := (2000, .inr (.inl (fun _ => 0)))) (N' := 2000) hx hb (hts (.arrayClass .long) (by decide +kernel)) rfl hK 1 rfl (fun _ _ h => h) hP hD hS hA (vp_zero_l _) (by decide) (by decide) (by decide) (by decide) (by decide) dX0_init_26 (fun a_3 H hP hD hS => ?_)
  have hP : va_P (dC, dI) vwCl [(h0, .inr (0, [.ref a_1, .ref a_2, .null, .null, .null, .int 0])), (a_1, .inl (cI, 2000, .inl (fun _ => 0))), (a_2, .inl (cI, 2000, .inl (fun _ => 0))), (a_3, .inl (cJ, 2000, .inr (.inl (fun _ => 0))))] H := hP
  have hD : va_D A [(h0, .inr (0, [.ref a_1, .ref a_2, .null, .null, .null, .int 0])), (a_1, .inl (cI, 2000, .inl (fun _ => 0))), (a_2, .inl (cI, 2000, .inl (fun _ => 0))), (a_3, .inl (cJ, 2000, .inr (.inl (fun _ => 0))))] := hD
  refine W.widen (k := 3) (n := 6000) (by omega) (by omega) ?_
  refine va_putF (D := (dC, dI)) (ci := 0) (v := .ref a_3) (ty := (.array .long)) (C := RX0) (T := TX0) (N := 6) hx hb hts hin0 tyX0 tyX0_ok nmX0 hown hK hP hD hS 0 rfl rfl 2 (by decide) (hts (.fieldLink RX0 18 "CallClusters$CallTable" "counts" "[J") (by decide +kernel)) (fun _ h9 => h9) rfl hin rfl (by decide +kernel) (rfl) (rfl) (Nat.le_of_ble_eq_true rfl) dX0_init_28 (fun H locs hP hD hS => ?_)
  have hP : va_P (dC, dI) vwCl [(h0, .inr (0, [.ref a_1, .ref a_2, .ref a_3, .null, .null, .int 0])), (a_1, .inl (cI, 2000, .inl (fun _ => 0))), (a_2, .inl (cI, 2000, .inl (fun _ => 0))), (a_3, .inl (cJ, 2000, .inr (.inl (fun _ => 0))))] H := hP
  have hD : va_D A [(h0, .inr (0, [.ref a_1, .ref a_2, .ref a_3, .null, .null, .int 0])), (a_1, .inl (cI, 2000, .inl (fun _ => 0))), (a_2, .inl (cI, 2000, .inl (fun _ => 0))), (a_3, .inl (cJ, 2000, .inr (.inl (fun _ => 0))))] := hD
  refine lv_aload_n hx hb dX0_init_31 rfl (lv_at hl 0 rfl) ?_
  refine lv_sipush (v := 300) hx hb dX0_init_32 (by decide) ?_
  refine new_a (atype := .long) (ty := .long) (cA := cJ) (a0 := (300, .inr (.inl (fun _ => 0)))) (N' := 300) hx hb (hts (.arrayClass .long) (by decide +kernel)) rfl hK 1 rfl (fun _ _ h => h) hP hD hS hA (vp_zero_l _) (by decide) (by decide) (by decide) (by decide) (by decide) dX0_init_35 (fun a_4 H hP hD hS => ?_)
  have hP : va_P (dC, dI) vwCl [(h0, .inr (0, [.ref a_1, .ref a_2, .ref a_3, .null, .null, .int 0])), (a_1, .inl (cI, 2000, .inl (fun _ => 0))), (a_2, .inl (cI, 2000, .inl (fun _ => 0))), (a_3, .inl (cJ, 2000, .inr (.inl (fun _ => 0)))), (a_4, .inl (cJ, 300, .inr (.inl (fun _ => 0))))] H := hP
  have hD : va_D A [(h0, .inr (0, [.ref a_1, .ref a_2, .ref a_3, .null, .null, .int 0])), (a_1, .inl (cI, 2000, .inl (fun _ => 0))), (a_2, .inl (cI, 2000, .inl (fun _ => 0))), (a_3, .inl (cJ, 2000, .inr (.inl (fun _ => 0)))), (a_4, .inl (cJ, 300, .inr (.inl (fun _ => 0))))] := hD
  refine W.widen (k := 4) (n := 6300) (by omega) (by omega) ?_
  refine va_putF (D := (dC, dI)) (ci := 0) (v := .ref a_4) (ty := (.array .long)) (C := RX0) (T := TX0) (N := 6) hx hb hts hin0 tyX0 tyX0_ok nmX0 hown hK hP hD hS 0 rfl rfl 3 (by decide) (hts (.fieldLink RX0 22 "CallClusters$CallTable" "heats" "[J") (by decide +kernel)) (fun _ h9 => h9) rfl hin rfl (by decide +kernel) (rfl) (rfl) (Nat.le_of_ble_eq_true rfl) dX0_init_37 (fun H locs hP hD hS => ?_)
  have hP : va_P (dC, dI) vwCl [(h0, .inr (0, [.ref a_1, .ref a_2, .ref a_3, .ref a_4, .null, .int 0])), (a_1, .inl (cI, 2000, .inl (fun _ => 0))), (a_2, .inl (cI, 2000, .inl (fun _ => 0))), (a_3, .inl (cJ, 2000, .inr (.inl (fun _ => 0)))), (a_4, .inl (cJ, 300, .inr (.inl (fun _ => 0))))] H := hP
  have hD : va_D A [(h0, .inr (0, [.ref a_1, .ref a_2, .ref a_3, .ref a_4, .null, .int 0])), (a_1, .inl (cI, 2000, .inl (fun _ => 0))), (a_2, .inl (cI, 2000, .inl (fun _ => 0))), (a_3, .inl (cJ, 2000, .inr (.inl (fun _ => 0)))), (a_4, .inl (cJ, 300, .inr (.inl (fun _ => 0))))] := hD
  refine lv_aload_n hx hb dX0_init_40 rfl (lv_at hl 0 rfl) ?_
  refine lv_sipush (v := 300) hx hb dX0_init_41 (by decide) ?_
  refine new_a (atype := .int) (ty := .int) (cA := cI) (a0 := (300, .inl (fun _ => 0))) (N' := 300) hx hb (hts (.arrayClass .int) (by decide +kernel)) rfl hK 0 rfl (fun _ _ h => h) hP hD hS hA (vp_zero_i _) (by decide) (by decide) (by decide) (by decide) (by decide) dX0_init_44 (fun a_5 H hP hD hS => ?_)
  have hP : va_P (dC, dI) vwCl [(h0, .inr (0, [.ref a_1, .ref a_2, .ref a_3, .ref a_4, .null, .int 0])), (a_1, .inl (cI, 2000, .inl (fun _ => 0))), (a_2, .inl (cI, 2000, .inl (fun _ => 0))), (a_3, .inl (cJ, 2000, .inr (.inl (fun _ => 0)))), (a_4, .inl (cJ, 300, .inr (.inl (fun _ => 0)))), (a_5, .inl (cI, 300, .inl (fun _ => 0)))] H := hP
  have hD : va_D A [(h0, .inr (0, [.ref a_1, .ref a_2, .ref a_3, .ref a_4, .null, .int 0])), (a_1, .inl (cI, 2000, .inl (fun _ => 0))), (a_2, .inl (cI, 2000, .inl (fun _ => 0))), (a_3, .inl (cJ, 2000, .inr (.inl (fun _ => 0)))), (a_4, .inl (cJ, 300, .inr (.inl (fun _ => 0)))), (a_5, .inl (cI, 300, .inl (fun _ => 0)))] := hD
  refine W.widen (k := 5) (n := 6600) (by omega) (by omega) ?_
  refine va_putF (D := (dC, dI)) (ci := 0) (v := .ref a_5) (ty := (.array .int)) (C := RX0) (T := TX0) (N := 6) hx hb hts hin0 tyX0 tyX0_ok nmX0 hown hK hP hD hS 0 rfl rfl 4 (by decide) (hts (.fieldLink RX0 25 "CallClusters$CallTable" "strongest" "[I") (by decide +kernel)) (fun _ h9 => h9) rfl hin rfl (by decide +kernel) (rfl) (rfl) (Nat.le_of_ble_eq_true rfl) dX0_init_46 (fun H locs hP hD hS => ?_)
  have hP : va_P (dC, dI) vwCl [(h0, .inr (0, [.ref a_1, .ref a_2, .ref a_3, .ref a_4, .ref a_5, .int 0])), (a_1, .inl (cI, 2000, .inl (fun _ => 0))), (a_2, .inl (cI, 2000, .inl (fun _ => 0))), (a_3, .inl (cJ, 2000, .inr (.inl (fun _ => 0)))), (a_4, .inl (cJ, 300, .inr (.inl (fun _ => 0)))), (a_5, .inl (cI, 300, .inl (fun _ => 0)))] H := hP
  have hD : va_D A [(h0, .inr (0, [.ref a_1, .ref a_2, .ref a_3, .ref a_4, .ref a_5, .int 0])), (a_1, .inl (cI, 2000, .inl (fun _ => 0))), (a_2, .inl (cI, 2000, .inl (fun _ => 0))), (a_3, .inl (cJ, 2000, .inr (.inl (fun _ => 0)))), (a_4, .inl (cJ, 300, .inr (.inl (fun _ => 0)))), (a_5, .inl (cI, 300, .inl (fun _ => 0)))] := hD
  have hP9 : va_P (dC, dI) vwCl [(h0, .inr (0, [.ref a_1, .ref a_2, .ref a_3, .ref a_4, .ref a_5, .int 0])), (a_1, .inl (cI, 2000, .inl (fun _ => 0))), (a_2, .inl (cI, 2000, .inl (fun _ => 0))), (a_3, .inl (cJ, 2000, .inr (.inl (fun _ => 0)))), (a_4, .inl (cJ, 300, .inr (.inl (fun _ => 0)))), (a_5, .inl (cI, 300, .inl (fun _ => 0)))] H := hP
  have hD9 : va_D A [(h0, .inr (0, [.ref a_1, .ref a_2, .ref a_3, .ref a_4, .ref a_5, .int 0])), (a_1, .inl (cI, 2000, .inl (fun _ => 0))), (a_2, .inl (cI, 2000, .inl (fun _ => 0))), (a_3, .inl (cJ, 2000, .inr (.inl (fun _ => 0)))), (a_4, .inl (cJ, 300, .inr (.inl (fun _ => 0)))), (a_5, .inl (cI, 300, .inl (fun _ => 0)))] := hD
  refine W.widen (k := 5) (n := 6600) (by omega) (by omega) ?_
  exact W.vret hx hb hr (fun t ht hW => ⟨⟨(), rfl, trivial, a_1, a_2, a_3, a_4, a_5, by rw [ht]; exact hP9, va_K.moved hW.alike hK, hD9⟩, hS.F ht⟩) hS.2.2 dX0_init_49
end
section
theorem dX1_init_0 : decode cX1_init 0 = .ok (.aload_n 0, 1) := by decide +kernel
theorem dX1_init_1 : decode cX1_init 1 = .ok (.invokespecial 3, 3) := by decide +kernel
theorem dX1_init_4 : decode cX1_init 4 = .ok (.aload_n 0, 1) := by decide +kernel
theorem dX1_init_5 : decode cX1_init 5 = .ok (.sipush 300, 3) := by decide +kernel
theorem dX1_init_8 : decode cX1_init 8 = .ok (.newarray .int, 2) := by decide +kernel
theorem dX1_init_10 : decode cX1_init 10 = .ok (.putfield 9, 3) := by decide +kernel
theorem dX1_init_13 : decode cX1_init 13 = .ok (.aload_n 0, 1) := by decide +kernel
theorem dX1_init_14 : decode cX1_init 14 = .ok (.sipush 300, 3) := by decide +kernel
theorem dX1_init_17 : decode cX1_init 17 = .ok (.newarray .int, 2) := by decide +kernel
theorem dX1_init_19 : decode cX1_init 19 = .ok (.putfield 15, 3) := by decide +kernel
theorem dX1_init_22 : decode cX1_init 22 = .ok (.aload_n 0, 1) := by decide +kernel
theorem dX1_init_23 : decode cX1_init 23 = .ok (.sipush 300, 3) := by decide +kernel
theorem dX1_init_26 : decode cX1_init 26 = .ok (.newarray .int, 2) := by decide +kernel
theorem dX1_init_28 : decode cX1_init 28 = .ok (.putfield 18, 3) := by decide +kernel
theorem dX1_init_31 : decode cX1_init 31 = .ok (.aload_n 0, 1) := by decide +kernel
theorem dX1_init_32 : decode cX1_init 32 = .ok (.sipush 300, 3) := by decide +kernel
theorem dX1_init_35 : decode cX1_init 35 = .ok (.newarray .int, 2) := by decide +kernel
theorem dX1_init_37 : decode cX1_init 37 = .ok (.putfield 21, 3) := by decide +kernel
theorem dX1_init_40 : decode cX1_init 40 = .ok (.aload_n 0, 1) := by decide +kernel
theorem dX1_init_41 : decode cX1_init 41 = .ok (.sipush 300, 3) := by decide +kernel
theorem dX1_init_44 : decode cX1_init 44 = .ok (.newarray .long, 2) := by decide +kernel
theorem dX1_init_46 : decode cX1_init 46 = .ok (.putfield 24, 3) := by decide +kernel
theorem dX1_init_49 : decode cX1_init 49 = .ok (.aload_n 0, 1) := by decide +kernel
theorem dX1_init_50 : decode cX1_init 50 = .ok (.sipush 300, 3) := by decide +kernel
theorem dX1_init_53 : decode cX1_init 53 = .ok (.newarray .long, 2) := by decide +kernel
theorem dX1_init_55 : decode cX1_init 55 = .ok (.putfield 28, 3) := by decide +kernel
theorem dX1_init_58 : decode cX1_init 58 = .ok (.aload_n 0, 1) := by decide +kernel
theorem dX1_init_59 : decode cX1_init 59 = .ok (.sipush 300, 3) := by decide +kernel
theorem dX1_init_62 : decode cX1_init 62 = .ok (.newarray .int, 2) := by decide +kernel
theorem dX1_init_64 : decode cX1_init 64 = .ok (.putfield 31, 3) := by decide +kernel
theorem dX1_init_67 : decode cX1_init 67 = .ok (.aload_n 0, 1) := by decide +kernel
theorem dX1_init_68 : decode cX1_init 68 = .ok (.sipush 300, 3) := by decide +kernel
theorem dX1_init_71 : decode cX1_init 71 = .ok (.newarray .int, 2) := by decide +kernel
theorem dX1_init_73 : decode cX1_init 73 = .ok (.putfield 34, 3) := by decide +kernel
theorem dX1_init_76 : decode cX1_init 76 = .ok (.return_, 1) := by decide +kernel
set_option maxRecDepth 20000 in
theorem ggX1_build_X1_standAlone : GoodIn wsX1_build wsX1_standAlone := goodIn_r _ [8, 1, 9, 10, 11, 3, 12, 13, 14, 15, 16, 17, 18, 47, 48, 49, 50, 51, 52, 53, 54, 55, 56, 57, 58, 59, 60, 61] (by decide +kernel) (by decide +kernel)
set_option maxRecDepth 20000 in
theorem gX1_build_X1_standAlone : GoodIn wsX1_build (wsV RX1 37 RX1 yX1_standAlone wsX1_standAlone) := goodIn_app (goodIn_of _ (by decide +kernel)) ggX1_build_X1_standAlone
set_option maxRecDepth 20000 in
theorem ggX1_build_X1_orderByHeat : GoodIn wsX1_build wsX1_orderByHeat := goodIn_r _ [22, 1, 12, 2, 23, 24, 25, 16, 26, 27, 28, 47, 48, 49, 50, 51, 52, 53, 54, 55, 56, 57, 58, 59, 60, 61] (by decide +kernel) (by decide +kernel)
set_option maxRecDepth 20000 in
theorem gX1_build_X1_orderByHeat : GoodIn wsX1_build (wsV RX1 41 RX1 yX1_orderByHeat wsX1_orderByHeat) := goodIn_app (goodIn_of _ (by decide +kernel)) ggX1_build_X1_orderByHeat
set_option maxRecDepth 20000 in
theorem ggX1_build_X0_callerOf : GoodIn wsX1_build wsX0_callerOf := goodIn_r _ [26, 27, 28, 56, 57, 58, 59, 60, 61] (by decide +kernel) (by decide +kernel)
set_option maxRecDepth 20000 in
theorem gX1_build_X0_callerOf : GoodIn wsX1_build (wsV RX1 45 RX0 yX0_callerOf wsX0_callerOf) := goodIn_app (goodIn_of _ (by decide +kernel)) ggX1_build_X0_callerOf
set_option maxRecDepth 20000 in
theorem ggX1_build_X1_join : GoodIn wsX1_build wsX1_join := goodIn_r _ [32, 1, 9, 10, 11, 33, 34, 35, 36, 3, 12, 47, 48, 49, 50, 51, 52, 53, 54, 55] (by decide +kernel) (by decide +kernel)
set_option maxRecDepth 20000 in
theorem gX1_build_X1_join : GoodIn wsX1_build (wsV RX1 51 RX1 yX1_join wsX1_join) := goodIn_app (goodIn_of _ (by decide +kernel)) ggX1_build_X1_join
set_option maxRecDepth 20000 in
theorem ggX1_build_X1_rank : GoodIn wsX1_build wsX1_rank := goodIn_r _ [40, 41, 1, 11, 42, 43, 44, 45, 7, 46, 3, 12, 47, 48, 49, 50, 51, 52, 53, 54, 55] (by decide +kernel) (by decide +kernel)
set_option maxRecDepth 20000 in
theorem gX1_build_X1_rank : GoodIn wsX1_build (wsV RX1 55 RX1 yX1_rank wsX1_rank) := goodIn_app (goodIn_of _ (by decide +kernel)) ggX1_build_X1_rank
theorem dX1_build_0 : decode cX1_build 0 = .ok (.aload_n 0, 1) := by decide +kernel
theorem dX1_build_1 : decode cX1_build 1 = .ok (.aload_n 1, 1) := by decide +kernel
theorem dX1_build_2 : decode cX1_build 2 = .ok (.aload_n 2, 1) := by decide +kernel
theorem dX1_build_3 : decode cX1_build 3 = .ok (.invokevirtual 37, 3) := by decide +kernel
theorem dX1_build_6 : decode cX1_build 6 = .ok (.aload_n 0, 1) := by decide +kernel
theorem dX1_build_7 : decode cX1_build 7 = .ok (.aload_n 2, 1) := by decide +kernel
theorem dX1_build_8 : decode cX1_build 8 = .ok (.invokevirtual 41, 3) := by decide +kernel
theorem dX1_build_11 : decode cX1_build 11 = .ok (.istore 4, 2) := by decide +kernel
theorem dX1_build_13 : decode cX1_build 13 = .ok (.iconst 0, 1) := by decide +kernel
theorem dX1_build_14 : decode cX1_build 14 = .ok (.istore 5, 2) := by decide +kernel
theorem dX1_build_16 : decode cX1_build 16 = .ok (.iload 5, 2) := by decide +kernel
theorem dX1_build_18 : decode cX1_build 18 = .ok (.iload 4, 2) := by decide +kernel
theorem dX1_build_20 : decode cX1_build 20 = .ok (.if_icmp .ge 77, 3) := by decide +kernel
theorem dX1_build_23 : decode cX1_build 23 = .ok (.aload_n 0, 1) := by decide +kernel
theorem dX1_build_24 : decode cX1_build 24 = .ok (.getfield 9, 3) := by decide +kernel
theorem dX1_build_27 : decode cX1_build 27 = .ok (.aload_n 2, 1) := by decide +kernel
theorem dX1_build_28 : decode cX1_build 28 = .ok (.aload_n 0, 1) := by decide +kernel
theorem dX1_build_29 : decode cX1_build 29 = .ok (.getfield 31, 3) := by decide +kernel
theorem dX1_build_32 : decode cX1_build 32 = .ok (.iload 5, 2) := by decide +kernel
theorem dX1_build_34 : decode cX1_build 34 = .ok (.iaload, 1) := by decide +kernel
theorem dX1_build_35 : decode cX1_build 35 = .ok (.invokevirtual 45, 3) := by decide +kernel
theorem dX1_build_38 : decode cX1_build 38 = .ok (.iaload, 1) := by decide +kernel
theorem dX1_build_39 : decode cX1_build 39 = .ok (.istore 6, 2) := by decide +kernel
theorem dX1_build_41 : decode cX1_build 41 = .ok (.aload_n 0, 1) := by decide +kernel
theorem dX1_build_42 : decode cX1_build 42 = .ok (.getfield 9, 3) := by decide +kernel
theorem dX1_build_45 : decode cX1_build 45 = .ok (.aload_n 0, 1) := by decide +kernel
theorem dX1_build_46 : decode cX1_build 46 = .ok (.getfield 31, 3) := by decide +kernel
theorem dX1_build_49 : decode cX1_build 49 = .ok (.iload 5, 2) := by decide +kernel
theorem dX1_build_51 : decode cX1_build 51 = .ok (.iaload, 1) := by decide +kernel
theorem dX1_build_52 : decode cX1_build 52 = .ok (.iaload, 1) := by decide +kernel
theorem dX1_build_53 : decode cX1_build 53 = .ok (.istore 7, 2) := by decide +kernel
theorem dX1_build_55 : decode cX1_build 55 = .ok (.iload 6, 2) := by decide +kernel
theorem dX1_build_57 : decode cX1_build 57 = .ok (.iload 7, 2) := by decide +kernel
theorem dX1_build_59 : decode cX1_build 59 = .ok (.if_icmp .eq 32, 3) := by decide +kernel
theorem dX1_build_62 : decode cX1_build 62 = .ok (.aload_n 0, 1) := by decide +kernel
theorem dX1_build_63 : decode cX1_build 63 = .ok (.getfield 24, 3) := by decide +kernel
theorem dX1_build_66 : decode cX1_build 66 = .ok (.iload 6, 2) := by decide +kernel
theorem dX1_build_68 : decode cX1_build 68 = .ok (.laload, 1) := by decide +kernel
theorem dX1_build_69 : decode cX1_build 69 = .ok (.aload_n 0, 1) := by decide +kernel
theorem dX1_build_70 : decode cX1_build 70 = .ok (.getfield 24, 3) := by decide +kernel
theorem dX1_build_73 : decode cX1_build 73 = .ok (.iload 7, 2) := by decide +kernel
theorem dX1_build_75 : decode cX1_build 75 = .ok (.laload, 1) := by decide +kernel
theorem dX1_build_76 : decode cX1_build 76 = .ok (.ladd, 1) := by decide +kernel
theorem dX1_build_77 : decode cX1_build 77 = .ok (.iload_n 3, 1) := by decide +kernel
theorem dX1_build_78 : decode cX1_build 78 = .ok (.i2l, 1) := by decide +kernel
theorem dX1_build_79 : decode cX1_build 79 = .ok (.lcmp, 1) := by decide +kernel
theorem dX1_build_80 : decode cX1_build 80 = .ok (.ifCond .gt 11, 3) := by decide +kernel
theorem dX1_build_83 : decode cX1_build 83 = .ok (.aload_n 0, 1) := by decide +kernel
theorem dX1_build_84 : decode cX1_build 84 = .ok (.iload 6, 2) := by decide +kernel
theorem dX1_build_86 : decode cX1_build 86 = .ok (.iload 7, 2) := by decide +kernel
theorem dX1_build_88 : decode cX1_build 88 = .ok (.invokevirtual 51, 3) := by decide +kernel
theorem dX1_build_91 : decode cX1_build 91 = .ok (.iinc 5 1, 3) := by decide +kernel
theorem dX1_build_94 : decode cX1_build 94 = .ok (.goto (-78), 3) := by decide +kernel
theorem dX1_build_97 : decode cX1_build 97 = .ok (.aload_n 0, 1) := by decide +kernel
theorem dX1_build_98 : decode cX1_build 98 = .ok (.invokevirtual 55, 3) := by decide +kernel
theorem dX1_build_101 : decode cX1_build 101 = .ok (.return_, 1) := by decide +kernel
theorem dX1_clusterCount_0 : decode cX1_clusterCount 0 = .ok (.aload_n 0, 1) := by decide +kernel
theorem dX1_clusterCount_1 : decode cX1_clusterCount 1 = .ok (.getfield 58, 3) := by decide +kernel
theorem dX1_clusterCount_4 : decode cX1_clusterCount 4 = .ok (.ireturn, 1) := by decide +kernel
theorem dX1_firstOf_0 : decode cX1_firstOf 0 = .ok (.aload_n 0, 1) := by decide +kernel
theorem dX1_firstOf_1 : decode cX1_firstOf 1 = .ok (.getfield 9, 3) := by decide +kernel
theorem dX1_firstOf_4 : decode cX1_firstOf 4 = .ok (.iload_n 1, 1) := by decide +kernel
theorem dX1_firstOf_5 : decode cX1_firstOf 5 = .ok (.iaload, 1) := by decide +kernel
theorem dX1_firstOf_6 : decode cX1_firstOf 6 = .ok (.ireturn, 1) := by decide +kernel
set_option maxRecDepth 20000 in
theorem ggX1_writeTo_X2_empty : GoodIn wsX1_writeTo wsX2_empty := goodIn_r _ [8, 9, 10, 11, 12, 13, 14, 15, 16, 31, 32, 33, 34] (by decide +kernel) (by decide +kernel)
set_option maxRecDepth 20000 in
theorem gX1_writeTo_X2_empty : GoodIn wsX1_writeTo (wsV RX1 62 RX2 yX2_empty wsX2_empty) := goodIn_app (goodIn_of _ (by decide +kernel)) ggX1_writeTo_X2_empty
set_option maxRecDepth 20000 in
theorem ggX1_writeTo_X2_append : GoodIn wsX1_writeTo wsX2_append := goodIn_r _ [20, 9, 21, 11, 10, 31, 32, 33, 34] (by decide +kernel) (by decide +kernel)
set_option maxRecDepth 20000 in
theorem gX1_writeTo_X2_append : GoodIn wsX1_writeTo (wsV RX1 67 RX2 yX2_append wsX2_append) := goodIn_app (goodIn_of _ (by decide +kernel)) ggX1_writeTo_X2_append
theorem dX1_writeTo_0 : decode cX1_writeTo 0 = .ok (.aload_n 1, 1) := by decide +kernel
theorem dX1_writeTo_1 : decode cX1_writeTo 1 = .ok (.invokevirtual 62, 3) := by decide +kernel
theorem dX1_writeTo_4 : decode cX1_writeTo 4 = .ok (.iconst 0, 1) := by decide +kernel
theorem dX1_writeTo_5 : decode cX1_writeTo 5 = .ok (.istore_n 3, 1) := by decide +kernel
theorem dX1_writeTo_6 : decode cX1_writeTo 6 = .ok (.iload_n 3, 1) := by decide +kernel
theorem dX1_writeTo_7 : decode cX1_writeTo 7 = .ok (.aload_n 0, 1) := by decide +kernel
theorem dX1_writeTo_8 : decode cX1_writeTo 8 = .ok (.getfield 58, 3) := by decide +kernel
theorem dX1_writeTo_11 : decode cX1_writeTo 11 = .ok (.if_icmp .ge 59, 3) := by decide +kernel
theorem dX1_writeTo_14 : decode cX1_writeTo 14 = .ok (.aload_n 0, 1) := by decide +kernel
theorem dX1_writeTo_15 : decode cX1_writeTo 15 = .ok (.getfield 34, 3) := by decide +kernel
theorem dX1_writeTo_18 : decode cX1_writeTo 18 = .ok (.iload_n 3, 1) := by decide +kernel
theorem dX1_writeTo_19 : decode cX1_writeTo 19 = .ok (.iaload, 1) := by decide +kernel
theorem dX1_writeTo_20 : decode cX1_writeTo 20 = .ok (.istore 4, 2) := by decide +kernel
theorem dX1_writeTo_22 : decode cX1_writeTo 22 = .ok (.iconst 0, 1) := by decide +kernel
theorem dX1_writeTo_23 : decode cX1_writeTo 23 = .ok (.istore 5, 2) := by decide +kernel
theorem dX1_writeTo_25 : decode cX1_writeTo 25 = .ok (.iload 5, 2) := by decide +kernel
theorem dX1_writeTo_27 : decode cX1_writeTo 27 = .ok (.sipush 300, 3) := by decide +kernel
theorem dX1_writeTo_30 : decode cX1_writeTo 30 = .ok (.if_icmp .ge 34, 3) := by decide +kernel
theorem dX1_writeTo_33 : decode cX1_writeTo 33 = .ok (.iload 4, 2) := by decide +kernel
theorem dX1_writeTo_35 : decode cX1_writeTo 35 = .ok (.iconst (-1), 1) := by decide +kernel
theorem dX1_writeTo_36 : decode cX1_writeTo 36 = .ok (.if_icmp .eq 28, 3) := by decide +kernel
theorem dX1_writeTo_39 : decode cX1_writeTo 39 = .ok (.aload_n 1, 1) := by decide +kernel
theorem dX1_writeTo_40 : decode cX1_writeTo 40 = .ok (.iload 4, 2) := by decide +kernel
theorem dX1_writeTo_42 : decode cX1_writeTo 42 = .ok (.aload_n 2, 1) := by decide +kernel
theorem dX1_writeTo_43 : decode cX1_writeTo 43 = .ok (.iload 4, 2) := by decide +kernel
theorem dX1_writeTo_45 : decode cX1_writeTo 45 = .ok (.iaload, 1) := by decide +kernel
theorem dX1_writeTo_46 : decode cX1_writeTo 46 = .ok (.invokevirtual 67, 3) := by decide +kernel
theorem dX1_writeTo_49 : decode cX1_writeTo 49 = .ok (.aload_n 0, 1) := by decide +kernel
theorem dX1_writeTo_50 : decode cX1_writeTo 50 = .ok (.getfield 15, 3) := by decide +kernel
theorem dX1_writeTo_53 : decode cX1_writeTo 53 = .ok (.iload 4, 2) := by decide +kernel
theorem dX1_writeTo_55 : decode cX1_writeTo 55 = .ok (.iaload, 1) := by decide +kernel
theorem dX1_writeTo_56 : decode cX1_writeTo 56 = .ok (.istore 4, 2) := by decide +kernel
theorem dX1_writeTo_58 : decode cX1_writeTo 58 = .ok (.iinc 5 1, 3) := by decide +kernel
theorem dX1_writeTo_61 : decode cX1_writeTo 61 = .ok (.goto (-36), 3) := by decide +kernel
theorem dX1_writeTo_64 : decode cX1_writeTo 64 = .ok (.iinc 3 1, 3) := by decide +kernel
theorem dX1_writeTo_67 : decode cX1_writeTo 67 = .ok (.goto (-61), 3) := by decide +kernel
theorem dX1_writeTo_70 : decode cX1_writeTo 70 = .ok (.return_, 1) := by decide +kernel
set_option maxRecDepth 20000 in
theorem ggX1_standAlone_X0_heatOf : GoodIn wsX1_standAlone wsX0_heatOf := goodIn_r _ [11, 12, 22, 23, 24, 25, 26, 27] (by decide +kernel) (by decide +kernel)
set_option maxRecDepth 20000 in
theorem gX1_standAlone_X0_heatOf : GoodIn wsX1_standAlone (wsV RX1 70 RX0 yX0_heatOf wsX0_heatOf) := goodIn_app (goodIn_of _ (by decide +kernel)) ggX1_standAlone_X0_heatOf
theorem dX1_standAlone_0 : decode cX1_standAlone 0 = .ok (.iconst 0, 1) := by decide +kernel
theorem dX1_standAlone_1 : decode cX1_standAlone 1 = .ok (.istore_n 3, 1) := by decide +kernel
theorem dX1_standAlone_2 : decode cX1_standAlone 2 = .ok (.iload_n 3, 1) := by decide +kernel
theorem dX1_standAlone_3 : decode cX1_standAlone 3 = .ok (.sipush 300, 3) := by decide +kernel
theorem dX1_standAlone_6 : decode cX1_standAlone 6 = .ok (.if_icmp .ge 68, 3) := by decide +kernel
theorem dX1_standAlone_9 : decode cX1_standAlone 9 = .ok (.aload_n 0, 1) := by decide +kernel
theorem dX1_standAlone_10 : decode cX1_standAlone 10 = .ok (.getfield 9, 3) := by decide +kernel
theorem dX1_standAlone_13 : decode cX1_standAlone 13 = .ok (.iload_n 3, 1) := by decide +kernel
theorem dX1_standAlone_14 : decode cX1_standAlone 14 = .ok (.aload_n 1, 1) := by decide +kernel
theorem dX1_standAlone_15 : decode cX1_standAlone 15 = .ok (.iload_n 3, 1) := by decide +kernel
theorem dX1_standAlone_16 : decode cX1_standAlone 16 = .ok (.iaload, 1) := by decide +kernel
theorem dX1_standAlone_17 : decode cX1_standAlone 17 = .ok (.ifCond .le 7, 3) := by decide +kernel
theorem dX1_standAlone_20 : decode cX1_standAlone 20 = .ok (.iload_n 3, 1) := by decide +kernel
theorem dX1_standAlone_21 : decode cX1_standAlone 21 = .ok (.goto 4, 3) := by decide +kernel
theorem dX1_standAlone_24 : decode cX1_standAlone 24 = .ok (.iconst (-1), 1) := by decide +kernel
theorem dX1_standAlone_25 : decode cX1_standAlone 25 = .ok (.iastore, 1) := by decide +kernel
theorem dX1_standAlone_26 : decode cX1_standAlone 26 = .ok (.aload_n 0, 1) := by decide +kernel
theorem dX1_standAlone_27 : decode cX1_standAlone 27 = .ok (.getfield 15, 3) := by decide +kernel
theorem dX1_standAlone_30 : decode cX1_standAlone 30 = .ok (.iload_n 3, 1) := by decide +kernel
theorem dX1_standAlone_31 : decode cX1_standAlone 31 = .ok (.iconst (-1), 1) := by decide +kernel
theorem dX1_standAlone_32 : decode cX1_standAlone 32 = .ok (.iastore, 1) := by decide +kernel
theorem dX1_standAlone_33 : decode cX1_standAlone 33 = .ok (.aload_n 0, 1) := by decide +kernel
theorem dX1_standAlone_34 : decode cX1_standAlone 34 = .ok (.getfield 18, 3) := by decide +kernel
theorem dX1_standAlone_37 : decode cX1_standAlone 37 = .ok (.iload_n 3, 1) := by decide +kernel
theorem dX1_standAlone_38 : decode cX1_standAlone 38 = .ok (.iload_n 3, 1) := by decide +kernel
theorem dX1_standAlone_39 : decode cX1_standAlone 39 = .ok (.iastore, 1) := by decide +kernel
theorem dX1_standAlone_40 : decode cX1_standAlone 40 = .ok (.aload_n 0, 1) := by decide +kernel
theorem dX1_standAlone_41 : decode cX1_standAlone 41 = .ok (.getfield 21, 3) := by decide +kernel
theorem dX1_standAlone_44 : decode cX1_standAlone 44 = .ok (.iload_n 3, 1) := by decide +kernel
theorem dX1_standAlone_45 : decode cX1_standAlone 45 = .ok (.iload_n 3, 1) := by decide +kernel
theorem dX1_standAlone_46 : decode cX1_standAlone 46 = .ok (.iastore, 1) := by decide +kernel
theorem dX1_standAlone_47 : decode cX1_standAlone 47 = .ok (.aload_n 0, 1) := by decide +kernel
theorem dX1_standAlone_48 : decode cX1_standAlone 48 = .ok (.getfield 24, 3) := by decide +kernel
theorem dX1_standAlone_51 : decode cX1_standAlone 51 = .ok (.iload_n 3, 1) := by decide +kernel
theorem dX1_standAlone_52 : decode cX1_standAlone 52 = .ok (.aload_n 1, 1) := by decide +kernel
theorem dX1_standAlone_53 : decode cX1_standAlone 53 = .ok (.iload_n 3, 1) := by decide +kernel
theorem dX1_standAlone_54 : decode cX1_standAlone 54 = .ok (.iaload, 1) := by decide +kernel
theorem dX1_standAlone_55 : decode cX1_standAlone 55 = .ok (.i2l, 1) := by decide +kernel
theorem dX1_standAlone_56 : decode cX1_standAlone 56 = .ok (.lastore, 1) := by decide +kernel
theorem dX1_standAlone_57 : decode cX1_standAlone 57 = .ok (.aload_n 0, 1) := by decide +kernel
theorem dX1_standAlone_58 : decode cX1_standAlone 58 = .ok (.getfield 28, 3) := by decide +kernel
theorem dX1_standAlone_61 : decode cX1_standAlone 61 = .ok (.iload_n 3, 1) := by decide +kernel
theorem dX1_standAlone_62 : decode cX1_standAlone 62 = .ok (.aload_n 2, 1) := by decide +kernel
theorem dX1_standAlone_63 : decode cX1_standAlone 63 = .ok (.iload_n 3, 1) := by decide +kernel
theorem dX1_standAlone_64 : decode cX1_standAlone 64 = .ok (.invokevirtual 70, 3) := by decide +kernel
theorem dX1_standAlone_67 : decode cX1_standAlone 67 = .ok (.lastore, 1) := by decide +kernel
theorem dX1_standAlone_68 : decode cX1_standAlone 68 = .ok (.iinc 3 1, 3) := by decide +kernel
theorem dX1_standAlone_71 : decode cX1_standAlone 71 = .ok (.goto (-69), 3) := by decide +kernel
theorem dX1_standAlone_74 : decode cX1_standAlone 74 = .ok (.return_, 1) := by decide +kernel
set_option maxRecDepth 20000 in
theorem ggX1_orderByHeat_X0_callerOf : GoodIn wsX1_orderByHeat wsX0_callerOf := goodIn_r _ [8, 9, 10, 20, 21, 22, 23, 24, 25] (by decide +kernel) (by decide +kernel)
set_option maxRecDepth 20000 in
theorem gX1_orderByHeat_X0_callerOf : GoodIn wsX1_orderByHeat (wsV RX1 45 RX0 yX0_callerOf wsX0_callerOf) := goodIn_app (goodIn_of _ (by decide +kernel)) ggX1_orderByHeat_X0_callerOf
theorem dX1_orderByHeat_0 : decode cX1_orderByHeat 0 = .ok (.iconst 0, 1) := by decide +kernel
theorem dX1_orderByHeat_1 : decode cX1_orderByHeat 1 = .ok (.istore_n 2, 1) := by decide +kernel
theorem dX1_orderByHeat_2 : decode cX1_orderByHeat 2 = .ok (.iconst 0, 1) := by decide +kernel
theorem dX1_orderByHeat_3 : decode cX1_orderByHeat 3 = .ok (.istore_n 3, 1) := by decide +kernel
theorem dX1_orderByHeat_4 : decode cX1_orderByHeat 4 = .ok (.iload_n 3, 1) := by decide +kernel
theorem dX1_orderByHeat_5 : decode cX1_orderByHeat 5 = .ok (.sipush 300, 3) := by decide +kernel
theorem dX1_orderByHeat_8 : decode cX1_orderByHeat 8 = .ok (.if_icmp .ge 93, 3) := by decide +kernel
theorem dX1_orderByHeat_11 : decode cX1_orderByHeat 11 = .ok (.aload_n 0, 1) := by decide +kernel
theorem dX1_orderByHeat_12 : decode cX1_orderByHeat 12 = .ok (.getfield 9, 3) := by decide +kernel
theorem dX1_orderByHeat_15 : decode cX1_orderByHeat 15 = .ok (.iload_n 3, 1) := by decide +kernel
theorem dX1_orderByHeat_16 : decode cX1_orderByHeat 16 = .ok (.iaload, 1) := by decide +kernel
theorem dX1_orderByHeat_17 : decode cX1_orderByHeat 17 = .ok (.iconst (-1), 1) := by decide +kernel
theorem dX1_orderByHeat_18 : decode cX1_orderByHeat 18 = .ok (.if_icmp .eq 77, 3) := by decide +kernel
theorem dX1_orderByHeat_21 : decode cX1_orderByHeat 21 = .ok (.aload_n 1, 1) := by decide +kernel
theorem dX1_orderByHeat_22 : decode cX1_orderByHeat 22 = .ok (.iload_n 3, 1) := by decide +kernel
theorem dX1_orderByHeat_23 : decode cX1_orderByHeat 23 = .ok (.invokevirtual 45, 3) := by decide +kernel
theorem dX1_orderByHeat_26 : decode cX1_orderByHeat 26 = .ok (.iconst (-1), 1) := by decide +kernel
theorem dX1_orderByHeat_27 : decode cX1_orderByHeat 27 = .ok (.if_icmp .eq 68, 3) := by decide +kernel
theorem dX1_orderByHeat_30 : decode cX1_orderByHeat 30 = .ok (.iload_n 2, 1) := by decide +kernel
theorem dX1_orderByHeat_31 : decode cX1_orderByHeat 31 = .ok (.istore 4, 2) := by decide +kernel
theorem dX1_orderByHeat_33 : decode cX1_orderByHeat 33 = .ok (.iload 4, 2) := by decide +kernel
theorem dX1_orderByHeat_35 : decode cX1_orderByHeat 35 = .ok (.ifCond .le 49, 3) := by decide +kernel
theorem dX1_orderByHeat_38 : decode cX1_orderByHeat 38 = .ok (.aload_n 0, 1) := by decide +kernel
theorem dX1_orderByHeat_39 : decode cX1_orderByHeat 39 = .ok (.getfield 28, 3) := by decide +kernel
theorem dX1_orderByHeat_42 : decode cX1_orderByHeat 42 = .ok (.iload_n 3, 1) := by decide +kernel
theorem dX1_orderByHeat_43 : decode cX1_orderByHeat 43 = .ok (.laload, 1) := by decide +kernel
theorem dX1_orderByHeat_44 : decode cX1_orderByHeat 44 = .ok (.aload_n 0, 1) := by decide +kernel
theorem dX1_orderByHeat_45 : decode cX1_orderByHeat 45 = .ok (.getfield 28, 3) := by decide +kernel
theorem dX1_orderByHeat_48 : decode cX1_orderByHeat 48 = .ok (.aload_n 0, 1) := by decide +kernel
theorem dX1_orderByHeat_49 : decode cX1_orderByHeat 49 = .ok (.getfield 31, 3) := by decide +kernel
theorem dX1_orderByHeat_52 : decode cX1_orderByHeat 52 = .ok (.iload 4, 2) := by decide +kernel
theorem dX1_orderByHeat_54 : decode cX1_orderByHeat 54 = .ok (.iconst 1, 1) := by decide +kernel
theorem dX1_orderByHeat_55 : decode cX1_orderByHeat 55 = .ok (.isub, 1) := by decide +kernel
theorem dX1_orderByHeat_56 : decode cX1_orderByHeat 56 = .ok (.iaload, 1) := by decide +kernel
theorem dX1_orderByHeat_57 : decode cX1_orderByHeat 57 = .ok (.laload, 1) := by decide +kernel
theorem dX1_orderByHeat_58 : decode cX1_orderByHeat 58 = .ok (.lcmp, 1) := by decide +kernel
theorem dX1_orderByHeat_59 : decode cX1_orderByHeat 59 = .ok (.ifCond .le 25, 3) := by decide +kernel
theorem dX1_orderByHeat_62 : decode cX1_orderByHeat 62 = .ok (.aload_n 0, 1) := by decide +kernel
theorem dX1_orderByHeat_63 : decode cX1_orderByHeat 63 = .ok (.getfield 31, 3) := by decide +kernel
theorem dX1_orderByHeat_66 : decode cX1_orderByHeat 66 = .ok (.iload 4, 2) := by decide +kernel
theorem dX1_orderByHeat_68 : decode cX1_orderByHeat 68 = .ok (.aload_n 0, 1) := by decide +kernel
theorem dX1_orderByHeat_69 : decode cX1_orderByHeat 69 = .ok (.getfield 31, 3) := by decide +kernel
theorem dX1_orderByHeat_72 : decode cX1_orderByHeat 72 = .ok (.iload 4, 2) := by decide +kernel
theorem dX1_orderByHeat_74 : decode cX1_orderByHeat 74 = .ok (.iconst 1, 1) := by decide +kernel
theorem dX1_orderByHeat_75 : decode cX1_orderByHeat 75 = .ok (.isub, 1) := by decide +kernel
theorem dX1_orderByHeat_76 : decode cX1_orderByHeat 76 = .ok (.iaload, 1) := by decide +kernel
theorem dX1_orderByHeat_77 : decode cX1_orderByHeat 77 = .ok (.iastore, 1) := by decide +kernel
theorem dX1_orderByHeat_78 : decode cX1_orderByHeat 78 = .ok (.iinc 4 (-1), 3) := by decide +kernel
theorem dX1_orderByHeat_81 : decode cX1_orderByHeat 81 = .ok (.goto (-48), 3) := by decide +kernel
theorem dX1_orderByHeat_84 : decode cX1_orderByHeat 84 = .ok (.aload_n 0, 1) := by decide +kernel
theorem dX1_orderByHeat_85 : decode cX1_orderByHeat 85 = .ok (.getfield 31, 3) := by decide +kernel
theorem dX1_orderByHeat_88 : decode cX1_orderByHeat 88 = .ok (.iload 4, 2) := by decide +kernel
theorem dX1_orderByHeat_90 : decode cX1_orderByHeat 90 = .ok (.iload_n 3, 1) := by decide +kernel
theorem dX1_orderByHeat_91 : decode cX1_orderByHeat 91 = .ok (.iastore, 1) := by decide +kernel
theorem dX1_orderByHeat_92 : decode cX1_orderByHeat 92 = .ok (.iinc 2 1, 3) := by decide +kernel
theorem dX1_orderByHeat_95 : decode cX1_orderByHeat 95 = .ok (.iinc 3 1, 3) := by decide +kernel
theorem dX1_orderByHeat_98 : decode cX1_orderByHeat 98 = .ok (.goto (-94), 3) := by decide +kernel
theorem dX1_orderByHeat_101 : decode cX1_orderByHeat 101 = .ok (.iload_n 2, 1) := by decide +kernel
theorem dX1_orderByHeat_102 : decode cX1_orderByHeat 102 = .ok (.ireturn, 1) := by decide +kernel
theorem dX1_join_0 : decode cX1_join 0 = .ok (.iload_n 2, 1) := by decide +kernel
theorem dX1_join_1 : decode cX1_join 1 = .ok (.istore_n 3, 1) := by decide +kernel
theorem dX1_join_2 : decode cX1_join 2 = .ok (.iconst 0, 1) := by decide +kernel
theorem dX1_join_3 : decode cX1_join 3 = .ok (.istore 4, 2) := by decide +kernel
theorem dX1_join_5 : decode cX1_join 5 = .ok (.iload 4, 2) := by decide +kernel
theorem dX1_join_7 : decode cX1_join 7 = .ok (.sipush 300, 3) := by decide +kernel
theorem dX1_join_10 : decode cX1_join 10 = .ok (.if_icmp .ge 28, 3) := by decide +kernel
theorem dX1_join_13 : decode cX1_join 13 = .ok (.iload_n 3, 1) := by decide +kernel
theorem dX1_join_14 : decode cX1_join 14 = .ok (.iconst (-1), 1) := by decide +kernel
theorem dX1_join_15 : decode cX1_join 15 = .ok (.if_icmp .eq 23, 3) := by decide +kernel
theorem dX1_join_18 : decode cX1_join 18 = .ok (.aload_n 0, 1) := by decide +kernel
theorem dX1_join_19 : decode cX1_join 19 = .ok (.getfield 9, 3) := by decide +kernel
theorem dX1_join_22 : decode cX1_join 22 = .ok (.iload_n 3, 1) := by decide +kernel
theorem dX1_join_23 : decode cX1_join 23 = .ok (.iload_n 1, 1) := by decide +kernel
theorem dX1_join_24 : decode cX1_join 24 = .ok (.iastore, 1) := by decide +kernel
theorem dX1_join_25 : decode cX1_join 25 = .ok (.aload_n 0, 1) := by decide +kernel
theorem dX1_join_26 : decode cX1_join 26 = .ok (.getfield 15, 3) := by decide +kernel
theorem dX1_join_29 : decode cX1_join 29 = .ok (.iload_n 3, 1) := by decide +kernel
theorem dX1_join_30 : decode cX1_join 30 = .ok (.iaload, 1) := by decide +kernel
theorem dX1_join_31 : decode cX1_join 31 = .ok (.istore_n 3, 1) := by decide +kernel
theorem dX1_join_32 : decode cX1_join 32 = .ok (.iinc 4 1, 3) := by decide +kernel
theorem dX1_join_35 : decode cX1_join 35 = .ok (.goto (-30), 3) := by decide +kernel
theorem dX1_join_38 : decode cX1_join 38 = .ok (.aload_n 0, 1) := by decide +kernel
theorem dX1_join_39 : decode cX1_join 39 = .ok (.getfield 15, 3) := by decide +kernel
theorem dX1_join_42 : decode cX1_join 42 = .ok (.aload_n 0, 1) := by decide +kernel
theorem dX1_join_43 : decode cX1_join 43 = .ok (.getfield 18, 3) := by decide +kernel
theorem dX1_join_46 : decode cX1_join 46 = .ok (.iload_n 1, 1) := by decide +kernel
theorem dX1_join_47 : decode cX1_join 47 = .ok (.iaload, 1) := by decide +kernel
theorem dX1_join_48 : decode cX1_join 48 = .ok (.iload_n 2, 1) := by decide +kernel
theorem dX1_join_49 : decode cX1_join 49 = .ok (.iastore, 1) := by decide +kernel
theorem dX1_join_50 : decode cX1_join 50 = .ok (.aload_n 0, 1) := by decide +kernel
theorem dX1_join_51 : decode cX1_join 51 = .ok (.getfield 18, 3) := by decide +kernel
theorem dX1_join_54 : decode cX1_join 54 = .ok (.iload_n 1, 1) := by decide +kernel
theorem dX1_join_55 : decode cX1_join 55 = .ok (.aload_n 0, 1) := by decide +kernel
theorem dX1_join_56 : decode cX1_join 56 = .ok (.getfield 18, 3) := by decide +kernel
theorem dX1_join_59 : decode cX1_join 59 = .ok (.iload_n 2, 1) := by decide +kernel
theorem dX1_join_60 : decode cX1_join 60 = .ok (.iaload, 1) := by decide +kernel
theorem dX1_join_61 : decode cX1_join 61 = .ok (.iastore, 1) := by decide +kernel
theorem dX1_join_62 : decode cX1_join 62 = .ok (.aload_n 0, 1) := by decide +kernel
theorem dX1_join_63 : decode cX1_join 63 = .ok (.getfield 21, 3) := by decide +kernel
theorem dX1_join_66 : decode cX1_join 66 = .ok (.iload_n 1, 1) := by decide +kernel
theorem dX1_join_67 : decode cX1_join 67 = .ok (.aload_n 0, 1) := by decide +kernel
theorem dX1_join_68 : decode cX1_join 68 = .ok (.getfield 21, 3) := by decide +kernel
theorem dX1_join_71 : decode cX1_join 71 = .ok (.iload_n 1, 1) := by decide +kernel
theorem dX1_join_72 : decode cX1_join 72 = .ok (.iaload, 1) := by decide +kernel
theorem dX1_join_73 : decode cX1_join 73 = .ok (.aload_n 0, 1) := by decide +kernel
theorem dX1_join_74 : decode cX1_join 74 = .ok (.getfield 21, 3) := by decide +kernel
theorem dX1_join_77 : decode cX1_join 77 = .ok (.iload_n 2, 1) := by decide +kernel
theorem dX1_join_78 : decode cX1_join 78 = .ok (.iaload, 1) := by decide +kernel
theorem dX1_join_79 : decode cX1_join 79 = .ok (.invokestatic 74, 3) := by decide +kernel
theorem dX1_join_82 : decode cX1_join 82 = .ok (.iastore, 1) := by decide +kernel
theorem dX1_join_83 : decode cX1_join 83 = .ok (.aload_n 0, 1) := by decide +kernel
theorem dX1_join_84 : decode cX1_join 84 = .ok (.getfield 24, 3) := by decide +kernel
theorem dX1_join_87 : decode cX1_join 87 = .ok (.iload_n 1, 1) := by decide +kernel
theorem dX1_join_88 : decode cX1_join 88 = .ok (.dup2, 1) := by decide +kernel
theorem dX1_join_89 : decode cX1_join 89 = .ok (.laload, 1) := by decide +kernel
theorem dX1_join_90 : decode cX1_join 90 = .ok (.aload_n 0, 1) := by decide +kernel
theorem dX1_join_91 : decode cX1_join 91 = .ok (.getfield 24, 3) := by decide +kernel
theorem dX1_join_94 : decode cX1_join 94 = .ok (.iload_n 2, 1) := by decide +kernel
theorem dX1_join_95 : decode cX1_join 95 = .ok (.laload, 1) := by decide +kernel
theorem dX1_join_96 : decode cX1_join 96 = .ok (.ladd, 1) := by decide +kernel
theorem dX1_join_97 : decode cX1_join 97 = .ok (.lastore, 1) := by decide +kernel
theorem dX1_join_98 : decode cX1_join 98 = .ok (.aload_n 0, 1) := by decide +kernel
theorem dX1_join_99 : decode cX1_join 99 = .ok (.getfield 28, 3) := by decide +kernel
theorem dX1_join_102 : decode cX1_join 102 = .ok (.iload_n 1, 1) := by decide +kernel
theorem dX1_join_103 : decode cX1_join 103 = .ok (.dup2, 1) := by decide +kernel
theorem dX1_join_104 : decode cX1_join 104 = .ok (.laload, 1) := by decide +kernel
theorem dX1_join_105 : decode cX1_join 105 = .ok (.aload_n 0, 1) := by decide +kernel
theorem dX1_join_106 : decode cX1_join 106 = .ok (.getfield 28, 3) := by decide +kernel
theorem dX1_join_109 : decode cX1_join 109 = .ok (.iload_n 2, 1) := by decide +kernel
theorem dX1_join_110 : decode cX1_join 110 = .ok (.laload, 1) := by decide +kernel
theorem dX1_join_111 : decode cX1_join 111 = .ok (.ladd, 1) := by decide +kernel
theorem dX1_join_112 : decode cX1_join 112 = .ok (.lastore, 1) := by decide +kernel
theorem dX1_join_113 : decode cX1_join 113 = .ok (.return_, 1) := by decide +kernel
set_option maxRecDepth 20000 in
theorem ggX1_rank_X1_isDenser : GoodIn wsX1_rank wsX1_isDenser := goodIn_r _ [9, 10, 11, 12, 13, 14, 15, 16, 17, 18, 19, 20] (by decide +kernel) (by decide +kernel)
set_option maxRecDepth 20000 in
theorem gX1_rank_X1_isDenser : GoodIn wsX1_rank (wsV RX1 80 RX1 yX1_isDenser wsX1_isDenser) := goodIn_app (goodIn_of _ (by decide +kernel)) ggX1_rank_X1_isDenser
theorem dX1_rank_0 : decode cX1_rank 0 = .ok (.aload_n 0, 1) := by decide +kernel
theorem dX1_rank_1 : decode cX1_rank 1 = .ok (.iconst 0, 1) := by decide +kernel
theorem dX1_rank_2 : decode cX1_rank 2 = .ok (.putfield 58, 3) := by decide +kernel
theorem dX1_rank_5 : decode cX1_rank 5 = .ok (.iconst 0, 1) := by decide +kernel
theorem dX1_rank_6 : decode cX1_rank 6 = .ok (.istore_n 1, 1) := by decide +kernel
theorem dX1_rank_7 : decode cX1_rank 7 = .ok (.iload_n 1, 1) := by decide +kernel
theorem dX1_rank_8 : decode cX1_rank 8 = .ok (.sipush 300, 3) := by decide +kernel
theorem dX1_rank_11 : decode cX1_rank 11 = .ok (.if_icmp .ge 106, 3) := by decide +kernel
theorem dX1_rank_14 : decode cX1_rank 14 = .ok (.aload_n 0, 1) := by decide +kernel
theorem dX1_rank_15 : decode cX1_rank 15 = .ok (.getfield 9, 3) := by decide +kernel
theorem dX1_rank_18 : decode cX1_rank 18 = .ok (.iload_n 1, 1) := by decide +kernel
theorem dX1_rank_19 : decode cX1_rank 19 = .ok (.iaload, 1) := by decide +kernel
theorem dX1_rank_20 : decode cX1_rank 20 = .ok (.iconst (-1), 1) := by decide +kernel
theorem dX1_rank_21 : decode cX1_rank 21 = .ok (.if_icmp .eq 90, 3) := by decide +kernel
theorem dX1_rank_24 : decode cX1_rank 24 = .ok (.aload_n 0, 1) := by decide +kernel
theorem dX1_rank_25 : decode cX1_rank 25 = .ok (.getfield 21, 3) := by decide +kernel
theorem dX1_rank_28 : decode cX1_rank 28 = .ok (.aload_n 0, 1) := by decide +kernel
theorem dX1_rank_29 : decode cX1_rank 29 = .ok (.getfield 9, 3) := by decide +kernel
theorem dX1_rank_32 : decode cX1_rank 32 = .ok (.iload_n 1, 1) := by decide +kernel
theorem dX1_rank_33 : decode cX1_rank 33 = .ok (.iaload, 1) := by decide +kernel
theorem dX1_rank_34 : decode cX1_rank 34 = .ok (.iaload, 1) := by decide +kernel
theorem dX1_rank_35 : decode cX1_rank 35 = .ok (.iload_n 1, 1) := by decide +kernel
theorem dX1_rank_36 : decode cX1_rank 36 = .ok (.if_icmp .ne 75, 3) := by decide +kernel
theorem dX1_rank_39 : decode cX1_rank 39 = .ok (.aload_n 0, 1) := by decide +kernel
theorem dX1_rank_40 : decode cX1_rank 40 = .ok (.getfield 58, 3) := by decide +kernel
theorem dX1_rank_43 : decode cX1_rank 43 = .ok (.istore_n 2, 1) := by decide +kernel
theorem dX1_rank_44 : decode cX1_rank 44 = .ok (.iload_n 2, 1) := by decide +kernel
theorem dX1_rank_45 : decode cX1_rank 45 = .ok (.ifCond .le 44, 3) := by decide +kernel
theorem dX1_rank_48 : decode cX1_rank 48 = .ok (.aload_n 0, 1) := by decide +kernel
theorem dX1_rank_49 : decode cX1_rank 49 = .ok (.aload_n 0, 1) := by decide +kernel
theorem dX1_rank_50 : decode cX1_rank 50 = .ok (.getfield 9, 3) := by decide +kernel
theorem dX1_rank_53 : decode cX1_rank 53 = .ok (.iload_n 1, 1) := by decide +kernel
theorem dX1_rank_54 : decode cX1_rank 54 = .ok (.iaload, 1) := by decide +kernel
theorem dX1_rank_55 : decode cX1_rank 55 = .ok (.aload_n 0, 1) := by decide +kernel
theorem dX1_rank_56 : decode cX1_rank 56 = .ok (.getfield 34, 3) := by decide +kernel
theorem dX1_rank_59 : decode cX1_rank 59 = .ok (.iload_n 2, 1) := by decide +kernel
theorem dX1_rank_60 : decode cX1_rank 60 = .ok (.iconst 1, 1) := by decide +kernel
theorem dX1_rank_61 : decode cX1_rank 61 = .ok (.isub, 1) := by decide +kernel
theorem dX1_rank_62 : decode cX1_rank 62 = .ok (.iaload, 1) := by decide +kernel
theorem dX1_rank_63 : decode cX1_rank 63 = .ok (.invokevirtual 80, 3) := by decide +kernel
theorem dX1_rank_66 : decode cX1_rank 66 = .ok (.ifCond .eq 23, 3) := by decide +kernel
theorem dX1_rank_69 : decode cX1_rank 69 = .ok (.aload_n 0, 1) := by decide +kernel
theorem dX1_rank_70 : decode cX1_rank 70 = .ok (.getfield 34, 3) := by decide +kernel
theorem dX1_rank_73 : decode cX1_rank 73 = .ok (.iload_n 2, 1) := by decide +kernel
theorem dX1_rank_74 : decode cX1_rank 74 = .ok (.aload_n 0, 1) := by decide +kernel
theorem dX1_rank_75 : decode cX1_rank 75 = .ok (.getfield 34, 3) := by decide +kernel
theorem dX1_rank_78 : decode cX1_rank 78 = .ok (.iload_n 2, 1) := by decide +kernel
theorem dX1_rank_79 : decode cX1_rank 79 = .ok (.iconst 1, 1) := by decide +kernel
theorem dX1_rank_80 : decode cX1_rank 80 = .ok (.isub, 1) := by decide +kernel
theorem dX1_rank_81 : decode cX1_rank 81 = .ok (.iaload, 1) := by decide +kernel
theorem dX1_rank_82 : decode cX1_rank 82 = .ok (.iastore, 1) := by decide +kernel
theorem dX1_rank_83 : decode cX1_rank 83 = .ok (.iinc 2 (-1), 3) := by decide +kernel
theorem dX1_rank_86 : decode cX1_rank 86 = .ok (.goto (-42), 3) := by decide +kernel
theorem dX1_rank_89 : decode cX1_rank 89 = .ok (.aload_n 0, 1) := by decide +kernel
theorem dX1_rank_90 : decode cX1_rank 90 = .ok (.getfield 34, 3) := by decide +kernel
theorem dX1_rank_93 : decode cX1_rank 93 = .ok (.iload_n 2, 1) := by decide +kernel
theorem dX1_rank_94 : decode cX1_rank 94 = .ok (.aload_n 0, 1) := by decide +kernel
theorem dX1_rank_95 : decode cX1_rank 95 = .ok (.getfield 9, 3) := by decide +kernel
theorem dX1_rank_98 : decode cX1_rank 98 = .ok (.iload_n 1, 1) := by decide +kernel
theorem dX1_rank_99 : decode cX1_rank 99 = .ok (.iaload, 1) := by decide +kernel
theorem dX1_rank_100 : decode cX1_rank 100 = .ok (.iastore, 1) := by decide +kernel
theorem dX1_rank_101 : decode cX1_rank 101 = .ok (.aload_n 0, 1) := by decide +kernel
theorem dX1_rank_102 : decode cX1_rank 102 = .ok (.dup, 1) := by decide +kernel
theorem dX1_rank_103 : decode cX1_rank 103 = .ok (.getfield 58, 3) := by decide +kernel
theorem dX1_rank_106 : decode cX1_rank 106 = .ok (.iconst 1, 1) := by decide +kernel
theorem dX1_rank_107 : decode cX1_rank 107 = .ok (.iadd, 1) := by decide +kernel
theorem dX1_rank_108 : decode cX1_rank 108 = .ok (.putfield 58, 3) := by decide +kernel
theorem dX1_rank_111 : decode cX1_rank 111 = .ok (.iinc 1 1, 3) := by decide +kernel
theorem dX1_rank_114 : decode cX1_rank 114 = .ok (.goto (-107), 3) := by decide +kernel
theorem dX1_rank_117 : decode cX1_rank 117 = .ok (.return_, 1) := by decide +kernel
theorem dX1_isDenser_0 : decode cX1_isDenser 0 = .ok (.aload_n 0, 1) := by decide +kernel
theorem dX1_isDenser_1 : decode cX1_isDenser 1 = .ok (.getfield 24, 3) := by decide +kernel
theorem dX1_isDenser_4 : decode cX1_isDenser 4 = .ok (.iload_n 1, 1) := by decide +kernel
theorem dX1_isDenser_5 : decode cX1_isDenser 5 = .ok (.laload, 1) := by decide +kernel
theorem dX1_isDenser_6 : decode cX1_isDenser 6 = .ok (.lconst 0, 1) := by decide +kernel
theorem dX1_isDenser_7 : decode cX1_isDenser 7 = .ok (.lcmp, 1) := by decide +kernel
theorem dX1_isDenser_8 : decode cX1_isDenser 8 = .ok (.ifCond .le 14, 3) := by decide +kernel
theorem dX1_isDenser_11 : decode cX1_isDenser 11 = .ok (.aload_n 0, 1) := by decide +kernel
theorem dX1_isDenser_12 : decode cX1_isDenser 12 = .ok (.getfield 24, 3) := by decide +kernel
theorem dX1_isDenser_15 : decode cX1_isDenser 15 = .ok (.iload_n 2, 1) := by decide +kernel
theorem dX1_isDenser_16 : decode cX1_isDenser 16 = .ok (.laload, 1) := by decide +kernel
theorem dX1_isDenser_17 : decode cX1_isDenser 17 = .ok (.lconst 0, 1) := by decide +kernel
theorem dX1_isDenser_18 : decode cX1_isDenser 18 = .ok (.lcmp, 1) := by decide +kernel
theorem dX1_isDenser_19 : decode cX1_isDenser 19 = .ok (.ifCond .gt 5, 3) := by decide +kernel
theorem dX1_isDenser_22 : decode cX1_isDenser 22 = .ok (.iconst 0, 1) := by decide +kernel
theorem dX1_isDenser_23 : decode cX1_isDenser 23 = .ok (.ireturn, 1) := by decide +kernel
theorem dX1_isDenser_24 : decode cX1_isDenser 24 = .ok (.aload_n 0, 1) := by decide +kernel
theorem dX1_isDenser_25 : decode cX1_isDenser 25 = .ok (.getfield 28, 3) := by decide +kernel
theorem dX1_isDenser_28 : decode cX1_isDenser 28 = .ok (.iload_n 1, 1) := by decide +kernel
theorem dX1_isDenser_29 : decode cX1_isDenser 29 = .ok (.laload, 1) := by decide +kernel
theorem dX1_isDenser_30 : decode cX1_isDenser 30 = .ok (.aload_n 0, 1) := by decide +kernel
theorem dX1_isDenser_31 : decode cX1_isDenser 31 = .ok (.getfield 24, 3) := by decide +kernel
theorem dX1_isDenser_34 : decode cX1_isDenser 34 = .ok (.iload_n 1, 1) := by decide +kernel
theorem dX1_isDenser_35 : decode cX1_isDenser 35 = .ok (.laload, 1) := by decide +kernel
theorem dX1_isDenser_36 : decode cX1_isDenser 36 = .ok (.ldiv, 1) := by decide +kernel
theorem dX1_isDenser_37 : decode cX1_isDenser 37 = .ok (.lstore_n 3, 1) := by decide +kernel
theorem dX1_isDenser_38 : decode cX1_isDenser 38 = .ok (.aload_n 0, 1) := by decide +kernel
theorem dX1_isDenser_39 : decode cX1_isDenser 39 = .ok (.getfield 28, 3) := by decide +kernel
theorem dX1_isDenser_42 : decode cX1_isDenser 42 = .ok (.iload_n 2, 1) := by decide +kernel
theorem dX1_isDenser_43 : decode cX1_isDenser 43 = .ok (.laload, 1) := by decide +kernel
theorem dX1_isDenser_44 : decode cX1_isDenser 44 = .ok (.aload_n 0, 1) := by decide +kernel
theorem dX1_isDenser_45 : decode cX1_isDenser 45 = .ok (.getfield 24, 3) := by decide +kernel
theorem dX1_isDenser_48 : decode cX1_isDenser 48 = .ok (.iload_n 2, 1) := by decide +kernel
theorem dX1_isDenser_49 : decode cX1_isDenser 49 = .ok (.laload, 1) := by decide +kernel
theorem dX1_isDenser_50 : decode cX1_isDenser 50 = .ok (.ldiv, 1) := by decide +kernel
theorem dX1_isDenser_51 : decode cX1_isDenser 51 = .ok (.lstore 5, 2) := by decide +kernel
theorem dX1_isDenser_53 : decode cX1_isDenser 53 = .ok (.lload_n 3, 1) := by decide +kernel
theorem dX1_isDenser_54 : decode cX1_isDenser 54 = .ok (.lload 5, 2) := by decide +kernel
theorem dX1_isDenser_56 : decode cX1_isDenser 56 = .ok (.lcmp, 1) := by decide +kernel
theorem dX1_isDenser_57 : decode cX1_isDenser 57 = .ok (.ifCond .eq 16, 3) := by decide +kernel
theorem dX1_isDenser_60 : decode cX1_isDenser 60 = .ok (.lload_n 3, 1) := by decide +kernel
theorem dX1_isDenser_61 : decode cX1_isDenser 61 = .ok (.lload 5, 2) := by decide +kernel
theorem dX1_isDenser_63 : decode cX1_isDenser 63 = .ok (.lcmp, 1) := by decide +kernel
theorem dX1_isDenser_64 : decode cX1_isDenser 64 = .ok (.ifCond .le 7, 3) := by decide +kernel
theorem dX1_isDenser_67 : decode cX1_isDenser 67 = .ok (.iconst 1, 1) := by decide +kernel
theorem dX1_isDenser_68 : decode cX1_isDenser 68 = .ok (.goto 4, 3) := by decide +kernel
theorem dX1_isDenser_71 : decode cX1_isDenser 71 = .ok (.iconst 0, 1) := by decide +kernel
theorem dX1_isDenser_72 : decode cX1_isDenser 72 = .ok (.ireturn, 1) := by decide +kernel
theorem dX1_isDenser_73 : decode cX1_isDenser 73 = .ok (.aload_n 0, 1) := by decide +kernel
theorem dX1_isDenser_74 : decode cX1_isDenser 74 = .ok (.getfield 28, 3) := by decide +kernel
theorem dX1_isDenser_77 : decode cX1_isDenser 77 = .ok (.iload_n 1, 1) := by decide +kernel
theorem dX1_isDenser_78 : decode cX1_isDenser 78 = .ok (.laload, 1) := by decide +kernel
theorem dX1_isDenser_79 : decode cX1_isDenser 79 = .ok (.aload_n 0, 1) := by decide +kernel
theorem dX1_isDenser_80 : decode cX1_isDenser 80 = .ok (.getfield 24, 3) := by decide +kernel
theorem dX1_isDenser_83 : decode cX1_isDenser 83 = .ok (.iload_n 1, 1) := by decide +kernel
theorem dX1_isDenser_84 : decode cX1_isDenser 84 = .ok (.laload, 1) := by decide +kernel
theorem dX1_isDenser_85 : decode cX1_isDenser 85 = .ok (.lrem, 1) := by decide +kernel
theorem dX1_isDenser_86 : decode cX1_isDenser 86 = .ok (.aload_n 0, 1) := by decide +kernel
theorem dX1_isDenser_87 : decode cX1_isDenser 87 = .ok (.getfield 24, 3) := by decide +kernel
theorem dX1_isDenser_90 : decode cX1_isDenser 90 = .ok (.iload_n 2, 1) := by decide +kernel
theorem dX1_isDenser_91 : decode cX1_isDenser 91 = .ok (.laload, 1) := by decide +kernel
theorem dX1_isDenser_92 : decode cX1_isDenser 92 = .ok (.lmul, 1) := by decide +kernel
theorem dX1_isDenser_93 : decode cX1_isDenser 93 = .ok (.aload_n 0, 1) := by decide +kernel
theorem dX1_isDenser_94 : decode cX1_isDenser 94 = .ok (.getfield 28, 3) := by decide +kernel
theorem dX1_isDenser_97 : decode cX1_isDenser 97 = .ok (.iload_n 2, 1) := by decide +kernel
theorem dX1_isDenser_98 : decode cX1_isDenser 98 = .ok (.laload, 1) := by decide +kernel
theorem dX1_isDenser_99 : decode cX1_isDenser 99 = .ok (.aload_n 0, 1) := by decide +kernel
theorem dX1_isDenser_100 : decode cX1_isDenser 100 = .ok (.getfield 24, 3) := by decide +kernel
theorem dX1_isDenser_103 : decode cX1_isDenser 103 = .ok (.iload_n 2, 1) := by decide +kernel
theorem dX1_isDenser_104 : decode cX1_isDenser 104 = .ok (.laload, 1) := by decide +kernel
theorem dX1_isDenser_105 : decode cX1_isDenser 105 = .ok (.lrem, 1) := by decide +kernel
theorem dX1_isDenser_106 : decode cX1_isDenser 106 = .ok (.aload_n 0, 1) := by decide +kernel
theorem dX1_isDenser_107 : decode cX1_isDenser 107 = .ok (.getfield 24, 3) := by decide +kernel
theorem dX1_isDenser_110 : decode cX1_isDenser 110 = .ok (.iload_n 1, 1) := by decide +kernel
theorem dX1_isDenser_111 : decode cX1_isDenser 111 = .ok (.laload, 1) := by decide +kernel
theorem dX1_isDenser_112 : decode cX1_isDenser 112 = .ok (.lmul, 1) := by decide +kernel
theorem dX1_isDenser_113 : decode cX1_isDenser 113 = .ok (.lcmp, 1) := by decide +kernel
theorem dX1_isDenser_114 : decode cX1_isDenser 114 = .ok (.ifCond .le 7, 3) := by decide +kernel
theorem dX1_isDenser_117 : decode cX1_isDenser 117 = .ok (.iconst 1, 1) := by decide +kernel
theorem dX1_isDenser_118 : decode cX1_isDenser 118 = .ok (.goto 4, 3) := by decide +kernel
theorem dX1_isDenser_121 : decode cX1_isDenser 121 = .ok (.iconst 0, 1) := by decide +kernel
theorem dX1_isDenser_122 : decode cX1_isDenser 122 = .ok (.ireturn, 1) := by decide +kernel
end
section
/-- the places that a walk along nx from f on goes through -/
def Chain (nx : Nat → Int32) : List Nat → Int32 → Prop
  | [], f => f = -1
  | x :: l, f => f = nI x ∧ Chain nx l (nx x)
def rlab (l : List Nat) (x : Int32) (fi : Nat → Int32) : Nat → Int32 := fun j => if j ∈ l then x else fi j
theorem rlab_nil (x : Int32) (fi : Nat → Int32) : rlab [] x fi = fi := by funext j; simp [rlab]
theorem rlab_cons (y : Nat) (l : List Nat) (x : Int32) (fi : Nat → Int32) : rlab l x (upd fi y x) = rlab (y :: l) x fi := by
  funext j
  unfold rlab upd
  by_cases h1 : j ∈ l
  · simp [h1]
  · by_cases h2 : j = y
    · simp [h2]
    · simp [h1, h2]
/-- g with the places a .. cnt - 1 moved one on -/
def shf (g : Nat → Int32) (a cnt : Nat) : Nat → Int32 := fun j => if a < j ∧ j ≤ cnt then g (j - 1) else g j
theorem shf_self (g : Nat → Int32) (cnt : Nat) : shf g cnt cnt = g := by
  funext j
  unfold shf
  rw [if_neg (by omega)]
theorem shf_step {g : Nat → Int32} {a cnt : Nat} (h : a + 1 ≤ cnt) : upd (shf g (a + 1) cnt) (a + 1) (g a) = shf g a cnt := by
  funext j
  unfold upd shf
  by_cases h1 : j = a + 1
  · subst h1
    rw [if_pos rfl, if_pos (by omega)]
    rfl
  · rw [if_neg h1]
    by_cases h2 : a + 1 < j ∧ j ≤ cnt
    · rw [if_pos h2, if_pos (by omega)]
    · rw [if_neg h2, if_neg (by omega)]
theorem shf_low {g : Nat → Int32} {a cnt j : Nat} (h : j ≤ a) : shf g a cnt j = g j := by
  unfold shf
  rw [if_neg (by omega)]
def insF (g : Nat → Int32) (a cnt : Nat) (x : Int32) : Nat → Int32 := upd (shf g a cnt) a x
/-- from the back: the place behind the last one of which p does not hold -/
def bpos (p : Nat → Bool) : Nat → Nat
  | 0 => 0
  | k + 1 => if p k then bpos p k else k + 1
theorem bpos_le (p : Nat → Bool) : ∀ k, bpos p k ≤ k
  | 0 => Nat.le_refl 0
  | k + 1 => by
    unfold bpos
    split
    · exact Nat.le_succ_of_le (bpos_le p k)
    · exact Nat.le_refl _
theorem insF_all {g : Nat → Int32} {a cnt : Nat} {x : Int32} {P : Int32 → Prop} (ha : a ≤ cnt) (hg : ∀ j, j < cnt → P (g j)) (hx : P x) : ∀ j, j < cnt + 1 → P (insF g a cnt x j) := by
  intro j hj
  unfold insF upd shf
  split
  · exact hx
  · split
    · exact hg _ (by omega)
    · exact hg _ (by omega)
def obhStep (fi S F : Nat → Int32) (he : Nat → Int64) (k : Nat) (st : Nat × (Nat → Int32)) : Nat × (Nat → Int32) := if fi k = -1 then st else if cof S F k = -1 then st else (st.1 + 1, insF st.2 (bpos (fun j => decide (he (st.2 j).toNatClampNeg < he k)) st.1) st.1 (nI k))
def obhN (fi S F : Nat → Int32) (he : Nat → Int64) (g : Nat → Int32) : Nat → Nat × (Nat → Int32)
  | 0 => (0, g)
  | k + 1 => obhStep fi S F he k (obhN fi S F he g k)
theorem obhN_in (fi S F : Nat → Int32) (he : Nat → Int64) (g : Nat → Int32) : ∀ k, (obhN fi S F he g k).1 ≤ k ∧ ∀ j, j < (obhN fi S F he g k).1 → ∃ x, x < k ∧ (obhN fi S F he g k).2 j = nI x ∧ fi x ≠ -1 ∧ cof S F x ≠ -1 := by
  intro k
  induction k with
  | zero => exact ⟨Nat.le_refl 0, fun j h => absurd h (Nat.not_lt_zero j)⟩
  | succ k ih =>
    have h0 : (obhN fi S F he g k).1 ≤ k + 1 ∧ ∀ j, j < (obhN fi S F he g k).1 → ∃ x, x < k + 1 ∧ (obhN fi S F he g k).2 j = nI x ∧ fi x ≠ -1 ∧ cof S F x ≠ -1 := by
      refine ⟨by omega, fun j h => ?_⟩
      obtain ⟨x, h1, h2⟩ := ih.2 j h
      exact ⟨x, by omega, h2⟩
    show (obhStep fi S F he k (obhN fi S F he g k)).1 ≤ k + 1 ∧ ∀ j, j < (obhStep fi S F he k (obhN fi S F he g k)).1 → ∃ x, x < k + 1 ∧ (obhStep fi S F he k (obhN fi S F he g k)).2 j = nI x ∧ fi x ≠ -1 ∧ cof S F x ≠ -1
    unfold obhStep
    split
    · exact h0
    · split
      · exact h0
      · rename_i h1 h2
        exact ⟨Nat.succ_le_succ ih.1, insF_all (P := fun y => ∃ x, x < k + 1 ∧ y = nI x ∧ fi x ≠ -1 ∧ cof S F x ≠ -1) (bpos_le _ _) h0.2 ⟨k, by omega, rfl, h1, h2⟩⟩
theorem obhN_vin {fi S F : Nat → Int32} {he : Nat → Int64} {g : Nat → Int32} {k j : Nat} (hk : k ≤ 300) (hj : j < (obhN fi S F he g k).1) : vp_in ((obhN fi S F he g k).2 j) 300 := by
  obtain ⟨x, h1, h2, -⟩ := (obhN_in fi S F he g k).2 j hj
  rw [h2]
  exact inn (by omega) (by omega)
def densI (ba bb ha hb : Int64) : Int32 := if ba ≤ 0 then 0 else if bb ≤ 0 then 0 else if ha / ba = hb / bb then (if (hb - hb / bb * bb) * ba < (ha - ha / ba * ba) * bb then 1 else 0) else (if hb / bb < ha / ba then 1 else 0)
def rkStep (fi le : Nat → Int32) (by_ he : Nat → Int64) (k : Nat) (st : Nat × (Nat → Int32)) : Nat × (Nat → Int32) := if fi k = -1 then st else if le (fi k).toNatClampNeg = nI k then (st.1 + 1, insF st.2 (bpos (fun j => !decide (densI (by_ (fi k).toNatClampNeg) (by_ (st.2 j).toNatClampNeg) (he (fi k).toNatClampNeg) (he (st.2 j).toNatClampNeg) = 0)) st.1) st.1 (fi k)) else st
def rkN (fi le : Nat → Int32) (by_ he : Nat → Int64) (g : Nat → Int32) : Nat → Nat × (Nat → Int32)
  | 0 => (0, g)
  | k + 1 => rkStep fi le by_ he k (rkN fi le by_ he g k)
theorem rkN_in (fi le : Nat → Int32) (by_ he : Nat → Int64) (g : Nat → Int32) : ∀ k, (rkN fi le by_ he g k).1 ≤ k ∧ ∀ j, j < (rkN fi le by_ he g k).1 → ∃ x, x < k ∧ (rkN fi le by_ he g k).2 j = fi x ∧ fi x ≠ -1 := by
  intro k
  induction k with
  | zero => exact ⟨Nat.le_refl 0, fun j h => absurd h (Nat.not_lt_zero j)⟩
  | succ k ih =>
    have h0 : (rkN fi le by_ he g k).1 ≤ k + 1 ∧ ∀ j, j < (rkN fi le by_ he g k).1 → ∃ x, x < k + 1 ∧ (rkN fi le by_ he g k).2 j = fi x ∧ fi x ≠ -1 := by
      refine ⟨by omega, fun j h => ?_⟩
      obtain ⟨x, h1, h2⟩ := ih.2 j h
      exact ⟨x, by omega, h2⟩
    show (rkStep fi le by_ he k (rkN fi le by_ he g k)).1 ≤ k + 1 ∧ ∀ j, j < (rkStep fi le by_ he k (rkN fi le by_ he g k)).1 → ∃ x, x < k + 1 ∧ (rkStep fi le by_ he k (rkN fi le by_ he g k)).2 j = fi x ∧ fi x ≠ -1
    unfold rkStep
    split
    · exact h0
    · split
      · rename_i h1 h2
        exact ⟨Nat.succ_le_succ ih.1, insF_all (P := fun y => ∃ x, x < k + 1 ∧ y = fi x ∧ fi x ≠ -1) (bpos_le _ _) h0.2 ⟨k, by omega, rfl, h1⟩⟩
      · exact h0
theorem rkN_vin {fi le : Nat → Int32} {by_ he : Nat → Int64} {g : Nat → Int32} {k j : Nat} (hk : k ≤ 300) (hfi : ∀ j, j < 300 → fi j = -1 ∨ vp_in (fi j) 300) (hj : j < (rkN fi le by_ he g k).1) : vp_in ((rkN fi le by_ he g k).2 j) 300 := by
  obtain ⟨x, h1, h2, h3⟩ := (rkN_in fi le by_ he g k).2 j hj
  rw [h2]
  exact (hfi x (by omega)).resolve_left h3
/-- a function is put behind a row -/
def rAdd (z : Nat → Int32) (st : (Nat → Int32) × (Nat → Int64) × Nat × Int64) (f : Nat) : (Nat → Int32) × (Nat → Int64) × Nat × Int64 := (upd st.1 st.2.2.1 (nI f), vp_updL st.2.1 f st.2.2.2, st.2.2.1 + 1, st.2.2.2 + (z f).toInt64)
def rowL (z : Nat → Int32) (M : Nat → Int32) (B : Nat → Int64) (l : List Nat) : (Nat → Int32) × (Nat → Int64) × Nat × Int64 := l.foldl (rAdd z) (M, B, 0, 0)
theorem rAdd_n (z : Nat → Int32) : ∀ (l : List Nat) (st : (Nat → Int32) × (Nat → Int64) × Nat × Int64), (l.foldl (rAdd z) st).2.2.1 = st.2.2.1 + l.length
  | [], st => rfl
  | x :: l, st => by
    rw [List.foldl_cons, rAdd_n z l]
    show st.2.2.1 + 1 + l.length = st.2.2.1 + (l.length + 1)
    omega
theorem nI_m1 {x : Nat} (h : x < 2000000) : ¬ nI x = -1 := by
  intro h1
  have h2 := congrArg Int32.toInt h1
  rw [nI_toInt (by omega)] at h2
  have h3 : (-1 : Int32).toInt = -1 := by decide
  omega
end
section
set_option maxHeartbeats 4000000 in
set_option maxRecDepth 100000 in
theorem ct_X1_clusterCount (l : Launch) (dC : Nat → ClassId) (dI : Nat → Nat → Nat) (cI cJ cZ : ClassId) (sz : Nat) (g0 : Nat) (g1 : Nat) (g2 : Nat) (g3 : Nat) (g4 : Nat) (g5 : Nat) (g6 : Nat) (g7 : Nat) (g8 : Nat) (fi nx la le : Nat → Int32) (by_ he : Nat → Int64) (lo rk : Nat → Int32) (rc : Int32)  : Met l yX1_clusterCount wsX1_clusterCount ({ frames := 0, cells := 0, slots := 0, locals := 0 }) (va_Pc [.ref g0] (fun U => U.heap.size = sz ∧ va_P (dC, dI) vwCl [(g0, .inr (1, [.ref g1, .ref g2, .ref g3, .ref g4, .ref g5, .ref g6, .ref g7, .ref g8, .int rc])), (g1, .inl (cI, 300, .inl fi)), (g2, .inl (cI, 300, .inl nx)), (g3, .inl (cI, 300, .inl la)), (g4, .inl (cI, 300, .inl le)), (g5, .inl (cJ, 300, .inr (.inl by_))), (g6, .inl (cJ, 300, .inr (.inl he))), (g7, .inl (cI, 300, .inl lo)), (g8, .inl (cI, 300, .inl rk))] U.heap ∧ va_K (dC, dI) vwCl [(cI, .int), (cJ, .long), (cZ, .boolean)] U ∧ va_D (fun _ => True) [(g0, .inr (1, [.ref g1, .ref g2, .ref g3, .ref g4, .ref g5, .ref g6, .ref g7, .ref g8, .int rc])), (g1, .inl (cI, 300, .inl fi)), (g2, .inl (cI, 300, .inl nx)), (g3, .inl (cI, 300, .inl la)), (g4, .inl (cI, 300, .inl le)), (g5, .inl (cJ, 300, .inr (.inl by_))), (g6, .inl (cJ, 300, .inr (.inl he))), (g7, .inl (cI, 300, .inl lo)), (g8, .inl (cI, 300, .inl rk))])) (va_Qi (fun (r : Int32) (uu : Unit) => r = rc) (fun (uu : Unit) (t : State) => va_P (dC, dI) vwCl [(g0, .inr (1, [.ref g1, .ref g2, .ref g3, .ref g4, .ref g5, .ref g6, .ref g7, .ref g8, .int rc])), (g1, .inl (cI, 300, .inl fi)), (g2, .inl (cI, 300, .inl nx)), (g3, .inl (cI, 300, .inl la)), (g4, .inl (cI, 300, .inl le)), (g5, .inl (cJ, 300, .inr (.inl by_))), (g6, .inl (cJ, 300, .inr (.inl he))), (g7, .inl (cI, 300, .inl lo)), (g8, .inl (cI, 300, .inl rk))] t.heap ∧ va_K (dC, dI) vwCl [(cI, .int), (cJ, .long), (cZ, .boolean)] t ∧ va_D (va_A [(g0, .inr (1, [.ref g1, .ref g2, .ref g3, .ref g4, .ref g5, .ref g6, .ref g7, .ref g8, .int rc])), (g1, .inl (cI, 300, .inl fi)), (g2, .inl (cI, 300, .inl nx)), (g3, .inl (cI, 300, .inl la)), (g4, .inl (cI, 300, .inl le)), (g5, .inl (cJ, 300, .inr (.inl by_))), (g6, .inl (cJ, 300, .inr (.inl he))), (g7, .inl (cI, 300, .inl lo)), (g8, .inl (cI, 300, .inl rk))] sz) [(g0, .inr (1, [.ref g1, .ref g2, .ref g3, .ref g4, .ref g5, .ref g6, .ref g7, .ref g8, .int rc])), (g1, .inl (cI, 300, .inl fi)), (g2, .inl (cI, 300, .inl nx)), (g3, .inl (cI, 300, .inl la)), (g4, .inl (cI, 300, .inl le)), (g5, .inl (cJ, 300, .inr (.inl by_))), (g6, .inl (cJ, 300, .inr (.inl he))), (g7, .inl (cI, 300, .inl lo)), (g8, .inl (cI, 300, .inl rk))]) (va_A [(g0, .inr (1, [.ref g1, .ref g2, .ref g3, .ref g4, .ref g5, .ref g6, .ref g7, .ref g8, .int rc])), (g1, .inl (cI, 300, .inl fi)), (g2, .inl (cI, 300, .inl nx)), (g3, .inl (cI, 300, .inl la)), (g4, .inl (cI, 300, .inl le)), (g5, .inl (cJ, 300, .inr (.inl by_))), (g6, .inl (cJ, 300, .inr (.inl he))), (g7, .inl (cI, 300, .inl lo)), (g8, .inl (cI, 300, .inl rk))] sz)) 0 0 (va_A [(g0, .inr (1, [.ref g1, .ref g2, .ref g3, .ref g4, .ref g5, .ref g6, .ref g7, .ref g8, .int rc])), (g1, .inl (cI, 300, .inl fi)), (g2, .inl (cI, 300, .inl nx)), (g3, .inl (cI, 300, .inl la)), (g4, .inl (cI, 300, .inl le)), (g5, .inl (cJ, 300, .inr (.inl by_))), (g6, .inl (cJ, 300, .inr (.inl he))), (g7, .inl (cI, 300, .inl lo)), (g8, .inl (cI, 300, .inl rk))] sz) := by
  refine Met.ofW (cc := cX1_clusterCount) (maxL := 1) (ret := (some .int)) (by decide) rfl ?_
  intro p ev s m args below meth c s₁ Bd hml hv
  obtain ⟨rfl, hsz, hP, hK, hD0⟩ := hv
  have hx := Bd.exec
  have hb := Bd.bytes
  have hr := Bd.returns
  have hts := atoms_spec (ws := wsX1_clusterCount) Bd.pre
  have hown : s.vm.findClass RX1 = some m.cls := findClass_of_methodNamed Bd.named
  have hlocks := Bd.notSynchronized
  have hin1 : ∀ w ∈ wsX10, w ∈ wsX1_clusterCount := by decide +kernel
  subst hsz
  have hD := hD0.self (sz := s.heap.size)
  generalize hAe : va_A [(g0, .inr (1, [.ref g1, .ref g2, .ref g3, .ref g4, .ref g5, .ref g6, .ref g7, .ref g8, .int rc])), (g1, .inl (cI, 300, .inl fi)), (g2, .inl (cI, 300, .inl nx)), (g3, .inl (cI, 300, .inl la)), (g4, .inl (cI, 300, .inl le)), (g5, .inl (cJ, 300, .inr (.inl by_))), (g6, .inl (cJ, 300, .inr (.inl he))), (g7, .inl (cI, 300, .inl lo)), (g8, .inl (cI, 300, .inl rk))] s.heap.size = A at hD ⊢
  have hA : ∀ q : Nat, s.heap.size ≤ q → A q := fun q h => by rw [← hAe]; exact Or.inr h
  have hS : va_S A s.heap s.heap [] := va_S.rf
  have hl := lv_entry ([.ref g0]) (n := 1) (Nat.le_of_ble_eq_true rfl)
  rw [lg_entry_eq]
  generalize (lg_sl ([.ref g0]) ++ List.replicate (1 - (lg_sl ([.ref g0])).length) Slot.unset).toArray = ls at hl ⊢
  have hl : lv_has ls 1 [(0, .ref g0)] := hl
  generalize hHe : s.heap = H at hP ⊢
  have hS : va_S A s.heap H [] := hHe ▸ hS
  refine lv_aload_n hx hb dX1_clusterCount_0 rfl (lv_at hl 0 rfl) ?_
  refine va_get (D := (dC, dI)) (ci := 1) (v := .int rc) (C := RX1) (T := TX1) (N := 9) hx hb hts hin1 hown hK hP 0 rfl rfl 8 (by decide) (hts (.fieldLink RX1 58 "CallClusters$Clustering" "rankedCount" "I") (by decide +kernel)) (fun _ h9 => h9) rfl dX1_clusterCount_1 ?_
  have hP9 : va_P (dC, dI) vwCl [(g0, .inr (1, [.ref g1, .ref g2, .ref g3, .ref g4, .ref g5, .ref g6, .ref g7, .ref g8, .int rc])), (g1, .inl (cI, 300, .inl fi)), (g2, .inl (cI, 300, .inl nx)), (g3, .inl (cI, 300, .inl la)), (g4, .inl (cI, 300, .inl le)), (g5, .inl (cJ, 300, .inr (.inl by_))), (g6, .inl (cJ, 300, .inr (.inl he))), (g7, .inl (cI, 300, .inl lo)), (g8, .inl (cI, 300, .inl rk))] H := hP
  have hD9 : va_D A [(g0, .inr (1, [.ref g1, .ref g2, .ref g3, .ref g4, .ref g5, .ref g6, .ref g7, .ref g8, .int rc])), (g1, .inl (cI, 300, .inl fi)), (g2, .inl (cI, 300, .inl nx)), (g3, .inl (cI, 300, .inl la)), (g4, .inl (cI, 300, .inl le)), (g5, .inl (cJ, 300, .inr (.inl by_))), (g6, .inl (cJ, 300, .inr (.inl he))), (g7, .inl (cI, 300, .inl lo)), (g8, .inl (cI, 300, .inl rk))] := hD
  exact W.iret (v := rc) hx hb hr (fun t ht hW => ⟨⟨rc, (), rfl, rfl, by rw [ht]; exact hP9, va_K.moved hW.alike hK, hD9⟩, hS.F ht⟩) hS.2.2 dX1_clusterCount_4
set_option maxHeartbeats 4000000 in
set_option maxRecDepth 100000 in
theorem ct_X1_firstOf (l : Launch) (dC : Nat → ClassId) (dI : Nat → Nat → Nat) (cI cJ cZ : ClassId) (sz : Nat) (g0 : Nat) (g1 : Nat) (g2 : Nat) (g3 : Nat) (g4 : Nat) (g5 : Nat) (g6 : Nat) (g7 : Nat) (g8 : Nat) (fi nx la le : Nat → Int32) (by_ he : Nat → Int64) (lo rk : Nat → Int32) (rc : Int32) (k : Int32) (hk : vp_in k 300) : Met l yX1_firstOf wsX1_firstOf ({ frames := 0, cells := 0, slots := 0, locals := 0 }) (va_Pc [.ref g0, .int k] (fun U => U.heap.size = sz ∧ va_P (dC, dI) vwCl [(g0, .inr (1, [.ref g1, .ref g2, .ref g3, .ref g4, .ref g5, .ref g6, .ref g7, .ref g8, .int rc])), (g1, .inl (cI, 300, .inl fi)), (g2, .inl (cI, 300, .inl nx)), (g3, .inl (cI, 300, .inl la)), (g4, .inl (cI, 300, .inl le)), (g5, .inl (cJ, 300, .inr (.inl by_))), (g6, .inl (cJ, 300, .inr (.inl he))), (g7, .inl (cI, 300, .inl lo)), (g8, .inl (cI, 300, .inl rk))] U.heap ∧ va_K (dC, dI) vwCl [(cI, .int), (cJ, .long), (cZ, .boolean)] U ∧ va_D (fun _ => True) [(g0, .inr (1, [.ref g1, .ref g2, .ref g3, .ref g4, .ref g5, .ref g6, .ref g7, .ref g8, .int rc])), (g1, .inl (cI, 300, .inl fi)), (g2, .inl (cI, 300, .inl nx)), (g3, .inl (cI, 300, .inl la)), (g4, .inl (cI, 300, .inl le)), (g5, .inl (cJ, 300, .inr (.inl by_))), (g6, .inl (cJ, 300, .inr (.inl he))), (g7, .inl (cI, 300, .inl lo)), (g8, .inl (cI, 300, .inl rk))])) (va_Qi (fun (r : Int32) (uu : Unit) => r = fi (k.toNatClampNeg)) (fun (uu : Unit) (t : State) => va_P (dC, dI) vwCl [(g0, .inr (1, [.ref g1, .ref g2, .ref g3, .ref g4, .ref g5, .ref g6, .ref g7, .ref g8, .int rc])), (g1, .inl (cI, 300, .inl fi)), (g2, .inl (cI, 300, .inl nx)), (g3, .inl (cI, 300, .inl la)), (g4, .inl (cI, 300, .inl le)), (g5, .inl (cJ, 300, .inr (.inl by_))), (g6, .inl (cJ, 300, .inr (.inl he))), (g7, .inl (cI, 300, .inl lo)), (g8, .inl (cI, 300, .inl rk))] t.heap ∧ va_K (dC, dI) vwCl [(cI, .int), (cJ, .long), (cZ, .boolean)] t ∧ va_D (va_A [(g0, .inr (1, [.ref g1, .ref g2, .ref g3, .ref g4, .ref g5, .ref g6, .ref g7, .ref g8, .int rc])), (g1, .inl (cI, 300, .inl fi)), (g2, .inl (cI, 300, .inl nx)), (g3, .inl (cI, 300, .inl la)), (g4, .inl (cI, 300, .inl le)), (g5, .inl (cJ, 300, .inr (.inl by_))), (g6, .inl (cJ, 300, .inr (.inl he))), (g7, .inl (cI, 300, .inl lo)), (g8, .inl (cI, 300, .inl rk))] sz) [(g0, .inr (1, [.ref g1, .ref g2, .ref g3, .ref g4, .ref g5, .ref g6, .ref g7, .ref g8, .int rc])), (g1, .inl (cI, 300, .inl fi)), (g2, .inl (cI, 300, .inl nx)), (g3, .inl (cI, 300, .inl la)), (g4, .inl (cI, 300, .inl le)), (g5, .inl (cJ, 300, .inr (.inl by_))), (g6, .inl (cJ, 300, .inr (.inl he))), (g7, .inl (cI, 300, .inl lo)), (g8, .inl (cI, 300, .inl rk))]) (va_A [(g0, .inr (1, [.ref g1, .ref g2, .ref g3, .ref g4, .ref g5, .ref g6, .ref g7, .ref g8, .int rc])), (g1, .inl (cI, 300, .inl fi)), (g2, .inl (cI, 300, .inl nx)), (g3, .inl (cI, 300, .inl la)), (g4, .inl (cI, 300, .inl le)), (g5, .inl (cJ, 300, .inr (.inl by_))), (g6, .inl (cJ, 300, .inr (.inl he))), (g7, .inl (cI, 300, .inl lo)), (g8, .inl (cI, 300, .inl rk))] sz)) 0 0 (va_A [(g0, .inr (1, [.ref g1, .ref g2, .ref g3, .ref g4, .ref g5, .ref g6, .ref g7, .ref g8, .int rc])), (g1, .inl (cI, 300, .inl fi)), (g2, .inl (cI, 300, .inl nx)), (g3, .inl (cI, 300, .inl la)), (g4, .inl (cI, 300, .inl le)), (g5, .inl (cJ, 300, .inr (.inl by_))), (g6, .inl (cJ, 300, .inr (.inl he))), (g7, .inl (cI, 300, .inl lo)), (g8, .inl (cI, 300, .inl rk))] sz) := by
  refine Met.ofW (cc := cX1_firstOf) (maxL := 2) (ret := (some .int)) (by decide) rfl ?_
  intro p ev s m args below meth c s₁ Bd hml hv
  obtain ⟨rfl, hsz, hP, hK, hD0⟩ := hv
  have hx := Bd.exec
  have hb := Bd.bytes
  have hr := Bd.returns
  have hts := atoms_spec (ws := wsX1_firstOf) Bd.pre
  have hown : s.vm.findClass RX1 = some m.cls := findClass_of_methodNamed Bd.named
  have hlocks := Bd.notSynchronized
  have hin1 : ∀ w ∈ wsX10, w ∈ wsX1_firstOf := by decide +kernel
  subst hsz
  have hD := hD0.self (sz := s.heap.size)
  generalize hAe : va_A [(g0, .inr (1, [.ref g1, .ref g2, .ref g3, .ref g4, .ref g5, .ref g6, .ref g7, .ref g8, .int rc])), (g1, .inl (cI, 300, .inl fi)), (g2, .inl (cI, 300, .inl nx)), (g3, .inl (cI, 300, .inl la)), (g4, .inl (cI, 300, .inl le)), (g5, .inl (cJ, 300, .inr (.inl by_))), (g6, .inl (cJ, 300, .inr (.inl he))), (g7, .inl (cI, 300, .inl lo)), (g8, .inl (cI, 300, .inl rk))] s.heap.size = A at hD ⊢
  have hA : ∀ q : Nat, s.heap.size ≤ q → A q := fun q h => by rw [← hAe]; exact Or.inr h
  have hS : va_S A s.heap s.heap [] := va_S.rf
  have hl := lv_entry ([.ref g0, .int k]) (n := 2) (Nat.le_of_ble_eq_true rfl)
  rw [lg_entry_eq]
  generalize (lg_sl ([.ref g0, .int k]) ++ List.replicate (2 - (lg_sl ([.ref g0, .int k])).length) Slot.unset).toArray = ls at hl ⊢
  have hl : lv_has ls 2 [(0, .ref g0), (1, .int k)] := hl
  generalize hHe : s.heap = H at hP ⊢
  have hS : va_S A s.heap H [] := hHe ▸ hS
  refine lv_aload_n hx hb dX1_firstOf_0 rfl (lv_at hl 0 rfl) ?_
  refine va_get (D := (dC, dI)) (ci := 1) (v := .ref g1) (C := RX1) (T := TX1) (N := 9) hx hb hts hin1 hown hK hP 0 rfl rfl 0 (by decide) (hts (.fieldLink RX1 9 "CallClusters$Clustering" "first" "[I") (by decide +kernel)) (fun _ h9 => h9) rfl dX1_firstOf_1 ?_
  refine lv_iload_n hx hb dX1_firstOf_4 rfl (lv_at hl 1 rfl) ?_
  refine va_iald hx hb hK hP 1 0 rfl rfl (hk) dX1_firstOf_5 ?_
  have hP9 : va_P (dC, dI) vwCl [(g0, .inr (1, [.ref g1, .ref g2, .ref g3, .ref g4, .ref g5, .ref g6, .ref g7, .ref g8, .int rc])), (g1, .inl (cI, 300, .inl fi)), (g2, .inl (cI, 300, .inl nx)), (g3, .inl (cI, 300, .inl la)), (g4, .inl (cI, 300, .inl le)), (g5, .inl (cJ, 300, .inr (.inl by_))), (g6, .inl (cJ, 300, .inr (.inl he))), (g7, .inl (cI, 300, .inl lo)), (g8, .inl (cI, 300, .inl rk))] H := hP
  have hD9 : va_D A [(g0, .inr (1, [.ref g1, .ref g2, .ref g3, .ref g4, .ref g5, .ref g6, .ref g7, .ref g8, .int rc])), (g1, .inl (cI, 300, .inl fi)), (g2, .inl (cI, 300, .inl nx)), (g3, .inl (cI, 300, .inl la)), (g4, .inl (cI, 300, .inl le)), (g5, .inl (cJ, 300, .inr (.inl by_))), (g6, .inl (cJ, 300, .inr (.inl he))), (g7, .inl (cI, 300, .inl lo)), (g8, .inl (cI, 300, .inl rk))] := hD
  exact W.iret (v := fi (k.toNatClampNeg)) hx hb hr (fun t ht hW => ⟨⟨fi (k.toNatClampNeg), (), rfl, rfl, by rw [ht]; exact hP9, va_K.moved hW.alike hK, hD9⟩, hS.F ht⟩) hS.2.2 dX1_firstOf_6
set_option maxHeartbeats 4000000 in
set_option maxRecDepth 100000 in
theorem ct_X1_isDenser (l : Launch) (dC : Nat → ClassId) (dI : Nat → Nat → Nat) (cI cJ cZ : ClassId) (sz : Nat) (g0 : Nat) (g1 : Nat) (g2 : Nat) (g3 : Nat) (g4 : Nat) (g5 : Nat) (g6 : Nat) (g7 : Nat) (g8 : Nat) (fi nx la le : Nat → Int32) (by_ he : Nat → Int64) (lo rk : Nat → Int32) (rc : Int32) (a b : Int32) (ha : vp_in a 300) (hb9 : vp_in b 300) : Met l yX1_isDenser wsX1_isDenser ({ frames := 0, cells := 0, slots := 0, locals := 0 }) (va_Pc [.ref g0, .int a, .int b] (fun U => U.heap.size = sz ∧ va_P (dC, dI) vwCl [(g0, .inr (1, [.ref g1, .ref g2, .ref g3, .ref g4, .ref g5, .ref g6, .ref g7, .ref g8, .int rc])), (g1, .inl (cI, 300, .inl fi)), (g2, .inl (cI, 300, .inl nx)), (g3, .inl (cI, 300, .inl la)), (g4, .inl (cI, 300, .inl le)), (g5, .inl (cJ, 300, .inr (.inl by_))), (g6, .inl (cJ, 300, .inr (.inl he))), (g7, .inl (cI, 300, .inl lo)), (g8, .inl (cI, 300, .inl rk))] U.heap ∧ va_K (dC, dI) vwCl [(cI, .int), (cJ, .long), (cZ, .boolean)] U ∧ va_D (fun _ => True) [(g0, .inr (1, [.ref g1, .ref g2, .ref g3, .ref g4, .ref g5, .ref g6, .ref g7, .ref g8, .int rc])), (g1, .inl (cI, 300, .inl fi)), (g2, .inl (cI, 300, .inl nx)), (g3, .inl (cI, 300, .inl la)), (g4, .inl (cI, 300, .inl le)), (g5, .inl (cJ, 300, .inr (.inl by_))), (g6, .inl (cJ, 300, .inr (.inl he))), (g7, .inl (cI, 300, .inl lo)), (g8, .inl (cI, 300, .inl rk))])) (va_Qi (fun (r : Int32) (uu : Unit) => r = densI (by_ (a.toNatClampNeg)) (by_ (b.toNatClampNeg)) (he (a.toNatClampNeg)) (he (b.toNatClampNeg))) (fun (uu : Unit) (t : State) => va_P (dC, dI) vwCl [(g0, .inr (1, [.ref g1, .ref g2, .ref g3, .ref g4, .ref g5, .ref g6, .ref g7, .ref g8, .int rc])), (g1, .inl (cI, 300, .inl fi)), (g2, .inl (cI, 300, .inl nx)), (g3, .inl (cI, 300, .inl la)), (g4, .inl (cI, 300, .inl le)), (g5, .inl (cJ, 300, .inr (.inl by_))), (g6, .inl (cJ, 300, .inr (.inl he))), (g7, .inl (cI, 300, .inl lo)), (g8, .inl (cI, 300, .inl rk))] t.heap ∧ va_K (dC, dI) vwCl [(cI, .int), (cJ, .long), (cZ, .boolean)] t ∧ va_D (va_A [(g0, .inr (1, [.ref g1, .ref g2, .ref g3, .ref g4, .ref g5, .ref g6, .ref g7, .ref g8, .int rc])), (g1, .inl (cI, 300, .inl fi)), (g2, .inl (cI, 300, .inl nx)), (g3, .inl (cI, 300, .inl la)), (g4, .inl (cI, 300, .inl le)), (g5, .inl (cJ, 300, .inr (.inl by_))), (g6, .inl (cJ, 300, .inr (.inl he))), (g7, .inl (cI, 300, .inl lo)), (g8, .inl (cI, 300, .inl rk))] sz) [(g0, .inr (1, [.ref g1, .ref g2, .ref g3, .ref g4, .ref g5, .ref g6, .ref g7, .ref g8, .int rc])), (g1, .inl (cI, 300, .inl fi)), (g2, .inl (cI, 300, .inl nx)), (g3, .inl (cI, 300, .inl la)), (g4, .inl (cI, 300, .inl le)), (g5, .inl (cJ, 300, .inr (.inl by_))), (g6, .inl (cJ, 300, .inr (.inl he))), (g7, .inl (cI, 300, .inl lo)), (g8, .inl (cI, 300, .inl rk))]) (va_A [(g0, .inr (1, [.ref g1, .ref g2, .ref g3, .ref g4, .ref g5, .ref g6, .ref g7, .ref g8, .int rc])), (g1, .inl (cI, 300, .inl fi)), (g2, .inl (cI, 300, .inl nx)), (g3, .inl (cI, 300, .inl la)), (g4, .inl (cI, 300, .inl le)), (g5, .inl (cJ, 300, .inr (.inl by_))), (g6, .inl (cJ, 300, .inr (.inl he))), (g7, .inl (cI, 300, .inl lo)), (g8, .inl (cI, 300, .inl rk))] sz)) 0 0 (va_A [(g0, .inr (1, [.ref g1, .ref g2, .ref g3, .ref g4, .ref g5, .ref g6, .ref g7, .ref g8, .int rc])), (g1, .inl (cI, 300, .inl fi)), (g2, .inl (cI, 300, .inl nx)), (g3, .inl (cI, 300, .inl la)), (g4, .inl (cI, 300, .inl le)), (g5, .inl (cJ, 300, .inr (.inl by_))), (g6, .inl (cJ, 300, .inr (.inl he))), (g7, .inl (cI, 300, .inl lo)), (g8, .inl (cI, 300, .inl rk))] sz) := by
  refine Met.ofW (cc := cX1_isDenser) (maxL := 7) (ret := (some .boolean)) (by decide) rfl ?_
  intro p ev s m args below meth c s₁ Bd hml hv
  obtain ⟨rfl, hsz, hP, hK, hD0⟩ := hv
  have hx := Bd.exec
  have hb := Bd.bytes
  have hr := Bd.returns
  have hts := atoms_spec (ws := wsX1_isDenser) Bd.pre
  have hown : s.vm.findClass RX1 = some m.cls := findClass_of_methodNamed Bd.named
  have hlocks := Bd.notSynchronized
  have hin1 : ∀ w ∈ wsX10, w ∈ wsX1_isDenser := by decide +kernel
  subst hsz
  have hD := hD0.self (sz := s.heap.size)
  generalize hAe : va_A [(g0, .inr (1, [.ref g1, .ref g2, .ref g3, .ref g4, .ref g5, .ref g6, .ref g7, .ref g8, .int rc])), (g1, .inl (cI, 300, .inl fi)), (g2, .inl (cI, 300, .inl nx)), (g3, .inl (cI, 300, .inl la)), (g4, .inl (cI, 300, .inl le)), (g5, .inl (cJ, 300, .inr (.inl by_))), (g6, .inl (cJ, 300, .inr (.inl he))), (g7, .inl (cI, 300, .inl lo)), (g8, .inl (cI, 300, .inl rk))] s.heap.size = A at hD ⊢
  have hA : ∀ q : Nat, s.heap.size ≤ q → A q := fun q h => by rw [← hAe]; exact Or.inr h
  have hS : va_S A s.heap s.heap [] := va_S.rf
  have hl := lv_entry ([.ref g0, .int a, .int b]) (n := 7) (Nat.le_of_ble_eq_true rfl)
  rw [lg_entry_eq]
  generalize (lg_sl ([.ref g0, .int a, .int b]) ++ List.replicate (7 - (lg_sl ([.ref g0, .int a, .int b])).length) Slot.unset).toArray = ls at hl ⊢
  have hl : lv_has ls 7 [(0, .ref g0), (1, .int a), (2, .int b)] := hl
  generalize hHe : s.heap = H at hP ⊢
  have hS : va_S A s.heap H [] := hHe ▸ hS
  refine lv_aload_n hx hb dX1_isDenser_0 rfl (lv_at hl 0 rfl) ?_
  refine va_get (D := (dC, dI)) (ci := 1) (v := .ref g5) (C := RX1) (T := TX1) (N := 9) hx hb hts hin1 hown hK hP 0 rfl rfl 4 (by decide) (hts (.fieldLink RX1 24 "CallClusters$Clustering" "bytes" "[J") (by decide +kernel)) (fun _ h9 => h9) rfl dX1_isDenser_1 ?_
  refine lv_iload_n hx hb dX1_isDenser_4 rfl (lv_at hl 1 rfl) ?_
  refine va_lald hx hb hK hP 5 1 rfl rfl (ha) dX1_isDenser_5 ?_
  refine lv_lconst (v := 0) hx hb dX1_isDenser_6 (by decide) ?_
  refine W.lcmp hx hb dX1_isDenser_7 ?_
  refine lv_if_le (tgt := 22) hx hb dX1_isDenser_8 (by decide) (fun c_1 => ?_) (fun c_1 => ?_)
  · -- pc 8, side 0
    rw [lg_cmp_le] at c_1
    refine lv_iconst (v := 0) hx hb dX1_isDenser_22 (by decide) ?_
    have hP9 : va_P (dC, dI) vwCl [(g0, .inr (1, [.ref g1, .ref g2, .ref g3, .ref g4, .ref g5, .ref g6, .ref g7, .ref g8, .int rc])), (g1, .inl (cI, 300, .inl fi)), (g2, .inl (cI, 300, .inl nx)), (g3, .inl (cI, 300, .inl la)), (g4, .inl (cI, 300, .inl le)), (g5, .inl (cJ, 300, .inr (.inl by_))), (g6, .inl (cJ, 300, .inr (.inl he))), (g7, .inl (cI, 300, .inl lo)), (g8, .inl (cI, 300, .inl rk))] H := hP
    have hD9 : va_D A [(g0, .inr (1, [.ref g1, .ref g2, .ref g3, .ref g4, .ref g5, .ref g6, .ref g7, .ref g8, .int rc])), (g1, .inl (cI, 300, .inl fi)), (g2, .inl (cI, 300, .inl nx)), (g3, .inl (cI, 300, .inl la)), (g4, .inl (cI, 300, .inl le)), (g5, .inl (cJ, 300, .inr (.inl by_))), (g6, .inl (cJ, 300, .inr (.inl he))), (g7, .inl (cI, 300, .inl lo)), (g8, .inl (cI, 300, .inl rk))] := hD
    exact W.zret (v := 0) hx hb hr (by decide) (fun t ht hW => ⟨⟨0, (), rfl, by unfold densI; rw [if_pos c_1], by rw [ht]; exact hP9, va_K.moved hW.alike hK, hD9⟩, hS.F ht⟩) hS.2.2 dX1_isDenser_23
  · -- pc 8, side 1
    rw [lg_cmp_le] at c_1
    refine lv_aload_n hx hb dX1_isDenser_11 rfl (lv_at hl 0 rfl) ?_
    refine va_get (D := (dC, dI)) (ci := 1) (v := .ref g5) (C := RX1) (T := TX1) (N := 9) hx hb hts hin1 hown hK hP 0 rfl rfl 4 (by decide) (hts (.fieldLink RX1 24 "CallClusters$Clustering" "bytes" "[J") (by decide +kernel)) (fun _ h9 => h9) rfl dX1_isDenser_12 ?_
    refine lv_iload_n hx hb dX1_isDenser_15 rfl (lv_at hl 2 rfl) ?_
    refine va_lald hx hb hK hP 5 1 rfl rfl (hb9) dX1_isDenser_16 ?_
    refine lv_lconst (v := 0) hx hb dX1_isDenser_17 (by decide) ?_
    refine W.lcmp hx hb dX1_isDenser_18 ?_
    refine lv_if_gt (tgt := 24) hx hb dX1_isDenser_19 (by decide) (fun c_2 => ?_) (fun c_2 => ?_)
    · -- pc 19, side 0
      rw [lg_cmp_gt] at c_2
      refine lv_aload_n hx hb dX1_isDenser_24 rfl (lv_at hl 0 rfl) ?_
      refine va_get (D := (dC, dI)) (ci := 1) (v := .ref g6) (C := RX1) (T := TX1) (N := 9) hx hb hts hin1 hown hK hP 0 rfl rfl 5 (by decide) (hts (.fieldLink RX1 28 "CallClusters$Clustering" "heat" "[J") (by decide +kernel)) (fun _ h9 => h9) rfl dX1_isDenser_25 ?_
      refine lv_iload_n hx hb dX1_isDenser_28 rfl (lv_at hl 1 rfl) ?_
      refine va_lald hx hb hK hP 6 1 rfl rfl (ha) dX1_isDenser_29 ?_
      refine lv_aload_n hx hb dX1_isDenser_30 rfl (lv_at hl 0 rfl) ?_
      refine va_get (D := (dC, dI)) (ci := 1) (v := .ref g5) (C := RX1) (T := TX1) (N := 9) hx hb hts hin1 hown hK hP 0 rfl rfl 4 (by decide) (hts (.fieldLink RX1 24 "CallClusters$Clustering" "bytes" "[J") (by decide +kernel)) (fun _ h9 => h9) rfl dX1_isDenser_31 ?_
      refine lv_iload_n hx hb dX1_isDenser_34 rfl (lv_at hl 1 rfl) ?_
      refine va_lald hx hb hK hP 5 1 rfl rfl (ha) dX1_isDenser_35 ?_
      refine lv_ldiv hx hb dX1_isDenser_36 (fun h9 => c_1 (Int64.le_of_eq h9)) ?_
      refine lv_lstore_n (lv' := [(3, .long ((he (a.toNatClampNeg)) / (by_ (a.toNatClampNeg)))), (0, .ref g0), (1, .int a), (2, .int b)]) hx hb dX1_isDenser_37 rfl hl (by decide) rfl (fun ls hl => ?_)
      refine lv_aload_n hx hb dX1_isDenser_38 rfl (lv_at hl 1 rfl) ?_
      refine va_get (D := (dC, dI)) (ci := 1) (v := .ref g6) (C := RX1) (T := TX1) (N := 9) hx hb hts hin1 hown hK hP 0 rfl rfl 5 (by decide) (hts (.fieldLink RX1 28 "CallClusters$Clustering" "heat" "[J") (by decide +kernel)) (fun _ h9 => h9) rfl dX1_isDenser_39 ?_
      refine lv_iload_n hx hb dX1_isDenser_42 rfl (lv_at hl 3 rfl) ?_
      refine va_lald hx hb hK hP 6 1 rfl rfl (hb9) dX1_isDenser_43 ?_
      refine lv_aload_n hx hb dX1_isDenser_44 rfl (lv_at hl 1 rfl) ?_
      refine va_get (D := (dC, dI)) (ci := 1) (v := .ref g5) (C := RX1) (T := TX1) (N := 9) hx hb hts hin1 hown hK hP 0 rfl rfl 4 (by decide) (hts (.fieldLink RX1 24 "CallClusters$Clustering" "bytes" "[J") (by decide +kernel)) (fun _ h9 => h9) rfl dX1_isDenser_45 ?_
      refine lv_iload_n hx hb dX1_isDenser_48 rfl (lv_at hl 3 rfl) ?_
      refine va_lald hx hb hK hP 5 1 rfl rfl (hb9) dX1_isDenser_49 ?_
      refine lv_ldiv hx hb dX1_isDenser_50 (fun h9 => absurd (h9 ▸ c_2) (by decide)) ?_
      refine lv_lstore (lv' := [(5, .long ((he (b.toNatClampNeg)) / (by_ (b.toNatClampNeg)))), (3, .long ((he (a.toNatClampNeg)) / (by_ (a.toNatClampNeg)))), (0, .ref g0), (1, .int a), (2, .int b)]) hx hb dX1_isDenser_51 hl (by decide) rfl (fun ls hl => ?_)
      refine lv_lload_n hx hb dX1_isDenser_53 rfl (lv_at hl 1 rfl) ?_
      refine lv_lload hx hb dX1_isDenser_54 (lv_at hl 0 rfl) ?_
      refine W.lcmp hx hb dX1_isDenser_56 ?_
      refine lv_if_eq (tgt := 73) hx hb dX1_isDenser_57 (by decide) (fun c_3 => ?_) (fun c_3 => ?_)
      · -- pc 57, side 0
        rw [lg_cmp_eq] at c_3
        refine lv_aload_n hx hb dX1_isDenser_73 rfl (lv_at hl 2 rfl) ?_
        refine va_get (D := (dC, dI)) (ci := 1) (v := .ref g6) (C := RX1) (T := TX1) (N := 9) hx hb hts hin1 hown hK hP 0 rfl rfl 5 (by decide) (hts (.fieldLink RX1 28 "CallClusters$Clustering" "heat" "[J") (by decide +kernel)) (fun _ h9 => h9) rfl dX1_isDenser_74 ?_
        refine lv_iload_n hx hb dX1_isDenser_77 rfl (lv_at hl 3 rfl) ?_
        refine va_lald hx hb hK hP 6 1 rfl rfl (ha) dX1_isDenser_78 ?_
        refine lv_aload_n hx hb dX1_isDenser_79 rfl (lv_at hl 2 rfl) ?_
        refine va_get (D := (dC, dI)) (ci := 1) (v := .ref g5) (C := RX1) (T := TX1) (N := 9) hx hb hts hin1 hown hK hP 0 rfl rfl 4 (by decide) (hts (.fieldLink RX1 24 "CallClusters$Clustering" "bytes" "[J") (by decide +kernel)) (fun _ h9 => h9) rfl dX1_isDenser_80 ?_
        refine lv_iload_n hx hb dX1_isDenser_83 rfl (lv_at hl 3 rfl) ?_
        refine va_lald hx hb hK hP 5 1 rfl rfl (ha) dX1_isDenser_84 ?_
        refine lv_lrem hx hb dX1_isDenser_85 (fun h9 => c_1 (Int64.le_of_eq h9)) ?_
        refine lv_aload_n hx hb dX1_isDenser_86 rfl (lv_at hl 2 rfl) ?_
        refine va_get (D := (dC, dI)) (ci := 1) (v := .ref g5) (C := RX1) (T := TX1) (N := 9) hx hb hts hin1 hown hK hP 0 rfl rfl 4 (by decide) (hts (.fieldLink RX1 24 "CallClusters$Clustering" "bytes" "[J") (by decide +kernel)) (fun _ h9 => h9) rfl dX1_isDenser_87 ?_
        refine lv_iload_n hx hb dX1_isDenser_90 rfl (lv_at hl 4 rfl) ?_
        refine va_lald hx hb hK hP 5 1 rfl rfl (hb9) dX1_isDenser_91 ?_
        refine lv_lmul hx hb dX1_isDenser_92 ?_
        refine lv_aload_n hx hb dX1_isDenser_93 rfl (lv_at hl 2 rfl) ?_
        refine va_get (D := (dC, dI)) (ci := 1) (v := .ref g6) (C := RX1) (T := TX1) (N := 9) hx hb hts hin1 hown hK hP 0 rfl rfl 5 (by decide) (hts (.fieldLink RX1 28 "CallClusters$Clustering" "heat" "[J") (by decide +kernel)) (fun _ h9 => h9) rfl dX1_isDenser_94 ?_
        refine lv_iload_n hx hb dX1_isDenser_97 rfl (lv_at hl 4 rfl) ?_
        refine va_lald hx hb hK hP 6 1 rfl rfl (hb9) dX1_isDenser_98 ?_
        refine lv_aload_n hx hb dX1_isDenser_99 rfl (lv_at hl 2 rfl) ?_
        refine va_get (D := (dC, dI)) (ci := 1) (v := .ref g5) (C := RX1) (T := TX1) (N := 9) hx hb hts hin1 hown hK hP 0 rfl rfl 4 (by decide) (hts (.fieldLink RX1 24 "CallClusters$Clustering" "bytes" "[J") (by decide +kernel)) (fun _ h9 => h9) rfl dX1_isDenser_100 ?_
        refine lv_iload_n hx hb dX1_isDenser_103 rfl (lv_at hl 4 rfl) ?_
        refine va_lald hx hb hK hP 5 1 rfl rfl (hb9) dX1_isDenser_104 ?_
        refine lv_lrem hx hb dX1_isDenser_105 (fun h9 => absurd (h9 ▸ c_2) (by decide)) ?_
        refine lv_aload_n hx hb dX1_isDenser_106 rfl (lv_at hl 2 rfl) ?_
        refine va_get (D := (dC, dI)) (ci := 1) (v := .ref g5) (C := RX1) (T := TX1) (N := 9) hx hb hts hin1 hown hK hP 0 rfl rfl 4 (by decide) (hts (.fieldLink RX1 24 "CallClusters$Clustering" "bytes" "[J") (by decide +kernel)) (fun _ h9 => h9) rfl dX1_isDenser_107 ?_
        refine lv_iload_n hx hb dX1_isDenser_110 rfl (lv_at hl 3 rfl) ?_
        refine va_lald hx hb hK hP 5 1 rfl rfl (ha) dX1_isDenser_111 ?_
        refine lv_lmul hx hb dX1_isDenser_112 ?_
        refine W.lcmp hx hb dX1_isDenser_113 ?_
        refine lv_if_le (tgt := 121) hx hb dX1_isDenser_114 (by decide) (fun c_4 => ?_) (fun c_4 => ?_)
        · -- pc 114, side 0
          rw [lg_cmp_le] at c_4
          refine lv_iconst (v := 0) hx hb dX1_isDenser_121 (by decide) ?_
          have hP9 : va_P (dC, dI) vwCl [(g0, .inr (1, [.ref g1, .ref g2, .ref g3, .ref g4, .ref g5, .ref g6, .ref g7, .ref g8, .int rc])), (g1, .inl (cI, 300, .inl fi)), (g2, .inl (cI, 300, .inl nx)), (g3, .inl (cI, 300, .inl la)), (g4, .inl (cI, 300, .inl le)), (g5, .inl (cJ, 300, .inr (.inl by_))), (g6, .inl (cJ, 300, .inr (.inl he))), (g7, .inl (cI, 300, .inl lo)), (g8, .inl (cI, 300, .inl rk))] H := hP
          have hD9 : va_D A [(g0, .inr (1, [.ref g1, .ref g2, .ref g3, .ref g4, .ref g5, .ref g6, .ref g7, .ref g8, .int rc])), (g1, .inl (cI, 300, .inl fi)), (g2, .inl (cI, 300, .inl nx)), (g3, .inl (cI, 300, .inl la)), (g4, .inl (cI, 300, .inl le)), (g5, .inl (cJ, 300, .inr (.inl by_))), (g6, .inl (cJ, 300, .inr (.inl he))), (g7, .inl (cI, 300, .inl lo)), (g8, .inl (cI, 300, .inl rk))] := hD
          exact W.zret (v := 0) hx hb hr (by decide) (fun t ht hW => ⟨⟨0, (), rfl, by unfold densI; rw [if_neg c_1, if_neg (Int64.not_le.mpr c_2), if_pos c_3, if_neg (Int64.not_lt.mpr c_4)], by rw [ht]; exact hP9, va_K.moved hW.alike hK, hD9⟩, hS.F ht⟩) hS.2.2 dX1_isDenser_122
        · -- pc 114, side 1
          rw [lg_cmp_le] at c_4
          refine lv_iconst (v := 1) hx hb dX1_isDenser_117 (by decide) ?_
          refine lv_goto (tgt := 122) hx hb dX1_isDenser_118 (by decide) ?_
          have hP9 : va_P (dC, dI) vwCl [(g0, .inr (1, [.ref g1, .ref g2, .ref g3, .ref g4, .ref g5, .ref g6, .ref g7, .ref g8, .int rc])), (g1, .inl (cI, 300, .inl fi)), (g2, .inl (cI, 300, .inl nx)), (g3, .inl (cI, 300, .inl la)), (g4, .inl (cI, 300, .inl le)), (g5, .inl (cJ, 300, .inr (.inl by_))), (g6, .inl (cJ, 300, .inr (.inl he))), (g7, .inl (cI, 300, .inl lo)), (g8, .inl (cI, 300, .inl rk))] H := hP
          have hD9 : va_D A [(g0, .inr (1, [.ref g1, .ref g2, .ref g3, .ref g4, .ref g5, .ref g6, .ref g7, .ref g8, .int rc])), (g1, .inl (cI, 300, .inl fi)), (g2, .inl (cI, 300, .inl nx)), (g3, .inl (cI, 300, .inl la)), (g4, .inl (cI, 300, .inl le)), (g5, .inl (cJ, 300, .inr (.inl by_))), (g6, .inl (cJ, 300, .inr (.inl he))), (g7, .inl (cI, 300, .inl lo)), (g8, .inl (cI, 300, .inl rk))] := hD
          exact W.zret (v := 1) hx hb hr (by decide) (fun t ht hW => ⟨⟨1, (), rfl, by unfold densI; rw [if_neg c_1, if_neg (Int64.not_le.mpr c_2), if_pos c_3, if_pos (Int64.not_le.mp c_4)], by rw [ht]; exact hP9, va_K.moved hW.alike hK, hD9⟩, hS.F ht⟩) hS.2.2 dX1_isDenser_122
      · -- pc 57, side 1
        rw [lg_cmp_eq] at c_3
        refine lv_lload_n hx hb dX1_isDenser_60 rfl (lv_at hl 1 rfl) ?_
        refine lv_lload hx hb dX1_isDenser_61 (lv_at hl 0 rfl) ?_
        refine W.lcmp hx hb dX1_isDenser_63 ?_
        refine lv_if_le (tgt := 71) hx hb dX1_isDenser_64 (by decide) (fun c_5 => ?_) (fun c_5 => ?_)
        · -- pc 64, side 0
          rw [lg_cmp_le] at c_5
          refine lv_iconst (v := 0) hx hb dX1_isDenser_71 (by decide) ?_
          have hP9 : va_P (dC, dI) vwCl [(g0, .inr (1, [.ref g1, .ref g2, .ref g3, .ref g4, .ref g5, .ref g6, .ref g7, .ref g8, .int rc])), (g1, .inl (cI, 300, .inl fi)), (g2, .inl (cI, 300, .inl nx)), (g3, .inl (cI, 300, .inl la)), (g4, .inl (cI, 300, .inl le)), (g5, .inl (cJ, 300, .inr (.inl by_))), (g6, .inl (cJ, 300, .inr (.inl he))), (g7, .inl (cI, 300, .inl lo)), (g8, .inl (cI, 300, .inl rk))] H := hP
          have hD9 : va_D A [(g0, .inr (1, [.ref g1, .ref g2, .ref g3, .ref g4, .ref g5, .ref g6, .ref g7, .ref g8, .int rc])), (g1, .inl (cI, 300, .inl fi)), (g2, .inl (cI, 300, .inl nx)), (g3, .inl (cI, 300, .inl la)), (g4, .inl (cI, 300, .inl le)), (g5, .inl (cJ, 300, .inr (.inl by_))), (g6, .inl (cJ, 300, .inr (.inl he))), (g7, .inl (cI, 300, .inl lo)), (g8, .inl (cI, 300, .inl rk))] := hD
          exact W.zret (v := 0) hx hb hr (by decide) (fun t ht hW => ⟨⟨0, (), rfl, by unfold densI; rw [if_neg c_1, if_neg (Int64.not_le.mpr c_2), if_neg c_3, if_neg (Int64.not_lt.mpr c_5)], by rw [ht]; exact hP9, va_K.moved hW.alike hK, hD9⟩, hS.F ht⟩) hS.2.2 dX1_isDenser_72
        · -- pc 64, side 1
          rw [lg_cmp_le] at c_5
          refine lv_iconst (v := 1) hx hb dX1_isDenser_67 (by decide) ?_
          refine lv_goto (tgt := 72) hx hb dX1_isDenser_68 (by decide) ?_
          have hP9 : va_P (dC, dI) vwCl [(g0, .inr (1, [.ref g1, .ref g2, .ref g3, .ref g4, .ref g5, .ref g6, .ref g7, .ref g8, .int rc])), (g1, .inl (cI, 300, .inl fi)), (g2, .inl (cI, 300, .inl nx)), (g3, .inl (cI, 300, .inl la)), (g4, .inl (cI, 300, .inl le)), (g5, .inl (cJ, 300, .inr (.inl by_))), (g6, .inl (cJ, 300, .inr (.inl he))), (g7, .inl (cI, 300, .inl lo)), (g8, .inl (cI, 300, .inl rk))] H := hP
          have hD9 : va_D A [(g0, .inr (1, [.ref g1, .ref g2, .ref g3, .ref g4, .ref g5, .ref g6, .ref g7, .ref g8, .int rc])), (g1, .inl (cI, 300, .inl fi)), (g2, .inl (cI, 300, .inl nx)), (g3, .inl (cI, 300, .inl la)), (g4, .inl (cI, 300, .inl le)), (g5, .inl (cJ, 300, .inr (.inl by_))), (g6, .inl (cJ, 300, .inr (.inl he))), (g7, .inl (cI, 300, .inl lo)), (g8, .inl (cI, 300, .inl rk))] := hD
          exact W.zret (v := 1) hx hb hr (by decide) (fun t ht hW => ⟨⟨1, (), rfl, by unfold densI; rw [if_neg c_1, if_neg (Int64.not_le.mpr c_2), if_neg c_3, if_pos (Int64.not_le.mp c_5)], by rw [ht]; exact hP9, va_K.moved hW.alike hK, hD9⟩, hS.F ht⟩) hS.2.2 dX1_isDenser_72
    · -- pc 19, side 1
      rw [lg_cmp_gt] at c_2
      refine lv_iconst (v := 0) hx hb dX1_isDenser_22 (by decide) ?_
      have hP9 : va_P (dC, dI) vwCl [(g0, .inr (1, [.ref g1, .ref g2, .ref g3, .ref g4, .ref g5, .ref g6, .ref g7, .ref g8, .int rc])), (g1, .inl (cI, 300, .inl fi)), (g2, .inl (cI, 300, .inl nx)), (g3, .inl (cI, 300, .inl la)), (g4, .inl (cI, 300, .inl le)), (g5, .inl (cJ, 300, .inr (.inl by_))), (g6, .inl (cJ, 300, .inr (.inl he))), (g7, .inl (cI, 300, .inl lo)), (g8, .inl (cI, 300, .inl rk))] H := hP
      have hD9 : va_D A [(g0, .inr (1, [.ref g1, .ref g2, .ref g3, .ref g4, .ref g5, .ref g6, .ref g7, .ref g8, .int rc])), (g1, .inl (cI, 300, .inl fi)), (g2, .inl (cI, 300, .inl nx)), (g3, .inl (cI, 300, .inl la)), (g4, .inl (cI, 300, .inl le)), (g5, .inl (cJ, 300, .inr (.inl by_))), (g6, .inl (cJ, 300, .inr (.inl he))), (g7, .inl (cI, 300, .inl lo)), (g8, .inl (cI, 300, .inl rk))] := hD
      exact W.zret (v := 0) hx hb hr (by decide) (fun t ht hW => ⟨⟨0, (), rfl, by unfold densI; rw [if_neg c_1, if_pos (Int64.not_lt.mp c_2)], by rw [ht]; exact hP9, va_K.moved hW.alike hK, hD9⟩, hS.F ht⟩) hS.2.2 dX1_isDenser_23
set_option maxHeartbeats 4000000 in
set_option maxRecDepth 100000 in
theorem lpX1_standAlone {p : Program} {l : Launch} {ev : Env} {s : State} {m : MethodId} {args : Array Value} {below : List Frame} {meth : Method} {c : Code} {Q : State → Prop} {A : Nat → Prop} {dC : Nat → ClassId} {dI : Nat → Nat → Nat} {cI cJ cZ : ClassId} (hx : p.tables.exec = Jvm.exec) (hb : c.code = cX1_standAlone) (hml : c.maxLocals = 4) (hts : ∀ w ∈ wsX1_standAlone, w.before args s = true) (hown : s.vm.findClass RX1 = some m.cls) (hK : va_K (dC, dI) vwCl [(cI, .int), (cJ, .long), (cZ, .boolean)] s) (hA : ∀ q : Nat, s.heap.size ≤ q → A q) {g0 : Nat} {g1 : Nat} {g2 : Nat} {g3 : Nat} {g4 : Nat} {g5 : Nat} {g6 : Nat} {g7 : Nat} {g8 : Nat} {z0 : Nat} {h0 : Nat} {h1 : Nat} {h2 : Nat} {h3 : Nat} {h4 : Nat} {h5 : Nat} {fi nx la le : Nat → Int32} {by_ he : Nat → Int64} {lo rk : Nat → Int32} {rc : Int32} {F T : Nat → Int32} {C Hh : Nat → Int64} {S : Nat → Int32} {u : Nat} {z : Nat → Int32}   (kn : ∀ (H : Heap) (locs : List Loc) (ls : Array Slot), va_P (dC, dI) vwCl [(g0, .inr (1, [.ref g1, .ref g2, .ref g3, .ref g4, .ref g5, .ref g6, .ref g7, .ref g8, .int rc])), (g1, .inl (cI, 300, .inl (mix 300 (fun j => if z j ≤ 0 then -1 else nI j) fi))), (g2, .inl (cI, 300, .inl (mix 300 (fun _ => -1) nx))), (g3, .inl (cI, 300, .inl (mix 300 (fun j => nI j) la))), (g4, .inl (cI, 300, .inl (mix 300 (fun j => nI j) le))), (g5, .inl (cJ, 300, .inr (.inl (mix 300 (fun j => (z j).toInt64) by_)))), (g6, .inl (cJ, 300, .inr (.inl (mix 300 Hh he)))), (g7, .inl (cI, 300, .inl lo)), (g8, .inl (cI, 300, .inl rk)), (z0, .inl (cI, 300, .inl z)), (h0, .inr (0, [.ref h1, .ref h2, .ref h3, .ref h4, .ref h5, .int (nI u)])), (h1, .inl (cI, 2000, .inl F)), (h2, .inl (cI, 2000, .inl T)), (h3, .inl (cJ, 2000, .inr (.inl C))), (h4, .inl (cJ, 300, .inr (.inl Hh))), (h5, .inl (cI, 300, .inl S))] H → va_D A [(g0, .inr (1, [.ref g1, .ref g2, .ref g3, .ref g4, .ref g5, .ref g6, .ref g7, .ref g8, .int rc])), (g1, .inl (cI, 300, .inl (mix 300 (fun j => if z j ≤ 0 then -1 else nI j) fi))), (g2, .inl (cI, 300, .inl (mix 300 (fun _ => -1) nx))), (g3, .inl (cI, 300, .inl (mix 300 (fun j => nI j) la))), (g4, .inl (cI, 300, .inl (mix 300 (fun j => nI j) le))), (g5, .inl (cJ, 300, .inr (.inl (mix 300 (fun j => (z j).toInt64) by_)))), (g6, .inl (cJ, 300, .inr (.inl (mix 300 Hh he)))), (g7, .inl (cI, 300, .inl lo)), (g8, .inl (cI, 300, .inl rk)), (z0, .inl (cI, 300, .inl z)), (h0, .inr (0, [.ref h1, .ref h2, .ref h3, .ref h4, .ref h5, .int (nI u)])), (h1, .inl (cI, 2000, .inl F)), (h2, .inl (cI, 2000, .inl T)), (h3, .inl (cJ, 2000, .inr (.inl C))), (h4, .inl (cJ, 300, .inr (.inl Hh))), (h5, .inl (cI, 300, .inl S))] → va_S A s.heap H locs → lv_has ls 4 [(0, .ref g0), (1, .ref z0), (2, .ref h0)] → W p l ev ({ frames := 1, cells := 0, slots := 0, locals := 21 } : Room) s m args below meth c H locs 0 0 Q (F0 m 74 ls [])) : ∀ (n : Nat) (k : Nat), k + n = 300 → ∀ (H : Heap) (locs : List Loc) (ls : Array Slot), va_P (dC, dI) vwCl [(g0, .inr (1, [.ref g1, .ref g2, .ref g3, .ref g4, .ref g5, .ref g6, .ref g7, .ref g8, .int rc])), (g1, .inl (cI, 300, .inl (mix k (fun j => if z j ≤ 0 then -1 else nI j) fi))), (g2, .inl (cI, 300, .inl (mix k (fun _ => -1) nx))), (g3, .inl (cI, 300, .inl (mix k (fun j => nI j) la))), (g4, .inl (cI, 300, .inl (mix k (fun j => nI j) le))), (g5, .inl (cJ, 300, .inr (.inl (mix k (fun j => (z j).toInt64) by_)))), (g6, .inl (cJ, 300, .inr (.inl (mix k Hh he)))), (g7, .inl (cI, 300, .inl lo)), (g8, .inl (cI, 300, .inl rk)), (z0, .inl (cI, 300, .inl z)), (h0, .inr (0, [.ref h1, .ref h2, .ref h3, .ref h4, .ref h5, .int (nI u)])), (h1, .inl (cI, 2000, .inl F)), (h2, .inl (cI, 2000, .inl T)), (h3, .inl (cJ, 2000, .inr (.inl C))), (h4, .inl (cJ, 300, .inr (.inl Hh))), (h5, .inl (cI, 300, .inl S))] H → va_D A [(g0, .inr (1, [.ref g1, .ref g2, .ref g3, .ref g4, .ref g5, .ref g6, .ref g7, .ref g8, .int rc])), (g1, .inl (cI, 300, .inl (mix k (fun j => if z j ≤ 0 then -1 else nI j) fi))), (g2, .inl (cI, 300, .inl (mix k (fun _ => -1) nx))), (g3, .inl (cI, 300, .inl (mix k (fun j => nI j) la))), (g4, .inl (cI, 300, .inl (mix k (fun j => nI j) le))), (g5, .inl (cJ, 300, .inr (.inl (mix k (fun j => (z j).toInt64) by_)))), (g6, .inl (cJ, 300, .inr (.inl (mix k Hh he)))), (g7, .inl (cI, 300, .inl lo)), (g8, .inl (cI, 300, .inl rk)), (z0, .inl (cI, 300, .inl z)), (h0, .inr (0, [.ref h1, .ref h2, .ref h3, .ref h4, .ref h5, .int (nI u)])), (h1, .inl (cI, 2000, .inl F)), (h2, .inl (cI, 2000, .inl T)), (h3, .inl (cJ, 2000, .inr (.inl C))), (h4, .inl (cJ, 300, .inr (.inl Hh))), (h5, .inl (cI, 300, .inl S))] → va_S A s.heap H locs → lv_has ls 4 [(0, .ref g0), (1, .ref z0), (2, .ref h0), (3, .int (nI k))] → W p l ev ({ frames := 1, cells := 0, slots := 0, locals := 21 } : Room) s m args below meth c H locs 0 0 Q (F0 m 2 ls []) := by
  have hin1 : ∀ w ∈ wsX10, w ∈ wsX1_standAlone := by decide +kernel
  intro n
  induction n with
  | zero =>
    intro k hk H locs ls hP hD hS hl
    have hk : k = 300 := by omega
    subst hk
    refine lv_iload_n hx hb dX1_standAlone_2 rfl (lv_at hl 3 rfl) ?_
    refine lv_sipush (v := 300) hx hb dX1_standAlone_3 (by decide) ?_
    refine lv_icmp_ge (tgt := 74) hx hb dX1_standAlone_6 (by decide) (fun c_1 => ?_) (fun c_1 => ?_)
    · -- pc 6, side 0
      exact kn   H locs ls hP hD hS (lv_sub hl [0, 1, 2] rfl)
    · -- pc 6, side 1
      exact absurd (show (300 : Int32) ≤ nI 300 by decide) c_1
  | succ n ih =>
    intro k hk H locs ls hP hD hS hl
    refine lv_iload_n hx hb dX1_standAlone_2 rfl (lv_at hl 3 rfl) ?_
    refine lv_sipush (v := 300) hx hb dX1_standAlone_3 (by decide) ?_
    refine lv_icmp_ge (tgt := 74) hx hb dX1_standAlone_6 (by decide) (fun c_2 => ?_) (fun c_2 => ?_)
    · -- pc 6, side 0
      exact absurd (show nI 300 ≤ nI k from c_2) (nI_ge (show k < 300 by omega) (by omega))
    · -- pc 6, side 1
      refine lv_aload_n hx hb dX1_standAlone_9 rfl (lv_at hl 0 rfl) ?_
      refine va_get (D := (dC, dI)) (ci := 1) (v := .ref g1) (C := RX1) (T := TX1) (N := 9) hx hb hts hin1 hown hK hP 0 rfl rfl 0 (by decide) (hts (.fieldLink RX1 9 "CallClusters$Clustering" "first" "[I") (by decide +kernel)) (fun _ h9 => h9) rfl dX1_standAlone_10 ?_
      refine lv_iload_n hx hb dX1_standAlone_13 rfl (lv_at hl 3 rfl) ?_
      refine lv_aload_n hx hb dX1_standAlone_14 rfl (lv_at hl 1 rfl) ?_
      refine lv_iload_n hx hb dX1_standAlone_15 rfl (lv_at hl 3 rfl) ?_
      refine va_iald hx hb hK hP 9 0 rfl rfl (inn (show k < 300 by omega) (by omega)) dX1_standAlone_16 ?_
      refine tp_i (y := z k) (by rw [ix_n (by omega)]) ?_
      refine lv_if_le (tgt := 24) hx hb dX1_standAlone_17 (by decide) (fun c_3 => ?_) (fun c_3 => ?_)
      · -- pc 17, side 0
        refine lv_iconst (v := (-1)) hx hb dX1_standAlone_24 (by decide) ?_
        refine va_iast hx hb hK hP hD hS 1 0 rfl rfl (inn (show k < 300 by omega) (by omega)) dX1_standAlone_25 (fun H locs hP hD hS => ?_)
        have hf25 : upd (mix k (fun j => if z j ≤ 0 then -1 else nI j) fi) ((nI k).toNatClampNeg) ((-1)) = mix (k + 1) (fun j => if z j ≤ 0 then -1 else nI j) fi := by rw [ix_n (by omega)]; exact mix_i k (fun j => if z j ≤ 0 then -1 else nI j) fi (by rw [if_pos c_3])
        have hP : va_P (dC, dI) vwCl [(g0, .inr (1, [.ref g1, .ref g2, .ref g3, .ref g4, .ref g5, .ref g6, .ref g7, .ref g8, .int rc])), (g1, .inl (cI, 300, .inl (upd (mix k (fun j => if z j ≤ 0 then -1 else nI j) fi) ((nI k).toNatClampNeg) ((-1))))), (g2, .inl (cI, 300, .inl (mix k (fun _ => -1) nx))), (g3, .inl (cI, 300, .inl (mix k (fun j => nI j) la))), (g4, .inl (cI, 300, .inl (mix k (fun j => nI j) le))), (g5, .inl (cJ, 300, .inr (.inl (mix k (fun j => (z j).toInt64) by_)))), (g6, .inl (cJ, 300, .inr (.inl (mix k Hh he)))), (g7, .inl (cI, 300, .inl lo)), (g8, .inl (cI, 300, .inl rk)), (z0, .inl (cI, 300, .inl z)), (h0, .inr (0, [.ref h1, .ref h2, .ref h3, .ref h4, .ref h5, .int (nI u)])), (h1, .inl (cI, 2000, .inl F)), (h2, .inl (cI, 2000, .inl T)), (h3, .inl (cJ, 2000, .inr (.inl C))), (h4, .inl (cJ, 300, .inr (.inl Hh))), (h5, .inl (cI, 300, .inl S))] H := hP
        have hD : va_D A [(g0, .inr (1, [.ref g1, .ref g2, .ref g3, .ref g4, .ref g5, .ref g6, .ref g7, .ref g8, .int rc])), (g1, .inl (cI, 300, .inl (upd (mix k (fun j => if z j ≤ 0 then -1 else nI j) fi) ((nI k).toNatClampNeg) ((-1))))), (g2, .inl (cI, 300, .inl (mix k (fun _ => -1) nx))), (g3, .inl (cI, 300, .inl (mix k (fun j => nI j) la))), (g4, .inl (cI, 300, .inl (mix k (fun j => nI j) le))), (g5, .inl (cJ, 300, .inr (.inl (mix k (fun j => (z j).toInt64) by_)))), (g6, .inl (cJ, 300, .inr (.inl (mix k Hh he)))), (g7, .inl (cI, 300, .inl lo)), (g8, .inl (cI, 300, .inl rk)), (z0, .inl (cI, 300, .inl z)), (h0, .inr (0, [.ref h1, .ref h2, .ref h3, .ref h4, .ref h5, .int (nI u)])), (h1, .inl (cI, 2000, .inl F)), (h2, .inl (cI, 2000, .inl T)), (h3, .inl (cJ, 2000, .inr (.inl C))), (h4, .inl (cJ, 300, .inr (.inl Hh))), (h5, .inl (cI, 300, .inl S))] := hD
        rw [hf25] at hP hD
        refine lv_aload_n hx hb dX1_standAlone_26 rfl (lv_at hl 0 rfl) ?_
        refine va_get (D := (dC, dI)) (ci := 1) (v := .ref g2) (C := RX1) (T := TX1) (N := 9) hx hb hts hin1 hown hK hP 0 rfl rfl 1 (by decide) (hts (.fieldLink RX1 15 "CallClusters$Clustering" "next" "[I") (by decide +kernel)) (fun _ h9 => h9) rfl dX1_standAlone_27 ?_
        refine lv_iload_n hx hb dX1_standAlone_30 rfl (lv_at hl 3 rfl) ?_
        refine lv_iconst (v := (-1)) hx hb dX1_standAlone_31 (by decide) ?_
        refine va_iast hx hb hK hP hD hS 2 0 rfl rfl (inn (show k < 300 by omega) (by omega)) dX1_standAlone_32 (fun H locs hP hD hS => ?_)
        have hf32 : upd (mix k (fun _ => -1) nx) ((nI k).toNatClampNeg) ((-1)) = mix (k + 1) (fun _ => -1) nx := by rw [ix_n (by omega)]; exact mix_i k (fun _ => -1) nx rfl
        have hP : va_P (dC, dI) vwCl [(g0, .inr (1, [.ref g1, .ref g2, .ref g3, .ref g4, .ref g5, .ref g6, .ref g7, .ref g8, .int rc])), (g1, .inl (cI, 300, .inl (mix (k + 1) (fun j => if z j ≤ 0 then -1 else nI j) fi))), (g2, .inl (cI, 300, .inl (upd (mix k (fun _ => -1) nx) ((nI k).toNatClampNeg) ((-1))))), (g3, .inl (cI, 300, .inl (mix k (fun j => nI j) la))), (g4, .inl (cI, 300, .inl (mix k (fun j => nI j) le))), (g5, .inl (cJ, 300, .inr (.inl (mix k (fun j => (z j).toInt64) by_)))), (g6, .inl (cJ, 300, .inr (.inl (mix k Hh he)))), (g7, .inl (cI, 300, .inl lo)), (g8, .inl (cI, 300, .inl rk)), (z0, .inl (cI, 300, .inl z)), (h0, .inr (0, [.ref h1, .ref h2, .ref h3, .ref h4, .ref h5, .int (nI u)])), (h1, .inl (cI, 2000, .inl F)), (h2, .inl (cI, 2000, .inl T)), (h3, .inl (cJ, 2000, .inr (.inl C))), (h4, .inl (cJ, 300, .inr (.inl Hh))), (h5, .inl (cI, 300, .inl S))] H := hP
        have hD : va_D A [(g0, .inr (1, [.ref g1, .ref g2, .ref g3, .ref g4, .ref g5, .ref g6, .ref g7, .ref g8, .int rc])), (g1, .inl (cI, 300, .inl (mix (k + 1) (fun j => if z j ≤ 0 then -1 else nI j) fi))), (g2, .inl (cI, 300, .inl (upd (mix k (fun _ => -1) nx) ((nI k).toNatClampNeg) ((-1))))), (g3, .inl (cI, 300, .inl (mix k (fun j => nI j) la))), (g4, .inl (cI, 300, .inl (mix k (fun j => nI j) le))), (g5, .inl (cJ, 300, .inr (.inl (mix k (fun j => (z j).toInt64) by_)))), (g6, .inl (cJ, 300, .inr (.inl (mix k Hh he)))), (g7, .inl (cI, 300, .inl lo)), (g8, .inl (cI, 300, .inl rk)), (z0, .inl (cI, 300, .inl z)), (h0, .inr (0, [.ref h1, .ref h2, .ref h3, .ref h4, .ref h5, .int (nI u)])), (h1, .inl (cI, 2000, .inl F)), (h2, .inl (cI, 2000, .inl T)), (h3, .inl (cJ, 2000, .inr (.inl C))), (h4, .inl (cJ, 300, .inr (.inl Hh))), (h5, .inl (cI, 300, .inl S))] := hD
        rw [hf32] at hP hD
        refine lv_aload_n hx hb dX1_standAlone_33 rfl (lv_at hl 0 rfl) ?_
        refine va_get (D := (dC, dI)) (ci := 1) (v := .ref g3) (C := RX1) (T := TX1) (N := 9) hx hb hts hin1 hown hK hP 0 rfl rfl 2 (by decide) (hts (.fieldLink RX1 18 "CallClusters$Clustering" "last" "[I") (by decide +kernel)) (fun _ h9 => h9) rfl dX1_standAlone_34 ?_
        refine lv_iload_n hx hb dX1_standAlone_37 rfl (lv_at hl 3 rfl) ?_
        refine lv_iload_n hx hb dX1_standAlone_38 rfl (lv_at hl 3 rfl) ?_
        refine va_iast hx hb hK hP hD hS 3 0 rfl rfl (inn (show k < 300 by omega) (by omega)) dX1_standAlone_39 (fun H locs hP hD hS => ?_)
        have hf39 : upd (mix k (fun j => nI j) la) ((nI k).toNatClampNeg) (nI k) = mix (k + 1) (fun j => nI j) la := by rw [ix_n (by omega)]; exact mix_i k (fun j => nI j) la rfl
        have hP : va_P (dC, dI) vwCl [(g0, .inr (1, [.ref g1, .ref g2, .ref g3, .ref g4, .ref g5, .ref g6, .ref g7, .ref g8, .int rc])), (g1, .inl (cI, 300, .inl (mix (k + 1) (fun j => if z j ≤ 0 then -1 else nI j) fi))), (g2, .inl (cI, 300, .inl (mix (k + 1) (fun _ => -1) nx))), (g3, .inl (cI, 300, .inl (upd (mix k (fun j => nI j) la) ((nI k).toNatClampNeg) (nI k)))), (g4, .inl (cI, 300, .inl (mix k (fun j => nI j) le))), (g5, .inl (cJ, 300, .inr (.inl (mix k (fun j => (z j).toInt64) by_)))), (g6, .inl (cJ, 300, .inr (.inl (mix k Hh he)))), (g7, .inl (cI, 300, .inl lo)), (g8, .inl (cI, 300, .inl rk)), (z0, .inl (cI, 300, .inl z)), (h0, .inr (0, [.ref h1, .ref h2, .ref h3, .ref h4, .ref h5, .int (nI u)])), (h1, .inl (cI, 2000, .inl F)), (h2, .inl (cI, 2000, .inl T)), (h3, .inl (cJ, 2000, .inr (.inl C))), (h4, .inl (cJ, 300, .inr (.inl Hh))), (h5, .inl (cI, 300, .inl S))] H := hP
        have hD : va_D A [(g0, .inr (1, [.ref g1, .ref g2, .ref g3, .ref g4, .ref g5, .ref g6, .ref g7, .ref g8, .int rc])), (g1, .inl (cI, 300, .inl (mix (k + 1) (fun j => if z j ≤ 0 then -1 else nI j) fi))), (g2, .inl (cI, 300, .inl (mix (k + 1) (fun _ => -1) nx))), (g3, .inl (cI, 300, .inl (upd (mix k (fun j => nI j) la) ((nI k).toNatClampNeg) (nI k)))), (g4, .inl (cI, 300, .inl (mix k (fun j => nI j) le))), (g5, .inl (cJ, 300, .inr (.inl (mix k (fun j => (z j).toInt64) by_)))), (g6, .inl (cJ, 300, .inr (.inl (mix k Hh he)))), (g7, .inl (cI, 300, .inl lo)), (g8, .inl (cI, 300, .inl rk)), (z0, .inl (cI, 300, .inl z)), (h0, .inr (0, [.ref h1, .ref h2, .ref h3, .ref h4, .ref h5, .int (nI u)])), (h1, .inl (cI, 2000, .inl F)), (h2, .inl (cI, 2000, .inl T)), (h3, .inl (cJ, 2000, .inr (.inl C))), (h4, .inl (cJ, 300, .inr (.inl Hh))), (h5, .inl (cI, 300, .inl S))] := hD
        rw [hf39] at hP hD
        refine lv_aload_n hx hb dX1_standAlone_40 rfl (lv_at hl 0 rfl) ?_
        refine va_get (D := (dC, dI)) (ci := 1) (v := .ref g4) (C := RX1) (T := TX1) (N := 9) hx hb hts hin1 hown hK hP 0 rfl rfl 3 (by decide) (hts (.fieldLink RX1 21 "CallClusters$Clustering" "least" "[I") (by decide +kernel)) (fun _ h9 => h9) rfl dX1_standAlone_41 ?_
        refine lv_iload_n hx hb dX1_standAlone_44 rfl (lv_at hl 3 rfl) ?_
        refine lv_iload_n hx hb dX1_standAlone_45 rfl (lv_at hl 3 rfl) ?_
        refine va_iast hx hb hK hP hD hS 4 0 rfl rfl (inn (show k < 300 by omega) (by omega)) dX1_standAlone_46 (fun H locs hP hD hS => ?_)
        have hf46 : upd (mix k (fun j => nI j) le) ((nI k).toNatClampNeg) (nI k) = mix (k + 1) (fun j => nI j) le := by rw [ix_n (by omega)]; exact mix_i k (fun j => nI j) le rfl
        have hP : va_P (dC, dI) vwCl [(g0, .inr (1, [.ref g1, .ref g2, .ref g3, .ref g4, .ref g5, .ref g6, .ref g7, .ref g8, .int rc])), (g1, .inl (cI, 300, .inl (mix (k + 1) (fun j => if z j ≤ 0 then -1 else nI j) fi))), (g2, .inl (cI, 300, .inl (mix (k + 1) (fun _ => -1) nx))), (g3, .inl (cI, 300, .inl (mix (k + 1) (fun j => nI j) la))), (g4, .inl (cI, 300, .inl (upd (mix k (fun j => nI j) le) ((nI k).toNatClampNeg) (nI k)))), (g5, .inl (cJ, 300, .inr (.inl (mix k (fun j => (z j).toInt64) by_)))), (g6, .inl (cJ, 300, .inr (.inl (mix k Hh he)))), (g7, .inl (cI, 300, .inl lo)), (g8, .inl (cI, 300, .inl rk)), (z0, .inl (cI, 300, .inl z)), (h0, .inr (0, [.ref h1, .ref h2, .ref h3, .ref h4, .ref h5, .int (nI u)])), (h1, .inl (cI, 2000, .inl F)), (h2, .inl (cI, 2000, .inl T)), (h3, .inl (cJ, 2000, .inr (.inl C))), (h4, .inl (cJ, 300, .inr (.inl Hh))), (h5, .inl (cI, 300, .inl S))] H := hP
        have hD : va_D A [(g0, .inr (1, [.ref g1, .ref g2, .ref g3, .ref g4, .ref g5, .ref g6, .ref g7, .ref g8, .int rc])), (g1, .inl (cI, 300, .inl (mix (k + 1) (fun j => if z j ≤ 0 then -1 else nI j) fi))), (g2, .inl (cI, 300, .inl (mix (k + 1) (fun _ => -1) nx))), (g3, .inl (cI, 300, .inl (mix (k + 1) (fun j => nI j) la))), (g4, .inl (cI, 300, .inl (upd (mix k (fun j => nI j) le) ((nI k).toNatClampNeg) (nI k)))), (g5, .inl (cJ, 300, .inr (.inl (mix k (fun j => (z j).toInt64) by_)))), (g6, .inl (cJ, 300, .inr (.inl (mix k Hh he)))), (g7, .inl (cI, 300, .inl lo)), (g8, .inl (cI, 300, .inl rk)), (z0, .inl (cI, 300, .inl z)), (h0, .inr (0, [.ref h1, .ref h2, .ref h3, .ref h4, .ref h5, .int (nI u)])), (h1, .inl (cI, 2000, .inl F)), (h2, .inl (cI, 2000, .inl T)), (h3, .inl (cJ, 2000, .inr (.inl C))), (h4, .inl (cJ, 300, .inr (.inl Hh))), (h5, .inl (cI, 300, .inl S))] := hD
        rw [hf46] at hP hD
        refine lv_aload_n hx hb dX1_standAlone_47 rfl (lv_at hl 0 rfl) ?_
        refine va_get (D := (dC, dI)) (ci := 1) (v := .ref g5) (C := RX1) (T := TX1) (N := 9) hx hb hts hin1 hown hK hP 0 rfl rfl 4 (by decide) (hts (.fieldLink RX1 24 "CallClusters$Clustering" "bytes" "[J") (by decide +kernel)) (fun _ h9 => h9) rfl dX1_standAlone_48 ?_
        refine lv_iload_n hx hb dX1_standAlone_51 rfl (lv_at hl 3 rfl) ?_
        refine lv_aload_n hx hb dX1_standAlone_52 rfl (lv_at hl 1 rfl) ?_
        refine lv_iload_n hx hb dX1_standAlone_53 rfl (lv_at hl 3 rfl) ?_
        refine va_iald hx hb hK hP 9 0 rfl rfl (inn (show k < 300 by omega) (by omega)) dX1_standAlone_54 ?_
        refine tp_i (y := z k) (by rw [ix_n (by omega)]) ?_
        refine lv_i2l (v := (z k).toInt64) hx hb dX1_standAlone_55 rfl ?_
        refine va_last hx hb hK hP hD hS 5 1 rfl rfl (inn (show k < 300 by omega) (by omega)) dX1_standAlone_56 (fun H locs hP hD hS => ?_)
        have hf56 : vp_updL (mix k (fun j => (z j).toInt64) by_) ((nI k).toNatClampNeg) ((z k).toInt64) = mix (k + 1) (fun j => (z j).toInt64) by_ := by rw [ix_n (by omega)]; exact mix_l k (fun j => (z j).toInt64) by_ rfl
        have hP : va_P (dC, dI) vwCl [(g0, .inr (1, [.ref g1, .ref g2, .ref g3, .ref g4, .ref g5, .ref g6, .ref g7, .ref g8, .int rc])), (g1, .inl (cI, 300, .inl (mix (k + 1) (fun j => if z j ≤ 0 then -1 else nI j) fi))), (g2, .inl (cI, 300, .inl (mix (k + 1) (fun _ => -1) nx))), (g3, .inl (cI, 300, .inl (mix (k + 1) (fun j => nI j) la))), (g4, .inl (cI, 300, .inl (mix (k + 1) (fun j => nI j) le))), (g5, .inl (cJ, 300, .inr (.inl (vp_updL (mix k (fun j => (z j).toInt64) by_) ((nI k).toNatClampNeg) ((z k).toInt64))))), (g6, .inl (cJ, 300, .inr (.inl (mix k Hh he)))), (g7, .inl (cI, 300, .inl lo)), (g8, .inl (cI, 300, .inl rk)), (z0, .inl (cI, 300, .inl z)), (h0, .inr (0, [.ref h1, .ref h2, .ref h3, .ref h4, .ref h5, .int (nI u)])), (h1, .inl (cI, 2000, .inl F)), (h2, .inl (cI, 2000, .inl T)), (h3, .inl (cJ, 2000, .inr (.inl C))), (h4, .inl (cJ, 300, .inr (.inl Hh))), (h5, .inl (cI, 300, .inl S))] H := hP
        have hD : va_D A [(g0, .inr (1, [.ref g1, .ref g2, .ref g3, .ref g4, .ref g5, .ref g6, .ref g7, .ref g8, .int rc])), (g1, .inl (cI, 300, .inl (mix (k + 1) (fun j => if z j ≤ 0 then -1 else nI j) fi))), (g2, .inl (cI, 300, .inl (mix (k + 1) (fun _ => -1) nx))), (g3, .inl (cI, 300, .inl (mix (k + 1) (fun j => nI j) la))), (g4, .inl (cI, 300, .inl (mix (k + 1) (fun j => nI j) le))), (g5, .inl (cJ, 300, .inr (.inl (vp_updL (mix k (fun j => (z j).toInt64) by_) ((nI k).toNatClampNeg) ((z k).toInt64))))), (g6, .inl (cJ, 300, .inr (.inl (mix k Hh he)))), (g7, .inl (cI, 300, .inl lo)), (g8, .inl (cI, 300, .inl rk)), (z0, .inl (cI, 300, .inl z)), (h0, .inr (0, [.ref h1, .ref h2, .ref h3, .ref h4, .ref h5, .int (nI u)])), (h1, .inl (cI, 2000, .inl F)), (h2, .inl (cI, 2000, .inl T)), (h3, .inl (cJ, 2000, .inr (.inl C))), (h4, .inl (cJ, 300, .inr (.inl Hh))), (h5, .inl (cI, 300, .inl S))] := hD
        rw [hf56] at hP hD
        refine lv_aload_n hx hb dX1_standAlone_57 rfl (lv_at hl 0 rfl) ?_
        refine va_get (D := (dC, dI)) (ci := 1) (v := .ref g6) (C := RX1) (T := TX1) (N := 9) hx hb hts hin1 hown hK hP 0 rfl rfl 5 (by decide) (hts (.fieldLink RX1 28 "CallClusters$Clustering" "heat" "[J") (by decide +kernel)) (fun _ h9 => h9) rfl dX1_standAlone_58 ?_
        refine lv_iload_n hx hb dX1_standAlone_61 rfl (lv_at hl 3 rfl) ?_
        refine lv_aload_n hx hb dX1_standAlone_62 rfl (lv_at hl 2 rfl) ?_
        refine lv_iload_n hx hb dX1_standAlone_63 rfl (lv_at hl 3 rfl) ?_
        have hPc := hP.sub (ws' := [(h0, .inr (0, [.ref h1, .ref h2, .ref h3, .ref h4, .ref h5, .int (nI u)])), (h1, .inl (cI, 2000, .inl F)), (h2, .inl (cI, 2000, .inl T)), (h3, .inl (cJ, 2000, .inr (.inl C))), (h4, .inl (cJ, 300, .inr (.inl Hh))), (h5, .inl (cI, 300, .inl S))]) [10, 11, 12, 13, 14, 15] rfl
        have hDc := hD.sub (ws' := [(h0, .inr (0, [.ref h1, .ref h2, .ref h3, .ref h4, .ref h5, .int (nI u)])), (h1, .inl (cI, 2000, .inl F)), (h2, .inl (cI, 2000, .inl T)), (h3, .inl (cJ, 2000, .inr (.inl C))), (h4, .inl (cJ, 300, .inr (.inl Hh))), (h5, .inl (cI, 300, .inl S))]) [10, 11, 12, 13, 14, 15] (by decide) rfl
        have hFc := va_free (wc := [(h0, .inr (0, [.ref h1, .ref h2, .ref h3, .ref h4, .ref h5, .int (nI u)])), (h1, .inl (cI, 2000, .inl F)), (h2, .inl (cI, 2000, .inl T)), (h3, .inl (cJ, 2000, .inr (.inl C))), (h4, .inl (cJ, 300, .inr (.inl Hh))), (h5, .inl (cI, 300, .inl S))]) hD hS hA [10, 11, 12, 13, 14, 15] rfl
        refine va_calll (va_runV (As := [.int (nI k)]) (rest := [.int (nI k), .ref g6]) ⟨hx, hb, hml, hown, hts⟩ (ct_X0_heatOf l dC dI cI cJ cZ H.size h0 h1 h2 h3 h4 h5 F T C Hh S u (nI k) (inn (by omega) (by omega))) (cwV 1 hts gX1_standAlone_X0_heatOf rfl rfl rfl (by decide +kernel) ⟨Nat.le_of_ble_eq_true rfl, Nat.le_of_ble_eq_true rfl⟩) (pre_V hK hPc hDc (ci := 0) rfl rfl) rfl rfl hl.1 rfl (lv_room (Nat.le_of_ble_eq_true rfl)) dX1_standAlone_64 ⟨Nat.zero_le _, Nat.zero_le _⟩) hS (fun q _ h => hFc q h) hFc (fun r_4 uu t H1 locs ht hvm hw hB hz1 hk1 hS => ?_)
        obtain ⟨hP1, hK1, hD1⟩ := hB
        rw [ht] at hP1
        try dsimp only at hw
        have hP1 : va_P (dC, dI) vwCl [(h0, .inr (0, [.ref h1, .ref h2, .ref h3, .ref h4, .ref h5, .int (nI u)])), (h1, .inl (cI, 2000, .inl F)), (h2, .inl (cI, 2000, .inl T)), (h3, .inl (cJ, 2000, .inr (.inl C))), (h4, .inl (cJ, 300, .inr (.inl Hh))), (h5, .inl (cI, 300, .inl S))] H1 := hP1
        obtain ⟨hP, hD⟩ := va_join (wr := [(g0, .inr (1, [.ref g1, .ref g2, .ref g3, .ref g4, .ref g5, .ref g6, .ref g7, .ref g8, .int rc])), (g1, .inl (cI, 300, .inl (mix (k + 1) (fun j => if z j ≤ 0 then -1 else nI j) fi))), (g2, .inl (cI, 300, .inl (mix (k + 1) (fun _ => -1) nx))), (g3, .inl (cI, 300, .inl (mix (k + 1) (fun j => nI j) la))), (g4, .inl (cI, 300, .inl (mix (k + 1) (fun j => nI j) le))), (g5, .inl (cJ, 300, .inr (.inl (mix (k + 1) (fun j => (z j).toInt64) by_)))), (g6, .inl (cJ, 300, .inr (.inl (mix k Hh he)))), (g7, .inl (cI, 300, .inl lo)), (g8, .inl (cI, 300, .inl rk)), (z0, .inl (cI, 300, .inl z))]) (w1 := [(h0, .inr (0, [.ref h1, .ref h2, .ref h3, .ref h4, .ref h5, .int (nI u)])), (h1, .inl (cI, 2000, .inl F)), (h2, .inl (cI, 2000, .inl T)), (h3, .inl (cJ, 2000, .inr (.inl C))), (h4, .inl (cJ, 300, .inr (.inl Hh))), (h5, .inl (cI, 300, .inl S))]) hP hD [10, 11, 12, 13, 14, 15] [0, 1, 2, 3, 4, 5, 6, 7, 8, 9] rfl rfl (by decide) (by decide) hk1 hFc hP1 hD1
        have hP := hP.sub (ws' := [(g0, .inr (1, [.ref g1, .ref g2, .ref g3, .ref g4, .ref g5, .ref g6, .ref g7, .ref g8, .int rc])), (g1, .inl (cI, 300, .inl (mix (k + 1) (fun j => if z j ≤ 0 then -1 else nI j) fi))), (g2, .inl (cI, 300, .inl (mix (k + 1) (fun _ => -1) nx))), (g3, .inl (cI, 300, .inl (mix (k + 1) (fun j => nI j) la))), (g4, .inl (cI, 300, .inl (mix (k + 1) (fun j => nI j) le))), (g5, .inl (cJ, 300, .inr (.inl (mix (k + 1) (fun j => (z j).toInt64) by_)))), (g6, .inl (cJ, 300, .inr (.inl (mix k Hh he)))), (g7, .inl (cI, 300, .inl lo)), (g8, .inl (cI, 300, .inl rk)), (z0, .inl (cI, 300, .inl z)), (h0, .inr (0, [.ref h1, .ref h2, .ref h3, .ref h4, .ref h5, .int (nI u)])), (h1, .inl (cI, 2000, .inl F)), (h2, .inl (cI, 2000, .inl T)), (h3, .inl (cJ, 2000, .inr (.inl C))), (h4, .inl (cJ, 300, .inr (.inl Hh))), (h5, .inl (cI, 300, .inl S))]) [0, 1, 2, 3, 4, 5, 6, 7, 8, 9, 10, 11, 12, 13, 14, 15] rfl
        have hD := hD.sub (ws' := [(g0, .inr (1, [.ref g1, .ref g2, .ref g3, .ref g4, .ref g5, .ref g6, .ref g7, .ref g8, .int rc])), (g1, .inl (cI, 300, .inl (mix (k + 1) (fun j => if z j ≤ 0 then -1 else nI j) fi))), (g2, .inl (cI, 300, .inl (mix (k + 1) (fun _ => -1) nx))), (g3, .inl (cI, 300, .inl (mix (k + 1) (fun j => nI j) la))), (g4, .inl (cI, 300, .inl (mix (k + 1) (fun j => nI j) le))), (g5, .inl (cJ, 300, .inr (.inl (mix (k + 1) (fun j => (z j).toInt64) by_)))), (g6, .inl (cJ, 300, .inr (.inl (mix k Hh he)))), (g7, .inl (cI, 300, .inl lo)), (g8, .inl (cI, 300, .inl rk)), (z0, .inl (cI, 300, .inl z)), (h0, .inr (0, [.ref h1, .ref h2, .ref h3, .ref h4, .ref h5, .int (nI u)])), (h1, .inl (cI, 2000, .inl F)), (h2, .inl (cI, 2000, .inl T)), (h3, .inl (cJ, 2000, .inr (.inl C))), (h4, .inl (cJ, 300, .inr (.inl Hh))), (h5, .inl (cI, 300, .inl S))]) [0, 1, 2, 3, 4, 5, 6, 7, 8, 9, 10, 11, 12, 13, 14, 15] (by decide) rfl
        generalize H1 = H at hP hS ⊢
        rw [ix_n (by omega)] at hw
        subst hw
        refine va_last hx hb hK hP hD hS 6 1 rfl rfl (inn (show k < 300 by omega) (by omega)) dX1_standAlone_67 (fun H locs hP hD hS => ?_)
        have hf67 : vp_updL (mix k Hh he) ((nI k).toNatClampNeg) (Hh k) = mix (k + 1) Hh he := by rw [ix_n (by omega)]; exact mix_l k Hh he rfl
        have hP : va_P (dC, dI) vwCl [(g0, .inr (1, [.ref g1, .ref g2, .ref g3, .ref g4, .ref g5, .ref g6, .ref g7, .ref g8, .int rc])), (g1, .inl (cI, 300, .inl (mix (k + 1) (fun j => if z j ≤ 0 then -1 else nI j) fi))), (g2, .inl (cI, 300, .inl (mix (k + 1) (fun _ => -1) nx))), (g3, .inl (cI, 300, .inl (mix (k + 1) (fun j => nI j) la))), (g4, .inl (cI, 300, .inl (mix (k + 1) (fun j => nI j) le))), (g5, .inl (cJ, 300, .inr (.inl (mix (k + 1) (fun j => (z j).toInt64) by_)))), (g6, .inl (cJ, 300, .inr (.inl (vp_updL (mix k Hh he) ((nI k).toNatClampNeg) (Hh k))))), (g7, .inl (cI, 300, .inl lo)), (g8, .inl (cI, 300, .inl rk)), (z0, .inl (cI, 300, .inl z)), (h0, .inr (0, [.ref h1, .ref h2, .ref h3, .ref h4, .ref h5, .int (nI u)])), (h1, .inl (cI, 2000, .inl F)), (h2, .inl (cI, 2000, .inl T)), (h3, .inl (cJ, 2000, .inr (.inl C))), (h4, .inl (cJ, 300, .inr (.inl Hh))), (h5, .inl (cI, 300, .inl S))] H := hP
        have hD : va_D A [(g0, .inr (1, [.ref g1, .ref g2, .ref g3, .ref g4, .ref g5, .ref g6, .ref g7, .ref g8, .int rc])), (g1, .inl (cI, 300, .inl (mix (k + 1) (fun j => if z j ≤ 0 then -1 else nI j) fi))), (g2, .inl (cI, 300, .inl (mix (k + 1) (fun _ => -1) nx))), (g3, .inl (cI, 300, .inl (mix (k + 1) (fun j => nI j) la))), (g4, .inl (cI, 300, .inl (mix (k + 1) (fun j => nI j) le))), (g5, .inl (cJ, 300, .inr (.inl (mix (k + 1) (fun j => (z j).toInt64) by_)))), (g6, .inl (cJ, 300, .inr (.inl (vp_updL (mix k Hh he) ((nI k).toNatClampNeg) (Hh k))))), (g7, .inl (cI, 300, .inl lo)), (g8, .inl (cI, 300, .inl rk)), (z0, .inl (cI, 300, .inl z)), (h0, .inr (0, [.ref h1, .ref h2, .ref h3, .ref h4, .ref h5, .int (nI u)])), (h1, .inl (cI, 2000, .inl F)), (h2, .inl (cI, 2000, .inl T)), (h3, .inl (cJ, 2000, .inr (.inl C))), (h4, .inl (cJ, 300, .inr (.inl Hh))), (h5, .inl (cI, 300, .inl S))] := hD
        rw [hf67] at hP hD
        refine lv_iinc (v := nI (k + 1)) (lv' := [(3, .int (nI (k + 1))), (0, .ref g0), (1, .ref z0), (2, .ref h0)]) hx hb dX1_standAlone_68 hl (k := 3) rfl (by exact nI_1 k) (by decide) rfl (fun ls hl => ?_)
        refine lv_goto (tgt := 2) hx hb dX1_standAlone_71 (by decide) ?_
        exact ih (k + 1) (by omega) H locs ls hP hD hS (lv_sub hl [1, 2, 3, 0] rfl)
      · -- pc 17, side 1
        refine lv_iload_n hx hb dX1_standAlone_20 rfl (lv_at hl 3 rfl) ?_
        refine lv_goto (tgt := 25) hx hb dX1_standAlone_21 (by decide) ?_
        refine va_iast hx hb hK hP hD hS 1 0 rfl rfl (inn (show k < 300 by omega) (by omega)) dX1_standAlone_25 (fun H locs hP hD hS => ?_)
        have hf25 : upd (mix k (fun j => if z j ≤ 0 then -1 else nI j) fi) ((nI k).toNatClampNeg) (nI k) = mix (k + 1) (fun j => if z j ≤ 0 then -1 else nI j) fi := by rw [ix_n (by omega)]; exact mix_i k (fun j => if z j ≤ 0 then -1 else nI j) fi (by rw [if_neg c_3])
        have hP : va_P (dC, dI) vwCl [(g0, .inr (1, [.ref g1, .ref g2, .ref g3, .ref g4, .ref g5, .ref g6, .ref g7, .ref g8, .int rc])), (g1, .inl (cI, 300, .inl (upd (mix k (fun j => if z j ≤ 0 then -1 else nI j) fi) ((nI k).toNatClampNeg) (nI k)))), (g2, .inl (cI, 300, .inl (mix k (fun _ => -1) nx))), (g3, .inl (cI, 300, .inl (mix k (fun j => nI j) la))), (g4, .inl (cI, 300, .inl (mix k (fun j => nI j) le))), (g5, .inl (cJ, 300, .inr (.inl (mix k (fun j => (z j).toInt64) by_)))), (g6, .inl (cJ, 300, .inr (.inl (mix k Hh he)))), (g7, .inl (cI, 300, .inl lo)), (g8, .inl (cI, 300, .inl rk)), (z0, .inl (cI, 300, .inl z)), (h0, .inr (0, [.ref h1, .ref h2, .ref h3, .ref h4, .ref h5, .int (nI u)])), (h1, .inl (cI, 2000, .inl F)), (h2, .inl (cI, 2000, .inl T)), (h3, .inl (cJ, 2000, .inr (.inl C))), (h4, .inl (cJ, 300, .inr (.inl Hh))), (h5, .inl (cI, 300, .inl S))] H := hP
        have hD : va_D A [(g0, .inr (1, [.ref g1, .ref g2, .ref g3, .ref g4, .ref g5, .ref g6, .ref g7, .ref g8, .int rc])), (g1, .inl (cI, 300, .inl (upd (mix k (fun j => if z j ≤ 0 then -1 else nI j) fi) ((nI k).toNatClampNeg) (nI k)))), (g2, .inl (cI, 300, .inl (mix k (fun _ => -1) nx))), (g3, .inl (cI, 300, .inl (mix k (fun j => nI j) la))), (g4, .inl (cI, 300, .inl (mix k (fun j => nI j) le))), (g5, .inl (cJ, 300, .inr (.inl (mix k (fun j => (z j).toInt64) by_)))), (g6, .inl (cJ, 300, .inr (.inl (mix k Hh he)))), (g7, .inl (cI, 300, .inl lo)), (g8, .inl (cI, 300, .inl rk)), (z0, .inl (cI, 300, .inl z)), (h0, .inr (0, [.ref h1, .ref h2, .ref h3, .ref h4, .ref h5, .int (nI u)])), (h1, .inl (cI, 2000, .inl F)), (h2, .inl (cI, 2000, .inl T)), (h3, .inl (cJ, 2000, .inr (.inl C))), (h4, .inl (cJ, 300, .inr (.inl Hh))), (h5, .inl (cI, 300, .inl S))] := hD
        rw [hf25] at hP hD
        refine lv_aload_n hx hb dX1_standAlone_26 rfl (lv_at hl 0 rfl) ?_
        refine va_get (D := (dC, dI)) (ci := 1) (v := .ref g2) (C := RX1) (T := TX1) (N := 9) hx hb hts hin1 hown hK hP 0 rfl rfl 1 (by decide) (hts (.fieldLink RX1 15 "CallClusters$Clustering" "next" "[I") (by decide +kernel)) (fun _ h9 => h9) rfl dX1_standAlone_27 ?_
        refine lv_iload_n hx hb dX1_standAlone_30 rfl (lv_at hl 3 rfl) ?_
        refine lv_iconst (v := (-1)) hx hb dX1_standAlone_31 (by decide) ?_
        refine va_iast hx hb hK hP hD hS 2 0 rfl rfl (inn (show k < 300 by omega) (by omega)) dX1_standAlone_32 (fun H locs hP hD hS => ?_)
        have hf32 : upd (mix k (fun _ => -1) nx) ((nI k).toNatClampNeg) ((-1)) = mix (k + 1) (fun _ => -1) nx := by rw [ix_n (by omega)]; exact mix_i k (fun _ => -1) nx rfl
        have hP : va_P (dC, dI) vwCl [(g0, .inr (1, [.ref g1, .ref g2, .ref g3, .ref g4, .ref g5, .ref g6, .ref g7, .ref g8, .int rc])), (g1, .inl (cI, 300, .inl (mix (k + 1) (fun j => if z j ≤ 0 then -1 else nI j) fi))), (g2, .inl (cI, 300, .inl (upd (mix k (fun _ => -1) nx) ((nI k).toNatClampNeg) ((-1))))), (g3, .inl (cI, 300, .inl (mix k (fun j => nI j) la))), (g4, .inl (cI, 300, .inl (mix k (fun j => nI j) le))), (g5, .inl (cJ, 300, .inr (.inl (mix k (fun j => (z j).toInt64) by_)))), (g6, .inl (cJ, 300, .inr (.inl (mix k Hh he)))), (g7, .inl (cI, 300, .inl lo)), (g8, .inl (cI, 300, .inl rk)), (z0, .inl (cI, 300, .inl z)), (h0, .inr (0, [.ref h1, .ref h2, .ref h3, .ref h4, .ref h5, .int (nI u)])), (h1, .inl (cI, 2000, .inl F)), (h2, .inl (cI, 2000, .inl T)), (h3, .inl (cJ, 2000, .inr (.inl C))), (h4, .inl (cJ, 300, .inr (.inl Hh))), (h5, .inl (cI, 300, .inl S))] H := hP
        have hD : va_D A [(g0, .inr (1, [.ref g1, .ref g2, .ref g3, .ref g4, .ref g5, .ref g6, .ref g7, .ref g8, .int rc])), (g1, .inl (cI, 300, .inl (mix (k + 1) (fun j => if z j ≤ 0 then -1 else nI j) fi))), (g2, .inl (cI, 300, .inl (upd (mix k (fun _ => -1) nx) ((nI k).toNatClampNeg) ((-1))))), (g3, .inl (cI, 300, .inl (mix k (fun j => nI j) la))), (g4, .inl (cI, 300, .inl (mix k (fun j => nI j) le))), (g5, .inl (cJ, 300, .inr (.inl (mix k (fun j => (z j).toInt64) by_)))), (g6, .inl (cJ, 300, .inr (.inl (mix k Hh he)))), (g7, .inl (cI, 300, .inl lo)), (g8, .inl (cI, 300, .inl rk)), (z0, .inl (cI, 300, .inl z)), (h0, .inr (0, [.ref h1, .ref h2, .ref h3, .ref h4, .ref h5, .int (nI u)])), (h1, .inl (cI, 2000, .inl F)), (h2, .inl (cI, 2000, .inl T)), (h3, .inl (cJ, 2000, .inr (.inl C))), (h4, .inl (cJ, 300, .inr (.inl Hh))), (h5, .inl (cI, 300, .inl S))] := hD
        rw [hf32] at hP hD
        refine lv_aload_n hx hb dX1_standAlone_33 rfl (lv_at hl 0 rfl) ?_
        refine va_get (D := (dC, dI)) (ci := 1) (v := .ref g3) (C := RX1) (T := TX1) (N := 9) hx hb hts hin1 hown hK hP 0 rfl rfl 2 (by decide) (hts (.fieldLink RX1 18 "CallClusters$Clustering" "last" "[I") (by decide +kernel)) (fun _ h9 => h9) rfl dX1_standAlone_34 ?_
        refine lv_iload_n hx hb dX1_standAlone_37 rfl (lv_at hl 3 rfl) ?_
        refine lv_iload_n hx hb dX1_standAlone_38 rfl (lv_at hl 3 rfl) ?_
        refine va_iast hx hb hK hP hD hS 3 0 rfl rfl (inn (show k < 300 by omega) (by omega)) dX1_standAlone_39 (fun H locs hP hD hS => ?_)
        have hf39 : upd (mix k (fun j => nI j) la) ((nI k).toNatClampNeg) (nI k) = mix (k + 1) (fun j => nI j) la := by rw [ix_n (by omega)]; exact mix_i k (fun j => nI j) la rfl
        have hP : va_P (dC, dI) vwCl [(g0, .inr (1, [.ref g1, .ref g2, .ref g3, .ref g4, .ref g5, .ref g6, .ref g7, .ref g8, .int rc])), (g1, .inl (cI, 300, .inl (mix (k + 1) (fun j => if z j ≤ 0 then -1 else nI j) fi))), (g2, .inl (cI, 300, .inl (mix (k + 1) (fun _ => -1) nx))), (g3, .inl (cI, 300, .inl (upd (mix k (fun j => nI j) la) ((nI k).toNatClampNeg) (nI k)))), (g4, .inl (cI, 300, .inl (mix k (fun j => nI j) le))), (g5, .inl (cJ, 300, .inr (.inl (mix k (fun j => (z j).toInt64) by_)))), (g6, .inl (cJ, 300, .inr (.inl (mix k Hh he)))), (g7, .inl (cI, 300, .inl lo)), (g8, .inl (cI, 300, .inl rk)), (z0, .inl (cI, 300, .inl z)), (h0, .inr (0, [.ref h1, .ref h2, .ref h3, .ref h4, .ref h5, .int (nI u)])), (h1, .inl (cI, 2000, .inl F)), (h2, .inl (cI, 2000, .inl T)), (h3, .inl (cJ, 2000, .inr (.inl C))), (h4, .inl (cJ, 300, .inr (.inl Hh))), (h5, .inl (cI, 300, .inl S))] H := hP
        have hD : va_D A [(g0, .inr (1, [.ref g1, .ref g2, .ref g3, .ref g4, .ref g5, .ref g6, .ref g7, .ref g8, .int rc])), (g1, .inl (cI, 300, .inl (mix (k + 1) (fun j => if z j ≤ 0 then -1 else nI j) fi))), (g2, .inl (cI, 300, .inl (mix (k + 1) (fun _ => -1) nx))), (g3, .inl (cI, 300, .inl (upd (mix k (fun j => nI j) la) ((nI k).toNatClampNeg) (nI k)))), (g4, .inl (cI, 300, .inl (mix k (fun j => nI j) le))), (g5, .inl (cJ, 300, .inr (.inl (mix k (fun j => (z j).toInt64) by_)))), (g6, .inl (cJ, 300, .inr (.inl (mix k Hh he)))), (g7, .inl (cI, 300, .inl lo)), (g8, .inl (cI, 300, .inl rk)), (z0, .inl (cI, 300, .inl z)), (h0, .inr (0, [.ref h1, .ref h2, .ref h3, .ref h4, .ref h5, .int (nI u)])), (h1, .inl (cI, 2000, .inl F)), (h2, .inl (cI, 2000, .inl T)), (h3, .inl (cJ, 2000, .inr (.inl C))), (h4, .inl (cJ, 300, .inr (.inl Hh))), (h5, .inl (cI, 300, .inl S))] := hD
        rw [hf39] at hP hD
        refine lv_aload_n hx hb dX1_standAlone_40 rfl (lv_at hl 0 rfl) ?_
        refine va_get (D := (dC, dI)) (ci := 1) (v := .ref g4) (C := RX1) (T := TX1) (N := 9) hx hb hts hin1 hown hK hP 0 rfl rfl 3 (by decide) (hts (.fieldLink RX1 21 "CallClusters$Clustering" "least" "[I") (by decide +kernel)) (fun _ h9 => h9) rfl dX1_standAlone_41 ?_
        refine lv_iload_n hx hb dX1_standAlone_44 rfl (lv_at hl 3 rfl) ?_
        refine lv_iload_n hx hb dX1_standAlone_45 rfl (lv_at hl 3 rfl) ?_
        refine va_iast hx hb hK hP hD hS 4 0 rfl rfl (inn (show k < 300 by omega) (by omega)) dX1_standAlone_46 (fun H locs hP hD hS => ?_)
        have hf46 : upd (mix k (fun j => nI j) le) ((nI k).toNatClampNeg) (nI k) = mix (k + 1) (fun j => nI j) le := by rw [ix_n (by omega)]; exact mix_i k (fun j => nI j) le rfl
        have hP : va_P (dC, dI) vwCl [(g0, .inr (1, [.ref g1, .ref g2, .ref g3, .ref g4, .ref g5, .ref g6, .ref g7, .ref g8, .int rc])), (g1, .inl (cI, 300, .inl (mix (k + 1) (fun j => if z j ≤ 0 then -1 else nI j) fi))), (g2, .inl (cI, 300, .inl (mix (k + 1) (fun _ => -1) nx))), (g3, .inl (cI, 300, .inl (mix (k + 1) (fun j => nI j) la))), (g4, .inl (cI, 300, .inl (upd (mix k (fun j => nI j) le) ((nI k).toNatClampNeg) (nI k)))), (g5, .inl (cJ, 300, .inr (.inl (mix k (fun j => (z j).toInt64) by_)))), (g6, .inl (cJ, 300, .inr (.inl (mix k Hh he)))), (g7, .inl (cI, 300, .inl lo)), (g8, .inl (cI, 300, .inl rk)), (z0, .inl (cI, 300, .inl z)), (h0, .inr (0, [.ref h1, .ref h2, .ref h3, .ref h4, .ref h5, .int (nI u)])), (h1, .inl (cI, 2000, .inl F)), (h2, .inl (cI, 2000, .inl T)), (h3, .inl (cJ, 2000, .inr (.inl C))), (h4, .inl (cJ, 300, .inr (.inl Hh))), (h5, .inl (cI, 300, .inl S))] H := hP
        have hD : va_D A [(g0, .inr (1, [.ref g1, .ref g2, .ref g3, .ref g4, .ref g5, .ref g6, .ref g7, .ref g8, .int rc])), (g1, .inl (cI, 300, .inl (mix (k + 1) (fun j => if z j ≤ 0 then -1 else nI j) fi))), (g2, .inl (cI, 300, .inl (mix (k + 1) (fun _ => -1) nx))), (g3, .inl (cI, 300, .inl (mix (k + 1) (fun j => nI j) la))), (g4, .inl (cI, 300, .inl (upd (mix k (fun j => nI j) le) ((nI k).toNatClampNeg) (nI k)))), (g5, .inl (cJ, 300, .inr (.inl (mix k (fun j => (z j).toInt64) by_)))), (g6, .inl (cJ, 300, .inr (.inl (mix k Hh he)))), (g7, .inl (cI, 300, .inl lo)), (g8, .inl (cI, 300, .inl rk)), (z0, .inl (cI, 300, .inl z)), (h0, .inr (0, [.ref h1, .ref h2, .ref h3, .ref h4, .ref h5, .int (nI u)])), (h1, .inl (cI, 2000, .inl F)), (h2, .inl (cI, 2000, .inl T)), (h3, .inl (cJ, 2000, .inr (.inl C))), (h4, .inl (cJ, 300, .inr (.inl Hh))), (h5, .inl (cI, 300, .inl S))] := hD
        rw [hf46] at hP hD
        refine lv_aload_n hx hb dX1_standAlone_47 rfl (lv_at hl 0 rfl) ?_
        refine va_get (D := (dC, dI)) (ci := 1) (v := .ref g5) (C := RX1) (T := TX1) (N := 9) hx hb hts hin1 hown hK hP 0 rfl rfl 4 (by decide) (hts (.fieldLink RX1 24 "CallClusters$Clustering" "bytes" "[J") (by decide +kernel)) (fun _ h9 => h9) rfl dX1_standAlone_48 ?_
        refine lv_iload_n hx hb dX1_standAlone_51 rfl (lv_at hl 3 rfl) ?_
        refine lv_aload_n hx hb dX1_standAlone_52 rfl (lv_at hl 1 rfl) ?_
        refine lv_iload_n hx hb dX1_standAlone_53 rfl (lv_at hl 3 rfl) ?_
        refine va_iald hx hb hK hP 9 0 rfl rfl (inn (show k < 300 by omega) (by omega)) dX1_standAlone_54 ?_
        refine tp_i (y := z k) (by rw [ix_n (by omega)]) ?_
        refine lv_i2l (v := (z k).toInt64) hx hb dX1_standAlone_55 rfl ?_
        refine va_last hx hb hK hP hD hS 5 1 rfl rfl (inn (show k < 300 by omega) (by omega)) dX1_standAlone_56 (fun H locs hP hD hS => ?_)
        have hf56 : vp_updL (mix k (fun j => (z j).toInt64) by_) ((nI k).toNatClampNeg) ((z k).toInt64) = mix (k + 1) (fun j => (z j).toInt64) by_ := by rw [ix_n (by omega)]; exact mix_l k (fun j => (z j).toInt64) by_ rfl
        have hP : va_P (dC, dI) vwCl [(g0, .inr (1, [.ref g1, .ref g2, .ref g3, .ref g4, .ref g5, .ref g6, .ref g7, .ref g8, .int rc])), (g1, .inl (cI, 300, .inl (mix (k + 1) (fun j => if z j ≤ 0 then -1 else nI j) fi))), (g2, .inl (cI, 300, .inl (mix (k + 1) (fun _ => -1) nx))), (g3, .inl (cI, 300, .inl (mix (k + 1) (fun j => nI j) la))), (g4, .inl (cI, 300, .inl (mix (k + 1) (fun j => nI j) le))), (g5, .inl (cJ, 300, .inr (.inl (vp_updL (mix k (fun j => (z j).toInt64) by_) ((nI k).toNatClampNeg) ((z k).toInt64))))), (g6, .inl (cJ, 300, .inr (.inl (mix k Hh he)))), (g7, .inl (cI, 300, .inl lo)), (g8, .inl (cI, 300, .inl rk)), (z0, .inl (cI, 300, .inl z)), (h0, .inr (0, [.ref h1, .ref h2, .ref h3, .ref h4, .ref h5, .int (nI u)])), (h1, .inl (cI, 2000, .inl F)), (h2, .inl (cI, 2000, .inl T)), (h3, .inl (cJ, 2000, .inr (.inl C))), (h4, .inl (cJ, 300, .inr (.inl Hh))), (h5, .inl (cI, 300, .inl S))] H := hP
        have hD : va_D A [(g0, .inr (1, [.ref g1, .ref g2, .ref g3, .ref g4, .ref g5, .ref g6, .ref g7, .ref g8, .int rc])), (g1, .inl (cI, 300, .inl (mix (k + 1) (fun j => if z j ≤ 0 then -1 else nI j) fi))), (g2, .inl (cI, 300, .inl (mix (k + 1) (fun _ => -1) nx))), (g3, .inl (cI, 300, .inl (mix (k + 1) (fun j => nI j) la))), (g4, .inl (cI, 300, .inl (mix (k + 1) (fun j => nI j) le))), (g5, .inl (cJ, 300, .inr (.inl (vp_updL (mix k (fun j => (z j).toInt64) by_) ((nI k).toNatClampNeg) ((z k).toInt64))))), (g6, .inl (cJ, 300, .inr (.inl (mix k Hh he)))), (g7, .inl (cI, 300, .inl lo)), (g8, .inl (cI, 300, .inl rk)), (z0, .inl (cI, 300, .inl z)), (h0, .inr (0, [.ref h1, .ref h2, .ref h3, .ref h4, .ref h5, .int (nI u)])), (h1, .inl (cI, 2000, .inl F)), (h2, .inl (cI, 2000, .inl T)), (h3, .inl (cJ, 2000, .inr (.inl C))), (h4, .inl (cJ, 300, .inr (.inl Hh))), (h5, .inl (cI, 300, .inl S))] := hD
        rw [hf56] at hP hD
        refine lv_aload_n hx hb dX1_standAlone_57 rfl (lv_at hl 0 rfl) ?_
        refine va_get (D := (dC, dI)) (ci := 1) (v := .ref g6) (C := RX1) (T := TX1) (N := 9) hx hb hts hin1 hown hK hP 0 rfl rfl 5 (by decide) (hts (.fieldLink RX1 28 "CallClusters$Clustering" "heat" "[J") (by decide +kernel)) (fun _ h9 => h9) rfl dX1_standAlone_58 ?_
        refine lv_iload_n hx hb dX1_standAlone_61 rfl (lv_at hl 3 rfl) ?_
        refine lv_aload_n hx hb dX1_standAlone_62 rfl (lv_at hl 2 rfl) ?_
        refine lv_iload_n hx hb dX1_standAlone_63 rfl (lv_at hl 3 rfl) ?_
        have hPc := hP.sub (ws' := [(h0, .inr (0, [.ref h1, .ref h2, .ref h3, .ref h4, .ref h5, .int (nI u)])), (h1, .inl (cI, 2000, .inl F)), (h2, .inl (cI, 2000, .inl T)), (h3, .inl (cJ, 2000, .inr (.inl C))), (h4, .inl (cJ, 300, .inr (.inl Hh))), (h5, .inl (cI, 300, .inl S))]) [10, 11, 12, 13, 14, 15] rfl
        have hDc := hD.sub (ws' := [(h0, .inr (0, [.ref h1, .ref h2, .ref h3, .ref h4, .ref h5, .int (nI u)])), (h1, .inl (cI, 2000, .inl F)), (h2, .inl (cI, 2000, .inl T)), (h3, .inl (cJ, 2000, .inr (.inl C))), (h4, .inl (cJ, 300, .inr (.inl Hh))), (h5, .inl (cI, 300, .inl S))]) [10, 11, 12, 13, 14, 15] (by decide) rfl
        have hFc := va_free (wc := [(h0, .inr (0, [.ref h1, .ref h2, .ref h3, .ref h4, .ref h5, .int (nI u)])), (h1, .inl (cI, 2000, .inl F)), (h2, .inl (cI, 2000, .inl T)), (h3, .inl (cJ, 2000, .inr (.inl C))), (h4, .inl (cJ, 300, .inr (.inl Hh))), (h5, .inl (cI, 300, .inl S))]) hD hS hA [10, 11, 12, 13, 14, 15] rfl
        refine va_calll (va_runV (As := [.int (nI k)]) (rest := [.int (nI k), .ref g6]) ⟨hx, hb, hml, hown, hts⟩ (ct_X0_heatOf l dC dI cI cJ cZ H.size h0 h1 h2 h3 h4 h5 F T C Hh S u (nI k) (inn (by omega) (by omega))) (cwV 1 hts gX1_standAlone_X0_heatOf rfl rfl rfl (by decide +kernel) ⟨Nat.le_of_ble_eq_true rfl, Nat.le_of_ble_eq_true rfl⟩) (pre_V hK hPc hDc (ci := 0) rfl rfl) rfl rfl hl.1 rfl (lv_room (Nat.le_of_ble_eq_true rfl)) dX1_standAlone_64 ⟨Nat.zero_le _, Nat.zero_le _⟩) hS (fun q _ h => hFc q h) hFc (fun r_5 uu t H1 locs ht hvm hw hB hz1 hk1 hS => ?_)
        obtain ⟨hP1, hK1, hD1⟩ := hB
        rw [ht] at hP1
        try dsimp only at hw
        have hP1 : va_P (dC, dI) vwCl [(h0, .inr (0, [.ref h1, .ref h2, .ref h3, .ref h4, .ref h5, .int (nI u)])), (h1, .inl (cI, 2000, .inl F)), (h2, .inl (cI, 2000, .inl T)), (h3, .inl (cJ, 2000, .inr (.inl C))), (h4, .inl (cJ, 300, .inr (.inl Hh))), (h5, .inl (cI, 300, .inl S))] H1 := hP1
        obtain ⟨hP, hD⟩ := va_join (wr := [(g0, .inr (1, [.ref g1, .ref g2, .ref g3, .ref g4, .ref g5, .ref g6, .ref g7, .ref g8, .int rc])), (g1, .inl (cI, 300, .inl (mix (k + 1) (fun j => if z j ≤ 0 then -1 else nI j) fi))), (g2, .inl (cI, 300, .inl (mix (k + 1) (fun _ => -1) nx))), (g3, .inl (cI, 300, .inl (mix (k + 1) (fun j => nI j) la))), (g4, .inl (cI, 300, .inl (mix (k + 1) (fun j => nI j) le))), (g5, .inl (cJ, 300, .inr (.inl (mix (k + 1) (fun j => (z j).toInt64) by_)))), (g6, .inl (cJ, 300, .inr (.inl (mix k Hh he)))), (g7, .inl (cI, 300, .inl lo)), (g8, .inl (cI, 300, .inl rk)), (z0, .inl (cI, 300, .inl z))]) (w1 := [(h0, .inr (0, [.ref h1, .ref h2, .ref h3, .ref h4, .ref h5, .int (nI u)])), (h1, .inl (cI, 2000, .inl F)), (h2, .inl (cI, 2000, .inl T)), (h3, .inl (cJ, 2000, .inr (.inl C))), (h4, .inl (cJ, 300, .inr (.inl Hh))), (h5, .inl (cI, 300, .inl S))]) hP hD [10, 11, 12, 13, 14, 15] [0, 1, 2, 3, 4, 5, 6, 7, 8, 9] rfl rfl (by decide) (by decide) hk1 hFc hP1 hD1
        have hP := hP.sub (ws' := [(g0, .inr (1, [.ref g1, .ref g2, .ref g3, .ref g4, .ref g5, .ref g6, .ref g7, .ref g8, .int rc])), (g1, .inl (cI, 300, .inl (mix (k + 1) (fun j => if z j ≤ 0 then -1 else nI j) fi))), (g2, .inl (cI, 300, .inl (mix (k + 1) (fun _ => -1) nx))), (g3, .inl (cI, 300, .inl (mix (k + 1) (fun j => nI j) la))), (g4, .inl (cI, 300, .inl (mix (k + 1) (fun j => nI j) le))), (g5, .inl (cJ, 300, .inr (.inl (mix (k + 1) (fun j => (z j).toInt64) by_)))), (g6, .inl (cJ, 300, .inr (.inl (mix k Hh he)))), (g7, .inl (cI, 300, .inl lo)), (g8, .inl (cI, 300, .inl rk)), (z0, .inl (cI, 300, .inl z)), (h0, .inr (0, [.ref h1, .ref h2, .ref h3, .ref h4, .ref h5, .int (nI u)])), (h1, .inl (cI, 2000, .inl F)), (h2, .inl (cI, 2000, .inl T)), (h3, .inl (cJ, 2000, .inr (.inl C))), (h4, .inl (cJ, 300, .inr (.inl Hh))), (h5, .inl (cI, 300, .inl S))]) [0, 1, 2, 3, 4, 5, 6, 7, 8, 9, 10, 11, 12, 13, 14, 15] rfl
        have hD := hD.sub (ws' := [(g0, .inr (1, [.ref g1, .ref g2, .ref g3, .ref g4, .ref g5, .ref g6, .ref g7, .ref g8, .int rc])), (g1, .inl (cI, 300, .inl (mix (k + 1) (fun j => if z j ≤ 0 then -1 else nI j) fi))), (g2, .inl (cI, 300, .inl (mix (k + 1) (fun _ => -1) nx))), (g3, .inl (cI, 300, .inl (mix (k + 1) (fun j => nI j) la))), (g4, .inl (cI, 300, .inl (mix (k + 1) (fun j => nI j) le))), (g5, .inl (cJ, 300, .inr (.inl (mix (k + 1) (fun j => (z j).toInt64) by_)))), (g6, .inl (cJ, 300, .inr (.inl (mix k Hh he)))), (g7, .inl (cI, 300, .inl lo)), (g8, .inl (cI, 300, .inl rk)), (z0, .inl (cI, 300, .inl z)), (h0, .inr (0, [.ref h1, .ref h2, .ref h3, .ref h4, .ref h5, .int (nI u)])), (h1, .inl (cI, 2000, .inl F)), (h2, .inl (cI, 2000, .inl T)), (h3, .inl (cJ, 2000, .inr (.inl C))), (h4, .inl (cJ, 300, .inr (.inl Hh))), (h5, .inl (cI, 300, .inl S))]) [0, 1, 2, 3, 4, 5, 6, 7, 8, 9, 10, 11, 12, 13, 14, 15] (by decide) rfl
        generalize H1 = H at hP hS ⊢
        rw [ix_n (by omega)] at hw
        subst hw
        refine va_last hx hb hK hP hD hS 6 1 rfl rfl (inn (show k < 300 by omega) (by omega)) dX1_standAlone_67 (fun H locs hP hD hS => ?_)
        have hf67 : vp_updL (mix k Hh he) ((nI k).toNatClampNeg) (Hh k) = mix (k + 1) Hh he := by rw [ix_n (by omega)]; exact mix_l k Hh he rfl
        have hP : va_P (dC, dI) vwCl [(g0, .inr (1, [.ref g1, .ref g2, .ref g3, .ref g4, .ref g5, .ref g6, .ref g7, .ref g8, .int rc])), (g1, .inl (cI, 300, .inl (mix (k + 1) (fun j => if z j ≤ 0 then -1 else nI j) fi))), (g2, .inl (cI, 300, .inl (mix (k + 1) (fun _ => -1) nx))), (g3, .inl (cI, 300, .inl (mix (k + 1) (fun j => nI j) la))), (g4, .inl (cI, 300, .inl (mix (k + 1) (fun j => nI j) le))), (g5, .inl (cJ, 300, .inr (.inl (mix (k + 1) (fun j => (z j).toInt64) by_)))), (g6, .inl (cJ, 300, .inr (.inl (vp_updL (mix k Hh he) ((nI k).toNatClampNeg) (Hh k))))), (g7, .inl (cI, 300, .inl lo)), (g8, .inl (cI, 300, .inl rk)), (z0, .inl (cI, 300, .inl z)), (h0, .inr (0, [.ref h1, .ref h2, .ref h3, .ref h4, .ref h5, .int (nI u)])), (h1, .inl (cI, 2000, .inl F)), (h2, .inl (cI, 2000, .inl T)), (h3, .inl (cJ, 2000, .inr (.inl C))), (h4, .inl (cJ, 300, .inr (.inl Hh))), (h5, .inl (cI, 300, .inl S))] H := hP
        have hD : va_D A [(g0, .inr (1, [.ref g1, .ref g2, .ref g3, .ref g4, .ref g5, .ref g6, .ref g7, .ref g8, .int rc])), (g1, .inl (cI, 300, .inl (mix (k + 1) (fun j => if z j ≤ 0 then -1 else nI j) fi))), (g2, .inl (cI, 300, .inl (mix (k + 1) (fun _ => -1) nx))), (g3, .inl (cI, 300, .inl (mix (k + 1) (fun j => nI j) la))), (g4, .inl (cI, 300, .inl (mix (k + 1) (fun j => nI j) le))), (g5, .inl (cJ, 300, .inr (.inl (mix (k + 1) (fun j => (z j).toInt64) by_)))), (g6, .inl (cJ, 300, .inr (.inl (vp_updL (mix k Hh he) ((nI k).toNatClampNeg) (Hh k))))), (g7, .inl (cI, 300, .inl lo)), (g8, .inl (cI, 300, .inl rk)), (z0, .inl (cI, 300, .inl z)), (h0, .inr (0, [.ref h1, .ref h2, .ref h3, .ref h4, .ref h5, .int (nI u)])), (h1, .inl (cI, 2000, .inl F)), (h2, .inl (cI, 2000, .inl T)), (h3, .inl (cJ, 2000, .inr (.inl C))), (h4, .inl (cJ, 300, .inr (.inl Hh))), (h5, .inl (cI, 300, .inl S))] := hD
        rw [hf67] at hP hD
        refine lv_iinc (v := nI (k + 1)) (lv' := [(3, .int (nI (k + 1))), (0, .ref g0), (1, .ref z0), (2, .ref h0)]) hx hb dX1_standAlone_68 hl (k := 3) rfl (by exact nI_1 k) (by decide) rfl (fun ls hl => ?_)
        refine lv_goto (tgt := 2) hx hb dX1_standAlone_71 (by decide) ?_
        exact ih (k + 1) (by omega) H locs ls hP hD hS (lv_sub hl [1, 2, 3, 0] rfl)
set_option maxHeartbeats 4000000 in
set_option maxRecDepth 100000 in
theorem ct_X1_standAlone (l : Launch) (dC : Nat → ClassId) (dI : Nat → Nat → Nat) (cI cJ cZ : ClassId) (sz : Nat) (g0 : Nat) (g1 : Nat) (g2 : Nat) (g3 : Nat) (g4 : Nat) (g5 : Nat) (g6 : Nat) (g7 : Nat) (g8 : Nat) (z0 : Nat) (h0 : Nat) (h1 : Nat) (h2 : Nat) (h3 : Nat) (h4 : Nat) (h5 : Nat) (fi nx la le : Nat → Int32) (by_ he : Nat → Int64) (lo rk : Nat → Int32) (rc : Int32) (F T : Nat → Int32) (C Hh : Nat → Int64) (S : Nat → Int32) (u : Nat) (z : Nat → Int32)  : Met l yX1_standAlone wsX1_standAlone ({ frames := 1, cells := 0, slots := 0, locals := 21 }) (va_Pc [.ref g0, .ref z0, .ref h0] (fun U => U.heap.size = sz ∧ va_P (dC, dI) vwCl [(g0, .inr (1, [.ref g1, .ref g2, .ref g3, .ref g4, .ref g5, .ref g6, .ref g7, .ref g8, .int rc])), (g1, .inl (cI, 300, .inl fi)), (g2, .inl (cI, 300, .inl nx)), (g3, .inl (cI, 300, .inl la)), (g4, .inl (cI, 300, .inl le)), (g5, .inl (cJ, 300, .inr (.inl by_))), (g6, .inl (cJ, 300, .inr (.inl he))), (g7, .inl (cI, 300, .inl lo)), (g8, .inl (cI, 300, .inl rk)), (z0, .inl (cI, 300, .inl z)), (h0, .inr (0, [.ref h1, .ref h2, .ref h3, .ref h4, .ref h5, .int (nI u)])), (h1, .inl (cI, 2000, .inl F)), (h2, .inl (cI, 2000, .inl T)), (h3, .inl (cJ, 2000, .inr (.inl C))), (h4, .inl (cJ, 300, .inr (.inl Hh))), (h5, .inl (cI, 300, .inl S))] U.heap ∧ va_K (dC, dI) vwCl [(cI, .int), (cJ, .long), (cZ, .boolean)] U ∧ va_D (fun _ => True) [(g0, .inr (1, [.ref g1, .ref g2, .ref g3, .ref g4, .ref g5, .ref g6, .ref g7, .ref g8, .int rc])), (g1, .inl (cI, 300, .inl fi)), (g2, .inl (cI, 300, .inl nx)), (g3, .inl (cI, 300, .inl la)), (g4, .inl (cI, 300, .inl le)), (g5, .inl (cJ, 300, .inr (.inl by_))), (g6, .inl (cJ, 300, .inr (.inl he))), (g7, .inl (cI, 300, .inl lo)), (g8, .inl (cI, 300, .inl rk)), (z0, .inl (cI, 300, .inl z)), (h0, .inr (0, [.ref h1, .ref h2, .ref h3, .ref h4, .ref h5, .int (nI u)])), (h1, .inl (cI, 2000, .inl F)), (h2, .inl (cI, 2000, .inl T)), (h3, .inl (cJ, 2000, .inr (.inl C))), (h4, .inl (cJ, 300, .inr (.inl Hh))), (h5, .inl (cI, 300, .inl S))])) (va_Qv (fun (uu : Unit) => True) (fun (uu : Unit) (t : State) => va_P (dC, dI) vwCl [(g0, .inr (1, [.ref g1, .ref g2, .ref g3, .ref g4, .ref g5, .ref g6, .ref g7, .ref g8, .int rc])), (g1, .inl (cI, 300, .inl ((fun j => if z j ≤ 0 then -1 else nI j)))), (g2, .inl (cI, 300, .inl (fun _ => -1))), (g3, .inl (cI, 300, .inl (fun j => nI j))), (g4, .inl (cI, 300, .inl (fun j => nI j))), (g5, .inl (cJ, 300, .inr (.inl (fun j => (z j).toInt64)))), (g6, .inl (cJ, 300, .inr (.inl Hh))), (g7, .inl (cI, 300, .inl lo)), (g8, .inl (cI, 300, .inl rk)), (z0, .inl (cI, 300, .inl z)), (h0, .inr (0, [.ref h1, .ref h2, .ref h3, .ref h4, .ref h5, .int (nI u)])), (h1, .inl (cI, 2000, .inl F)), (h2, .inl (cI, 2000, .inl T)), (h3, .inl (cJ, 2000, .inr (.inl C))), (h4, .inl (cJ, 300, .inr (.inl Hh))), (h5, .inl (cI, 300, .inl S))] t.heap ∧ va_K (dC, dI) vwCl [(cI, .int), (cJ, .long), (cZ, .boolean)] t ∧ va_D (va_A [(g0, .inr (1, [.ref g1, .ref g2, .ref g3, .ref g4, .ref g5, .ref g6, .ref g7, .ref g8, .int rc])), (g1, .inl (cI, 300, .inl fi)), (g2, .inl (cI, 300, .inl nx)), (g3, .inl (cI, 300, .inl la)), (g4, .inl (cI, 300, .inl le)), (g5, .inl (cJ, 300, .inr (.inl by_))), (g6, .inl (cJ, 300, .inr (.inl he))), (g7, .inl (cI, 300, .inl lo)), (g8, .inl (cI, 300, .inl rk)), (z0, .inl (cI, 300, .inl z)), (h0, .inr (0, [.ref h1, .ref h2, .ref h3, .ref h4, .ref h5, .int (nI u)])), (h1, .inl (cI, 2000, .inl F)), (h2, .inl (cI, 2000, .inl T)), (h3, .inl (cJ, 2000, .inr (.inl C))), (h4, .inl (cJ, 300, .inr (.inl Hh))), (h5, .inl (cI, 300, .inl S))] sz) [(g0, .inr (1, [.ref g1, .ref g2, .ref g3, .ref g4, .ref g5, .ref g6, .ref g7, .ref g8, .int rc])), (g1, .inl (cI, 300, .inl ((fun j => if z j ≤ 0 then -1 else nI j)))), (g2, .inl (cI, 300, .inl (fun _ => -1))), (g3, .inl (cI, 300, .inl (fun j => nI j))), (g4, .inl (cI, 300, .inl (fun j => nI j))), (g5, .inl (cJ, 300, .inr (.inl (fun j => (z j).toInt64)))), (g6, .inl (cJ, 300, .inr (.inl Hh))), (g7, .inl (cI, 300, .inl lo)), (g8, .inl (cI, 300, .inl rk)), (z0, .inl (cI, 300, .inl z)), (h0, .inr (0, [.ref h1, .ref h2, .ref h3, .ref h4, .ref h5, .int (nI u)])), (h1, .inl (cI, 2000, .inl F)), (h2, .inl (cI, 2000, .inl T)), (h3, .inl (cJ, 2000, .inr (.inl C))), (h4, .inl (cJ, 300, .inr (.inl Hh))), (h5, .inl (cI, 300, .inl S))]) (va_A [(g0, .inr (1, [.ref g1, .ref g2, .ref g3, .ref g4, .ref g5, .ref g6, .ref g7, .ref g8, .int rc])), (g1, .inl (cI, 300, .inl fi)), (g2, .inl (cI, 300, .inl nx)), (g3, .inl (cI, 300, .inl la)), (g4, .inl (cI, 300, .inl le)), (g5, .inl (cJ, 300, .inr (.inl by_))), (g6, .inl (cJ, 300, .inr (.inl he))), (g7, .inl (cI, 300, .inl lo)), (g8, .inl (cI, 300, .inl rk)), (z0, .inl (cI, 300, .inl z)), (h0, .inr (0, [.ref h1, .ref h2, .ref h3, .ref h4, .ref h5, .int (nI u)])), (h1, .inl (cI, 2000, .inl F)), (h2, .inl (cI, 2000, .inl T)), (h3, .inl (cJ, 2000, .inr (.inl C))), (h4, .inl (cJ, 300, .inr (.inl Hh))), (h5, .inl (cI, 300, .inl S))] sz)) 0 0 (va_A [(g0, .inr (1, [.ref g1, .ref g2, .ref g3, .ref g4, .ref g5, .ref g6, .ref g7, .ref g8, .int rc])), (g1, .inl (cI, 300, .inl fi)), (g2, .inl (cI, 300, .inl nx)), (g3, .inl (cI, 300, .inl la)), (g4, .inl (cI, 300, .inl le)), (g5, .inl (cJ, 300, .inr (.inl by_))), (g6, .inl (cJ, 300, .inr (.inl he))), (g7, .inl (cI, 300, .inl lo)), (g8, .inl (cI, 300, .inl rk)), (z0, .inl (cI, 300, .inl z)), (h0, .inr (0, [.ref h1, .ref h2, .ref h3, .ref h4, .ref h5, .int (nI u)])), (h1, .inl (cI, 2000, .inl F)), (h2, .inl (cI, 2000, .inl T)), (h3, .inl (cJ, 2000, .inr (.inl C))), (h4, .inl (cJ, 300, .inr (.inl Hh))), (h5, .inl (cI, 300, .inl S))] sz) := by
  refine Met.ofW (cc := cX1_standAlone) (maxL := 4) (ret := none) (by decide) rfl ?_
  intro p ev s m args below meth c s₁ Bd hml hv
  obtain ⟨rfl, hsz, hP, hK, hD0⟩ := hv
  have hx := Bd.exec
  have hb := Bd.bytes
  have hr := Bd.returns
  have hts := atoms_spec (ws := wsX1_standAlone) Bd.pre
  have hown : s.vm.findClass RX1 = some m.cls := findClass_of_methodNamed Bd.named
  have hlocks := Bd.notSynchronized
  have hin1 : ∀ w ∈ wsX10, w ∈ wsX1_standAlone := by decide +kernel
  subst hsz
  have hD := hD0.self (sz := s.heap.size)
  generalize hAe : va_A [(g0, .inr (1, [.ref g1, .ref g2, .ref g3, .ref g4, .ref g5, .ref g6, .ref g7, .ref g8, .int rc])), (g1, .inl (cI, 300, .inl fi)), (g2, .inl (cI, 300, .inl nx)), (g3, .inl (cI, 300, .inl la)), (g4, .inl (cI, 300, .inl le)), (g5, .inl (cJ, 300, .inr (.inl by_))), (g6, .inl (cJ, 300, .inr (.inl he))), (g7, .inl (cI, 300, .inl lo)), (g8, .inl (cI, 300, .inl rk)), (z0, .inl (cI, 300, .inl z)), (h0, .inr (0, [.ref h1, .ref h2, .ref h3, .ref h4, .ref h5, .int (nI u)])), (h1, .inl (cI, 2000, .inl F)), (h2, .inl (cI, 2000, .inl T)), (h3, .inl (cJ, 2000, .inr (.inl C))), (h4, .inl (cJ, 300, .inr (.inl Hh))), (h5, .inl (cI, 300, .inl S))] s.heap.size = A at hD ⊢
  have hA : ∀ q : Nat, s.heap.size ≤ q → A q := fun q h => by rw [← hAe]; exact Or.inr h
  have hS : va_S A s.heap s.heap [] := va_S.rf
  have hl := lv_entry ([.ref g0, .ref z0, .ref h0]) (n := 4) (Nat.le_of_ble_eq_true rfl)
  rw [lg_entry_eq]
  generalize (lg_sl ([.ref g0, .ref z0, .ref h0]) ++ List.replicate (4 - (lg_sl ([.ref g0, .ref z0, .ref h0])).length) Slot.unset).toArray = ls at hl ⊢
  have hl : lv_has ls 4 [(0, .ref g0), (1, .ref z0), (2, .ref h0)] := hl
  generalize hHe : s.heap = H at hP ⊢
  have hS : va_S A s.heap H [] := hHe ▸ hS
  refine lv_iconst (v := 0) hx hb dX1_standAlone_0 (by decide) ?_
  refine tp_i (y := nI 0) (nI_0.symm) ?_
  refine lv_istore_n (lv' := [(3, .int (nI 0)), (0, .ref g0), (1, .ref z0), (2, .ref h0)]) hx hb dX1_standAlone_1 rfl hl (by decide) rfl (fun ls hl => ?_)
  have e0 : ∀ {α : Type} (X f : Nat → α), mix 0 X f = f := fun X f => mix_0 X f
  have hP : va_P (dC, dI) vwCl [(g0, .inr (1, [.ref g1, .ref g2, .ref g3, .ref g4, .ref g5, .ref g6, .ref g7, .ref g8, .int rc])), (g1, .inl (cI, 300, .inl (mix 0 (fun j => if z j ≤ 0 then -1 else nI j) fi))), (g2, .inl (cI, 300, .inl (mix 0 (fun _ => -1) nx))), (g3, .inl (cI, 300, .inl (mix 0 (fun j => nI j) la))), (g4, .inl (cI, 300, .inl (mix 0 (fun j => nI j) le))), (g5, .inl (cJ, 300, .inr (.inl (mix 0 (fun j => (z j).toInt64) by_)))), (g6, .inl (cJ, 300, .inr (.inl (mix 0 Hh he)))), (g7, .inl (cI, 300, .inl lo)), (g8, .inl (cI, 300, .inl rk)), (z0, .inl (cI, 300, .inl z)), (h0, .inr (0, [.ref h1, .ref h2, .ref h3, .ref h4, .ref h5, .int (nI u)])), (h1, .inl (cI, 2000, .inl F)), (h2, .inl (cI, 2000, .inl T)), (h3, .inl (cJ, 2000, .inr (.inl C))), (h4, .inl (cJ, 300, .inr (.inl Hh))), (h5, .inl (cI, 300, .inl S))] H := by simp only [mix_0]; exact hP
  have hD : va_D A [(g0, .inr (1, [.ref g1, .ref g2, .ref g3, .ref g4, .ref g5, .ref g6, .ref g7, .ref g8, .int rc])), (g1, .inl (cI, 300, .inl (mix 0 (fun j => if z j ≤ 0 then -1 else nI j) fi))), (g2, .inl (cI, 300, .inl (mix 0 (fun _ => -1) nx))), (g3, .inl (cI, 300, .inl (mix 0 (fun j => nI j) la))), (g4, .inl (cI, 300, .inl (mix 0 (fun j => nI j) le))), (g5, .inl (cJ, 300, .inr (.inl (mix 0 (fun j => (z j).toInt64) by_)))), (g6, .inl (cJ, 300, .inr (.inl (mix 0 Hh he)))), (g7, .inl (cI, 300, .inl lo)), (g8, .inl (cI, 300, .inl rk)), (z0, .inl (cI, 300, .inl z)), (h0, .inr (0, [.ref h1, .ref h2, .ref h3, .ref h4, .ref h5, .int (nI u)])), (h1, .inl (cI, 2000, .inl F)), (h2, .inl (cI, 2000, .inl T)), (h3, .inl (cJ, 2000, .inr (.inl C))), (h4, .inl (cJ, 300, .inr (.inl Hh))), (h5, .inl (cI, 300, .inl S))] := by simp only [mix_0]; exact hD
  refine lpX1_standAlone (fi := fi) (nx := nx) (la := la) (le := le) (by_ := by_) (he := he) (z := z) hx hb hml hts hown hK hA  (fun  H locs ls hP hD hS hl => ?_) (300) 0 (by omega) H _ ls hP hD hS (lv_sub hl [1, 2, 3, 0] rfl)
  · -- kn
    have hP := hP.ei 1 (fun j => if z j ≤ 0 then -1 else nI j) rfl (fun j hj => mix_lt _ _ hj)
    have hD := hD.set (p := 1) (e := .inl (cI, 300, .inl (fun j => if z j ≤ 0 then -1 else nI j))) rfl
    have hP := hP.ei 2 (fun _ => -1) rfl (fun j hj => mix_lt _ _ hj)
    have hD := hD.set (p := 2) (e := .inl (cI, 300, .inl (fun _ => -1))) rfl
    have hP := hP.ei 3 (fun j => nI j) rfl (fun j hj => mix_lt _ _ hj)
    have hD := hD.set (p := 3) (e := .inl (cI, 300, .inl (fun j => nI j))) rfl
    have hP := hP.ei 4 (fun j => nI j) rfl (fun j hj => mix_lt _ _ hj)
    have hD := hD.set (p := 4) (e := .inl (cI, 300, .inl (fun j => nI j))) rfl
    have hP := hP.el 5 (fun j => (z j).toInt64) rfl (fun j hj => mix_lt _ _ hj)
    have hD := hD.set (p := 5) (e := .inl (cJ, 300, .inr (.inl (fun j => (z j).toInt64)))) rfl
    have hP := hP.el 6 Hh rfl (fun j hj => mix_lt _ _ hj)
    have hD := hD.set (p := 6) (e := .inl (cJ, 300, .inr (.inl Hh))) rfl
    have hP : va_P (dC, dI) vwCl [(g0, .inr (1, [.ref g1, .ref g2, .ref g3, .ref g4, .ref g5, .ref g6, .ref g7, .ref g8, .int rc])), (g1, .inl (cI, 300, .inl ((fun j => if z j ≤ 0 then -1 else nI j)))), (g2, .inl (cI, 300, .inl (fun _ => -1))), (g3, .inl (cI, 300, .inl (fun j => nI j))), (g4, .inl (cI, 300, .inl (fun j => nI j))), (g5, .inl (cJ, 300, .inr (.inl (fun j => (z j).toInt64)))), (g6, .inl (cJ, 300, .inr (.inl Hh))), (g7, .inl (cI, 300, .inl lo)), (g8, .inl (cI, 300, .inl rk)), (z0, .inl (cI, 300, .inl z)), (h0, .inr (0, [.ref h1, .ref h2, .ref h3, .ref h4, .ref h5, .int (nI u)])), (h1, .inl (cI, 2000, .inl F)), (h2, .inl (cI, 2000, .inl T)), (h3, .inl (cJ, 2000, .inr (.inl C))), (h4, .inl (cJ, 300, .inr (.inl Hh))), (h5, .inl (cI, 300, .inl S))] H := hP
    have hD : va_D A [(g0, .inr (1, [.ref g1, .ref g2, .ref g3, .ref g4, .ref g5, .ref g6, .ref g7, .ref g8, .int rc])), (g1, .inl (cI, 300, .inl ((fun j => if z j ≤ 0 then -1 else nI j)))), (g2, .inl (cI, 300, .inl (fun _ => -1))), (g3, .inl (cI, 300, .inl (fun j => nI j))), (g4, .inl (cI, 300, .inl (fun j => nI j))), (g5, .inl (cJ, 300, .inr (.inl (fun j => (z j).toInt64)))), (g6, .inl (cJ, 300, .inr (.inl Hh))), (g7, .inl (cI, 300, .inl lo)), (g8, .inl (cI, 300, .inl rk)), (z0, .inl (cI, 300, .inl z)), (h0, .inr (0, [.ref h1, .ref h2, .ref h3, .ref h4, .ref h5, .int (nI u)])), (h1, .inl (cI, 2000, .inl F)), (h2, .inl (cI, 2000, .inl T)), (h3, .inl (cJ, 2000, .inr (.inl C))), (h4, .inl (cJ, 300, .inr (.inl Hh))), (h5, .inl (cI, 300, .inl S))] := hD
    have hP9 : va_P (dC, dI) vwCl [(g0, .inr (1, [.ref g1, .ref g2, .ref g3, .ref g4, .ref g5, .ref g6, .ref g7, .ref g8, .int rc])), (g1, .inl (cI, 300, .inl ((fun j => if z j ≤ 0 then -1 else nI j)))), (g2, .inl (cI, 300, .inl (fun _ => -1))), (g3, .inl (cI, 300, .inl (fun j => nI j))), (g4, .inl (cI, 300, .inl (fun j => nI j))), (g5, .inl (cJ, 300, .inr (.inl (fun j => (z j).toInt64)))), (g6, .inl (cJ, 300, .inr (.inl Hh))), (g7, .inl (cI, 300, .inl lo)), (g8, .inl (cI, 300, .inl rk)), (z0, .inl (cI, 300, .inl z)), (h0, .inr (0, [.ref h1, .ref h2, .ref h3, .ref h4, .ref h5, .int (nI u)])), (h1, .inl (cI, 2000, .inl F)), (h2, .inl (cI, 2000, .inl T)), (h3, .inl (cJ, 2000, .inr (.inl C))), (h4, .inl (cJ, 300, .inr (.inl Hh))), (h5, .inl (cI, 300, .inl S))] H := hP
    have hD9 : va_D A [(g0, .inr (1, [.ref g1, .ref g2, .ref g3, .ref g4, .ref g5, .ref g6, .ref g7, .ref g8, .int rc])), (g1, .inl (cI, 300, .inl ((fun j => if z j ≤ 0 then -1 else nI j)))), (g2, .inl (cI, 300, .inl (fun _ => -1))), (g3, .inl (cI, 300, .inl (fun j => nI j))), (g4, .inl (cI, 300, .inl (fun j => nI j))), (g5, .inl (cJ, 300, .inr (.inl (fun j => (z j).toInt64)))), (g6, .inl (cJ, 300, .inr (.inl Hh))), (g7, .inl (cI, 300, .inl lo)), (g8, .inl (cI, 300, .inl rk)), (z0, .inl (cI, 300, .inl z)), (h0, .inr (0, [.ref h1, .ref h2, .ref h3, .ref h4, .ref h5, .int (nI u)])), (h1, .inl (cI, 2000, .inl F)), (h2, .inl (cI, 2000, .inl T)), (h3, .inl (cJ, 2000, .inr (.inl C))), (h4, .inl (cJ, 300, .inr (.inl Hh))), (h5, .inl (cI, 300, .inl S))] := hD
    exact W.vret hx hb hr (fun t ht hW => ⟨⟨(), rfl, trivial, by rw [ht]; exact hP9, va_K.moved hW.alike hK, hD9⟩, hS.F ht⟩) hS.2.2 dX1_standAlone_74
set_option maxHeartbeats 4000000 in
set_option maxRecDepth 100000 in
theorem lpX1_obh_in {p : Program} {l : Launch} {ev : Env} {s : State} {m : MethodId} {args : Array Value} {below : List Frame} {meth : Method} {c : Code} {Q : State → Prop} {A : Nat → Prop} {dC : Nat → ClassId} {dI : Nat → Nat → Nat} {cI cJ cZ : ClassId} {R : Room} {cells slots : Nat} (hx : p.tables.exec = Jvm.exec) (hb : c.code = cX1_orderByHeat) (hml : c.maxLocals = 5) (hts : ∀ w ∈ wsX1_orderByHeat, w.before args s = true) (hown : s.vm.findClass RX1 = some m.cls) (hK : va_K (dC, dI) vwCl [(cI, .int), (cJ, .long), (cZ, .boolean)] s) (hA : ∀ q : Nat, s.heap.size ≤ q → A q) {g0 : Nat} {g1 : Nat} {g2 : Nat} {g3 : Nat} {g4 : Nat} {g5 : Nat} {g6 : Nat} {g7 : Nat} {g8 : Nat} {h0 : Nat} {h1 : Nat} {h2 : Nat} {h3 : Nat} {h4 : Nat} {h5 : Nat} {fi nx la le : Nat → Int32} {by_ he : Nat → Int64} {lo rk : Nat → Int32} {rc : Int32} {F T : Nat → Int32} {C Hh : Nat → Int64} {S : Nat → Int32} {u : Nat} {g : Nat → Int32} {cnt k : Nat} (hk : k < 300) (hc : cnt ≤ k) (hg : ∀ j, j < cnt → vp_in (g j) 300)  (kn : ∀ (a : Nat), a ≤ cnt → bpos (fun j => decide (he (g j).toNatClampNeg < he k)) cnt = a → ∀ (H : Heap) (locs : List Loc) (ls : Array Slot), va_P (dC, dI) vwCl [(g0, .inr (1, [.ref g1, .ref g2, .ref g3, .ref g4, .ref g5, .ref g6, .ref g7, .ref g8, .int rc])), (g1, .inl (cI, 300, .inl fi)), (g2, .inl (cI, 300, .inl nx)), (g3, .inl (cI, 300, .inl la)), (g4, .inl (cI, 300, .inl le)), (g5, .inl (cJ, 300, .inr (.inl by_))), (g6, .inl (cJ, 300, .inr (.inl he))), (g7, .inl (cI, 300, .inl (shf g a cnt))), (g8, .inl (cI, 300, .inl rk)), (h0, .inr (0, [.ref h1, .ref h2, .ref h3, .ref h4, .ref h5, .int (nI u)])), (h1, .inl (cI, 2000, .inl F)), (h2, .inl (cI, 2000, .inl T)), (h3, .inl (cJ, 2000, .inr (.inl C))), (h4, .inl (cJ, 300, .inr (.inl Hh))), (h5, .inl (cI, 300, .inl S))] H → va_D A [(g0, .inr (1, [.ref g1, .ref g2, .ref g3, .ref g4, .ref g5, .ref g6, .ref g7, .ref g8, .int rc])), (g1, .inl (cI, 300, .inl fi)), (g2, .inl (cI, 300, .inl nx)), (g3, .inl (cI, 300, .inl la)), (g4, .inl (cI, 300, .inl le)), (g5, .inl (cJ, 300, .inr (.inl by_))), (g6, .inl (cJ, 300, .inr (.inl he))), (g7, .inl (cI, 300, .inl (shf g a cnt))), (g8, .inl (cI, 300, .inl rk)), (h0, .inr (0, [.ref h1, .ref h2, .ref h3, .ref h4, .ref h5, .int (nI u)])), (h1, .inl (cI, 2000, .inl F)), (h2, .inl (cI, 2000, .inl T)), (h3, .inl (cJ, 2000, .inr (.inl C))), (h4, .inl (cJ, 300, .inr (.inl Hh))), (h5, .inl (cI, 300, .inl S))] → va_S A s.heap H locs → lv_has ls 5 [(0, .ref g0), (1, .ref h0), (2, .int (nI cnt)), (3, .int (nI k)), (4, .int (nI a))] → W p l ev R s m args below meth c H locs cells slots Q (F0 m 84 ls [])) : ∀ (n : Nat) (a : Nat), a = n → a ≤ cnt → bpos (fun j => decide (he (g j).toNatClampNeg < he k)) cnt = bpos (fun j => decide (he (g j).toNatClampNeg < he k)) a → ∀ (H : Heap) (locs : List Loc) (ls : Array Slot), va_P (dC, dI) vwCl [(g0, .inr (1, [.ref g1, .ref g2, .ref g3, .ref g4, .ref g5, .ref g6, .ref g7, .ref g8, .int rc])), (g1, .inl (cI, 300, .inl fi)), (g2, .inl (cI, 300, .inl nx)), (g3, .inl (cI, 300, .inl la)), (g4, .inl (cI, 300, .inl le)), (g5, .inl (cJ, 300, .inr (.inl by_))), (g6, .inl (cJ, 300, .inr (.inl he))), (g7, .inl (cI, 300, .inl (shf g a cnt))), (g8, .inl (cI, 300, .inl rk)), (h0, .inr (0, [.ref h1, .ref h2, .ref h3, .ref h4, .ref h5, .int (nI u)])), (h1, .inl (cI, 2000, .inl F)), (h2, .inl (cI, 2000, .inl T)), (h3, .inl (cJ, 2000, .inr (.inl C))), (h4, .inl (cJ, 300, .inr (.inl Hh))), (h5, .inl (cI, 300, .inl S))] H → va_D A [(g0, .inr (1, [.ref g1, .ref g2, .ref g3, .ref g4, .ref g5, .ref g6, .ref g7, .ref g8, .int rc])), (g1, .inl (cI, 300, .inl fi)), (g2, .inl (cI, 300, .inl nx)), (g3, .inl (cI, 300, .inl la)), (g4, .inl (cI, 300, .inl le)), (g5, .inl (cJ, 300, .inr (.inl by_))), (g6, .inl (cJ, 300, .inr (.inl he))), (g7, .inl (cI, 300, .inl (shf g a cnt))), (g8, .inl (cI, 300, .inl rk)), (h0, .inr (0, [.ref h1, .ref h2, .ref h3, .ref h4, .ref h5, .int (nI u)])), (h1, .inl (cI, 2000, .inl F)), (h2, .inl (cI, 2000, .inl T)), (h3, .inl (cJ, 2000, .inr (.inl C))), (h4, .inl (cJ, 300, .inr (.inl Hh))), (h5, .inl (cI, 300, .inl S))] → va_S A s.heap H locs → lv_has ls 5 [(0, .ref g0), (1, .ref h0), (2, .int (nI cnt)), (3, .int (nI k)), (4, .int (nI a))] → W p l ev R s m args below meth c H locs cells slots Q (F0 m 33 ls []) := by
  have hin1 : ∀ w ∈ wsX10, w ∈ wsX1_orderByHeat := by decide +kernel
  intro n
  induction n with
  | zero =>
    intro a ha hac hp H locs ls hP hD hS hl
    subst ha
    refine lv_iload hx hb dX1_orderByHeat_33 (lv_at hl 4 rfl) ?_
    refine lv_if_le (tgt := 84) hx hb dX1_orderByHeat_35 (by decide) (fun c_1 => ?_) (fun c_1 => ?_)
    · -- pc 35, side 0
      exact kn 0 (hac) (hp) H locs ls hP hD hS (lv_sub hl [0, 1, 2, 3, 4] rfl)
    · -- pc 35, side 1
      exact absurd (show nI 0 ≤ 0 by decide) c_1
  | succ n ih =>
    intro a ha hac hp H locs ls hP hD hS hl
    subst ha
    refine lv_iload hx hb dX1_orderByHeat_33 (lv_at hl 4 rfl) ?_
    refine lv_if_le (tgt := 84) hx hb dX1_orderByHeat_35 (by decide) (fun c_2 => ?_) (fun c_2 => ?_)
    · -- pc 35, side 0
      exact absurd c_2 (nI_nle (by omega) (by omega))
    · -- pc 35, side 1
      refine lv_aload_n hx hb dX1_orderByHeat_38 rfl (lv_at hl 0 rfl) ?_
      refine va_get (D := (dC, dI)) (ci := 1) (v := .ref g6) (C := RX1) (T := TX1) (N := 9) hx hb hts hin1 hown hK hP 0 rfl rfl 5 (by decide) (hts (.fieldLink RX1 28 "CallClusters$Clustering" "heat" "[J") (by decide +kernel)) (fun _ h9 => h9) rfl dX1_orderByHeat_39 ?_
      refine lv_iload_n hx hb dX1_orderByHeat_42 rfl (lv_at hl 3 rfl) ?_
      refine va_lald hx hb hK hP 6 1 rfl rfl (inn hk (by omega)) dX1_orderByHeat_43 ?_
      refine tp_l (y := he k) (by rw [ix_n (by omega)]) ?_
      refine lv_aload_n hx hb dX1_orderByHeat_44 rfl (lv_at hl 0 rfl) ?_
      refine va_get (D := (dC, dI)) (ci := 1) (v := .ref g6) (C := RX1) (T := TX1) (N := 9) hx hb hts hin1 hown hK hP 0 rfl rfl 5 (by decide) (hts (.fieldLink RX1 28 "CallClusters$Clustering" "heat" "[J") (by decide +kernel)) (fun _ h9 => h9) rfl dX1_orderByHeat_45 ?_
      refine lv_aload_n hx hb dX1_orderByHeat_48 rfl (lv_at hl 0 rfl) ?_
      refine va_get (D := (dC, dI)) (ci := 1) (v := .ref g7) (C := RX1) (T := TX1) (N := 9) hx hb hts hin1 hown hK hP 0 rfl rfl 6 (by decide) (hts (.fieldLink RX1 31 "CallClusters$Clustering" "looked" "[I") (by decide +kernel)) (fun _ h9 => h9) rfl dX1_orderByHeat_49 ?_
      refine lv_iload hx hb dX1_orderByHeat_52 (lv_at hl 4 rfl) ?_
      refine lv_iconst (v := 1) hx hb dX1_orderByHeat_54 (by decide) ?_
      refine lv_isub hx hb dX1_orderByHeat_55 ?_
      refine tp_i (y := nI n) (nI_pred n) ?_
      refine va_iald hx hb hK hP 7 0 rfl rfl (inn (show n < 300 by omega) (by omega)) dX1_orderByHeat_56 ?_
      refine tp_i (y := g n) (by rw [ix_n (by omega)]; exact shf_low (by omega)) ?_
      refine va_lald hx hb hK hP 6 1 rfl rfl (hg n (by omega)) dX1_orderByHeat_57 ?_
      refine W.lcmp hx hb dX1_orderByHeat_58 ?_
      refine lv_if_le (tgt := 84) hx hb dX1_orderByHeat_59 (by decide) (fun c_3 => ?_) (fun c_3 => ?_)
      · -- pc 59, side 0
        rw [lg_cmp_le] at c_3
        have hp9 : bpos (fun j => decide (he (g j).toNatClampNeg < he k)) (n + 1) = n + 1 := by unfold bpos; rw [if_neg (by simpa using c_3)]
        exact kn (n + 1) (hac) (by rw [hp]; exact hp9) H locs ls hP hD hS (lv_sub hl [0, 1, 2, 3, 4] rfl)
      · -- pc 59, side 1
        rw [lg_cmp_le] at c_3
        have hp9 : bpos (fun j => decide (he (g j).toNatClampNeg < he k)) (n + 1) = bpos (fun j => decide (he (g j).toNatClampNeg < he k)) n := by conv => lhs; unfold bpos; rw [if_pos (by simpa using c_3)]
        refine lv_aload_n hx hb dX1_orderByHeat_62 rfl (lv_at hl 0 rfl) ?_
        refine va_get (D := (dC, dI)) (ci := 1) (v := .ref g7) (C := RX1) (T := TX1) (N := 9) hx hb hts hin1 hown hK hP 0 rfl rfl 6 (by decide) (hts (.fieldLink RX1 31 "CallClusters$Clustering" "looked" "[I") (by decide +kernel)) (fun _ h9 => h9) rfl dX1_orderByHeat_63 ?_
        refine lv_iload hx hb dX1_orderByHeat_66 (lv_at hl 4 rfl) ?_
        refine lv_aload_n hx hb dX1_orderByHeat_68 rfl (lv_at hl 0 rfl) ?_
        refine va_get (D := (dC, dI)) (ci := 1) (v := .ref g7) (C := RX1) (T := TX1) (N := 9) hx hb hts hin1 hown hK hP 0 rfl rfl 6 (by decide) (hts (.fieldLink RX1 31 "CallClusters$Clustering" "looked" "[I") (by decide +kernel)) (fun _ h9 => h9) rfl dX1_orderByHeat_69 ?_
        refine lv_iload hx hb dX1_orderByHeat_72 (lv_at hl 4 rfl) ?_
        refine lv_iconst (v := 1) hx hb dX1_orderByHeat_74 (by decide) ?_
        refine lv_isub hx hb dX1_orderByHeat_75 ?_
        refine tp_i (y := nI n) (nI_pred n) ?_
        refine va_iald hx hb hK hP 7 0 rfl rfl (inn (show n < 300 by omega) (by omega)) dX1_orderByHeat_76 ?_
        refine tp_i (y := g n) (by rw [ix_n (by omega)]; exact shf_low (by omega)) ?_
        refine va_iast hx hb hK hP hD hS 7 0 rfl rfl (inn (show n + 1 < 300 by omega) (by omega)) dX1_orderByHeat_77 (fun H locs hP hD hS => ?_)
        have hf77 : upd (shf g (n + 1) cnt) ((nI (n + 1)).toNatClampNeg) (g n) = shf g n cnt := by rw [ix_n (by omega)]; exact shf_step hac
        have hP : va_P (dC, dI) vwCl [(g0, .inr (1, [.ref g1, .ref g2, .ref g3, .ref g4, .ref g5, .ref g6, .ref g7, .ref g8, .int rc])), (g1, .inl (cI, 300, .inl fi)), (g2, .inl (cI, 300, .inl nx)), (g3, .inl (cI, 300, .inl la)), (g4, .inl (cI, 300, .inl le)), (g5, .inl (cJ, 300, .inr (.inl by_))), (g6, .inl (cJ, 300, .inr (.inl he))), (g7, .inl (cI, 300, .inl (upd (shf g (n + 1) cnt) ((nI (n + 1)).toNatClampNeg) (g n)))), (g8, .inl (cI, 300, .inl rk)), (h0, .inr (0, [.ref h1, .ref h2, .ref h3, .ref h4, .ref h5, .int (nI u)])), (h1, .inl (cI, 2000, .inl F)), (h2, .inl (cI, 2000, .inl T)), (h3, .inl (cJ, 2000, .inr (.inl C))), (h4, .inl (cJ, 300, .inr (.inl Hh))), (h5, .inl (cI, 300, .inl S))] H := hP
        have hD : va_D A [(g0, .inr (1, [.ref g1, .ref g2, .ref g3, .ref g4, .ref g5, .ref g6, .ref g7, .ref g8, .int rc])), (g1, .inl (cI, 300, .inl fi)), (g2, .inl (cI, 300, .inl nx)), (g3, .inl (cI, 300, .inl la)), (g4, .inl (cI, 300, .inl le)), (g5, .inl (cJ, 300, .inr (.inl by_))), (g6, .inl (cJ, 300, .inr (.inl he))), (g7, .inl (cI, 300, .inl (upd (shf g (n + 1) cnt) ((nI (n + 1)).toNatClampNeg) (g n)))), (g8, .inl (cI, 300, .inl rk)), (h0, .inr (0, [.ref h1, .ref h2, .ref h3, .ref h4, .ref h5, .int (nI u)])), (h1, .inl (cI, 2000, .inl F)), (h2, .inl (cI, 2000, .inl T)), (h3, .inl (cJ, 2000, .inr (.inl C))), (h4, .inl (cJ, 300, .inr (.inl Hh))), (h5, .inl (cI, 300, .inl S))] := hD
        rw [hf77] at hP hD
        refine lv_iinc (v := nI n) (lv' := [(4, .int (nI n)), (0, .ref g0), (1, .ref h0), (2, .int (nI cnt)), (3, .int (nI k))]) hx hb dX1_orderByHeat_78 hl (k := 4) rfl (by exact pk_m1 n) (by decide) rfl (fun ls hl => ?_)
        refine lv_goto (tgt := 33) hx hb dX1_orderByHeat_81 (by decide) ?_
        exact ih n (rfl) (by omega) (by rw [hp]; exact hp9) H locs ls hP hD hS (lv_sub hl [1, 2, 3, 4, 0] rfl)
set_option maxHeartbeats 4000000 in
set_option maxRecDepth 100000 in
theorem lpX1_obh {p : Program} {l : Launch} {ev : Env} {s : State} {m : MethodId} {args : Array Value} {below : List Frame} {meth : Method} {c : Code} {Q : State → Prop} {A : Nat → Prop} {dC : Nat → ClassId} {dI : Nat → Nat → Nat} {cI cJ cZ : ClassId} (hx : p.tables.exec = Jvm.exec) (hb : c.code = cX1_orderByHeat) (hml : c.maxLocals = 5) (hts : ∀ w ∈ wsX1_orderByHeat, w.before args s = true) (hown : s.vm.findClass RX1 = some m.cls) (hK : va_K (dC, dI) vwCl [(cI, .int), (cJ, .long), (cZ, .boolean)] s) (hA : ∀ q : Nat, s.heap.size ≤ q → A q) {g0 : Nat} {g1 : Nat} {g2 : Nat} {g3 : Nat} {g4 : Nat} {g5 : Nat} {g6 : Nat} {g7 : Nat} {g8 : Nat} {h0 : Nat} {h1 : Nat} {h2 : Nat} {h3 : Nat} {h4 : Nat} {h5 : Nat} {fi nx la le : Nat → Int32} {by_ he : Nat → Int64} {lo rk : Nat → Int32} {rc : Int32} {F T : Nat → Int32} {C Hh : Nat → Int64} {S : Nat → Int32} {u : Nat} (hs : ∀ j, j < 300 → S j = -1 ∨ vp_in (S j) 2000)  (kn : ∀ (H : Heap) (locs : List Loc) (ls : Array Slot), va_P (dC, dI) vwCl [(g0, .inr (1, [.ref g1, .ref g2, .ref g3, .ref g4, .ref g5, .ref g6, .ref g7, .ref g8, .int rc])), (g1, .inl (cI, 300, .inl fi)), (g2, .inl (cI, 300, .inl nx)), (g3, .inl (cI, 300, .inl la)), (g4, .inl (cI, 300, .inl le)), (g5, .inl (cJ, 300, .inr (.inl by_))), (g6, .inl (cJ, 300, .inr (.inl he))), (g7, .inl (cI, 300, .inl ((obhN fi S F he lo 300).2))), (g8, .inl (cI, 300, .inl rk)), (h0, .inr (0, [.ref h1, .ref h2, .ref h3, .ref h4, .ref h5, .int (nI u)])), (h1, .inl (cI, 2000, .inl F)), (h2, .inl (cI, 2000, .inl T)), (h3, .inl (cJ, 2000, .inr (.inl C))), (h4, .inl (cJ, 300, .inr (.inl Hh))), (h5, .inl (cI, 300, .inl S))] H → va_D A [(g0, .inr (1, [.ref g1, .ref g2, .ref g3, .ref g4, .ref g5, .ref g6, .ref g7, .ref g8, .int rc])), (g1, .inl (cI, 300, .inl fi)), (g2, .inl (cI, 300, .inl nx)), (g3, .inl (cI, 300, .inl la)), (g4, .inl (cI, 300, .inl le)), (g5, .inl (cJ, 300, .inr (.inl by_))), (g6, .inl (cJ, 300, .inr (.inl he))), (g7, .inl (cI, 300, .inl ((obhN fi S F he lo 300).2))), (g8, .inl (cI, 300, .inl rk)), (h0, .inr (0, [.ref h1, .ref h2, .ref h3, .ref h4, .ref h5, .int (nI u)])), (h1, .inl (cI, 2000, .inl F)), (h2, .inl (cI, 2000, .inl T)), (h3, .inl (cJ, 2000, .inr (.inl C))), (h4, .inl (cJ, 300, .inr (.inl Hh))), (h5, .inl (cI, 300, .inl S))] → va_S A s.heap H locs → lv_has ls 5 [(0, .ref g0), (1, .ref h0), (2, .int (nI (obhN fi S F he lo 300).1))] → W p l ev ({ frames := 1, cells := 0, slots := 0, locals := 21 } : Room) s m args below meth c H locs 0 0 Q (F0 m 101 ls [])) : ∀ (n : Nat) (k : Nat), k + n = 300 → ∀ (H : Heap) (locs : List Loc) (ls : Array Slot), va_P (dC, dI) vwCl [(g0, .inr (1, [.ref g1, .ref g2, .ref g3, .ref g4, .ref g5, .ref g6, .ref g7, .ref g8, .int rc])), (g1, .inl (cI, 300, .inl fi)), (g2, .inl (cI, 300, .inl nx)), (g3, .inl (cI, 300, .inl la)), (g4, .inl (cI, 300, .inl le)), (g5, .inl (cJ, 300, .inr (.inl by_))), (g6, .inl (cJ, 300, .inr (.inl he))), (g7, .inl (cI, 300, .inl ((obhN fi S F he lo k).2))), (g8, .inl (cI, 300, .inl rk)), (h0, .inr (0, [.ref h1, .ref h2, .ref h3, .ref h4, .ref h5, .int (nI u)])), (h1, .inl (cI, 2000, .inl F)), (h2, .inl (cI, 2000, .inl T)), (h3, .inl (cJ, 2000, .inr (.inl C))), (h4, .inl (cJ, 300, .inr (.inl Hh))), (h5, .inl (cI, 300, .inl S))] H → va_D A [(g0, .inr (1, [.ref g1, .ref g2, .ref g3, .ref g4, .ref g5, .ref g6, .ref g7, .ref g8, .int rc])), (g1, .inl (cI, 300, .inl fi)), (g2, .inl (cI, 300, .inl nx)), (g3, .inl (cI, 300, .inl la)), (g4, .inl (cI, 300, .inl le)), (g5, .inl (cJ, 300, .inr (.inl by_))), (g6, .inl (cJ, 300, .inr (.inl he))), (g7, .inl (cI, 300, .inl ((obhN fi S F he lo k).2))), (g8, .inl (cI, 300, .inl rk)), (h0, .inr (0, [.ref h1, .ref h2, .ref h3, .ref h4, .ref h5, .int (nI u)])), (h1, .inl (cI, 2000, .inl F)), (h2, .inl (cI, 2000, .inl T)), (h3, .inl (cJ, 2000, .inr (.inl C))), (h4, .inl (cJ, 300, .inr (.inl Hh))), (h5, .inl (cI, 300, .inl S))] → va_S A s.heap H locs → lv_has ls 5 [(0, .ref g0), (1, .ref h0), (2, .int (nI (obhN fi S F he lo k).1)), (3, .int (nI k))] → W p l ev ({ frames := 1, cells := 0, slots := 0, locals := 21 } : Room) s m args below meth c H locs 0 0 Q (F0 m 4 ls []) := by
  have hin1 : ∀ w ∈ wsX10, w ∈ wsX1_orderByHeat := by decide +kernel
  intro n
  induction n with
  | zero =>
    intro k hk H locs ls hP hD hS hl
    have hk : k = 300 := by omega
    subst hk
    refine lv_iload_n hx hb dX1_orderByHeat_4 rfl (lv_at hl 3 rfl) ?_
    refine lv_sipush (v := 300) hx hb dX1_orderByHeat_5 (by decide) ?_
    refine lv_icmp_ge (tgt := 101) hx hb dX1_orderByHeat_8 (by decide) (fun c_1 => ?_) (fun c_1 => ?_)
    · -- pc 8, side 0
      exact kn   H locs ls hP hD hS (lv_sub hl [0, 1, 2] rfl)
    · -- pc 8, side 1
      exact absurd (show (300 : Int32) ≤ nI 300 by decide) c_1
  | succ n ih =>
    intro k hk H locs ls hP hD hS hl
    have hin9 := obhN_in fi S F he lo k
    refine lv_iload_n hx hb dX1_orderByHeat_4 rfl (lv_at hl 3 rfl) ?_
    refine lv_sipush (v := 300) hx hb dX1_orderByHeat_5 (by decide) ?_
    refine lv_icmp_ge (tgt := 101) hx hb dX1_orderByHeat_8 (by decide) (fun c_2 => ?_) (fun c_2 => ?_)
    · -- pc 8, side 0
      exact absurd (show nI 300 ≤ nI k from c_2) (nI_ge (show k < 300 by omega) (by omega))
    · -- pc 8, side 1
      refine lv_aload_n hx hb dX1_orderByHeat_11 rfl (lv_at hl 0 rfl) ?_
      refine va_get (D := (dC, dI)) (ci := 1) (v := .ref g1) (C := RX1) (T := TX1) (N := 9) hx hb hts hin1 hown hK hP 0 rfl rfl 0 (by decide) (hts (.fieldLink RX1 9 "CallClusters$Clustering" "first" "[I") (by decide +kernel)) (fun _ h9 => h9) rfl dX1_orderByHeat_12 ?_
      refine lv_iload_n hx hb dX1_orderByHeat_15 rfl (lv_at hl 3 rfl) ?_
      refine va_iald hx hb hK hP 1 0 rfl rfl (inn (show k < 300 by omega) (by omega)) dX1_orderByHeat_16 ?_
      refine tp_i (y := fi k) (by rw [ix_n (by omega)]) ?_
      refine lv_iconst (v := (-1)) hx hb dX1_orderByHeat_17 (by decide) ?_
      refine lv_icmp_eq (tgt := 95) hx hb dX1_orderByHeat_18 (by decide) (fun c_3 => ?_) (fun c_3 => ?_)
      · -- pc 18, side 0
        refine lv_iinc (v := nI (k + 1)) (lv' := [(3, .int (nI (k + 1))), (0, .ref g0), (1, .ref h0), (2, .int (nI (obhN fi S F he lo k).1))]) hx hb dX1_orderByHeat_95 hl (k := 3) rfl (by exact nI_1 k) (by decide) rfl (fun ls hl => ?_)
        refine lv_goto (tgt := 4) hx hb dX1_orderByHeat_98 (by decide) ?_
        have hq : obhN fi S F he lo (k + 1) = obhN fi S F he lo k := by show obhStep fi S F he k (obhN fi S F he lo k) = _; unfold obhStep; rw [if_pos c_3]
        rw [← hq] at hP hD hl
        exact ih (k + 1) (by omega) H locs ls hP hD hS (lv_sub hl [1, 2, 3, 0] rfl)
      · -- pc 18, side 1
        refine lv_aload_n hx hb dX1_orderByHeat_21 rfl (lv_at hl 1 rfl) ?_
        refine lv_iload_n hx hb dX1_orderByHeat_22 rfl (lv_at hl 3 rfl) ?_
        have hPc := hP.sub (ws' := [(h0, .inr (0, [.ref h1, .ref h2, .ref h3, .ref h4, .ref h5, .int (nI u)])), (h1, .inl (cI, 2000, .inl F)), (h2, .inl (cI, 2000, .inl T)), (h3, .inl (cJ, 2000, .inr (.inl C))), (h4, .inl (cJ, 300, .inr (.inl Hh))), (h5, .inl (cI, 300, .inl S))]) [9, 10, 11, 12, 13, 14] rfl
        have hDc := hD.sub (ws' := [(h0, .inr (0, [.ref h1, .ref h2, .ref h3, .ref h4, .ref h5, .int (nI u)])), (h1, .inl (cI, 2000, .inl F)), (h2, .inl (cI, 2000, .inl T)), (h3, .inl (cJ, 2000, .inr (.inl C))), (h4, .inl (cJ, 300, .inr (.inl Hh))), (h5, .inl (cI, 300, .inl S))]) [9, 10, 11, 12, 13, 14] (by decide) rfl
        have hFc := va_free (wc := [(h0, .inr (0, [.ref h1, .ref h2, .ref h3, .ref h4, .ref h5, .int (nI u)])), (h1, .inl (cI, 2000, .inl F)), (h2, .inl (cI, 2000, .inl T)), (h3, .inl (cJ, 2000, .inr (.inl C))), (h4, .inl (cJ, 300, .inr (.inl Hh))), (h5, .inl (cI, 300, .inl S))]) hD hS hA [9, 10, 11, 12, 13, 14] rfl
        refine va_calli (va_runV (As := [.int (nI k)]) (rest := []) ⟨hx, hb, hml, hown, hts⟩ (ct_X0_callerOf l dC dI cI cJ cZ H.size h0 h1 h2 h3 h4 h5 F T C Hh S u (nI k) (inn (by omega) (by omega)) (by rw [ix_n (by omega)]; exact hs k (by omega))) (cwV 1 hts gX1_orderByHeat_X0_callerOf rfl rfl rfl (by decide +kernel) ⟨Nat.le_of_ble_eq_true rfl, Nat.le_of_ble_eq_true rfl⟩) (pre_V hK hPc hDc (ci := 0) rfl rfl) rfl rfl hl.1 rfl (lv_room (Nat.le_of_ble_eq_true rfl)) dX1_orderByHeat_23 ⟨Nat.zero_le _, Nat.zero_le _⟩) hS (fun q _ h => hFc q h) hFc (fun r_4 uu t H1 locs ht hvm hw hB hz1 hk1 hS => ?_)
        obtain ⟨hP1, hK1, hD1⟩ := hB
        rw [ht] at hP1
        try dsimp only at hw
        have hP1 : va_P (dC, dI) vwCl [(h0, .inr (0, [.ref h1, .ref h2, .ref h3, .ref h4, .ref h5, .int (nI u)])), (h1, .inl (cI, 2000, .inl F)), (h2, .inl (cI, 2000, .inl T)), (h3, .inl (cJ, 2000, .inr (.inl C))), (h4, .inl (cJ, 300, .inr (.inl Hh))), (h5, .inl (cI, 300, .inl S))] H1 := hP1
        obtain ⟨hP, hD⟩ := va_join (wr := [(g0, .inr (1, [.ref g1, .ref g2, .ref g3, .ref g4, .ref g5, .ref g6, .ref g7, .ref g8, .int rc])), (g1, .inl (cI, 300, .inl fi)), (g2, .inl (cI, 300, .inl nx)), (g3, .inl (cI, 300, .inl la)), (g4, .inl (cI, 300, .inl le)), (g5, .inl (cJ, 300, .inr (.inl by_))), (g6, .inl (cJ, 300, .inr (.inl he))), (g7, .inl (cI, 300, .inl ((obhN fi S F he lo k).2))), (g8, .inl (cI, 300, .inl rk))]) (w1 := [(h0, .inr (0, [.ref h1, .ref h2, .ref h3, .ref h4, .ref h5, .int (nI u)])), (h1, .inl (cI, 2000, .inl F)), (h2, .inl (cI, 2000, .inl T)), (h3, .inl (cJ, 2000, .inr (.inl C))), (h4, .inl (cJ, 300, .inr (.inl Hh))), (h5, .inl (cI, 300, .inl S))]) hP hD [9, 10, 11, 12, 13, 14] [0, 1, 2, 3, 4, 5, 6, 7, 8] rfl rfl (by decide) (by decide) hk1 hFc hP1 hD1
        have hP := hP.sub (ws' := [(g0, .inr (1, [.ref g1, .ref g2, .ref g3, .ref g4, .ref g5, .ref g6, .ref g7, .ref g8, .int rc])), (g1, .inl (cI, 300, .inl fi)), (g2, .inl (cI, 300, .inl nx)), (g3, .inl (cI, 300, .inl la)), (g4, .inl (cI, 300, .inl le)), (g5, .inl (cJ, 300, .inr (.inl by_))), (g6, .inl (cJ, 300, .inr (.inl he))), (g7, .inl (cI, 300, .inl ((obhN fi S F he lo k).2))), (g8, .inl (cI, 300, .inl rk)), (h0, .inr (0, [.ref h1, .ref h2, .ref h3, .ref h4, .ref h5, .int (nI u)])), (h1, .inl (cI, 2000, .inl F)), (h2, .inl (cI, 2000, .inl T)), (h3, .inl (cJ, 2000, .inr (.inl C))), (h4, .inl (cJ, 300, .inr (.inl Hh))), (h5, .inl (cI, 300, .inl S))]) [0, 1, 2, 3, 4, 5, 6, 7, 8, 9, 10, 11, 12, 13, 14] rfl
        have hD := hD.sub (ws' := [(g0, .inr (1, [.ref g1, .ref g2, .ref g3, .ref g4, .ref g5, .ref g6, .ref g7, .ref g8, .int rc])), (g1, .inl (cI, 300, .inl fi)), (g2, .inl (cI, 300, .inl nx)), (g3, .inl (cI, 300, .inl la)), (g4, .inl (cI, 300, .inl le)), (g5, .inl (cJ, 300, .inr (.inl by_))), (g6, .inl (cJ, 300, .inr (.inl he))), (g7, .inl (cI, 300, .inl ((obhN fi S F he lo k).2))), (g8, .inl (cI, 300, .inl rk)), (h0, .inr (0, [.ref h1, .ref h2, .ref h3, .ref h4, .ref h5, .int (nI u)])), (h1, .inl (cI, 2000, .inl F)), (h2, .inl (cI, 2000, .inl T)), (h3, .inl (cJ, 2000, .inr (.inl C))), (h4, .inl (cJ, 300, .inr (.inl Hh))), (h5, .inl (cI, 300, .inl S))]) [0, 1, 2, 3, 4, 5, 6, 7, 8, 9, 10, 11, 12, 13, 14] (by decide) rfl
        generalize H1 = H at hP hS ⊢
        rw [ix_n (by omega)] at hw
        subst hw
        refine lv_iconst (v := (-1)) hx hb dX1_orderByHeat_26 (by decide) ?_
        refine lv_icmp_eq (tgt := 95) hx hb dX1_orderByHeat_27 (by decide) (fun c_5 => ?_) (fun c_5 => ?_)
        · -- pc 27, side 0
          refine lv_iinc (v := nI (k + 1)) (lv' := [(3, .int (nI (k + 1))), (0, .ref g0), (1, .ref h0), (2, .int (nI (obhN fi S F he lo k).1))]) hx hb dX1_orderByHeat_95 hl (k := 3) rfl (by exact nI_1 k) (by decide) rfl (fun ls hl => ?_)
          refine lv_goto (tgt := 4) hx hb dX1_orderByHeat_98 (by decide) ?_
          have hq : obhN fi S F he lo (k + 1) = obhN fi S F he lo k := by show obhStep fi S F he k (obhN fi S F he lo k) = _; unfold obhStep; rw [if_neg c_3, if_pos c_5]
          rw [← hq] at hP hD hl
          exact ih (k + 1) (by omega) H locs ls hP hD hS (lv_sub hl [1, 2, 3, 0] rfl)
        · -- pc 27, side 1
          refine lv_iload_n hx hb dX1_orderByHeat_30 rfl (lv_at hl 2 rfl) ?_
          refine lv_istore (lv' := [(4, .int (nI (obhN fi S F he lo k).1)), (0, .ref g0), (1, .ref h0), (2, .int (nI (obhN fi S F he lo k).1)), (3, .int (nI k))]) hx hb dX1_orderByHeat_31 hl (by decide) rfl (fun ls hl => ?_)
          have hP : va_P (dC, dI) vwCl [(g0, .inr (1, [.ref g1, .ref g2, .ref g3, .ref g4, .ref g5, .ref g6, .ref g7, .ref g8, .int rc])), (g1, .inl (cI, 300, .inl fi)), (g2, .inl (cI, 300, .inl nx)), (g3, .inl (cI, 300, .inl la)), (g4, .inl (cI, 300, .inl le)), (g5, .inl (cJ, 300, .inr (.inl by_))), (g6, .inl (cJ, 300, .inr (.inl he))), (g7, .inl (cI, 300, .inl (shf (obhN fi S F he lo k).2 (obhN fi S F he lo k).1 (obhN fi S F he lo k).1))), (g8, .inl (cI, 300, .inl rk)), (h0, .inr (0, [.ref h1, .ref h2, .ref h3, .ref h4, .ref h5, .int (nI u)])), (h1, .inl (cI, 2000, .inl F)), (h2, .inl (cI, 2000, .inl T)), (h3, .inl (cJ, 2000, .inr (.inl C))), (h4, .inl (cJ, 300, .inr (.inl Hh))), (h5, .inl (cI, 300, .inl S))] H := by rw [shf_self]; exact hP
          have hD : va_D A [(g0, .inr (1, [.ref g1, .ref g2, .ref g3, .ref g4, .ref g5, .ref g6, .ref g7, .ref g8, .int rc])), (g1, .inl (cI, 300, .inl fi)), (g2, .inl (cI, 300, .inl nx)), (g3, .inl (cI, 300, .inl la)), (g4, .inl (cI, 300, .inl le)), (g5, .inl (cJ, 300, .inr (.inl by_))), (g6, .inl (cJ, 300, .inr (.inl he))), (g7, .inl (cI, 300, .inl (shf (obhN fi S F he lo k).2 (obhN fi S F he lo k).1 (obhN fi S F he lo k).1))), (g8, .inl (cI, 300, .inl rk)), (h0, .inr (0, [.ref h1, .ref h2, .ref h3, .ref h4, .ref h5, .int (nI u)])), (h1, .inl (cI, 2000, .inl F)), (h2, .inl (cI, 2000, .inl T)), (h3, .inl (cJ, 2000, .inr (.inl C))), (h4, .inl (cJ, 300, .inr (.inl Hh))), (h5, .inl (cI, 300, .inl S))] := by rw [shf_self]; exact hD
          refine lpX1_obh_in (lo := lo) (g := (obhN fi S F he lo k).2) (cnt := (obhN fi S F he lo k).1) (k := k) hx hb hml hts hown hK hA (by omega) hin9.1 (fun j hj => obhN_vin (by omega) hj) (fun a hac hp H locs ls hP hD hS hl => ?_) ((obhN fi S F he lo k).1) (obhN fi S F he lo k).1 (rfl) (Nat.le_refl _) (rfl) H _ ls hP hD hS (lv_sub hl [1, 2, 3, 4, 0] rfl)
          · -- kn
            refine lv_aload_n hx hb dX1_orderByHeat_84 rfl (lv_at hl 0 rfl) ?_
            refine va_get (D := (dC, dI)) (ci := 1) (v := .ref g7) (C := RX1) (T := TX1) (N := 9) hx hb hts hin1 hown hK hP 0 rfl rfl 6 (by decide) (hts (.fieldLink RX1 31 "CallClusters$Clustering" "looked" "[I") (by decide +kernel)) (fun _ h9 => h9) rfl dX1_orderByHeat_85 ?_
            refine lv_iload hx hb dX1_orderByHeat_88 (lv_at hl 4 rfl) ?_
            refine lv_iload_n hx hb dX1_orderByHeat_90 rfl (lv_at hl 3 rfl) ?_
            refine va_iast hx hb hK hP hD hS 7 0 rfl rfl (inn (show a < 300 by omega) (by omega)) dX1_orderByHeat_91 (fun H locs hP hD hS => ?_)
            have hf91 : upd (shf (obhN fi S F he lo k).2 a (obhN fi S F he lo k).1) ((nI a).toNatClampNeg) (nI k) = insF (obhN fi S F he lo k).2 a (obhN fi S F he lo k).1 (nI k) := by rw [ix_n (by omega)]; rfl
            have hP : va_P (dC, dI) vwCl [(g0, .inr (1, [.ref g1, .ref g2, .ref g3, .ref g4, .ref g5, .ref g6, .ref g7, .ref g8, .int rc])), (g1, .inl (cI, 300, .inl fi)), (g2, .inl (cI, 300, .inl nx)), (g3, .inl (cI, 300, .inl la)), (g4, .inl (cI, 300, .inl le)), (g5, .inl (cJ, 300, .inr (.inl by_))), (g6, .inl (cJ, 300, .inr (.inl he))), (g7, .inl (cI, 300, .inl (upd (shf (obhN fi S F he lo k).2 a (obhN fi S F he lo k).1) ((nI a).toNatClampNeg) (nI k)))), (g8, .inl (cI, 300, .inl rk)), (h0, .inr (0, [.ref h1, .ref h2, .ref h3, .ref h4, .ref h5, .int (nI u)])), (h1, .inl (cI, 2000, .inl F)), (h2, .inl (cI, 2000, .inl T)), (h3, .inl (cJ, 2000, .inr (.inl C))), (h4, .inl (cJ, 300, .inr (.inl Hh))), (h5, .inl (cI, 300, .inl S))] H := hP
            have hD : va_D A [(g0, .inr (1, [.ref g1, .ref g2, .ref g3, .ref g4, .ref g5, .ref g6, .ref g7, .ref g8, .int rc])), (g1, .inl (cI, 300, .inl fi)), (g2, .inl (cI, 300, .inl nx)), (g3, .inl (cI, 300, .inl la)), (g4, .inl (cI, 300, .inl le)), (g5, .inl (cJ, 300, .inr (.inl by_))), (g6, .inl (cJ, 300, .inr (.inl he))), (g7, .inl (cI, 300, .inl (upd (shf (obhN fi S F he lo k).2 a (obhN fi S F he lo k).1) ((nI a).toNatClampNeg) (nI k)))), (g8, .inl (cI, 300, .inl rk)), (h0, .inr (0, [.ref h1, .ref h2, .ref h3, .ref h4, .ref h5, .int (nI u)])), (h1, .inl (cI, 2000, .inl F)), (h2, .inl (cI, 2000, .inl T)), (h3, .inl (cJ, 2000, .inr (.inl C))), (h4, .inl (cJ, 300, .inr (.inl Hh))), (h5, .inl (cI, 300, .inl S))] := hD
            rw [hf91] at hP hD
            refine lv_iinc (v := nI ((obhN fi S F he lo k).1 + 1)) (lv' := [(2, .int (nI ((obhN fi S F he lo k).1 + 1))), (0, .ref g0), (1, .ref h0), (3, .int (nI k)), (4, .int (nI a))]) hx hb dX1_orderByHeat_92 hl (k := 2) rfl (by exact nI_1 _) (by decide) rfl (fun ls hl => ?_)
            refine lv_iinc (v := nI (k + 1)) (lv' := [(3, .int (nI (k + 1))), (2, .int (nI ((obhN fi S F he lo k).1 + 1))), (0, .ref g0), (1, .ref h0), (4, .int (nI a))]) hx hb dX1_orderByHeat_95 hl (k := 3) rfl (by exact nI_1 k) (by decide) rfl (fun ls hl => ?_)
            refine lv_goto (tgt := 4) hx hb dX1_orderByHeat_98 (by decide) ?_
            have hq : obhN fi S F he lo (k + 1) = ((obhN fi S F he lo k).1 + 1, insF (obhN fi S F he lo k).2 a (obhN fi S F he lo k).1 (nI k)) := by show obhStep fi S F he k (obhN fi S F he lo k) = _; unfold obhStep; rw [if_neg c_3, if_neg c_5, hp]
            have hq1 : (obhN fi S F he lo k).1 + 1 = (obhN fi S F he lo (k + 1)).1 := by rw [hq]
            have hq2 : insF (obhN fi S F he lo k).2 a (obhN fi S F he lo k).1 (nI k) = (obhN fi S F he lo (k + 1)).2 := by rw [hq]
            rw [hq2] at hP hD
            rw [hq1] at hl
            exact ih (k + 1) (by omega) H locs ls hP hD hS (lv_sub hl [2, 3, 1, 0] rfl)
set_option maxHeartbeats 4000000 in
set_option maxRecDepth 100000 in
theorem ct_X1_orderByHeat (l : Launch) (dC : Nat → ClassId) (dI : Nat → Nat → Nat) (cI cJ cZ : ClassId) (sz : Nat) (g0 : Nat) (g1 : Nat) (g2 : Nat) (g3 : Nat) (g4 : Nat) (g5 : Nat) (g6 : Nat) (g7 : Nat) (g8 : Nat) (h0 : Nat) (h1 : Nat) (h2 : Nat) (h3 : Nat) (h4 : Nat) (h5 : Nat) (fi nx la le : Nat → Int32) (by_ he : Nat → Int64) (lo rk : Nat → Int32) (rc : Int32) (F T : Nat → Int32) (C Hh : Nat → Int64) (S : Nat → Int32) (u : Nat) (hs : ∀ j, j < 300 → S j = -1 ∨ vp_in (S j) 2000) : Met l yX1_orderByHeat wsX1_orderByHeat ({ frames := 1, cells := 0, slots := 0, locals := 21 }) (va_Pc [.ref g0, .ref h0] (fun U => U.heap.size = sz ∧ va_P (dC, dI) vwCl [(g0, .inr (1, [.ref g1, .ref g2, .ref g3, .ref g4, .ref g5, .ref g6, .ref g7, .ref g8, .int rc])), (g1, .inl (cI, 300, .inl fi)), (g2, .inl (cI, 300, .inl nx)), (g3, .inl (cI, 300, .inl la)), (g4, .inl (cI, 300, .inl le)), (g5, .inl (cJ, 300, .inr (.inl by_))), (g6, .inl (cJ, 300, .inr (.inl he))), (g7, .inl (cI, 300, .inl lo)), (g8, .inl (cI, 300, .inl rk)), (h0, .inr (0, [.ref h1, .ref h2, .ref h3, .ref h4, .ref h5, .int (nI u)])), (h1, .inl (cI, 2000, .inl F)), (h2, .inl (cI, 2000, .inl T)), (h3, .inl (cJ, 2000, .inr (.inl C))), (h4, .inl (cJ, 300, .inr (.inl Hh))), (h5, .inl (cI, 300, .inl S))] U.heap ∧ va_K (dC, dI) vwCl [(cI, .int), (cJ, .long), (cZ, .boolean)] U ∧ va_D (fun _ => True) [(g0, .inr (1, [.ref g1, .ref g2, .ref g3, .ref g4, .ref g5, .ref g6, .ref g7, .ref g8, .int rc])), (g1, .inl (cI, 300, .inl fi)), (g2, .inl (cI, 300, .inl nx)), (g3, .inl (cI, 300, .inl la)), (g4, .inl (cI, 300, .inl le)), (g5, .inl (cJ, 300, .inr (.inl by_))), (g6, .inl (cJ, 300, .inr (.inl he))), (g7, .inl (cI, 300, .inl lo)), (g8, .inl (cI, 300, .inl rk)), (h0, .inr (0, [.ref h1, .ref h2, .ref h3, .ref h4, .ref h5, .int (nI u)])), (h1, .inl (cI, 2000, .inl F)), (h2, .inl (cI, 2000, .inl T)), (h3, .inl (cJ, 2000, .inr (.inl C))), (h4, .inl (cJ, 300, .inr (.inl Hh))), (h5, .inl (cI, 300, .inl S))])) (va_Qi (fun (r : Int32) (uu : Unit) => r = nI (obhN fi S F he lo 300).1) (fun (uu : Unit) (t : State) => va_P (dC, dI) vwCl [(g0, .inr (1, [.ref g1, .ref g2, .ref g3, .ref g4, .ref g5, .ref g6, .ref g7, .ref g8, .int rc])), (g1, .inl (cI, 300, .inl fi)), (g2, .inl (cI, 300, .inl nx)), (g3, .inl (cI, 300, .inl la)), (g4, .inl (cI, 300, .inl le)), (g5, .inl (cJ, 300, .inr (.inl by_))), (g6, .inl (cJ, 300, .inr (.inl he))), (g7, .inl (cI, 300, .inl ((obhN fi S F he lo 300).2))), (g8, .inl (cI, 300, .inl rk)), (h0, .inr (0, [.ref h1, .ref h2, .ref h3, .ref h4, .ref h5, .int (nI u)])), (h1, .inl (cI, 2000, .inl F)), (h2, .inl (cI, 2000, .inl T)), (h3, .inl (cJ, 2000, .inr (.inl C))), (h4, .inl (cJ, 300, .inr (.inl Hh))), (h5, .inl (cI, 300, .inl S))] t.heap ∧ va_K (dC, dI) vwCl [(cI, .int), (cJ, .long), (cZ, .boolean)] t ∧ va_D (va_A [(g0, .inr (1, [.ref g1, .ref g2, .ref g3, .ref g4, .ref g5, .ref g6, .ref g7, .ref g8, .int rc])), (g1, .inl (cI, 300, .inl fi)), (g2, .inl (cI, 300, .inl nx)), (g3, .inl (cI, 300, .inl la)), (g4, .inl (cI, 300, .inl le)), (g5, .inl (cJ, 300, .inr (.inl by_))), (g6, .inl (cJ, 300, .inr (.inl he))), (g7, .inl (cI, 300, .inl lo)), (g8, .inl (cI, 300, .inl rk)), (h0, .inr (0, [.ref h1, .ref h2, .ref h3, .ref h4, .ref h5, .int (nI u)])), (h1, .inl (cI, 2000, .inl F)), (h2, .inl (cI, 2000, .inl T)), (h3, .inl (cJ, 2000, .inr (.inl C))), (h4, .inl (cJ, 300, .inr (.inl Hh))), (h5, .inl (cI, 300, .inl S))] sz) [(g0, .inr (1, [.ref g1, .ref g2, .ref g3, .ref g4, .ref g5, .ref g6, .ref g7, .ref g8, .int rc])), (g1, .inl (cI, 300, .inl fi)), (g2, .inl (cI, 300, .inl nx)), (g3, .inl (cI, 300, .inl la)), (g4, .inl (cI, 300, .inl le)), (g5, .inl (cJ, 300, .inr (.inl by_))), (g6, .inl (cJ, 300, .inr (.inl he))), (g7, .inl (cI, 300, .inl ((obhN fi S F he lo 300).2))), (g8, .inl (cI, 300, .inl rk)), (h0, .inr (0, [.ref h1, .ref h2, .ref h3, .ref h4, .ref h5, .int (nI u)])), (h1, .inl (cI, 2000, .inl F)), (h2, .inl (cI, 2000, .inl T)), (h3, .inl (cJ, 2000, .inr (.inl C))), (h4, .inl (cJ, 300, .inr (.inl Hh))), (h5, .inl (cI, 300, .inl S))]) (va_A [(g0, .inr (1, [.ref g1, .ref g2, .ref g3, .ref g4, .ref g5, .ref g6, .ref g7, .ref g8, .int rc])), (g1, .inl (cI, 300, .inl fi)), (g2, .inl (cI, 300, .inl nx)), (g3, .inl (cI, 300, .inl la)), (g4, .inl (cI, 300, .inl le)), (g5, .inl (cJ, 300, .inr (.inl by_))), (g6, .inl (cJ, 300, .inr (.inl he))), (g7, .inl (cI, 300, .inl lo)), (g8, .inl (cI, 300, .inl rk)), (h0, .inr (0, [.ref h1, .ref h2, .ref h3, .ref h4, .ref h5, .int (nI u)])), (h1, .inl (cI, 2000, .inl F)), (h2, .inl (cI, 2000, .inl T)), (h3, .inl (cJ, 2000, .inr (.inl C))), (h4, .inl (cJ, 300, .inr (.inl Hh))), (h5, .inl (cI, 300, .inl S))] sz)) 0 0 (va_A [(g0, .inr (1, [.ref g1, .ref g2, .ref g3, .ref g4, .ref g5, .ref g6, .ref g7, .ref g8, .int rc])), (g1, .inl (cI, 300, .inl fi)), (g2, .inl (cI, 300, .inl nx)), (g3, .inl (cI, 300, .inl la)), (g4, .inl (cI, 300, .inl le)), (g5, .inl (cJ, 300, .inr (.inl by_))), (g6, .inl (cJ, 300, .inr (.inl he))), (g7, .inl (cI, 300, .inl lo)), (g8, .inl (cI, 300, .inl rk)), (h0, .inr (0, [.ref h1, .ref h2, .ref h3, .ref h4, .ref h5, .int (nI u)])), (h1, .inl (cI, 2000, .inl F)), (h2, .inl (cI, 2000, .inl T)), (h3, .inl (cJ, 2000, .inr (.inl C))), (h4, .inl (cJ, 300, .inr (.inl Hh))), (h5, .inl (cI, 300, .inl S))] sz) := by
  refine Met.ofW (cc := cX1_orderByHeat) (maxL := 5) (ret := (some .int)) (by decide) rfl ?_
  intro p ev s m args below meth c s₁ Bd hml hv
  obtain ⟨rfl, hsz, hP, hK, hD0⟩ := hv
  have hx := Bd.exec
  have hb := Bd.bytes
  have hr := Bd.returns
  have hts := atoms_spec (ws := wsX1_orderByHeat) Bd.pre
  have hown : s.vm.findClass RX1 = some m.cls := findClass_of_methodNamed Bd.named
  have hlocks := Bd.notSynchronized
  have hin1 : ∀ w ∈ wsX10, w ∈ wsX1_orderByHeat := by decide +kernel
  subst hsz
  have hD := hD0.self (sz := s.heap.size)
  generalize hAe : va_A [(g0, .inr (1, [.ref g1, .ref g2, .ref g3, .ref g4, .ref g5, .ref g6, .ref g7, .ref g8, .int rc])), (g1, .inl (cI, 300, .inl fi)), (g2, .inl (cI, 300, .inl nx)), (g3, .inl (cI, 300, .inl la)), (g4, .inl (cI, 300, .inl le)), (g5, .inl (cJ, 300, .inr (.inl by_))), (g6, .inl (cJ, 300, .inr (.inl he))), (g7, .inl (cI, 300, .inl lo)), (g8, .inl (cI, 300, .inl rk)), (h0, .inr (0, [.ref h1, .ref h2, .ref h3, .ref h4, .ref h5, .int (nI u)])), (h1, .inl (cI, 2000, .inl F)), (h2, .inl (cI, 2000, .inl T)), (h3, .inl (cJ, 2000, .inr (.inl C))), (h4, .inl (cJ, 300, .inr (.inl Hh))), (h5, .inl (cI, 300, .inl S))] s.heap.size = A at hD ⊢
  have hA : ∀ q : Nat, s.heap.size ≤ q → A q := fun q h => by rw [← hAe]; exact Or.inr h
  have hS : va_S A s.heap s.heap [] := va_S.rf
  have hl := lv_entry ([.ref g0, .ref h0]) (n := 5) (Nat.le_of_ble_eq_true rfl)
  rw [lg_entry_eq]
  generalize (lg_sl ([.ref g0, .ref h0]) ++ List.replicate (5 - (lg_sl ([.ref g0, .ref h0])).length) Slot.unset).toArray = ls at hl ⊢
  have hl : lv_has ls 5 [(0, .ref g0), (1, .ref h0)] := hl
  generalize hHe : s.heap = H at hP ⊢
  have hS : va_S A s.heap H [] := hHe ▸ hS
  refine lv_iconst (v := 0) hx hb dX1_orderByHeat_0 (by decide) ?_
  refine tp_i (y := nI (obhN fi S F he lo 0).1) (nI_0.symm) ?_
  refine lv_istore_n (lv' := [(2, .int (nI (obhN fi S F he lo 0).1)), (0, .ref g0), (1, .ref h0)]) hx hb dX1_orderByHeat_1 rfl hl (by decide) rfl (fun ls hl => ?_)
  refine lv_iconst (v := 0) hx hb dX1_orderByHeat_2 (by decide) ?_
  refine tp_i (y := nI 0) (nI_0.symm) ?_
  refine lv_istore_n (lv' := [(3, .int (nI 0)), (2, .int (nI (obhN fi S F he lo 0).1)), (0, .ref g0), (1, .ref h0)]) hx hb dX1_orderByHeat_3 rfl hl (by decide) rfl (fun ls hl => ?_)
  have hP : va_P (dC, dI) vwCl [(g0, .inr (1, [.ref g1, .ref g2, .ref g3, .ref g4, .ref g5, .ref g6, .ref g7, .ref g8, .int rc])), (g1, .inl (cI, 300, .inl fi)), (g2, .inl (cI, 300, .inl nx)), (g3, .inl (cI, 300, .inl la)), (g4, .inl (cI, 300, .inl le)), (g5, .inl (cJ, 300, .inr (.inl by_))), (g6, .inl (cJ, 300, .inr (.inl he))), (g7, .inl (cI, 300, .inl ((obhN fi S F he lo 0).2))), (g8, .inl (cI, 300, .inl rk)), (h0, .inr (0, [.ref h1, .ref h2, .ref h3, .ref h4, .ref h5, .int (nI u)])), (h1, .inl (cI, 2000, .inl F)), (h2, .inl (cI, 2000, .inl T)), (h3, .inl (cJ, 2000, .inr (.inl C))), (h4, .inl (cJ, 300, .inr (.inl Hh))), (h5, .inl (cI, 300, .inl S))] H := hP
  have hD : va_D A [(g0, .inr (1, [.ref g1, .ref g2, .ref g3, .ref g4, .ref g5, .ref g6, .ref g7, .ref g8, .int rc])), (g1, .inl (cI, 300, .inl fi)), (g2, .inl (cI, 300, .inl nx)), (g3, .inl (cI, 300, .inl la)), (g4, .inl (cI, 300, .inl le)), (g5, .inl (cJ, 300, .inr (.inl by_))), (g6, .inl (cJ, 300, .inr (.inl he))), (g7, .inl (cI, 300, .inl ((obhN fi S F he lo 0).2))), (g8, .inl (cI, 300, .inl rk)), (h0, .inr (0, [.ref h1, .ref h2, .ref h3, .ref h4, .ref h5, .int (nI u)])), (h1, .inl (cI, 2000, .inl F)), (h2, .inl (cI, 2000, .inl T)), (h3, .inl (cJ, 2000, .inr (.inl C))), (h4, .inl (cJ, 300, .inr (.inl Hh))), (h5, .inl (cI, 300, .inl S))] := hD
  refine lpX1_obh (fi := fi) (S := S) (F := F) (he := he) (lo := lo) hx hb hml hts hown hK hA hs (fun  H locs ls hP hD hS hl => ?_) (300) 0 (by omega) H _ ls hP hD hS (lv_sub hl [2, 3, 1, 0] rfl)
  · -- kn
    refine lv_iload_n hx hb dX1_orderByHeat_101 rfl (lv_at hl 2 rfl) ?_
    have hP9 : va_P (dC, dI) vwCl [(g0, .inr (1, [.ref g1, .ref g2, .ref g3, .ref g4, .ref g5, .ref g6, .ref g7, .ref g8, .int rc])), (g1, .inl (cI, 300, .inl fi)), (g2, .inl (cI, 300, .inl nx)), (g3, .inl (cI, 300, .inl la)), (g4, .inl (cI, 300, .inl le)), (g5, .inl (cJ, 300, .inr (.inl by_))), (g6, .inl (cJ, 300, .inr (.inl he))), (g7, .inl (cI, 300, .inl ((obhN fi S F he lo 300).2))), (g8, .inl (cI, 300, .inl rk)), (h0, .inr (0, [.ref h1, .ref h2, .ref h3, .ref h4, .ref h5, .int (nI u)])), (h1, .inl (cI, 2000, .inl F)), (h2, .inl (cI, 2000, .inl T)), (h3, .inl (cJ, 2000, .inr (.inl C))), (h4, .inl (cJ, 300, .inr (.inl Hh))), (h5, .inl (cI, 300, .inl S))] H := hP
    have hD9 : va_D A [(g0, .inr (1, [.ref g1, .ref g2, .ref g3, .ref g4, .ref g5, .ref g6, .ref g7, .ref g8, .int rc])), (g1, .inl (cI, 300, .inl fi)), (g2, .inl (cI, 300, .inl nx)), (g3, .inl (cI, 300, .inl la)), (g4, .inl (cI, 300, .inl le)), (g5, .inl (cJ, 300, .inr (.inl by_))), (g6, .inl (cJ, 300, .inr (.inl he))), (g7, .inl (cI, 300, .inl ((obhN fi S F he lo 300).2))), (g8, .inl (cI, 300, .inl rk)), (h0, .inr (0, [.ref h1, .ref h2, .ref h3, .ref h4, .ref h5, .int (nI u)])), (h1, .inl (cI, 2000, .inl F)), (h2, .inl (cI, 2000, .inl T)), (h3, .inl (cJ, 2000, .inr (.inl C))), (h4, .inl (cJ, 300, .inr (.inl Hh))), (h5, .inl (cI, 300, .inl S))] := hD
    exact W.iret (v := nI (obhN fi S F he lo 300).1) hx hb hr (fun t ht hW => ⟨⟨nI (obhN fi S F he lo 300).1, (), rfl, rfl, by rw [ht]; exact hP9, va_K.moved hW.alike hK, hD9⟩, hS.F ht⟩) hS.2.2 dX1_orderByHeat_102
end
section
set_option maxHeartbeats 4000000 in
set_option maxRecDepth 100000 in
theorem lpX1_join {p : Program} {l : Launch} {ev : Env} {s : State} {m : MethodId} {args : Array Value} {below : List Frame} {meth : Method} {c : Code} {Q : State → Prop} {A : Nat → Prop} {dC : Nat → ClassId} {dI : Nat → Nat → Nat} {cI cJ cZ : ClassId} {R : Room} {cells slots : Nat} (hx : p.tables.exec = Jvm.exec) (hb : c.code = cX1_join) (hml : c.maxLocals = 5) (hts : ∀ w ∈ wsX1_join, w.before args s = true) (hown : s.vm.findClass RX1 = some m.cls) (hK : va_K (dC, dI) vwCl [(cI, .int), (cJ, .long), (cZ, .boolean)] s) (hA : ∀ q : Nat, s.heap.size ≤ q → A q) {g0 : Nat} {g1 : Nat} {g2 : Nat} {g3 : Nat} {g4 : Nat} {g5 : Nat} {g6 : Nat} {g7 : Nat} {g8 : Nat} {nx la le : Nat → Int32} {by_ he : Nat → Int64} {lo rk : Nat → Int32} {rc : Int32} {a b : Nat} {G : Nat → Int32}   (kn : ∀ (H : Heap) (locs : List Loc) (ls : Array Slot), va_P (dC, dI) vwCl [(g0, .inr (1, [.ref g1, .ref g2, .ref g3, .ref g4, .ref g5, .ref g6, .ref g7, .ref g8, .int rc])), (g1, .inl (cI, 300, .inl G)), (g2, .inl (cI, 300, .inl nx)), (g3, .inl (cI, 300, .inl la)), (g4, .inl (cI, 300, .inl le)), (g5, .inl (cJ, 300, .inr (.inl by_))), (g6, .inl (cJ, 300, .inr (.inl he))), (g7, .inl (cI, 300, .inl lo)), (g8, .inl (cI, 300, .inl rk))] H → va_D A [(g0, .inr (1, [.ref g1, .ref g2, .ref g3, .ref g4, .ref g5, .ref g6, .ref g7, .ref g8, .int rc])), (g1, .inl (cI, 300, .inl G)), (g2, .inl (cI, 300, .inl nx)), (g3, .inl (cI, 300, .inl la)), (g4, .inl (cI, 300, .inl le)), (g5, .inl (cJ, 300, .inr (.inl by_))), (g6, .inl (cJ, 300, .inr (.inl he))), (g7, .inl (cI, 300, .inl lo)), (g8, .inl (cI, 300, .inl rk))] → va_S A s.heap H locs → lv_has ls 5 [(0, .ref g0), (1, .int (nI a)), (2, .int (nI b))] → W p l ev R s m args below meth c H locs cells slots Q (F0 m 38 ls [])) : ∀ (n : Nat) (q : List Nat) (f : Int32) (k : Nat) (fi : Nat → Int32), q.length = n → k + q.length ≤ 300 → Chain nx q f → (∀ x, x ∈ q → x < 300) → rlab q (nI a) fi = G → ∀ (H : Heap) (locs : List Loc) (ls : Array Slot), va_P (dC, dI) vwCl [(g0, .inr (1, [.ref g1, .ref g2, .ref g3, .ref g4, .ref g5, .ref g6, .ref g7, .ref g8, .int rc])), (g1, .inl (cI, 300, .inl fi)), (g2, .inl (cI, 300, .inl nx)), (g3, .inl (cI, 300, .inl la)), (g4, .inl (cI, 300, .inl le)), (g5, .inl (cJ, 300, .inr (.inl by_))), (g6, .inl (cJ, 300, .inr (.inl he))), (g7, .inl (cI, 300, .inl lo)), (g8, .inl (cI, 300, .inl rk))] H → va_D A [(g0, .inr (1, [.ref g1, .ref g2, .ref g3, .ref g4, .ref g5, .ref g6, .ref g7, .ref g8, .int rc])), (g1, .inl (cI, 300, .inl fi)), (g2, .inl (cI, 300, .inl nx)), (g3, .inl (cI, 300, .inl la)), (g4, .inl (cI, 300, .inl le)), (g5, .inl (cJ, 300, .inr (.inl by_))), (g6, .inl (cJ, 300, .inr (.inl he))), (g7, .inl (cI, 300, .inl lo)), (g8, .inl (cI, 300, .inl rk))] → va_S A s.heap H locs → lv_has ls 5 [(0, .ref g0), (1, .int (nI a)), (2, .int (nI b)), (3, .int f), (4, .int (nI k))] → W p l ev R s m args below meth c H locs cells slots Q (F0 m 5 ls []) := by
  have hin1 : ∀ w ∈ wsX10, w ∈ wsX1_join := by decide +kernel
  intro n
  induction n with
  | zero =>
    intro q f k fi hn hk hc hm hG H locs ls hP hD hS hl
    have hq : q = [] := List.length_eq_zero_iff.mp hn
    subst hq
    have hf : f = -1 := hc
    subst hf
    rw [rlab_nil] at hG
    subst hG
    refine lv_iload hx hb dX1_join_5 (lv_at hl 4 rfl) ?_
    refine lv_sipush (v := 300) hx hb dX1_join_7 (by decide) ?_
    refine lv_icmp_ge (tgt := 38) hx hb dX1_join_10 (by decide) (fun c_1 => ?_) (fun c_1 => ?_)
    · -- pc 10, side 0
      exact kn   H locs ls hP hD hS (lv_sub hl [0, 1, 2] rfl)
    · -- pc 10, side 1
      refine lv_iload_n hx hb dX1_join_13 rfl (lv_at hl 3 rfl) ?_
      refine lv_iconst (v := (-1)) hx hb dX1_join_14 (by decide) ?_
      refine lv_icmp_eq (tgt := 38) hx hb dX1_join_15 (by decide) (fun c_2 => ?_) (fun c_2 => ?_)
      · -- pc 15, side 0
        exact kn   H locs ls hP hD hS (lv_sub hl [0, 1, 2] rfl)
      · -- pc 15, side 1
        exact absurd rfl c_2
  | succ n ih =>
    intro q f k fi hn hk hc hm hG H locs ls hP hD hS hl
    obtain ⟨x, q, rfl⟩ : ∃ x q', q = x :: q' := by cases q with | nil => cases hn | cons x q => exact ⟨x, q, rfl⟩
    obtain ⟨hf, hc⟩ := hc
    subst hf
    have hx9 : x < 300 := hm x List.mem_cons_self
    rw [List.length_cons] at hn hk
    refine lv_iload hx hb dX1_join_5 (lv_at hl 4 rfl) ?_
    refine lv_sipush (v := 300) hx hb dX1_join_7 (by decide) ?_
    refine lv_icmp_ge (tgt := 38) hx hb dX1_join_10 (by decide) (fun c_3 => ?_) (fun c_3 => ?_)
    · -- pc 10, side 0
      exact absurd (show nI 300 ≤ nI k from c_3) (nI_ge (show k < 300 by omega) (by omega))
    · -- pc 10, side 1
      refine lv_iload_n hx hb dX1_join_13 rfl (lv_at hl 3 rfl) ?_
      refine lv_iconst (v := (-1)) hx hb dX1_join_14 (by decide) ?_
      refine lv_icmp_eq (tgt := 38) hx hb dX1_join_15 (by decide) (fun c_4 => ?_) (fun c_4 => ?_)
      · -- pc 15, side 0
        exact absurd c_4 (nI_m1 (by omega))
      · -- pc 15, side 1
        refine lv_aload_n hx hb dX1_join_18 rfl (lv_at hl 0 rfl) ?_
        refine va_get (D := (dC, dI)) (ci := 1) (v := .ref g1) (C := RX1) (T := TX1) (N := 9) hx hb hts hin1 hown hK hP 0 rfl rfl 0 (by decide) (hts (.fieldLink RX1 9 "CallClusters$Clustering" "first" "[I") (by decide +kernel)) (fun _ h9 => h9) rfl dX1_join_19 ?_
        refine lv_iload_n hx hb dX1_join_22 rfl (lv_at hl 3 rfl) ?_
        refine lv_iload_n hx hb dX1_join_23 rfl (lv_at hl 1 rfl) ?_
        refine va_iast hx hb hK hP hD hS 1 0 rfl rfl (inn hx9 (by omega)) dX1_join_24 (fun H locs hP hD hS => ?_)
        have hf24 : upd fi ((nI x).toNatClampNeg) (nI a) = upd fi x (nI a) := by rw [ix_n (by omega)]
        have hP : va_P (dC, dI) vwCl [(g0, .inr (1, [.ref g1, .ref g2, .ref g3, .ref g4, .ref g5, .ref g6, .ref g7, .ref g8, .int rc])), (g1, .inl (cI, 300, .inl (upd fi ((nI x).toNatClampNeg) (nI a)))), (g2, .inl (cI, 300, .inl nx)), (g3, .inl (cI, 300, .inl la)), (g4, .inl (cI, 300, .inl le)), (g5, .inl (cJ, 300, .inr (.inl by_))), (g6, .inl (cJ, 300, .inr (.inl he))), (g7, .inl (cI, 300, .inl lo)), (g8, .inl (cI, 300, .inl rk))] H := hP
        have hD : va_D A [(g0, .inr (1, [.ref g1, .ref g2, .ref g3, .ref g4, .ref g5, .ref g6, .ref g7, .ref g8, .int rc])), (g1, .inl (cI, 300, .inl (upd fi ((nI x).toNatClampNeg) (nI a)))), (g2, .inl (cI, 300, .inl nx)), (g3, .inl (cI, 300, .inl la)), (g4, .inl (cI, 300, .inl le)), (g5, .inl (cJ, 300, .inr (.inl by_))), (g6, .inl (cJ, 300, .inr (.inl he))), (g7, .inl (cI, 300, .inl lo)), (g8, .inl (cI, 300, .inl rk))] := hD
        rw [hf24] at hP hD
        refine lv_aload_n hx hb dX1_join_25 rfl (lv_at hl 0 rfl) ?_
        refine va_get (D := (dC, dI)) (ci := 1) (v := .ref g2) (C := RX1) (T := TX1) (N := 9) hx hb hts hin1 hown hK hP 0 rfl rfl 1 (by decide) (hts (.fieldLink RX1 15 "CallClusters$Clustering" "next" "[I") (by decide +kernel)) (fun _ h9 => h9) rfl dX1_join_26 ?_
        refine lv_iload_n hx hb dX1_join_29 rfl (lv_at hl 3 rfl) ?_
        refine va_iald hx hb hK hP 2 0 rfl rfl (inn hx9 (by omega)) dX1_join_30 ?_
        refine tp_i (y := nx x) (by rw [ix_n (by omega)]) ?_
        refine lv_istore_n (lv' := [(3, .int (nx x)), (0, .ref g0), (1, .int (nI a)), (2, .int (nI b)), (4, .int (nI k))]) hx hb dX1_join_31 rfl hl (by decide) rfl (fun ls hl => ?_)
        refine lv_iinc (v := nI (k + 1)) (lv' := [(4, .int (nI (k + 1))), (3, .int (nx x)), (0, .ref g0), (1, .int (nI a)), (2, .int (nI b))]) hx hb dX1_join_32 hl (k := 4) rfl (by exact nI_1 k) (by decide) rfl (fun ls hl => ?_)
        refine lv_goto (tgt := 5) hx hb dX1_join_35 (by decide) ?_
        exact ih q (nx x) (k + 1) (upd fi x (nI a)) (by omega) (by omega) (hc) (fun y hy => hm y (List.mem_cons_of_mem _ hy)) (by rw [rlab_cons]; exact hG) H locs ls hP hD hS (lv_sub hl [2, 3, 4, 1, 0] rfl)
set_option maxHeartbeats 4000000 in
set_option maxRecDepth 100000 in
theorem ct_X1_join (l : Launch) (dC : Nat → ClassId) (dI : Nat → Nat → Nat) (cI cJ cZ : ClassId) (sz : Nat) (g0 : Nat) (g1 : Nat) (g2 : Nat) (g3 : Nat) (g4 : Nat) (g5 : Nat) (g6 : Nat) (g7 : Nat) (g8 : Nat) (fi nx la le : Nat → Int32) (by_ he : Nat → Int64) (lo rk : Nat → Int32) (rc : Int32) (a b : Nat) (q : List Nat) (ha : a < 300) (hb9 : b < 300) (hq : q.length ≤ 300) (hc : Chain nx q (nI b)) (hm : ∀ x, x ∈ q → x < 300) (hla : vp_in (la a) 300) : Met l yX1_join wsX1_join ({ frames := 1, cells := 0, slots := 0, locals := 15 }) (va_Pc [.ref g0, .int (nI a), .int (nI b)] (fun U => U.heap.size = sz ∧ va_P (dC, dI) vwCl [(g0, .inr (1, [.ref g1, .ref g2, .ref g3, .ref g4, .ref g5, .ref g6, .ref g7, .ref g8, .int rc])), (g1, .inl (cI, 300, .inl fi)), (g2, .inl (cI, 300, .inl nx)), (g3, .inl (cI, 300, .inl la)), (g4, .inl (cI, 300, .inl le)), (g5, .inl (cJ, 300, .inr (.inl by_))), (g6, .inl (cJ, 300, .inr (.inl he))), (g7, .inl (cI, 300, .inl lo)), (g8, .inl (cI, 300, .inl rk))] U.heap ∧ va_K (dC, dI) vwCl [(cI, .int), (cJ, .long), (cZ, .boolean)] U ∧ va_D (fun _ => True) [(g0, .inr (1, [.ref g1, .ref g2, .ref g3, .ref g4, .ref g5, .ref g6, .ref g7, .ref g8, .int rc])), (g1, .inl (cI, 300, .inl fi)), (g2, .inl (cI, 300, .inl nx)), (g3, .inl (cI, 300, .inl la)), (g4, .inl (cI, 300, .inl le)), (g5, .inl (cJ, 300, .inr (.inl by_))), (g6, .inl (cJ, 300, .inr (.inl he))), (g7, .inl (cI, 300, .inl lo)), (g8, .inl (cI, 300, .inl rk))])) (va_Qv (fun (uu : Unit) => True) (fun (uu : Unit) (t : State) => va_P (dC, dI) vwCl [(g0, .inr (1, [.ref g1, .ref g2, .ref g3, .ref g4, .ref g5, .ref g6, .ref g7, .ref g8, .int rc])), (g1, .inl (cI, 300, .inl (rlab q (nI a) fi))), (g2, .inl (cI, 300, .inl (upd nx ((la a).toNatClampNeg) (nI b)))), (g3, .inl (cI, 300, .inl (upd la a (la b)))), (g4, .inl (cI, 300, .inl (upd le a (if le b < le a then le b else le a)))), (g5, .inl (cJ, 300, .inr (.inl (vp_updL by_ a (by_ a + by_ b))))), (g6, .inl (cJ, 300, .inr (.inl (vp_updL he a (he a + he b))))), (g7, .inl (cI, 300, .inl lo)), (g8, .inl (cI, 300, .inl rk))] t.heap ∧ va_K (dC, dI) vwCl [(cI, .int), (cJ, .long), (cZ, .boolean)] t ∧ va_D (va_A [(g0, .inr (1, [.ref g1, .ref g2, .ref g3, .ref g4, .ref g5, .ref g6, .ref g7, .ref g8, .int rc])), (g1, .inl (cI, 300, .inl fi)), (g2, .inl (cI, 300, .inl nx)), (g3, .inl (cI, 300, .inl la)), (g4, .inl (cI, 300, .inl le)), (g5, .inl (cJ, 300, .inr (.inl by_))), (g6, .inl (cJ, 300, .inr (.inl he))), (g7, .inl (cI, 300, .inl lo)), (g8, .inl (cI, 300, .inl rk))] sz) [(g0, .inr (1, [.ref g1, .ref g2, .ref g3, .ref g4, .ref g5, .ref g6, .ref g7, .ref g8, .int rc])), (g1, .inl (cI, 300, .inl (rlab q (nI a) fi))), (g2, .inl (cI, 300, .inl (upd nx ((la a).toNatClampNeg) (nI b)))), (g3, .inl (cI, 300, .inl (upd la a (la b)))), (g4, .inl (cI, 300, .inl (upd le a (if le b < le a then le b else le a)))), (g5, .inl (cJ, 300, .inr (.inl (vp_updL by_ a (by_ a + by_ b))))), (g6, .inl (cJ, 300, .inr (.inl (vp_updL he a (he a + he b))))), (g7, .inl (cI, 300, .inl lo)), (g8, .inl (cI, 300, .inl rk))]) (va_A [(g0, .inr (1, [.ref g1, .ref g2, .ref g3, .ref g4, .ref g5, .ref g6, .ref g7, .ref g8, .int rc])), (g1, .inl (cI, 300, .inl fi)), (g2, .inl (cI, 300, .inl nx)), (g3, .inl (cI, 300, .inl la)), (g4, .inl (cI, 300, .inl le)), (g5, .inl (cJ, 300, .inr (.inl by_))), (g6, .inl (cJ, 300, .inr (.inl he))), (g7, .inl (cI, 300, .inl lo)), (g8, .inl (cI, 300, .inl rk))] sz)) 0 0 (va_A [(g0, .inr (1, [.ref g1, .ref g2, .ref g3, .ref g4, .ref g5, .ref g6, .ref g7, .ref g8, .int rc])), (g1, .inl (cI, 300, .inl fi)), (g2, .inl (cI, 300, .inl nx)), (g3, .inl (cI, 300, .inl la)), (g4, .inl (cI, 300, .inl le)), (g5, .inl (cJ, 300, .inr (.inl by_))), (g6, .inl (cJ, 300, .inr (.inl he))), (g7, .inl (cI, 300, .inl lo)), (g8, .inl (cI, 300, .inl rk))] sz) := by
  refine Met.ofW (cc := cX1_join) (maxL := 5) (ret := none) (by decide) rfl ?_
  intro p ev s m args below meth c s₁ Bd hml hv
  obtain ⟨rfl, hsz, hP, hK, hD0⟩ := hv
  have hx := Bd.exec
  have hb := Bd.bytes
  have hr := Bd.returns
  have hts := atoms_spec (ws := wsX1_join) Bd.pre
  have hown : s.vm.findClass RX1 = some m.cls := findClass_of_methodNamed Bd.named
  have hlocks := Bd.notSynchronized
  have hin1 : ∀ w ∈ wsX10, w ∈ wsX1_join := by decide +kernel
  subst hsz
  have hD := hD0.self (sz := s.heap.size)
  generalize hAe : va_A [(g0, .inr (1, [.ref g1, .ref g2, .ref g3, .ref g4, .ref g5, .ref g6, .ref g7, .ref g8, .int rc])), (g1, .inl (cI, 300, .inl fi)), (g2, .inl (cI, 300, .inl nx)), (g3, .inl (cI, 300, .inl la)), (g4, .inl (cI, 300, .inl le)), (g5, .inl (cJ, 300, .inr (.inl by_))), (g6, .inl (cJ, 300, .inr (.inl he))), (g7, .inl (cI, 300, .inl lo)), (g8, .inl (cI, 300, .inl rk))] s.heap.size = A at hD ⊢
  have hA : ∀ q : Nat, s.heap.size ≤ q → A q := fun q h => by rw [← hAe]; exact Or.inr h
  have hS : va_S A s.heap s.heap [] := va_S.rf
  have hl := lv_entry ([.ref g0, .int (nI a), .int (nI b)]) (n := 5) (Nat.le_of_ble_eq_true rfl)
  rw [lg_entry_eq]
  generalize (lg_sl ([.ref g0, .int (nI a), .int (nI b)]) ++ List.replicate (5 - (lg_sl ([.ref g0, .int (nI a), .int (nI b)])).length) Slot.unset).toArray = ls at hl ⊢
  have hl : lv_has ls 5 [(0, .ref g0), (1, .int (nI a)), (2, .int (nI b))] := hl
  generalize hHe : s.heap = H at hP ⊢
  have hS : va_S A s.heap H [] := hHe ▸ hS
  refine lv_iload_n hx hb dX1_join_0 rfl (lv_at hl 2 rfl) ?_
  refine lv_istore_n (lv' := [(3, .int (nI b)), (0, .ref g0), (1, .int (nI a)), (2, .int (nI b))]) hx hb dX1_join_1 rfl hl (by decide) rfl (fun ls hl => ?_)
  refine lv_iconst (v := 0) hx hb dX1_join_2 (by decide) ?_
  refine tp_i (y := nI 0) (nI_0.symm) ?_
  refine lv_istore (lv' := [(4, .int (nI 0)), (3, .int (nI b)), (0, .ref g0), (1, .int (nI a)), (2, .int (nI b))]) hx hb dX1_join_3 hl (by decide) rfl (fun ls hl => ?_)
  refine lpX1_join (a := a) (b := b) (G := rlab q (nI a) fi) hx hb hml hts hown hK hA  (fun  H locs ls hP hD hS hl => ?_) (q.length) q _ 0 fi (rfl) (by omega) (hc) (hm) (rfl) H _ ls hP hD hS (lv_sub hl [2, 3, 4, 1, 0] rfl)
  · -- kn
    refine lv_aload_n hx hb dX1_join_38 rfl (lv_at hl 0 rfl) ?_
    refine va_get (D := (dC, dI)) (ci := 1) (v := .ref g2) (C := RX1) (T := TX1) (N := 9) hx hb hts hin1 hown hK hP 0 rfl rfl 1 (by decide) (hts (.fieldLink RX1 15 "CallClusters$Clustering" "next" "[I") (by decide +kernel)) (fun _ h9 => h9) rfl dX1_join_39 ?_
    refine lv_aload_n hx hb dX1_join_42 rfl (lv_at hl 0 rfl) ?_
    refine va_get (D := (dC, dI)) (ci := 1) (v := .ref g3) (C := RX1) (T := TX1) (N := 9) hx hb hts hin1 hown hK hP 0 rfl rfl 2 (by decide) (hts (.fieldLink RX1 18 "CallClusters$Clustering" "last" "[I") (by decide +kernel)) (fun _ h9 => h9) rfl dX1_join_43 ?_
    refine lv_iload_n hx hb dX1_join_46 rfl (lv_at hl 1 rfl) ?_
    refine va_iald hx hb hK hP 3 0 rfl rfl (inn ha (by omega)) dX1_join_47 ?_
    refine tp_i (y := la a) (by rw [ix_n (by omega)]) ?_
    refine lv_iload_n hx hb dX1_join_48 rfl (lv_at hl 2 rfl) ?_
    refine va_iast hx hb hK hP hD hS 2 0 rfl rfl (hla) dX1_join_49 (fun H locs hP hD hS => ?_)
    have hP : va_P (dC, dI) vwCl [(g0, .inr (1, [.ref g1, .ref g2, .ref g3, .ref g4, .ref g5, .ref g6, .ref g7, .ref g8, .int rc])), (g1, .inl (cI, 300, .inl (rlab q (nI a) fi))), (g2, .inl (cI, 300, .inl (upd nx ((la a).toNatClampNeg) (nI b)))), (g3, .inl (cI, 300, .inl la)), (g4, .inl (cI, 300, .inl le)), (g5, .inl (cJ, 300, .inr (.inl by_))), (g6, .inl (cJ, 300, .inr (.inl he))), (g7, .inl (cI, 300, .inl lo)), (g8, .inl (cI, 300, .inl rk))] H := hP
    have hD : va_D A [(g0, .inr (1, [.ref g1, .ref g2, .ref g3, .ref g4, .ref g5, .ref g6, .ref g7, .ref g8, .int rc])), (g1, .inl (cI, 300, .inl (rlab q (nI a) fi))), (g2, .inl (cI, 300, .inl (upd nx ((la a).toNatClampNeg) (nI b)))), (g3, .inl (cI, 300, .inl la)), (g4, .inl (cI, 300, .inl le)), (g5, .inl (cJ, 300, .inr (.inl by_))), (g6, .inl (cJ, 300, .inr (.inl he))), (g7, .inl (cI, 300, .inl lo)), (g8, .inl (cI, 300, .inl rk))] := hD
    refine lv_aload_n hx hb dX1_join_50 rfl (lv_at hl 0 rfl) ?_
    refine va_get (D := (dC, dI)) (ci := 1) (v := .ref g3) (C := RX1) (T := TX1) (N := 9) hx hb hts hin1 hown hK hP 0 rfl rfl 2 (by decide) (hts (.fieldLink RX1 18 "CallClusters$Clustering" "last" "[I") (by decide +kernel)) (fun _ h9 => h9) rfl dX1_join_51 ?_
    refine lv_iload_n hx hb dX1_join_54 rfl (lv_at hl 1 rfl) ?_
    refine lv_aload_n hx hb dX1_join_55 rfl (lv_at hl 0 rfl) ?_
    refine va_get (D := (dC, dI)) (ci := 1) (v := .ref g3) (C := RX1) (T := TX1) (N := 9) hx hb hts hin1 hown hK hP 0 rfl rfl 2 (by decide) (hts (.fieldLink RX1 18 "CallClusters$Clustering" "last" "[I") (by decide +kernel)) (fun _ h9 => h9) rfl dX1_join_56 ?_
    refine lv_iload_n hx hb dX1_join_59 rfl (lv_at hl 2 rfl) ?_
    refine va_iald hx hb hK hP 3 0 rfl rfl (inn hb9 (by omega)) dX1_join_60 ?_
    refine tp_i (y := la b) (by rw [ix_n (by omega)]) ?_
    refine va_iast hx hb hK hP hD hS 3 0 rfl rfl (inn ha (by omega)) dX1_join_61 (fun H locs hP hD hS => ?_)
    have hf61 : upd la ((nI a).toNatClampNeg) (la b) = upd la a (la b) := by rw [ix_n (by omega)]
    have hP : va_P (dC, dI) vwCl [(g0, .inr (1, [.ref g1, .ref g2, .ref g3, .ref g4, .ref g5, .ref g6, .ref g7, .ref g8, .int rc])), (g1, .inl (cI, 300, .inl (rlab q (nI a) fi))), (g2, .inl (cI, 300, .inl (upd nx ((la a).toNatClampNeg) (nI b)))), (g3, .inl (cI, 300, .inl (upd la ((nI a).toNatClampNeg) (la b)))), (g4, .inl (cI, 300, .inl le)), (g5, .inl (cJ, 300, .inr (.inl by_))), (g6, .inl (cJ, 300, .inr (.inl he))), (g7, .inl (cI, 300, .inl lo)), (g8, .inl (cI, 300, .inl rk))] H := hP
    have hD : va_D A [(g0, .inr (1, [.ref g1, .ref g2, .ref g3, .ref g4, .ref g5, .ref g6, .ref g7, .ref g8, .int rc])), (g1, .inl (cI, 300, .inl (rlab q (nI a) fi))), (g2, .inl (cI, 300, .inl (upd nx ((la a).toNatClampNeg) (nI b)))), (g3, .inl (cI, 300, .inl (upd la ((nI a).toNatClampNeg) (la b)))), (g4, .inl (cI, 300, .inl le)), (g5, .inl (cJ, 300, .inr (.inl by_))), (g6, .inl (cJ, 300, .inr (.inl he))), (g7, .inl (cI, 300, .inl lo)), (g8, .inl (cI, 300, .inl rk))] := hD
    rw [hf61] at hP hD
    refine lv_aload_n hx hb dX1_join_62 rfl (lv_at hl 0 rfl) ?_
    refine va_get (D := (dC, dI)) (ci := 1) (v := .ref g4) (C := RX1) (T := TX1) (N := 9) hx hb hts hin1 hown hK hP 0 rfl rfl 3 (by decide) (hts (.fieldLink RX1 21 "CallClusters$Clustering" "least" "[I") (by decide +kernel)) (fun _ h9 => h9) rfl dX1_join_63 ?_
    refine lv_iload_n hx hb dX1_join_66 rfl (lv_at hl 1 rfl) ?_
    refine lv_aload_n hx hb dX1_join_67 rfl (lv_at hl 0 rfl) ?_
    refine va_get (D := (dC, dI)) (ci := 1) (v := .ref g4) (C := RX1) (T := TX1) (N := 9) hx hb hts hin1 hown hK hP 0 rfl rfl 3 (by decide) (hts (.fieldLink RX1 21 "CallClusters$Clustering" "least" "[I") (by decide +kernel)) (fun _ h9 => h9) rfl dX1_join_68 ?_
    refine lv_iload_n hx hb dX1_join_71 rfl (lv_at hl 1 rfl) ?_
    refine va_iald hx hb hK hP 4 0 rfl rfl (inn ha (by omega)) dX1_join_72 ?_
    refine tp_i (y := le a) (by rw [ix_n (by omega)]) ?_
    refine lv_aload_n hx hb dX1_join_73 rfl (lv_at hl 0 rfl) ?_
    refine va_get (D := (dC, dI)) (ci := 1) (v := .ref g4) (C := RX1) (T := TX1) (N := 9) hx hb hts hin1 hown hK hP 0 rfl rfl 3 (by decide) (hts (.fieldLink RX1 21 "CallClusters$Clustering" "least" "[I") (by decide +kernel)) (fun _ h9 => h9) rfl dX1_join_74 ?_
    refine lv_iload_n hx hb dX1_join_77 rfl (lv_at hl 2 rfl) ?_
    refine va_iald hx hb hK hP 4 0 rfl rfl (inn hb9 (by omega)) dX1_join_78 ?_
    refine tp_i (y := le b) (by rw [ix_n (by omega)]) ?_
    refine va_mmin hx hb (hml.trans hl.1.symm) hown (hts (.methodLink RX1 74 Lib.Math.min.name) (by decide +kernel)) (hts (.static Lib.Math.min.name) (by decide +kernel)) (hts (.initialized "java/lang/Math") (by decide +kernel)) (hts (.code Lib.Math.min.name Lib.Math.min.code 2 (some .int)) (by decide +kernel)) (Nat.le_of_ble_eq_true rfl) (Nat.le_of_ble_eq_true rfl) (Nat.zero_le _) (Nat.zero_le _) dX1_join_79 ?_
    refine va_iast hx hb hK hP hD hS 4 0 rfl rfl (inn ha (by omega)) dX1_join_82 (fun H locs hP hD hS => ?_)
    have hf82 : upd le ((nI a).toNatClampNeg) (if le b < le a then le b else le a) = upd le a (if le b < le a then le b else le a) := by rw [ix_n (by omega)]
    have hP : va_P (dC, dI) vwCl [(g0, .inr (1, [.ref g1, .ref g2, .ref g3, .ref g4, .ref g5, .ref g6, .ref g7, .ref g8, .int rc])), (g1, .inl (cI, 300, .inl (rlab q (nI a) fi))), (g2, .inl (cI, 300, .inl (upd nx ((la a).toNatClampNeg) (nI b)))), (g3, .inl (cI, 300, .inl (upd la a (la b)))), (g4, .inl (cI, 300, .inl (upd le ((nI a).toNatClampNeg) (if le b < le a then le b else le a)))), (g5, .inl (cJ, 300, .inr (.inl by_))), (g6, .inl (cJ, 300, .inr (.inl he))), (g7, .inl (cI, 300, .inl lo)), (g8, .inl (cI, 300, .inl rk))] H := hP
    have hD : va_D A [(g0, .inr (1, [.ref g1, .ref g2, .ref g3, .ref g4, .ref g5, .ref g6, .ref g7, .ref g8, .int rc])), (g1, .inl (cI, 300, .inl (rlab q (nI a) fi))), (g2, .inl (cI, 300, .inl (upd nx ((la a).toNatClampNeg) (nI b)))), (g3, .inl (cI, 300, .inl (upd la a (la b)))), (g4, .inl (cI, 300, .inl (upd le ((nI a).toNatClampNeg) (if le b < le a then le b else le a)))), (g5, .inl (cJ, 300, .inr (.inl by_))), (g6, .inl (cJ, 300, .inr (.inl he))), (g7, .inl (cI, 300, .inl lo)), (g8, .inl (cI, 300, .inl rk))] := hD
    rw [hf82] at hP hD
    refine lv_aload_n hx hb dX1_join_83 rfl (lv_at hl 0 rfl) ?_
    refine va_get (D := (dC, dI)) (ci := 1) (v := .ref g5) (C := RX1) (T := TX1) (N := 9) hx hb hts hin1 hown hK hP 0 rfl rfl 4 (by decide) (hts (.fieldLink RX1 24 "CallClusters$Clustering" "bytes" "[J") (by decide +kernel)) (fun _ h9 => h9) rfl dX1_join_84 ?_
    refine lv_iload_n hx hb dX1_join_87 rfl (lv_at hl 1 rfl) ?_
    refine lv_dup2_11 hx hb dX1_join_88 rfl rfl ?_
    refine va_lald hx hb hK hP 5 1 rfl rfl (inn ha (by omega)) dX1_join_89 ?_
    refine tp_l (y := by_ a) (by rw [ix_n (by omega)]) ?_
    refine lv_aload_n hx hb dX1_join_90 rfl (lv_at hl 0 rfl) ?_
    refine va_get (D := (dC, dI)) (ci := 1) (v := .ref g5) (C := RX1) (T := TX1) (N := 9) hx hb hts hin1 hown hK hP 0 rfl rfl 4 (by decide) (hts (.fieldLink RX1 24 "CallClusters$Clustering" "bytes" "[J") (by decide +kernel)) (fun _ h9 => h9) rfl dX1_join_91 ?_
    refine lv_iload_n hx hb dX1_join_94 rfl (lv_at hl 2 rfl) ?_
    refine va_lald hx hb hK hP 5 1 rfl rfl (inn hb9 (by omega)) dX1_join_95 ?_
    refine tp_l (y := by_ b) (by rw [ix_n (by omega)]) ?_
    refine lv_ladd hx hb dX1_join_96 ?_
    refine va_last hx hb hK hP hD hS 5 1 rfl rfl (inn ha (by omega)) dX1_join_97 (fun H locs hP hD hS => ?_)
    have hf97 : vp_updL by_ ((nI a).toNatClampNeg) ((by_ a) + (by_ b)) = vp_updL by_ a (by_ a + by_ b) := by rw [ix_n (by omega)]
    have hP : va_P (dC, dI) vwCl [(g0, .inr (1, [.ref g1, .ref g2, .ref g3, .ref g4, .ref g5, .ref g6, .ref g7, .ref g8, .int rc])), (g1, .inl (cI, 300, .inl (rlab q (nI a) fi))), (g2, .inl (cI, 300, .inl (upd nx ((la a).toNatClampNeg) (nI b)))), (g3, .inl (cI, 300, .inl (upd la a (la b)))), (g4, .inl (cI, 300, .inl (upd le a (if le b < le a then le b else le a)))), (g5, .inl (cJ, 300, .inr (.inl (vp_updL by_ ((nI a).toNatClampNeg) ((by_ a) + (by_ b)))))), (g6, .inl (cJ, 300, .inr (.inl he))), (g7, .inl (cI, 300, .inl lo)), (g8, .inl (cI, 300, .inl rk))] H := hP
    have hD : va_D A [(g0, .inr (1, [.ref g1, .ref g2, .ref g3, .ref g4, .ref g5, .ref g6, .ref g7, .ref g8, .int rc])), (g1, .inl (cI, 300, .inl (rlab q (nI a) fi))), (g2, .inl (cI, 300, .inl (upd nx ((la a).toNatClampNeg) (nI b)))), (g3, .inl (cI, 300, .inl (upd la a (la b)))), (g4, .inl (cI, 300, .inl (upd le a (if le b < le a then le b else le a)))), (g5, .inl (cJ, 300, .inr (.inl (vp_updL by_ ((nI a).toNatClampNeg) ((by_ a) + (by_ b)))))), (g6, .inl (cJ, 300, .inr (.inl he))), (g7, .inl (cI, 300, .inl lo)), (g8, .inl (cI, 300, .inl rk))] := hD
    rw [hf97] at hP hD
    refine lv_aload_n hx hb dX1_join_98 rfl (lv_at hl 0 rfl) ?_
    refine va_get (D := (dC, dI)) (ci := 1) (v := .ref g6) (C := RX1) (T := TX1) (N := 9) hx hb hts hin1 hown hK hP 0 rfl rfl 5 (by decide) (hts (.fieldLink RX1 28 "CallClusters$Clustering" "heat" "[J") (by decide +kernel)) (fun _ h9 => h9) rfl dX1_join_99 ?_
    refine lv_iload_n hx hb dX1_join_102 rfl (lv_at hl 1 rfl) ?_
    refine lv_dup2_11 hx hb dX1_join_103 rfl rfl ?_
    refine va_lald hx hb hK hP 6 1 rfl rfl (inn ha (by omega)) dX1_join_104 ?_
    refine tp_l (y := he a) (by rw [ix_n (by omega)]) ?_
    refine lv_aload_n hx hb dX1_join_105 rfl (lv_at hl 0 rfl) ?_
    refine va_get (D := (dC, dI)) (ci := 1) (v := .ref g6) (C := RX1) (T := TX1) (N := 9) hx hb hts hin1 hown hK hP 0 rfl rfl 5 (by decide) (hts (.fieldLink RX1 28 "CallClusters$Clustering" "heat" "[J") (by decide +kernel)) (fun _ h9 => h9) rfl dX1_join_106 ?_
    refine lv_iload_n hx hb dX1_join_109 rfl (lv_at hl 2 rfl) ?_
    refine va_lald hx hb hK hP 6 1 rfl rfl (inn hb9 (by omega)) dX1_join_110 ?_
    refine tp_l (y := he b) (by rw [ix_n (by omega)]) ?_
    refine lv_ladd hx hb dX1_join_111 ?_
    refine va_last hx hb hK hP hD hS 6 1 rfl rfl (inn ha (by omega)) dX1_join_112 (fun H locs hP hD hS => ?_)
    have hf112 : vp_updL he ((nI a).toNatClampNeg) ((he a) + (he b)) = vp_updL he a (he a + he b) := by rw [ix_n (by omega)]
    have hP : va_P (dC, dI) vwCl [(g0, .inr (1, [.ref g1, .ref g2, .ref g3, .ref g4, .ref g5, .ref g6, .ref g7, .ref g8, .int rc])), (g1, .inl (cI, 300, .inl (rlab q (nI a) fi))), (g2, .inl (cI, 300, .inl (upd nx ((la a).toNatClampNeg) (nI b)))), (g3, .inl (cI, 300, .inl (upd la a (la b)))), (g4, .inl (cI, 300, .inl (upd le a (if le b < le a then le b else le a)))), (g5, .inl (cJ, 300, .inr (.inl (vp_updL by_ a (by_ a + by_ b))))), (g6, .inl (cJ, 300, .inr (.inl (vp_updL he ((nI a).toNatClampNeg) ((he a) + (he b)))))), (g7, .inl (cI, 300, .inl lo)), (g8, .inl (cI, 300, .inl rk))] H := hP
    have hD : va_D A [(g0, .inr (1, [.ref g1, .ref g2, .ref g3, .ref g4, .ref g5, .ref g6, .ref g7, .ref g8, .int rc])), (g1, .inl (cI, 300, .inl (rlab q (nI a) fi))), (g2, .inl (cI, 300, .inl (upd nx ((la a).toNatClampNeg) (nI b)))), (g3, .inl (cI, 300, .inl (upd la a (la b)))), (g4, .inl (cI, 300, .inl (upd le a (if le b < le a then le b else le a)))), (g5, .inl (cJ, 300, .inr (.inl (vp_updL by_ a (by_ a + by_ b))))), (g6, .inl (cJ, 300, .inr (.inl (vp_updL he ((nI a).toNatClampNeg) ((he a) + (he b)))))), (g7, .inl (cI, 300, .inl lo)), (g8, .inl (cI, 300, .inl rk))] := hD
    rw [hf112] at hP hD
    have hP9 : va_P (dC, dI) vwCl [(g0, .inr (1, [.ref g1, .ref g2, .ref g3, .ref g4, .ref g5, .ref g6, .ref g7, .ref g8, .int rc])), (g1, .inl (cI, 300, .inl (rlab q (nI a) fi))), (g2, .inl (cI, 300, .inl (upd nx ((la a).toNatClampNeg) (nI b)))), (g3, .inl (cI, 300, .inl (upd la a (la b)))), (g4, .inl (cI, 300, .inl (upd le a (if le b < le a then le b else le a)))), (g5, .inl (cJ, 300, .inr (.inl (vp_updL by_ a (by_ a + by_ b))))), (g6, .inl (cJ, 300, .inr (.inl (vp_updL he a (he a + he b))))), (g7, .inl (cI, 300, .inl lo)), (g8, .inl (cI, 300, .inl rk))] H := hP
    have hD9 : va_D A [(g0, .inr (1, [.ref g1, .ref g2, .ref g3, .ref g4, .ref g5, .ref g6, .ref g7, .ref g8, .int rc])), (g1, .inl (cI, 300, .inl (rlab q (nI a) fi))), (g2, .inl (cI, 300, .inl (upd nx ((la a).toNatClampNeg) (nI b)))), (g3, .inl (cI, 300, .inl (upd la a (la b)))), (g4, .inl (cI, 300, .inl (upd le a (if le b < le a then le b else le a)))), (g5, .inl (cJ, 300, .inr (.inl (vp_updL by_ a (by_ a + by_ b))))), (g6, .inl (cJ, 300, .inr (.inl (vp_updL he a (he a + he b))))), (g7, .inl (cI, 300, .inl lo)), (g8, .inl (cI, 300, .inl rk))] := hD
    exact W.vret hx hb hr (fun t ht hW => ⟨⟨(), rfl, trivial, by rw [ht]; exact hP9, va_K.moved hW.alike hK, hD9⟩, hS.F ht⟩) hS.2.2 dX1_join_113
set_option maxHeartbeats 4000000 in
set_option maxRecDepth 100000 in
theorem lpX1_rank_in {p : Program} {l : Launch} {ev : Env} {s : State} {m : MethodId} {args : Array Value} {below : List Frame} {meth : Method} {c : Code} {Q : State → Prop} {A : Nat → Prop} {dC : Nat → ClassId} {dI : Nat → Nat → Nat} {cI cJ cZ : ClassId} (hx : p.tables.exec = Jvm.exec) (hb : c.code = cX1_rank) (hml : c.maxLocals = 3) (hts : ∀ w ∈ wsX1_rank, w.before args s = true) (hown : s.vm.findClass RX1 = some m.cls) (hK : va_K (dC, dI) vwCl [(cI, .int), (cJ, .long), (cZ, .boolean)] s) (hA : ∀ q : Nat, s.heap.size ≤ q → A q) {g0 : Nat} {g1 : Nat} {g2 : Nat} {g3 : Nat} {g4 : Nat} {g5 : Nat} {g6 : Nat} {g7 : Nat} {g8 : Nat} {fi nx la le : Nat → Int32} {by_ he : Nat → Int64} {lo rk : Nat → Int32} {rc : Int32} {g : Nat → Int32} {cnt k : Nat} (hk : k < 300) (hc : cnt ≤ k) (hfk : vp_in (fi k) 300) (hg : ∀ j, j < cnt → vp_in (g j) 300)  (kn : ∀ (a : Nat), a ≤ cnt → bpos (fun j => !decide (densI (by_ (fi k).toNatClampNeg) (by_ (g j).toNatClampNeg) (he (fi k).toNatClampNeg) (he (g j).toNatClampNeg) = 0)) cnt = a → ∀ (H : Heap) (locs : List Loc) (ls : Array Slot), va_P (dC, dI) vwCl [(g0, .inr (1, [.ref g1, .ref g2, .ref g3, .ref g4, .ref g5, .ref g6, .ref g7, .ref g8, .int (nI cnt)])), (g1, .inl (cI, 300, .inl fi)), (g2, .inl (cI, 300, .inl nx)), (g3, .inl (cI, 300, .inl la)), (g4, .inl (cI, 300, .inl le)), (g5, .inl (cJ, 300, .inr (.inl by_))), (g6, .inl (cJ, 300, .inr (.inl he))), (g7, .inl (cI, 300, .inl lo)), (g8, .inl (cI, 300, .inl (shf g a cnt)))] H → va_D A [(g0, .inr (1, [.ref g1, .ref g2, .ref g3, .ref g4, .ref g5, .ref g6, .ref g7, .ref g8, .int (nI cnt)])), (g1, .inl (cI, 300, .inl fi)), (g2, .inl (cI, 300, .inl nx)), (g3, .inl (cI, 300, .inl la)), (g4, .inl (cI, 300, .inl le)), (g5, .inl (cJ, 300, .inr (.inl by_))), (g6, .inl (cJ, 300, .inr (.inl he))), (g7, .inl (cI, 300, .inl lo)), (g8, .inl (cI, 300, .inl (shf g a cnt)))] → va_S A s.heap H locs → lv_has ls 3 [(0, .ref g0), (1, .int (nI k)), (2, .int (nI a))] → W p l ev ({ frames := 1, cells := 0, slots := 0, locals := 26 } : Room) s m args below meth c H locs 0 0 Q (F0 m 89 ls [])) : ∀ (n : Nat) (a : Nat), a = n → a ≤ cnt → bpos (fun j => !decide (densI (by_ (fi k).toNatClampNeg) (by_ (g j).toNatClampNeg) (he (fi k).toNatClampNeg) (he (g j).toNatClampNeg) = 0)) cnt = bpos (fun j => !decide (densI (by_ (fi k).toNatClampNeg) (by_ (g j).toNatClampNeg) (he (fi k).toNatClampNeg) (he (g j).toNatClampNeg) = 0)) a → ∀ (H : Heap) (locs : List Loc) (ls : Array Slot), va_P (dC, dI) vwCl [(g0, .inr (1, [.ref g1, .ref g2, .ref g3, .ref g4, .ref g5, .ref g6, .ref g7, .ref g8, .int (nI cnt)])), (g1, .inl (cI, 300, .inl fi)), (g2, .inl (cI, 300, .inl nx)), (g3, .inl (cI, 300, .inl la)), (g4, .inl (cI, 300, .inl le)), (g5, .inl (cJ, 300, .inr (.inl by_))), (g6, .inl (cJ, 300, .inr (.inl he))), (g7, .inl (cI, 300, .inl lo)), (g8, .inl (cI, 300, .inl (shf g a cnt)))] H → va_D A [(g0, .inr (1, [.ref g1, .ref g2, .ref g3, .ref g4, .ref g5, .ref g6, .ref g7, .ref g8, .int (nI cnt)])), (g1, .inl (cI, 300, .inl fi)), (g2, .inl (cI, 300, .inl nx)), (g3, .inl (cI, 300, .inl la)), (g4, .inl (cI, 300, .inl le)), (g5, .inl (cJ, 300, .inr (.inl by_))), (g6, .inl (cJ, 300, .inr (.inl he))), (g7, .inl (cI, 300, .inl lo)), (g8, .inl (cI, 300, .inl (shf g a cnt)))] → va_S A s.heap H locs → lv_has ls 3 [(0, .ref g0), (1, .int (nI k)), (2, .int (nI a))] → W p l ev ({ frames := 1, cells := 0, slots := 0, locals := 26 } : Room) s m args below meth c H locs 0 0 Q (F0 m 44 ls []) := by
  have hin1 : ∀ w ∈ wsX10, w ∈ wsX1_rank := by decide +kernel
  intro n
  induction n with
  | zero =>
    intro a ha hac hp H locs ls hP hD hS hl
    subst ha
    refine lv_iload_n hx hb dX1_rank_44 rfl (lv_at hl 2 rfl) ?_
    refine lv_if_le (tgt := 89) hx hb dX1_rank_45 (by decide) (fun c_1 => ?_) (fun c_1 => ?_)
    · -- pc 45, side 0
      exact kn 0 (hac) (hp) H locs ls hP hD hS (lv_sub hl [0, 1, 2] rfl)
    · -- pc 45, side 1
      exact absurd (show nI 0 ≤ 0 by decide) c_1
  | succ n ih =>
    intro a ha hac hp H locs ls hP hD hS hl
    subst ha
    refine lv_iload_n hx hb dX1_rank_44 rfl (lv_at hl 2 rfl) ?_
    refine lv_if_le (tgt := 89) hx hb dX1_rank_45 (by decide) (fun c_2 => ?_) (fun c_2 => ?_)
    · -- pc 45, side 0
      exact absurd c_2 (nI_nle (by omega) (by omega))
    · -- pc 45, side 1
      refine lv_aload_n hx hb dX1_rank_48 rfl (lv_at hl 0 rfl) ?_
      refine lv_aload_n hx hb dX1_rank_49 rfl (lv_at hl 0 rfl) ?_
      refine va_get (D := (dC, dI)) (ci := 1) (v := .ref g1) (C := RX1) (T := TX1) (N := 9) hx hb hts hin1 hown hK hP 0 rfl rfl 0 (by decide) (hts (.fieldLink RX1 9 "CallClusters$Clustering" "first" "[I") (by decide +kernel)) (fun _ h9 => h9) rfl dX1_rank_50 ?_
      refine lv_iload_n hx hb dX1_rank_53 rfl (lv_at hl 1 rfl) ?_
      refine va_iald hx hb hK hP 1 0 rfl rfl (inn hk (by omega)) dX1_rank_54 ?_
      refine tp_i (y := fi k) (by rw [ix_n (by omega)]) ?_
      refine lv_aload_n hx hb dX1_rank_55 rfl (lv_at hl 0 rfl) ?_
      refine va_get (D := (dC, dI)) (ci := 1) (v := .ref g8) (C := RX1) (T := TX1) (N := 9) hx hb hts hin1 hown hK hP 0 rfl rfl 7 (by decide) (hts (.fieldLink RX1 34 "CallClusters$Clustering" "ranked" "[I") (by decide +kernel)) (fun _ h9 => h9) rfl dX1_rank_56 ?_
      refine lv_iload_n hx hb dX1_rank_59 rfl (lv_at hl 2 rfl) ?_
      refine lv_iconst (v := 1) hx hb dX1_rank_60 (by decide) ?_
      refine lv_isub hx hb dX1_rank_61 ?_
      refine tp_i (y := nI n) (nI_pred n) ?_
      refine va_iald hx hb hK hP 8 0 rfl rfl (inn (show n < 300 by omega) (by omega)) dX1_rank_62 ?_
      refine tp_i (y := g n) (by rw [ix_n (by omega)]; exact shf_low (by omega)) ?_
      have hPc := hP.sub (ws' := [(g0, .inr (1, [.ref g1, .ref g2, .ref g3, .ref g4, .ref g5, .ref g6, .ref g7, .ref g8, .int (nI cnt)])), (g1, .inl (cI, 300, .inl fi)), (g2, .inl (cI, 300, .inl nx)), (g3, .inl (cI, 300, .inl la)), (g4, .inl (cI, 300, .inl le)), (g5, .inl (cJ, 300, .inr (.inl by_))), (g6, .inl (cJ, 300, .inr (.inl he))), (g7, .inl (cI, 300, .inl lo)), (g8, .inl (cI, 300, .inl (shf g (n + 1) cnt)))]) [0, 1, 2, 3, 4, 5, 6, 7, 8] rfl
      have hDc := hD.sub (ws' := [(g0, .inr (1, [.ref g1, .ref g2, .ref g3, .ref g4, .ref g5, .ref g6, .ref g7, .ref g8, .int (nI cnt)])), (g1, .inl (cI, 300, .inl fi)), (g2, .inl (cI, 300, .inl nx)), (g3, .inl (cI, 300, .inl la)), (g4, .inl (cI, 300, .inl le)), (g5, .inl (cJ, 300, .inr (.inl by_))), (g6, .inl (cJ, 300, .inr (.inl he))), (g7, .inl (cI, 300, .inl lo)), (g8, .inl (cI, 300, .inl (shf g (n + 1) cnt)))]) [0, 1, 2, 3, 4, 5, 6, 7, 8] (by decide) rfl
      have hFc := va_free (wc := [(g0, .inr (1, [.ref g1, .ref g2, .ref g3, .ref g4, .ref g5, .ref g6, .ref g7, .ref g8, .int (nI cnt)])), (g1, .inl (cI, 300, .inl fi)), (g2, .inl (cI, 300, .inl nx)), (g3, .inl (cI, 300, .inl la)), (g4, .inl (cI, 300, .inl le)), (g5, .inl (cJ, 300, .inr (.inl by_))), (g6, .inl (cJ, 300, .inr (.inl he))), (g7, .inl (cI, 300, .inl lo)), (g8, .inl (cI, 300, .inl (shf g (n + 1) cnt)))]) hD hS hA [0, 1, 2, 3, 4, 5, 6, 7, 8] rfl
      refine va_calli (va_runV (As := [.int (fi k), .int (g n)]) (rest := []) ⟨hx, hb, hml, hown, hts⟩ (ct_X1_isDenser l dC dI cI cJ cZ H.size g0 g1 g2 g3 g4 g5 g6 g7 g8 fi nx la le by_ he lo (shf g (n + 1) cnt) (nI cnt) (fi k) (g n) hfk (hg n (by omega))) (cwV 2 hts gX1_rank_X1_isDenser rfl rfl rfl (by decide +kernel) ⟨Nat.le_of_ble_eq_true rfl, Nat.le_of_ble_eq_true rfl⟩) (pre_V hK hPc hDc (ci := 1) rfl rfl) rfl rfl hl.1 rfl (lv_room (Nat.le_of_ble_eq_true rfl)) dX1_rank_63 ⟨Nat.zero_le _, Nat.zero_le _⟩) hS (fun q _ h => hFc q h) hFc (fun r_3 uu t H1 locs ht hvm hw hB hz1 hk1 hS => ?_)
      obtain ⟨hP1, hK1, hD1⟩ := hB
      rw [ht] at hP1
      try dsimp only at hw
      have hP1 : va_P (dC, dI) vwCl [(g0, .inr (1, [.ref g1, .ref g2, .ref g3, .ref g4, .ref g5, .ref g6, .ref g7, .ref g8, .int (nI cnt)])), (g1, .inl (cI, 300, .inl fi)), (g2, .inl (cI, 300, .inl nx)), (g3, .inl (cI, 300, .inl la)), (g4, .inl (cI, 300, .inl le)), (g5, .inl (cJ, 300, .inr (.inl by_))), (g6, .inl (cJ, 300, .inr (.inl he))), (g7, .inl (cI, 300, .inl lo)), (g8, .inl (cI, 300, .inl (shf g (n + 1) cnt)))] H1 := hP1
      obtain ⟨hP, hD⟩ := va_join (wr := []) (w1 := [(g0, .inr (1, [.ref g1, .ref g2, .ref g3, .ref g4, .ref g5, .ref g6, .ref g7, .ref g8, .int (nI cnt)])), (g1, .inl (cI, 300, .inl fi)), (g2, .inl (cI, 300, .inl nx)), (g3, .inl (cI, 300, .inl la)), (g4, .inl (cI, 300, .inl le)), (g5, .inl (cJ, 300, .inr (.inl by_))), (g6, .inl (cJ, 300, .inr (.inl he))), (g7, .inl (cI, 300, .inl lo)), (g8, .inl (cI, 300, .inl (shf g (n + 1) cnt)))]) hP hD [0, 1, 2, 3, 4, 5, 6, 7, 8] [] rfl rfl (by decide) (by decide) hk1 hFc hP1 hD1
      have hP := hP.sub (ws' := [(g0, .inr (1, [.ref g1, .ref g2, .ref g3, .ref g4, .ref g5, .ref g6, .ref g7, .ref g8, .int (nI cnt)])), (g1, .inl (cI, 300, .inl fi)), (g2, .inl (cI, 300, .inl nx)), (g3, .inl (cI, 300, .inl la)), (g4, .inl (cI, 300, .inl le)), (g5, .inl (cJ, 300, .inr (.inl by_))), (g6, .inl (cJ, 300, .inr (.inl he))), (g7, .inl (cI, 300, .inl lo)), (g8, .inl (cI, 300, .inl (shf g (n + 1) cnt)))]) [0, 1, 2, 3, 4, 5, 6, 7, 8] rfl
      have hD := hD.sub (ws' := [(g0, .inr (1, [.ref g1, .ref g2, .ref g3, .ref g4, .ref g5, .ref g6, .ref g7, .ref g8, .int (nI cnt)])), (g1, .inl (cI, 300, .inl fi)), (g2, .inl (cI, 300, .inl nx)), (g3, .inl (cI, 300, .inl la)), (g4, .inl (cI, 300, .inl le)), (g5, .inl (cJ, 300, .inr (.inl by_))), (g6, .inl (cJ, 300, .inr (.inl he))), (g7, .inl (cI, 300, .inl lo)), (g8, .inl (cI, 300, .inl (shf g (n + 1) cnt)))]) [0, 1, 2, 3, 4, 5, 6, 7, 8] (by decide) rfl
      generalize H1 = H at hP hS ⊢
      refine lv_if_eq (tgt := 89) hx hb dX1_rank_66 (by decide) (fun c_4 => ?_) (fun c_4 => ?_)
      · -- pc 66, side 0
        rw [hw] at c_4
        have hp9 : bpos (fun j => !decide (densI (by_ (fi k).toNatClampNeg) (by_ (g j).toNatClampNeg) (he (fi k).toNatClampNeg) (he (g j).toNatClampNeg) = 0)) (n + 1) = n + 1 := by unfold bpos; rw [if_neg (by simpa using c_4)]
        exact kn (n + 1) (hac) (by rw [hp]; exact hp9) H locs ls hP hD hS (lv_sub hl [0, 1, 2] rfl)
      · -- pc 66, side 1
        rw [hw] at c_4
        have hp9 : bpos (fun j => !decide (densI (by_ (fi k).toNatClampNeg) (by_ (g j).toNatClampNeg) (he (fi k).toNatClampNeg) (he (g j).toNatClampNeg) = 0)) (n + 1) = bpos (fun j => !decide (densI (by_ (fi k).toNatClampNeg) (by_ (g j).toNatClampNeg) (he (fi k).toNatClampNeg) (he (g j).toNatClampNeg) = 0)) n := by conv => lhs; unfold bpos; rw [if_pos (by simpa using c_4)]
        refine lv_aload_n hx hb dX1_rank_69 rfl (lv_at hl 0 rfl) ?_
        refine va_get (D := (dC, dI)) (ci := 1) (v := .ref g8) (C := RX1) (T := TX1) (N := 9) hx hb hts hin1 hown hK hP 0 rfl rfl 7 (by decide) (hts (.fieldLink RX1 34 "CallClusters$Clustering" "ranked" "[I") (by decide +kernel)) (fun _ h9 => h9) rfl dX1_rank_70 ?_
        refine lv_iload_n hx hb dX1_rank_73 rfl (lv_at hl 2 rfl) ?_
        refine lv_aload_n hx hb dX1_rank_74 rfl (lv_at hl 0 rfl) ?_
        refine va_get (D := (dC, dI)) (ci := 1) (v := .ref g8) (C := RX1) (T := TX1) (N := 9) hx hb hts hin1 hown hK hP 0 rfl rfl 7 (by decide) (hts (.fieldLink RX1 34 "CallClusters$Clustering" "ranked" "[I") (by decide +kernel)) (fun _ h9 => h9) rfl dX1_rank_75 ?_
        refine lv_iload_n hx hb dX1_rank_78 rfl (lv_at hl 2 rfl) ?_
        refine lv_iconst (v := 1) hx hb dX1_rank_79 (by decide) ?_
        refine lv_isub hx hb dX1_rank_80 ?_
        refine tp_i (y := nI n) (nI_pred n) ?_
        refine va_iald hx hb hK hP 8 0 rfl rfl (inn (show n < 300 by omega) (by omega)) dX1_rank_81 ?_
        refine tp_i (y := g n) (by rw [ix_n (by omega)]; exact shf_low (by omega)) ?_
        refine va_iast hx hb hK hP hD hS 8 0 rfl rfl (inn (show n + 1 < 300 by omega) (by omega)) dX1_rank_82 (fun H locs hP hD hS => ?_)
        have hf82 : upd (shf g (n + 1) cnt) ((nI (n + 1)).toNatClampNeg) (g n) = shf g n cnt := by rw [ix_n (by omega)]; exact shf_step hac
        have hP : va_P (dC, dI) vwCl [(g0, .inr (1, [.ref g1, .ref g2, .ref g3, .ref g4, .ref g5, .ref g6, .ref g7, .ref g8, .int (nI cnt)])), (g1, .inl (cI, 300, .inl fi)), (g2, .inl (cI, 300, .inl nx)), (g3, .inl (cI, 300, .inl la)), (g4, .inl (cI, 300, .inl le)), (g5, .inl (cJ, 300, .inr (.inl by_))), (g6, .inl (cJ, 300, .inr (.inl he))), (g7, .inl (cI, 300, .inl lo)), (g8, .inl (cI, 300, .inl (upd (shf g (n + 1) cnt) ((nI (n + 1)).toNatClampNeg) (g n))))] H := hP
        have hD : va_D A [(g0, .inr (1, [.ref g1, .ref g2, .ref g3, .ref g4, .ref g5, .ref g6, .ref g7, .ref g8, .int (nI cnt)])), (g1, .inl (cI, 300, .inl fi)), (g2, .inl (cI, 300, .inl nx)), (g3, .inl (cI, 300, .inl la)), (g4, .inl (cI, 300, .inl le)), (g5, .inl (cJ, 300, .inr (.inl by_))), (g6, .inl (cJ, 300, .inr (.inl he))), (g7, .inl (cI, 300, .inl lo)), (g8, .inl (cI, 300, .inl (upd (shf g (n + 1) cnt) ((nI (n + 1)).toNatClampNeg) (g n))))] := hD
        rw [hf82] at hP hD
        refine lv_iinc (v := nI n) (lv' := [(2, .int (nI n)), (0, .ref g0), (1, .int (nI k))]) hx hb dX1_rank_83 hl (k := 2) rfl (by exact pk_m1 n) (by decide) rfl (fun ls hl => ?_)
        refine lv_goto (tgt := 44) hx hb dX1_rank_86 (by decide) ?_
        exact ih n (rfl) (by omega) (by rw [hp]; exact hp9) H locs ls hP hD hS (lv_sub hl [1, 2, 0] rfl)
set_option maxHeartbeats 4000000 in
set_option maxRecDepth 100000 in
theorem lpX1_rank {p : Program} {l : Launch} {ev : Env} {s : State} {m : MethodId} {args : Array Value} {below : List Frame} {meth : Method} {c : Code} {Q : State → Prop} {A : Nat → Prop} {dC : Nat → ClassId} {dI : Nat → Nat → Nat} {cI cJ cZ : ClassId} (hx : p.tables.exec = Jvm.exec) (hb : c.code = cX1_rank) (hml : c.maxLocals = 3) (hts : ∀ w ∈ wsX1_rank, w.before args s = true) (hown : s.vm.findClass RX1 = some m.cls) (hK : va_K (dC, dI) vwCl [(cI, .int), (cJ, .long), (cZ, .boolean)] s) (hA : ∀ q : Nat, s.heap.size ≤ q → A q) {g0 : Nat} {g1 : Nat} {g2 : Nat} {g3 : Nat} {g4 : Nat} {g5 : Nat} {g6 : Nat} {g7 : Nat} {g8 : Nat} {fi nx la le : Nat → Int32} {by_ he : Nat → Int64} {lo rk : Nat → Int32} (hfi : ∀ j, j < 300 → fi j = -1 ∨ vp_in (fi j) 300)  (kn : ∀ (H : Heap) (locs : List Loc) (ls : Array Slot), va_P (dC, dI) vwCl [(g0, .inr (1, [.ref g1, .ref g2, .ref g3, .ref g4, .ref g5, .ref g6, .ref g7, .ref g8, .int (nI (rkN fi le by_ he rk 300).1)])), (g1, .inl (cI, 300, .inl fi)), (g2, .inl (cI, 300, .inl nx)), (g3, .inl (cI, 300, .inl la)), (g4, .inl (cI, 300, .inl le)), (g5, .inl (cJ, 300, .inr (.inl by_))), (g6, .inl (cJ, 300, .inr (.inl he))), (g7, .inl (cI, 300, .inl lo)), (g8, .inl (cI, 300, .inl ((rkN fi le by_ he rk 300).2)))] H → va_D A [(g0, .inr (1, [.ref g1, .ref g2, .ref g3, .ref g4, .ref g5, .ref g6, .ref g7, .ref g8, .int (nI (rkN fi le by_ he rk 300).1)])), (g1, .inl (cI, 300, .inl fi)), (g2, .inl (cI, 300, .inl nx)), (g3, .inl (cI, 300, .inl la)), (g4, .inl (cI, 300, .inl le)), (g5, .inl (cJ, 300, .inr (.inl by_))), (g6, .inl (cJ, 300, .inr (.inl he))), (g7, .inl (cI, 300, .inl lo)), (g8, .inl (cI, 300, .inl ((rkN fi le by_ he rk 300).2)))] → va_S A s.heap H locs → lv_has ls 3 [(0, .ref g0)] → W p l ev ({ frames := 1, cells := 0, slots := 0, locals := 26 } : Room) s m args below meth c H locs 0 0 Q (F0 m 117 ls [])) : ∀ (n : Nat) (k : Nat), k + n = 300 → ∀ (H : Heap) (locs : List Loc) (ls : Array Slot), va_P (dC, dI) vwCl [(g0, .inr (1, [.ref g1, .ref g2, .ref g3, .ref g4, .ref g5, .ref g6, .ref g7, .ref g8, .int (nI (rkN fi le by_ he rk k).1)])), (g1, .inl (cI, 300, .inl fi)), (g2, .inl (cI, 300, .inl nx)), (g3, .inl (cI, 300, .inl la)), (g4, .inl (cI, 300, .inl le)), (g5, .inl (cJ, 300, .inr (.inl by_))), (g6, .inl (cJ, 300, .inr (.inl he))), (g7, .inl (cI, 300, .inl lo)), (g8, .inl (cI, 300, .inl ((rkN fi le by_ he rk k).2)))] H → va_D A [(g0, .inr (1, [.ref g1, .ref g2, .ref g3, .ref g4, .ref g5, .ref g6, .ref g7, .ref g8, .int (nI (rkN fi le by_ he rk k).1)])), (g1, .inl (cI, 300, .inl fi)), (g2, .inl (cI, 300, .inl nx)), (g3, .inl (cI, 300, .inl la)), (g4, .inl (cI, 300, .inl le)), (g5, .inl (cJ, 300, .inr (.inl by_))), (g6, .inl (cJ, 300, .inr (.inl he))), (g7, .inl (cI, 300, .inl lo)), (g8, .inl (cI, 300, .inl ((rkN fi le by_ he rk k).2)))] → va_S A s.heap H locs → lv_has ls 3 [(0, .ref g0), (1, .int (nI k))] → W p l ev ({ frames := 1, cells := 0, slots := 0, locals := 26 } : Room) s m args below meth c H locs 0 0 Q (F0 m 7 ls []) := by
  have hin1 : ∀ w ∈ wsX10, w ∈ wsX1_rank := by decide +kernel
  intro n
  induction n with
  | zero =>
    intro k hk H locs ls hP hD hS hl
    have hk : k = 300 := by omega
    subst hk
    refine lv_iload_n hx hb dX1_rank_7 rfl (lv_at hl 1 rfl) ?_
    refine lv_sipush (v := 300) hx hb dX1_rank_8 (by decide) ?_
    refine lv_icmp_ge (tgt := 117) hx hb dX1_rank_11 (by decide) (fun c_1 => ?_) (fun c_1 => ?_)
    · -- pc 11, side 0
      exact kn   H locs ls hP hD hS (lv_sub hl [0] rfl)
    · -- pc 11, side 1
      exact absurd (show (300 : Int32) ≤ nI 300 by decide) c_1
  | succ n ih =>
    intro k hk H locs ls hP hD hS hl
    have hin9 := rkN_in fi le by_ he rk k
    refine lv_iload_n hx hb dX1_rank_7 rfl (lv_at hl 1 rfl) ?_
    refine lv_sipush (v := 300) hx hb dX1_rank_8 (by decide) ?_
    refine lv_icmp_ge (tgt := 117) hx hb dX1_rank_11 (by decide) (fun c_2 => ?_) (fun c_2 => ?_)
    · -- pc 11, side 0
      exact absurd (show nI 300 ≤ nI k from c_2) (nI_ge (show k < 300 by omega) (by omega))
    · -- pc 11, side 1
      refine lv_aload_n hx hb dX1_rank_14 rfl (lv_at hl 0 rfl) ?_
      refine va_get (D := (dC, dI)) (ci := 1) (v := .ref g1) (C := RX1) (T := TX1) (N := 9) hx hb hts hin1 hown hK hP 0 rfl rfl 0 (by decide) (hts (.fieldLink RX1 9 "CallClusters$Clustering" "first" "[I") (by decide +kernel)) (fun _ h9 => h9) rfl dX1_rank_15 ?_
      refine lv_iload_n hx hb dX1_rank_18 rfl (lv_at hl 1 rfl) ?_
      refine va_iald hx hb hK hP 1 0 rfl rfl (inn (show k < 300 by omega) (by omega)) dX1_rank_19 ?_
      refine tp_i (y := fi k) (by rw [ix_n (by omega)]) ?_
      refine lv_iconst (v := (-1)) hx hb dX1_rank_20 (by decide) ?_
      refine lv_icmp_eq (tgt := 111) hx hb dX1_rank_21 (by decide) (fun c_3 => ?_) (fun c_3 => ?_)
      · -- pc 21, side 0
        refine lv_iinc (v := nI (k + 1)) (lv' := [(1, .int (nI (k + 1))), (0, .ref g0)]) hx hb dX1_rank_111 hl (k := 1) rfl (by exact nI_1 k) (by decide) rfl (fun ls hl => ?_)
        refine lv_goto (tgt := 7) hx hb dX1_rank_114 (by decide) ?_
        have hq : rkN fi le by_ he rk (k + 1) = rkN fi le by_ he rk k := by show rkStep fi le by_ he k (rkN fi le by_ he rk k) = _; unfold rkStep; rw [if_pos c_3]
        rw [← hq] at hP hD
        exact ih (k + 1) (by omega) H locs ls hP hD hS (lv_sub hl [1, 0] rfl)
      · -- pc 21, side 1
        have hfk : vp_in (fi k) 300 := (hfi k (by omega)).resolve_left c_3
        refine lv_aload_n hx hb dX1_rank_24 rfl (lv_at hl 0 rfl) ?_
        refine va_get (D := (dC, dI)) (ci := 1) (v := .ref g4) (C := RX1) (T := TX1) (N := 9) hx hb hts hin1 hown hK hP 0 rfl rfl 3 (by decide) (hts (.fieldLink RX1 21 "CallClusters$Clustering" "least" "[I") (by decide +kernel)) (fun _ h9 => h9) rfl dX1_rank_25 ?_
        refine lv_aload_n hx hb dX1_rank_28 rfl (lv_at hl 0 rfl) ?_
        refine va_get (D := (dC, dI)) (ci := 1) (v := .ref g1) (C := RX1) (T := TX1) (N := 9) hx hb hts hin1 hown hK hP 0 rfl rfl 0 (by decide) (hts (.fieldLink RX1 9 "CallClusters$Clustering" "first" "[I") (by decide +kernel)) (fun _ h9 => h9) rfl dX1_rank_29 ?_
        refine lv_iload_n hx hb dX1_rank_32 rfl (lv_at hl 1 rfl) ?_
        refine va_iald hx hb hK hP 1 0 rfl rfl (inn (show k < 300 by omega) (by omega)) dX1_rank_33 ?_
        refine tp_i (y := fi k) (by rw [ix_n (by omega)]) ?_
        refine va_iald hx hb hK hP 4 0 rfl rfl (hfk) dX1_rank_34 ?_
        refine lv_iload_n hx hb dX1_rank_35 rfl (lv_at hl 1 rfl) ?_
        refine lv_icmp_ne (tgt := 111) hx hb dX1_rank_36 (by decide) (fun c_4 => ?_) (fun c_4 => ?_)
        · -- pc 36, side 0
          refine lv_iinc (v := nI (k + 1)) (lv' := [(1, .int (nI (k + 1))), (0, .ref g0)]) hx hb dX1_rank_111 hl (k := 1) rfl (by exact nI_1 k) (by decide) rfl (fun ls hl => ?_)
          refine lv_goto (tgt := 7) hx hb dX1_rank_114 (by decide) ?_
          have hq : rkN fi le by_ he rk (k + 1) = rkN fi le by_ he rk k := by show rkStep fi le by_ he k (rkN fi le by_ he rk k) = _; unfold rkStep; rw [if_neg c_3, if_neg c_4]
          rw [← hq] at hP hD
          exact ih (k + 1) (by omega) H locs ls hP hD hS (lv_sub hl [1, 0] rfl)
        · -- pc 36, side 1
          refine lv_aload_n hx hb dX1_rank_39 rfl (lv_at hl 0 rfl) ?_
          refine va_get (D := (dC, dI)) (ci := 1) (v := .int (nI (rkN fi le by_ he rk k).1)) (C := RX1) (T := TX1) (N := 9) hx hb hts hin1 hown hK hP 0 rfl rfl 8 (by decide) (hts (.fieldLink RX1 58 "CallClusters$Clustering" "rankedCount" "I") (by decide +kernel)) (fun _ h9 => h9) rfl dX1_rank_40 ?_
          refine lv_istore_n (lv' := [(2, .int (nI (rkN fi le by_ he rk k).1)), (0, .ref g0), (1, .int (nI k))]) hx hb dX1_rank_43 rfl hl (by decide) rfl (fun ls hl => ?_)
          have hP : va_P (dC, dI) vwCl [(g0, .inr (1, [.ref g1, .ref g2, .ref g3, .ref g4, .ref g5, .ref g6, .ref g7, .ref g8, .int (nI (rkN fi le by_ he rk k).1)])), (g1, .inl (cI, 300, .inl fi)), (g2, .inl (cI, 300, .inl nx)), (g3, .inl (cI, 300, .inl la)), (g4, .inl (cI, 300, .inl le)), (g5, .inl (cJ, 300, .inr (.inl by_))), (g6, .inl (cJ, 300, .inr (.inl he))), (g7, .inl (cI, 300, .inl lo)), (g8, .inl (cI, 300, .inl (shf (rkN fi le by_ he rk k).2 (rkN fi le by_ he rk k).1 (rkN fi le by_ he rk k).1)))] H := by rw [shf_self]; exact hP
          have hD : va_D A [(g0, .inr (1, [.ref g1, .ref g2, .ref g3, .ref g4, .ref g5, .ref g6, .ref g7, .ref g8, .int (nI (rkN fi le by_ he rk k).1)])), (g1, .inl (cI, 300, .inl fi)), (g2, .inl (cI, 300, .inl nx)), (g3, .inl (cI, 300, .inl la)), (g4, .inl (cI, 300, .inl le)), (g5, .inl (cJ, 300, .inr (.inl by_))), (g6, .inl (cJ, 300, .inr (.inl he))), (g7, .inl (cI, 300, .inl lo)), (g8, .inl (cI, 300, .inl (shf (rkN fi le by_ he rk k).2 (rkN fi le by_ he rk k).1 (rkN fi le by_ he rk k).1)))] := by rw [shf_self]; exact hD
          refine lpX1_rank_in (rk := rk) (rc := 0) (g := (rkN fi le by_ he rk k).2) (cnt := (rkN fi le by_ he rk k).1) (k := k) hx hb hml hts hown hK hA (by omega) hin9.1 hfk (fun j hj => rkN_vin (by omega) hfi hj) (fun a hac hp H locs ls hP hD hS hl => ?_) ((rkN fi le by_ he rk k).1) (rkN fi le by_ he rk k).1 (rfl) (Nat.le_refl _) (rfl) H _ ls hP hD hS (lv_sub hl [1, 2, 0] rfl)
          · -- kn
            refine lv_aload_n hx hb dX1_rank_89 rfl (lv_at hl 0 rfl) ?_
            refine va_get (D := (dC, dI)) (ci := 1) (v := .ref g8) (C := RX1) (T := TX1) (N := 9) hx hb hts hin1 hown hK hP 0 rfl rfl 7 (by decide) (hts (.fieldLink RX1 34 "CallClusters$Clustering" "ranked" "[I") (by decide +kernel)) (fun _ h9 => h9) rfl dX1_rank_90 ?_
            refine lv_iload_n hx hb dX1_rank_93 rfl (lv_at hl 2 rfl) ?_
            refine lv_aload_n hx hb dX1_rank_94 rfl (lv_at hl 0 rfl) ?_
            refine va_get (D := (dC, dI)) (ci := 1) (v := .ref g1) (C := RX1) (T := TX1) (N := 9) hx hb hts hin1 hown hK hP 0 rfl rfl 0 (by decide) (hts (.fieldLink RX1 9 "CallClusters$Clustering" "first" "[I") (by decide +kernel)) (fun _ h9 => h9) rfl dX1_rank_95 ?_
            refine lv_iload_n hx hb dX1_rank_98 rfl (lv_at hl 1 rfl) ?_
            refine va_iald hx hb hK hP 1 0 rfl rfl (inn (show k < 300 by omega) (by omega)) dX1_rank_99 ?_
            refine tp_i (y := fi k) (by rw [ix_n (by omega)]) ?_
            refine va_iast hx hb hK hP hD hS 8 0 rfl rfl (inn (show a < 300 by omega) (by omega)) dX1_rank_100 (fun H locs hP hD hS => ?_)
            have hf100 : upd (shf (rkN fi le by_ he rk k).2 a (rkN fi le by_ he rk k).1) ((nI a).toNatClampNeg) (fi k) = insF (rkN fi le by_ he rk k).2 a (rkN fi le by_ he rk k).1 (fi k) := by rw [ix_n (by omega)]; rfl
            have hP : va_P (dC, dI) vwCl [(g0, .inr (1, [.ref g1, .ref g2, .ref g3, .ref g4, .ref g5, .ref g6, .ref g7, .ref g8, .int (nI (rkN fi le by_ he rk k).1)])), (g1, .inl (cI, 300, .inl fi)), (g2, .inl (cI, 300, .inl nx)), (g3, .inl (cI, 300, .inl la)), (g4, .inl (cI, 300, .inl le)), (g5, .inl (cJ, 300, .inr (.inl by_))), (g6, .inl (cJ, 300, .inr (.inl he))), (g7, .inl (cI, 300, .inl lo)), (g8, .inl (cI, 300, .inl (upd (shf (rkN fi le by_ he rk k).2 a (rkN fi le by_ he rk k).1) ((nI a).toNatClampNeg) (fi k))))] H := hP
            have hD : va_D A [(g0, .inr (1, [.ref g1, .ref g2, .ref g3, .ref g4, .ref g5, .ref g6, .ref g7, .ref g8, .int (nI (rkN fi le by_ he rk k).1)])), (g1, .inl (cI, 300, .inl fi)), (g2, .inl (cI, 300, .inl nx)), (g3, .inl (cI, 300, .inl la)), (g4, .inl (cI, 300, .inl le)), (g5, .inl (cJ, 300, .inr (.inl by_))), (g6, .inl (cJ, 300, .inr (.inl he))), (g7, .inl (cI, 300, .inl lo)), (g8, .inl (cI, 300, .inl (upd (shf (rkN fi le by_ he rk k).2 a (rkN fi le by_ he rk k).1) ((nI a).toNatClampNeg) (fi k))))] := hD
            rw [hf100] at hP hD
            refine lv_aload_n hx hb dX1_rank_101 rfl (lv_at hl 0 rfl) ?_
            refine lv_dup hx hb dX1_rank_102 rfl ?_
            refine va_get (D := (dC, dI)) (ci := 1) (v := .int (nI (rkN fi le by_ he rk k).1)) (C := RX1) (T := TX1) (N := 9) hx hb hts hin1 hown hK hP 0 rfl rfl 8 (by decide) (hts (.fieldLink RX1 58 "CallClusters$Clustering" "rankedCount" "I") (by decide +kernel)) (fun _ h9 => h9) rfl dX1_rank_103 ?_
            refine lv_iconst (v := 1) hx hb dX1_rank_106 (by decide) ?_
            refine lv_iadd hx hb dX1_rank_107 ?_
            refine tp_i (y := nI ((rkN fi le by_ he rk k).1 + 1)) (nI_1 _) ?_
            refine va_put (D := (dC, dI)) (ci := 1) (v := .int (nI ((rkN fi le by_ he rk k).1 + 1))) (ty := .int) (C := RX1) (T := TX1) (N := 9) hx hb hts hin1 tyX1 tyX1_ok nmX1 hown hK hP hD hS 0 rfl rfl 8 (by decide) (hts (.fieldLink RX1 58 "CallClusters$Clustering" "rankedCount" "I") (by decide +kernel)) (fun _ h9 => h9) rfl (by decide +kernel) (rfl) (rfl) (Nat.le_of_ble_eq_true rfl) dX1_rank_108 (fun H locs hP hD hS => ?_)
            have hP : va_P (dC, dI) vwCl [(g0, .inr (1, [.ref g1, .ref g2, .ref g3, .ref g4, .ref g5, .ref g6, .ref g7, .ref g8, .int (nI ((rkN fi le by_ he rk k).1 + 1))])), (g1, .inl (cI, 300, .inl fi)), (g2, .inl (cI, 300, .inl nx)), (g3, .inl (cI, 300, .inl la)), (g4, .inl (cI, 300, .inl le)), (g5, .inl (cJ, 300, .inr (.inl by_))), (g6, .inl (cJ, 300, .inr (.inl he))), (g7, .inl (cI, 300, .inl lo)), (g8, .inl (cI, 300, .inl (insF (rkN fi le by_ he rk k).2 a (rkN fi le by_ he rk k).1 (fi k))))] H := hP
            have hD : va_D A [(g0, .inr (1, [.ref g1, .ref g2, .ref g3, .ref g4, .ref g5, .ref g6, .ref g7, .ref g8, .int (nI ((rkN fi le by_ he rk k).1 + 1))])), (g1, .inl (cI, 300, .inl fi)), (g2, .inl (cI, 300, .inl nx)), (g3, .inl (cI, 300, .inl la)), (g4, .inl (cI, 300, .inl le)), (g5, .inl (cJ, 300, .inr (.inl by_))), (g6, .inl (cJ, 300, .inr (.inl he))), (g7, .inl (cI, 300, .inl lo)), (g8, .inl (cI, 300, .inl (insF (rkN fi le by_ he rk k).2 a (rkN fi le by_ he rk k).1 (fi k))))] := hD
            refine lv_iinc (v := nI (k + 1)) (lv' := [(1, .int (nI (k + 1))), (0, .ref g0), (2, .int (nI a))]) hx hb dX1_rank_111 hl (k := 1) rfl (by exact nI_1 k) (by decide) rfl (fun ls hl => ?_)
            refine lv_goto (tgt := 7) hx hb dX1_rank_114 (by decide) ?_
            have hq : rkN fi le by_ he rk (k + 1) = ((rkN fi le by_ he rk k).1 + 1, insF (rkN fi le by_ he rk k).2 a (rkN fi le by_ he rk k).1 (fi k)) := by show rkStep fi le by_ he k (rkN fi le by_ he rk k) = _; unfold rkStep; rw [if_neg c_3, if_pos c_4, hp]
            have hq1 : (rkN fi le by_ he rk k).1 + 1 = (rkN fi le by_ he rk (k + 1)).1 := by rw [hq]
            have hq2 : insF (rkN fi le by_ he rk k).2 a (rkN fi le by_ he rk k).1 (fi k) = (rkN fi le by_ he rk (k + 1)).2 := by rw [hq]
            rw [hq2, hq1] at hP hD
            exact ih (k + 1) (by omega) H locs ls hP hD hS (lv_sub hl [1, 0] rfl)
set_option maxHeartbeats 4000000 in
set_option maxRecDepth 100000 in
theorem ct_X1_rank (l : Launch) (dC : Nat → ClassId) (dI : Nat → Nat → Nat) (cI cJ cZ : ClassId) (sz : Nat) (g0 : Nat) (g1 : Nat) (g2 : Nat) (g3 : Nat) (g4 : Nat) (g5 : Nat) (g6 : Nat) (g7 : Nat) (g8 : Nat) (fi nx la le : Nat → Int32) (by_ he : Nat → Int64) (lo rk : Nat → Int32) (rc : Int32) (hfi : ∀ j, j < 300 → fi j = -1 ∨ vp_in (fi j) 300) : Met l yX1_rank wsX1_rank ({ frames := 1, cells := 0, slots := 0, locals := 26 }) (va_Pc [.ref g0] (fun U => U.heap.size = sz ∧ va_P (dC, dI) vwCl [(g0, .inr (1, [.ref g1, .ref g2, .ref g3, .ref g4, .ref g5, .ref g6, .ref g7, .ref g8, .int rc])), (g1, .inl (cI, 300, .inl fi)), (g2, .inl (cI, 300, .inl nx)), (g3, .inl (cI, 300, .inl la)), (g4, .inl (cI, 300, .inl le)), (g5, .inl (cJ, 300, .inr (.inl by_))), (g6, .inl (cJ, 300, .inr (.inl he))), (g7, .inl (cI, 300, .inl lo)), (g8, .inl (cI, 300, .inl rk))] U.heap ∧ va_K (dC, dI) vwCl [(cI, .int), (cJ, .long), (cZ, .boolean)] U ∧ va_D (fun _ => True) [(g0, .inr (1, [.ref g1, .ref g2, .ref g3, .ref g4, .ref g5, .ref g6, .ref g7, .ref g8, .int rc])), (g1, .inl (cI, 300, .inl fi)), (g2, .inl (cI, 300, .inl nx)), (g3, .inl (cI, 300, .inl la)), (g4, .inl (cI, 300, .inl le)), (g5, .inl (cJ, 300, .inr (.inl by_))), (g6, .inl (cJ, 300, .inr (.inl he))), (g7, .inl (cI, 300, .inl lo)), (g8, .inl (cI, 300, .inl rk))])) (va_Qv (fun (uu : Unit) => True) (fun (uu : Unit) (t : State) => va_P (dC, dI) vwCl [(g0, .inr (1, [.ref g1, .ref g2, .ref g3, .ref g4, .ref g5, .ref g6, .ref g7, .ref g8, .int (nI (rkN fi le by_ he rk 300).1)])), (g1, .inl (cI, 300, .inl fi)), (g2, .inl (cI, 300, .inl nx)), (g3, .inl (cI, 300, .inl la)), (g4, .inl (cI, 300, .inl le)), (g5, .inl (cJ, 300, .inr (.inl by_))), (g6, .inl (cJ, 300, .inr (.inl he))), (g7, .inl (cI, 300, .inl lo)), (g8, .inl (cI, 300, .inl ((rkN fi le by_ he rk 300).2)))] t.heap ∧ va_K (dC, dI) vwCl [(cI, .int), (cJ, .long), (cZ, .boolean)] t ∧ va_D (va_A [(g0, .inr (1, [.ref g1, .ref g2, .ref g3, .ref g4, .ref g5, .ref g6, .ref g7, .ref g8, .int rc])), (g1, .inl (cI, 300, .inl fi)), (g2, .inl (cI, 300, .inl nx)), (g3, .inl (cI, 300, .inl la)), (g4, .inl (cI, 300, .inl le)), (g5, .inl (cJ, 300, .inr (.inl by_))), (g6, .inl (cJ, 300, .inr (.inl he))), (g7, .inl (cI, 300, .inl lo)), (g8, .inl (cI, 300, .inl rk))] sz) [(g0, .inr (1, [.ref g1, .ref g2, .ref g3, .ref g4, .ref g5, .ref g6, .ref g7, .ref g8, .int (nI (rkN fi le by_ he rk 300).1)])), (g1, .inl (cI, 300, .inl fi)), (g2, .inl (cI, 300, .inl nx)), (g3, .inl (cI, 300, .inl la)), (g4, .inl (cI, 300, .inl le)), (g5, .inl (cJ, 300, .inr (.inl by_))), (g6, .inl (cJ, 300, .inr (.inl he))), (g7, .inl (cI, 300, .inl lo)), (g8, .inl (cI, 300, .inl ((rkN fi le by_ he rk 300).2)))]) (va_A [(g0, .inr (1, [.ref g1, .ref g2, .ref g3, .ref g4, .ref g5, .ref g6, .ref g7, .ref g8, .int rc])), (g1, .inl (cI, 300, .inl fi)), (g2, .inl (cI, 300, .inl nx)), (g3, .inl (cI, 300, .inl la)), (g4, .inl (cI, 300, .inl le)), (g5, .inl (cJ, 300, .inr (.inl by_))), (g6, .inl (cJ, 300, .inr (.inl he))), (g7, .inl (cI, 300, .inl lo)), (g8, .inl (cI, 300, .inl rk))] sz)) 0 0 (va_A [(g0, .inr (1, [.ref g1, .ref g2, .ref g3, .ref g4, .ref g5, .ref g6, .ref g7, .ref g8, .int rc])), (g1, .inl (cI, 300, .inl fi)), (g2, .inl (cI, 300, .inl nx)), (g3, .inl (cI, 300, .inl la)), (g4, .inl (cI, 300, .inl le)), (g5, .inl (cJ, 300, .inr (.inl by_))), (g6, .inl (cJ, 300, .inr (.inl he))), (g7, .inl (cI, 300, .inl lo)), (g8, .inl (cI, 300, .inl rk))] sz) := by
  refine Met.ofW (cc := cX1_rank) (maxL := 3) (ret := none) (by decide) rfl ?_
  intro p ev s m args below meth c s₁ Bd hml hv
  obtain ⟨rfl, hsz, hP, hK, hD0⟩ := hv
  have hx := Bd.exec
  have hb := Bd.bytes
  have hr := Bd.returns
  have hts := atoms_spec (ws := wsX1_rank) Bd.pre
  have hown : s.vm.findClass RX1 = some m.cls := findClass_of_methodNamed Bd.named
  have hlocks := Bd.notSynchronized
  have hin1 : ∀ w ∈ wsX10, w ∈ wsX1_rank := by decide +kernel
  subst hsz
  have hD := hD0.self (sz := s.heap.size)
  generalize hAe : va_A [(g0, .inr (1, [.ref g1, .ref g2, .ref g3, .ref g4, .ref g5, .ref g6, .ref g7, .ref g8, .int rc])), (g1, .inl (cI, 300, .inl fi)), (g2, .inl (cI, 300, .inl nx)), (g3, .inl (cI, 300, .inl la)), (g4, .inl (cI, 300, .inl le)), (g5, .inl (cJ, 300, .inr (.inl by_))), (g6, .inl (cJ, 300, .inr (.inl he))), (g7, .inl (cI, 300, .inl lo)), (g8, .inl (cI, 300, .inl rk))] s.heap.size = A at hD ⊢
  have hA : ∀ q : Nat, s.heap.size ≤ q → A q := fun q h => by rw [← hAe]; exact Or.inr h
  have hS : va_S A s.heap s.heap [] := va_S.rf
  have hl := lv_entry ([.ref g0]) (n := 3) (Nat.le_of_ble_eq_true rfl)
  rw [lg_entry_eq]
  generalize (lg_sl ([.ref g0]) ++ List.replicate (3 - (lg_sl ([.ref g0])).length) Slot.unset).toArray = ls at hl ⊢
  have hl : lv_has ls 3 [(0, .ref g0)] := hl
  generalize hHe : s.heap = H at hP ⊢
  have hS : va_S A s.heap H [] := hHe ▸ hS
  refine lv_aload_n hx hb dX1_rank_0 rfl (lv_at hl 0 rfl) ?_
  refine lv_iconst (v := 0) hx hb dX1_rank_1 (by decide) ?_
  refine va_put (D := (dC, dI)) (ci := 1) (v := .int 0) (ty := .int) (C := RX1) (T := TX1) (N := 9) hx hb hts hin1 tyX1 tyX1_ok nmX1 hown hK hP hD hS 0 rfl rfl 8 (by decide) (hts (.fieldLink RX1 58 "CallClusters$Clustering" "rankedCount" "I") (by decide +kernel)) (fun _ h9 => h9) rfl (by decide +kernel) (rfl) (rfl) (Nat.le_of_ble_eq_true rfl) dX1_rank_2 (fun H locs hP hD hS => ?_)
  have hP : va_P (dC, dI) vwCl [(g0, .inr (1, [.ref g1, .ref g2, .ref g3, .ref g4, .ref g5, .ref g6, .ref g7, .ref g8, .int 0])), (g1, .inl (cI, 300, .inl fi)), (g2, .inl (cI, 300, .inl nx)), (g3, .inl (cI, 300, .inl la)), (g4, .inl (cI, 300, .inl le)), (g5, .inl (cJ, 300, .inr (.inl by_))), (g6, .inl (cJ, 300, .inr (.inl he))), (g7, .inl (cI, 300, .inl lo)), (g8, .inl (cI, 300, .inl rk))] H := hP
  have hD : va_D A [(g0, .inr (1, [.ref g1, .ref g2, .ref g3, .ref g4, .ref g5, .ref g6, .ref g7, .ref g8, .int 0])), (g1, .inl (cI, 300, .inl fi)), (g2, .inl (cI, 300, .inl nx)), (g3, .inl (cI, 300, .inl la)), (g4, .inl (cI, 300, .inl le)), (g5, .inl (cJ, 300, .inr (.inl by_))), (g6, .inl (cJ, 300, .inr (.inl he))), (g7, .inl (cI, 300, .inl lo)), (g8, .inl (cI, 300, .inl rk))] := hD
  refine lv_iconst (v := 0) hx hb dX1_rank_5 (by decide) ?_
  refine tp_i (y := nI 0) (nI_0.symm) ?_
  refine lv_istore_n (lv' := [(1, .int (nI 0)), (0, .ref g0)]) hx hb dX1_rank_6 rfl hl (by decide) rfl (fun ls hl => ?_)
  have hP : va_P (dC, dI) vwCl [(g0, .inr (1, [.ref g1, .ref g2, .ref g3, .ref g4, .ref g5, .ref g6, .ref g7, .ref g8, .int (nI (rkN fi le by_ he rk 0).1)])), (g1, .inl (cI, 300, .inl fi)), (g2, .inl (cI, 300, .inl nx)), (g3, .inl (cI, 300, .inl la)), (g4, .inl (cI, 300, .inl le)), (g5, .inl (cJ, 300, .inr (.inl by_))), (g6, .inl (cJ, 300, .inr (.inl he))), (g7, .inl (cI, 300, .inl lo)), (g8, .inl (cI, 300, .inl ((rkN fi le by_ he rk 0).2)))] H := hP
  have hD : va_D A [(g0, .inr (1, [.ref g1, .ref g2, .ref g3, .ref g4, .ref g5, .ref g6, .ref g7, .ref g8, .int (nI (rkN fi le by_ he rk 0).1)])), (g1, .inl (cI, 300, .inl fi)), (g2, .inl (cI, 300, .inl nx)), (g3, .inl (cI, 300, .inl la)), (g4, .inl (cI, 300, .inl le)), (g5, .inl (cJ, 300, .inr (.inl by_))), (g6, .inl (cJ, 300, .inr (.inl he))), (g7, .inl (cI, 300, .inl lo)), (g8, .inl (cI, 300, .inl ((rkN fi le by_ he rk 0).2)))] := hD
  refine lpX1_rank (fi := fi) (le := le) (by_ := by_) (he := he) (rk := rk) hx hb hml hts hown hK hA hfi (fun  H locs ls hP hD hS hl => ?_) (300) 0 (by omega) H _ ls hP hD hS (lv_sub hl [1, 0] rfl)
  · -- kn
    have hP9 : va_P (dC, dI) vwCl [(g0, .inr (1, [.ref g1, .ref g2, .ref g3, .ref g4, .ref g5, .ref g6, .ref g7, .ref g8, .int (nI (rkN fi le by_ he rk 300).1)])), (g1, .inl (cI, 300, .inl fi)), (g2, .inl (cI, 300, .inl nx)), (g3, .inl (cI, 300, .inl la)), (g4, .inl (cI, 300, .inl le)), (g5, .inl (cJ, 300, .inr (.inl by_))), (g6, .inl (cJ, 300, .inr (.inl he))), (g7, .inl (cI, 300, .inl lo)), (g8, .inl (cI, 300, .inl ((rkN fi le by_ he rk 300).2)))] H := hP
    have hD9 : va_D A [(g0, .inr (1, [.ref g1, .ref g2, .ref g3, .ref g4, .ref g5, .ref g6, .ref g7, .ref g8, .int (nI (rkN fi le by_ he rk 300).1)])), (g1, .inl (cI, 300, .inl fi)), (g2, .inl (cI, 300, .inl nx)), (g3, .inl (cI, 300, .inl la)), (g4, .inl (cI, 300, .inl le)), (g5, .inl (cJ, 300, .inr (.inl by_))), (g6, .inl (cJ, 300, .inr (.inl he))), (g7, .inl (cI, 300, .inl lo)), (g8, .inl (cI, 300, .inl ((rkN fi le by_ he rk 300).2)))] := hD
    exact W.vret hx hb hr (fun t ht hW => ⟨⟨(), rfl, trivial, by rw [ht]; exact hP9, va_K.moved hW.alike hK, hD9⟩, hS.F ht⟩) hS.2.2 dX1_rank_117
set_option maxHeartbeats 4000000 in
set_option maxRecDepth 100000 in
theorem lpX1_write_in {p : Program} {l : Launch} {ev : Env} {s : State} {m : MethodId} {args : Array Value} {below : List Frame} {meth : Method} {c : Code} {Q : State → Prop} {A : Nat → Prop} {dC : Nat → ClassId} {dI : Nat → Nat → Nat} {cI cJ cZ : ClassId} (hx : p.tables.exec = Jvm.exec) (hb : c.code = cX1_writeTo) (hml : c.maxLocals = 6) (hts : ∀ w ∈ wsX1_writeTo, w.before args s = true) (hown : s.vm.findClass RX1 = some m.cls) (hK : va_K (dC, dI) vwCl [(cI, .int), (cJ, .long), (cZ, .boolean)] s) (hA : ∀ q : Nat, s.heap.size ≤ q → A q) {g0 : Nat} {g1 : Nat} {g2 : Nat} {g3 : Nat} {g4 : Nat} {g5 : Nat} {g6 : Nat} {g7 : Nat} {g8 : Nat} {z0 : Nat} {w0 : Nat} {w1 : Nat} {w2 : Nat} {fi nx la le : Nat → Int32} {by_ he : Nat → Int64} {lo rk : Nat → Int32} {rc : Int32} {z : Nat → Int32} {i : Nat} {G : (Nat → Int32) × (Nat → Int64) × Nat × Int64}   (kn : ∀ (H : Heap) (locs : List Loc) (ls : Array Slot), va_P (dC, dI) vwCl [(g0, .inr (1, [.ref g1, .ref g2, .ref g3, .ref g4, .ref g5, .ref g6, .ref g7, .ref g8, .int rc])), (g1, .inl (cI, 300, .inl fi)), (g2, .inl (cI, 300, .inl nx)), (g3, .inl (cI, 300, .inl la)), (g4, .inl (cI, 300, .inl le)), (g5, .inl (cJ, 300, .inr (.inl by_))), (g6, .inl (cJ, 300, .inr (.inl he))), (g7, .inl (cI, 300, .inl lo)), (g8, .inl (cI, 300, .inl rk)), (z0, .inl (cI, 300, .inl z)), (w0, .inr (2, [.ref w1, .ref w2, .int (nI G.2.2.1), .long G.2.2.2])), (w1, .inl (cI, 300, .inl G.1)), (w2, .inl (cJ, 300, .inr (.inl G.2.1)))] H → va_D A [(g0, .inr (1, [.ref g1, .ref g2, .ref g3, .ref g4, .ref g5, .ref g6, .ref g7, .ref g8, .int rc])), (g1, .inl (cI, 300, .inl fi)), (g2, .inl (cI, 300, .inl nx)), (g3, .inl (cI, 300, .inl la)), (g4, .inl (cI, 300, .inl le)), (g5, .inl (cJ, 300, .inr (.inl by_))), (g6, .inl (cJ, 300, .inr (.inl he))), (g7, .inl (cI, 300, .inl lo)), (g8, .inl (cI, 300, .inl rk)), (z0, .inl (cI, 300, .inl z)), (w0, .inr (2, [.ref w1, .ref w2, .int (nI G.2.2.1), .long G.2.2.2])), (w1, .inl (cI, 300, .inl G.1)), (w2, .inl (cJ, 300, .inr (.inl G.2.1)))] → va_S A s.heap H locs → lv_has ls 6 [(0, .ref g0), (1, .ref w0), (2, .ref z0), (3, .int (nI i))] → W p l ev ({ frames := 2, cells := 0, slots := 0, locals := 46 } : Room) s m args below meth c H locs 0 0 Q (F0 m 64 ls [])) : ∀ (n : Nat) (q : List Nat) (f : Int32) (k : Nat) (x : (Nat → Int32) × (Nat → Int64) × Nat × Int64), q.length = n → k + q.length ≤ 300 → Chain nx q f → (∀ y, y ∈ q → y < 300) → x.2.2.1 + q.length ≤ 300 → q.foldl (rAdd z) x = G → ∀ (H : Heap) (locs : List Loc) (ls : Array Slot), va_P (dC, dI) vwCl [(g0, .inr (1, [.ref g1, .ref g2, .ref g3, .ref g4, .ref g5, .ref g6, .ref g7, .ref g8, .int rc])), (g1, .inl (cI, 300, .inl fi)), (g2, .inl (cI, 300, .inl nx)), (g3, .inl (cI, 300, .inl la)), (g4, .inl (cI, 300, .inl le)), (g5, .inl (cJ, 300, .inr (.inl by_))), (g6, .inl (cJ, 300, .inr (.inl he))), (g7, .inl (cI, 300, .inl lo)), (g8, .inl (cI, 300, .inl rk)), (z0, .inl (cI, 300, .inl z)), (w0, .inr (2, [.ref w1, .ref w2, .int (nI x.2.2.1), .long x.2.2.2])), (w1, .inl (cI, 300, .inl x.1)), (w2, .inl (cJ, 300, .inr (.inl x.2.1)))] H → va_D A [(g0, .inr (1, [.ref g1, .ref g2, .ref g3, .ref g4, .ref g5, .ref g6, .ref g7, .ref g8, .int rc])), (g1, .inl (cI, 300, .inl fi)), (g2, .inl (cI, 300, .inl nx)), (g3, .inl (cI, 300, .inl la)), (g4, .inl (cI, 300, .inl le)), (g5, .inl (cJ, 300, .inr (.inl by_))), (g6, .inl (cJ, 300, .inr (.inl he))), (g7, .inl (cI, 300, .inl lo)), (g8, .inl (cI, 300, .inl rk)), (z0, .inl (cI, 300, .inl z)), (w0, .inr (2, [.ref w1, .ref w2, .int (nI x.2.2.1), .long x.2.2.2])), (w1, .inl (cI, 300, .inl x.1)), (w2, .inl (cJ, 300, .inr (.inl x.2.1)))] → va_S A s.heap H locs → lv_has ls 6 [(0, .ref g0), (1, .ref w0), (2, .ref z0), (3, .int (nI i)), (4, .int f), (5, .int (nI k))] → W p l ev ({ frames := 2, cells := 0, slots := 0, locals := 46 } : Room) s m args below meth c H locs 0 0 Q (F0 m 25 ls []) := by
  have hin1 : ∀ w ∈ wsX10, w ∈ wsX1_writeTo := by decide +kernel
  intro n
  induction n with
  | zero =>
    intro q f k x hn hk hc hm hu hG H locs ls hP hD hS hl
    have hq : q = [] := List.length_eq_zero_iff.mp hn
    subst hq
    have hf : f = -1 := hc
    subst hf
    have hG : x = G := hG
    subst hG
    refine lv_iload hx hb dX1_writeTo_25 (lv_at hl 5 rfl) ?_
    refine lv_sipush (v := 300) hx hb dX1_writeTo_27 (by decide) ?_
    refine lv_icmp_ge (tgt := 64) hx hb dX1_writeTo_30 (by decide) (fun c_1 => ?_) (fun c_1 => ?_)
    · -- pc 30, side 0
      exact kn   H locs ls hP hD hS (lv_sub hl [0, 1, 2, 3] rfl)
    · -- pc 30, side 1
      refine lv_iload hx hb dX1_writeTo_33 (lv_at hl 4 rfl) ?_
      refine lv_iconst (v := (-1)) hx hb dX1_writeTo_35 (by decide) ?_
      refine lv_icmp_eq (tgt := 64) hx hb dX1_writeTo_36 (by decide) (fun c_2 => ?_) (fun c_2 => ?_)
      · -- pc 36, side 0
        exact kn   H locs ls hP hD hS (lv_sub hl [0, 1, 2, 3] rfl)
      · -- pc 36, side 1
        exact absurd rfl c_2
  | succ n ih =>
    intro q f k x hn hk hc hm hu hG H locs ls hP hD hS hl
    obtain ⟨y, q, rfl⟩ : ∃ y q', q = y :: q' := by cases q with | nil => cases hn | cons y q => exact ⟨y, q, rfl⟩
    obtain ⟨hf, hc⟩ := hc
    subst hf
    have hx9 : y < 300 := hm y List.mem_cons_self
    rw [List.length_cons] at hn hk hu
    refine lv_iload hx hb dX1_writeTo_25 (lv_at hl 5 rfl) ?_
    refine lv_sipush (v := 300) hx hb dX1_writeTo_27 (by decide) ?_
    refine lv_icmp_ge (tgt := 64) hx hb dX1_writeTo_30 (by decide) (fun c_3 => ?_) (fun c_3 => ?_)
    · -- pc 30, side 0
      exact absurd (show nI 300 ≤ nI k from c_3) (nI_ge (show k < 300 by omega) (by omega))
    · -- pc 30, side 1
      refine lv_iload hx hb dX1_writeTo_33 (lv_at hl 4 rfl) ?_
      refine lv_iconst (v := (-1)) hx hb dX1_writeTo_35 (by decide) ?_
      refine lv_icmp_eq (tgt := 64) hx hb dX1_writeTo_36 (by decide) (fun c_4 => ?_) (fun c_4 => ?_)
      · -- pc 36, side 0
        exact absurd c_4 (nI_m1 (by omega))
      · -- pc 36, side 1
        refine lv_aload_n hx hb dX1_writeTo_39 rfl (lv_at hl 1 rfl) ?_
        refine lv_iload hx hb dX1_writeTo_40 (lv_at hl 4 rfl) ?_
        refine lv_aload_n hx hb dX1_writeTo_42 rfl (lv_at hl 2 rfl) ?_
        refine lv_iload hx hb dX1_writeTo_43 (lv_at hl 4 rfl) ?_
        refine va_iald hx hb hK hP 9 0 rfl rfl (inn hx9 (by omega)) dX1_writeTo_45 ?_
        refine tp_i (y := z y) (by rw [ix_n (by omega)]) ?_
        have hPc := hP.sub (ws' := [(w0, .inr (2, [.ref w1, .ref w2, .int (nI x.2.2.1), .long x.2.2.2])), (w1, .inl (cI, 300, .inl x.1)), (w2, .inl (cJ, 300, .inr (.inl x.2.1)))]) [10, 11, 12] rfl
        have hDc := hD.sub (ws' := [(w0, .inr (2, [.ref w1, .ref w2, .int (nI x.2.2.1), .long x.2.2.2])), (w1, .inl (cI, 300, .inl x.1)), (w2, .inl (cJ, 300, .inr (.inl x.2.1)))]) [10, 11, 12] (by decide) rfl
        have hFc := va_free (wc := [(w0, .inr (2, [.ref w1, .ref w2, .int (nI x.2.2.1), .long x.2.2.2])), (w1, .inl (cI, 300, .inl x.1)), (w2, .inl (cJ, 300, .inr (.inl x.2.1)))]) hD hS hA [10, 11, 12] rfl
        refine va_callv (va_runV (As := [.int (nI y), .int (z y)]) (rest := []) ⟨hx, hb, hml, hown, hts⟩ (ct_X2_append l dC dI cI cJ cZ H.size w0 w1 w2 x.1 x.2.1 x.2.2.1 x.2.2.2 (nI y) (z y) (by omega) (inn hx9 (by omega))) (cwV 2 hts gX1_writeTo_X2_append rfl rfl rfl (by decide +kernel) ⟨Nat.le_of_ble_eq_true rfl, Nat.le_of_ble_eq_true rfl⟩) (pre_V hK hPc hDc (ci := 2) rfl rfl) rfl rfl hl.1 rfl (lv_room (Nat.le_of_ble_eq_true rfl)) dX1_writeTo_46 ⟨Nat.zero_le _, Nat.zero_le _⟩) hS (fun q _ h => hFc q h) hFc (fun uu t H1 locs ht hvm hw hB hz1 hk1 hS => ?_)
        obtain ⟨hP1, hK1, hD1⟩ := hB
        rw [ht] at hP1
        try dsimp only at hw
        have hP1 : va_P (dC, dI) vwCl [(w0, .inr (2, [.ref w1, .ref w2, .int (nI (x.2.2.1 + 1)), .long (x.2.2.2 + (z y).toInt64)])), (w1, .inl (cI, 300, .inl (upd x.1 x.2.2.1 (nI y)))), (w2, .inl (cJ, 300, .inr (.inl (vp_updL x.2.1 ((nI y).toNatClampNeg) x.2.2.2))))] H1 := hP1
        obtain ⟨hP, hD⟩ := va_join (wr := [(g0, .inr (1, [.ref g1, .ref g2, .ref g3, .ref g4, .ref g5, .ref g6, .ref g7, .ref g8, .int rc])), (g1, .inl (cI, 300, .inl fi)), (g2, .inl (cI, 300, .inl nx)), (g3, .inl (cI, 300, .inl la)), (g4, .inl (cI, 300, .inl le)), (g5, .inl (cJ, 300, .inr (.inl by_))), (g6, .inl (cJ, 300, .inr (.inl he))), (g7, .inl (cI, 300, .inl lo)), (g8, .inl (cI, 300, .inl rk)), (z0, .inl (cI, 300, .inl z))]) (w1 := [(w0, .inr (2, [.ref w1, .ref w2, .int (nI (x.2.2.1 + 1)), .long (x.2.2.2 + (z y).toInt64)])), (w1, .inl (cI, 300, .inl (upd x.1 x.2.2.1 (nI y)))), (w2, .inl (cJ, 300, .inr (.inl (vp_updL x.2.1 ((nI y).toNatClampNeg) x.2.2.2))))]) hP hD [10, 11, 12] [0, 1, 2, 3, 4, 5, 6, 7, 8, 9] rfl rfl (by decide) (by decide) hk1 hFc hP1 hD1
        have hP := hP.sub (ws' := [(g0, .inr (1, [.ref g1, .ref g2, .ref g3, .ref g4, .ref g5, .ref g6, .ref g7, .ref g8, .int rc])), (g1, .inl (cI, 300, .inl fi)), (g2, .inl (cI, 300, .inl nx)), (g3, .inl (cI, 300, .inl la)), (g4, .inl (cI, 300, .inl le)), (g5, .inl (cJ, 300, .inr (.inl by_))), (g6, .inl (cJ, 300, .inr (.inl he))), (g7, .inl (cI, 300, .inl lo)), (g8, .inl (cI, 300, .inl rk)), (z0, .inl (cI, 300, .inl z)), (w0, .inr (2, [.ref w1, .ref w2, .int (nI (x.2.2.1 + 1)), .long (x.2.2.2 + (z y).toInt64)])), (w1, .inl (cI, 300, .inl (upd x.1 x.2.2.1 (nI y)))), (w2, .inl (cJ, 300, .inr (.inl (vp_updL x.2.1 ((nI y).toNatClampNeg) x.2.2.2))))]) [0, 1, 2, 3, 4, 5, 6, 7, 8, 9, 10, 11, 12] rfl
        have hD := hD.sub (ws' := [(g0, .inr (1, [.ref g1, .ref g2, .ref g3, .ref g4, .ref g5, .ref g6, .ref g7, .ref g8, .int rc])), (g1, .inl (cI, 300, .inl fi)), (g2, .inl (cI, 300, .inl nx)), (g3, .inl (cI, 300, .inl la)), (g4, .inl (cI, 300, .inl le)), (g5, .inl (cJ, 300, .inr (.inl by_))), (g6, .inl (cJ, 300, .inr (.inl he))), (g7, .inl (cI, 300, .inl lo)), (g8, .inl (cI, 300, .inl rk)), (z0, .inl (cI, 300, .inl z)), (w0, .inr (2, [.ref w1, .ref w2, .int (nI (x.2.2.1 + 1)), .long (x.2.2.2 + (z y).toInt64)])), (w1, .inl (cI, 300, .inl (upd x.1 x.2.2.1 (nI y)))), (w2, .inl (cJ, 300, .inr (.inl (vp_updL x.2.1 ((nI y).toNatClampNeg) x.2.2.2))))]) [0, 1, 2, 3, 4, 5, 6, 7, 8, 9, 10, 11, 12] (by decide) rfl
        generalize H1 = H at hP hS ⊢
        rw [ix_n (by omega)] at hP hD
        refine lv_aload_n hx hb dX1_writeTo_49 rfl (lv_at hl 0 rfl) ?_
        refine va_get (D := (dC, dI)) (ci := 1) (v := .ref g2) (C := RX1) (T := TX1) (N := 9) hx hb hts hin1 hown hK hP 0 rfl rfl 1 (by decide) (hts (.fieldLink RX1 15 "CallClusters$Clustering" "next" "[I") (by decide +kernel)) (fun _ h9 => h9) rfl dX1_writeTo_50 ?_
        refine lv_iload hx hb dX1_writeTo_53 (lv_at hl 4 rfl) ?_
        refine va_iald hx hb hK hP 2 0 rfl rfl (inn hx9 (by omega)) dX1_writeTo_55 ?_
        refine tp_i (y := nx y) (by rw [ix_n (by omega)]) ?_
        refine lv_istore (lv' := [(4, .int (nx y)), (0, .ref g0), (1, .ref w0), (2, .ref z0), (3, .int (nI i)), (5, .int (nI k))]) hx hb dX1_writeTo_56 hl (by decide) rfl (fun ls hl => ?_)
        refine lv_iinc (v := nI (k + 1)) (lv' := [(5, .int (nI (k + 1))), (4, .int (nx y)), (0, .ref g0), (1, .ref w0), (2, .ref z0), (3, .int (nI i))]) hx hb dX1_writeTo_58 hl (k := 5) rfl (by exact nI_1 k) (by decide) rfl (fun ls hl => ?_)
        refine lv_goto (tgt := 25) hx hb dX1_writeTo_61 (by decide) ?_
        exact ih q (nx y) (k + 1) (rAdd z x y) (by omega) (by omega) (hc) (fun v hv => hm v (List.mem_cons_of_mem _ hv)) (by show x.2.2.1 + 1 + q.length ≤ 300; omega) (hG) H locs ls hP hD hS (lv_sub hl [2, 3, 4, 5, 1, 0] rfl)
set_option maxHeartbeats 4000000 in
set_option maxRecDepth 100000 in
theorem lpX1_write {p : Program} {l : Launch} {ev : Env} {s : State} {m : MethodId} {args : Array Value} {below : List Frame} {meth : Method} {c : Code} {Q : State → Prop} {A : Nat → Prop} {dC : Nat → ClassId} {dI : Nat → Nat → Nat} {cI cJ cZ : ClassId} (hx : p.tables.exec = Jvm.exec) (hb : c.code = cX1_writeTo) (hml : c.maxLocals = 6) (hts : ∀ w ∈ wsX1_writeTo, w.before args s = true) (hown : s.vm.findClass RX1 = some m.cls) (hK : va_K (dC, dI) vwCl [(cI, .int), (cJ, .long), (cZ, .boolean)] s) (hA : ∀ q : Nat, s.heap.size ≤ q → A q) {g0 : Nat} {g1 : Nat} {g2 : Nat} {g3 : Nat} {g4 : Nat} {g5 : Nat} {g6 : Nat} {g7 : Nat} {g8 : Nat} {z0 : Nat} {w0 : Nat} {w1 : Nat} {w2 : Nat} {fi nx la le : Nat → Int32} {by_ he : Nat → Int64} {lo rk : Nat → Int32} {z : Nat → Int32} {cnt : Nat} {ch : Nat → List Nat} {G : (Nat → Int32) × (Nat → Int64) × Nat × Int64} (hcnt : cnt ≤ 300)  (kn : ∀ (H : Heap) (locs : List Loc) (ls : Array Slot), va_P (dC, dI) vwCl [(g0, .inr (1, [.ref g1, .ref g2, .ref g3, .ref g4, .ref g5, .ref g6, .ref g7, .ref g8, .int (nI cnt)])), (g1, .inl (cI, 300, .inl fi)), (g2, .inl (cI, 300, .inl nx)), (g3, .inl (cI, 300, .inl la)), (g4, .inl (cI, 300, .inl le)), (g5, .inl (cJ, 300, .inr (.inl by_))), (g6, .inl (cJ, 300, .inr (.inl he))), (g7, .inl (cI, 300, .inl lo)), (g8, .inl (cI, 300, .inl rk)), (z0, .inl (cI, 300, .inl z)), (w0, .inr (2, [.ref w1, .ref w2, .int (nI G.2.2.1), .long G.2.2.2])), (w1, .inl (cI, 300, .inl G.1)), (w2, .inl (cJ, 300, .inr (.inl G.2.1)))] H → va_D A [(g0, .inr (1, [.ref g1, .ref g2, .ref g3, .ref g4, .ref g5, .ref g6, .ref g7, .ref g8, .int (nI cnt)])), (g1, .inl (cI, 300, .inl fi)), (g2, .inl (cI, 300, .inl nx)), (g3, .inl (cI, 300, .inl la)), (g4, .inl (cI, 300, .inl le)), (g5, .inl (cJ, 300, .inr (.inl by_))), (g6, .inl (cJ, 300, .inr (.inl he))), (g7, .inl (cI, 300, .inl lo)), (g8, .inl (cI, 300, .inl rk)), (z0, .inl (cI, 300, .inl z)), (w0, .inr (2, [.ref w1, .ref w2, .int (nI G.2.2.1), .long G.2.2.2])), (w1, .inl (cI, 300, .inl G.1)), (w2, .inl (cJ, 300, .inr (.inl G.2.1)))] → va_S A s.heap H locs → lv_has ls 6 [(0, .ref g0), (1, .ref w0), (2, .ref z0)] → W p l ev ({ frames := 2, cells := 0, slots := 0, locals := 46 } : Room) s m args below meth c H locs 0 0 Q (F0 m 70 ls [])) : ∀ (n : Nat) (hs : List Nat) (i : Nat) (x : (Nat → Int32) × (Nat → Int64) × Nat × Int64), hs.length = n → i + hs.length = cnt → (∀ j (h : j < hs.length), rk (i + j) = nI hs[j]) → (∀ h, h ∈ hs → Chain nx (ch h) (nI h) ∧ ∀ y, y ∈ ch h → y < 300) → x.2.2.1 + (hs.flatMap ch).length ≤ 300 → (hs.flatMap ch).foldl (rAdd z) x = G → ∀ (H : Heap) (locs : List Loc) (ls : Array Slot), va_P (dC, dI) vwCl [(g0, .inr (1, [.ref g1, .ref g2, .ref g3, .ref g4, .ref g5, .ref g6, .ref g7, .ref g8, .int (nI cnt)])), (g1, .inl (cI, 300, .inl fi)), (g2, .inl (cI, 300, .inl nx)), (g3, .inl (cI, 300, .inl la)), (g4, .inl (cI, 300, .inl le)), (g5, .inl (cJ, 300, .inr (.inl by_))), (g6, .inl (cJ, 300, .inr (.inl he))), (g7, .inl (cI, 300, .inl lo)), (g8, .inl (cI, 300, .inl rk)), (z0, .inl (cI, 300, .inl z)), (w0, .inr (2, [.ref w1, .ref w2, .int (nI x.2.2.1), .long x.2.2.2])), (w1, .inl (cI, 300, .inl x.1)), (w2, .inl (cJ, 300, .inr (.inl x.2.1)))] H → va_D A [(g0, .inr (1, [.ref g1, .ref g2, .ref g3, .ref g4, .ref g5, .ref g6, .ref g7, .ref g8, .int (nI cnt)])), (g1, .inl (cI, 300, .inl fi)), (g2, .inl (cI, 300, .inl nx)), (g3, .inl (cI, 300, .inl la)), (g4, .inl (cI, 300, .inl le)), (g5, .inl (cJ, 300, .inr (.inl by_))), (g6, .inl (cJ, 300, .inr (.inl he))), (g7, .inl (cI, 300, .inl lo)), (g8, .inl (cI, 300, .inl rk)), (z0, .inl (cI, 300, .inl z)), (w0, .inr (2, [.ref w1, .ref w2, .int (nI x.2.2.1), .long x.2.2.2])), (w1, .inl (cI, 300, .inl x.1)), (w2, .inl (cJ, 300, .inr (.inl x.2.1)))] → va_S A s.heap H locs → lv_has ls 6 [(0, .ref g0), (1, .ref w0), (2, .ref z0), (3, .int (nI i))] → W p l ev ({ frames := 2, cells := 0, slots := 0, locals := 46 } : Room) s m args below meth c H locs 0 0 Q (F0 m 6 ls []) := by
  have hin1 : ∀ w ∈ wsX10, w ∈ wsX1_writeTo := by decide +kernel
  intro n
  induction n with
  | zero =>
    intro hs i x hn hi hr hc hu hG H locs ls hP hD hS hl
    have hq : hs = [] := List.length_eq_zero_iff.mp hn
    subst hq
    have hi : i = cnt := hi
    subst hi
    have hG : x = G := hG
    subst hG
    refine lv_iload_n hx hb dX1_writeTo_6 rfl (lv_at hl 3 rfl) ?_
    refine lv_aload_n hx hb dX1_writeTo_7 rfl (lv_at hl 0 rfl) ?_
    refine va_get (D := (dC, dI)) (ci := 1) (v := .int (nI i)) (C := RX1) (T := TX1) (N := 9) hx hb hts hin1 hown hK hP 0 rfl rfl 8 (by decide) (hts (.fieldLink RX1 58 "CallClusters$Clustering" "rankedCount" "I") (by decide +kernel)) (fun _ h9 => h9) rfl dX1_writeTo_8 ?_
    refine lv_icmp_ge (tgt := 70) hx hb dX1_writeTo_11 (by decide) (fun c_1 => ?_) (fun c_1 => ?_)
    · -- pc 11, side 0
      exact kn   H locs ls hP hD hS (lv_sub hl [0, 1, 2] rfl)
    · -- pc 11, side 1
      exact absurd (nI_le (Nat.le_refl _) (by omega)) c_1
  | succ n ih =>
    intro hs i x hn hi hr hc hu hG H locs ls hP hD hS hl
    obtain ⟨h9, hs, rfl⟩ : ∃ y q', hs = y :: q' := by cases hs with | nil => cases hn | cons y q => exact ⟨y, q, rfl⟩
    rw [List.length_cons] at hn hi
    rw [List.flatMap_cons, List.length_append] at hu
    rw [List.flatMap_cons, List.foldl_append] at hG
    have hr0 : rk i = nI h9 := hr 0 (by rw [List.length_cons]; omega)
    obtain ⟨hc0, hm0⟩ := hc h9 List.mem_cons_self
    refine lv_iload_n hx hb dX1_writeTo_6 rfl (lv_at hl 3 rfl) ?_
    refine lv_aload_n hx hb dX1_writeTo_7 rfl (lv_at hl 0 rfl) ?_
    refine va_get (D := (dC, dI)) (ci := 1) (v := .int (nI cnt)) (C := RX1) (T := TX1) (N := 9) hx hb hts hin1 hown hK hP 0 rfl rfl 8 (by decide) (hts (.fieldLink RX1 58 "CallClusters$Clustering" "rankedCount" "I") (by decide +kernel)) (fun _ h9 => h9) rfl dX1_writeTo_8 ?_
    refine lv_icmp_ge (tgt := 70) hx hb dX1_writeTo_11 (by decide) (fun c_2 => ?_) (fun c_2 => ?_)
    · -- pc 11, side 0
      exact absurd c_2 (nI_ge (show i < cnt by omega) (by omega))
    · -- pc 11, side 1
      refine lv_aload_n hx hb dX1_writeTo_14 rfl (lv_at hl 0 rfl) ?_
      refine va_get (D := (dC, dI)) (ci := 1) (v := .ref g8) (C := RX1) (T := TX1) (N := 9) hx hb hts hin1 hown hK hP 0 rfl rfl 7 (by decide) (hts (.fieldLink RX1 34 "CallClusters$Clustering" "ranked" "[I") (by decide +kernel)) (fun _ h9 => h9) rfl dX1_writeTo_15 ?_
      refine lv_iload_n hx hb dX1_writeTo_18 rfl (lv_at hl 3 rfl) ?_
      refine va_iald hx hb hK hP 8 0 rfl rfl (inn (show i < 300 by omega) (by omega)) dX1_writeTo_19 ?_
      refine tp_i (y := nI h9) (by rw [ix_n (by omega)]; exact hr0) ?_
      refine lv_istore (lv' := [(4, .int (nI h9)), (0, .ref g0), (1, .ref w0), (2, .ref z0), (3, .int (nI i))]) hx hb dX1_writeTo_20 hl (by decide) rfl (fun ls hl => ?_)
      refine lv_iconst (v := 0) hx hb dX1_writeTo_22 (by decide) ?_
      refine tp_i (y := nI 0) (nI_0.symm) ?_
      refine lv_istore (lv' := [(5, .int (nI 0)), (4, .int (nI h9)), (0, .ref g0), (1, .ref w0), (2, .ref z0), (3, .int (nI i))]) hx hb dX1_writeTo_23 hl (by decide) rfl (fun ls hl => ?_)
      refine lpX1_write_in (rc := nI cnt) (z := z) (i := i) (G := (ch h9).foldl (rAdd z) x) hx hb hml hts hown hK hA  (fun  H locs ls hP hD hS hl => ?_) ((ch h9).length) (ch h9) _ 0 x (rfl) (by omega) (hc0) (hm0) (by omega) (rfl) H _ ls hP hD hS (lv_sub hl [2, 3, 4, 5, 1, 0] rfl)
      · -- kn
        refine lv_iinc (v := nI (i + 1)) (lv' := [(3, .int (nI (i + 1))), (0, .ref g0), (1, .ref w0), (2, .ref z0)]) hx hb dX1_writeTo_64 hl (k := 3) rfl (by exact nI_1 i) (by decide) rfl (fun ls hl => ?_)
        refine lv_goto (tgt := 6) hx hb dX1_writeTo_67 (by decide) ?_
        exact ih hs (i + 1) ((ch h9).foldl (rAdd z) x) (by omega) (by omega) (fun j hj => by rw [show i + 1 + j = i + (j + 1) by omega]; exact hr (j + 1) (by rw [List.length_cons]; omega)) (fun h hh => hc h (List.mem_cons_of_mem _ hh)) (by rw [rAdd_n]; omega) (hG) H locs ls hP hD hS (lv_sub hl [1, 2, 3, 0] rfl)
set_option maxHeartbeats 4000000 in
set_option maxRecDepth 100000 in
theorem ct_X1_writeTo (l : Launch) (dC : Nat → ClassId) (dI : Nat → Nat → Nat) (cI cJ cZ : ClassId) (sz : Nat) (g0 : Nat) (g1 : Nat) (g2 : Nat) (g3 : Nat) (g4 : Nat) (g5 : Nat) (g6 : Nat) (g7 : Nat) (g8 : Nat) (z0 : Nat) (w0 : Nat) (w1 : Nat) (w2 : Nat) (fi nx la le : Nat → Int32) (by_ he : Nat → Int64) (lo rk : Nat → Int32) (cnt : Nat) (z : Nat → Int32) (M : Nat → Int32) (B : Nat → Int64) (v : Int32) (y : Int64) (hs : List Nat) (ch : Nat → List Nat) (hcnt : hs.length = cnt) (hle : (hs.flatMap ch).length ≤ 300) (hc3 : cnt ≤ 300) (hr9 : ∀ j (h : j < hs.length), rk j = nI hs[j]) (hc : ∀ h, h ∈ hs → Chain nx (ch h) (nI h) ∧ ∀ y, y ∈ ch h → y < 300) : Met l yX1_writeTo wsX1_writeTo ({ frames := 2, cells := 0, slots := 0, locals := 46 }) (va_Pc [.ref g0, .ref w0, .ref z0] (fun U => U.heap.size = sz ∧ va_P (dC, dI) vwCl [(g0, .inr (1, [.ref g1, .ref g2, .ref g3, .ref g4, .ref g5, .ref g6, .ref g7, .ref g8, .int (nI cnt)])), (g1, .inl (cI, 300, .inl fi)), (g2, .inl (cI, 300, .inl nx)), (g3, .inl (cI, 300, .inl la)), (g4, .inl (cI, 300, .inl le)), (g5, .inl (cJ, 300, .inr (.inl by_))), (g6, .inl (cJ, 300, .inr (.inl he))), (g7, .inl (cI, 300, .inl lo)), (g8, .inl (cI, 300, .inl rk)), (z0, .inl (cI, 300, .inl z)), (w0, .inr (2, [.ref w1, .ref w2, .int v, .long y])), (w1, .inl (cI, 300, .inl M)), (w2, .inl (cJ, 300, .inr (.inl B)))] U.heap ∧ va_K (dC, dI) vwCl [(cI, .int), (cJ, .long), (cZ, .boolean)] U ∧ va_D (fun _ => True) [(g0, .inr (1, [.ref g1, .ref g2, .ref g3, .ref g4, .ref g5, .ref g6, .ref g7, .ref g8, .int (nI cnt)])), (g1, .inl (cI, 300, .inl fi)), (g2, .inl (cI, 300, .inl nx)), (g3, .inl (cI, 300, .inl la)), (g4, .inl (cI, 300, .inl le)), (g5, .inl (cJ, 300, .inr (.inl by_))), (g6, .inl (cJ, 300, .inr (.inl he))), (g7, .inl (cI, 300, .inl lo)), (g8, .inl (cI, 300, .inl rk)), (z0, .inl (cI, 300, .inl z)), (w0, .inr (2, [.ref w1, .ref w2, .int v, .long y])), (w1, .inl (cI, 300, .inl M)), (w2, .inl (cJ, 300, .inr (.inl B)))])) (va_Qv (fun (uu : Unit) => True) (fun (uu : Unit) (t : State) => va_P (dC, dI) vwCl [(g0, .inr (1, [.ref g1, .ref g2, .ref g3, .ref g4, .ref g5, .ref g6, .ref g7, .ref g8, .int (nI cnt)])), (g1, .inl (cI, 300, .inl fi)), (g2, .inl (cI, 300, .inl nx)), (g3, .inl (cI, 300, .inl la)), (g4, .inl (cI, 300, .inl le)), (g5, .inl (cJ, 300, .inr (.inl by_))), (g6, .inl (cJ, 300, .inr (.inl he))), (g7, .inl (cI, 300, .inl lo)), (g8, .inl (cI, 300, .inl rk)), (z0, .inl (cI, 300, .inl z)), (w0, .inr (2, [.ref w1, .ref w2, .int (nI (rowL z M (fun _ => -1) (hs.flatMap ch)).2.2.1), .long ((rowL z M (fun _ => -1) (hs.flatMap ch)).2.2.2)])), (w1, .inl (cI, 300, .inl ((rowL z M (fun _ => -1) (hs.flatMap ch)).1))), (w2, .inl (cJ, 300, .inr (.inl ((rowL z M (fun _ => -1) (hs.flatMap ch)).2.1))))] t.heap ∧ va_K (dC, dI) vwCl [(cI, .int), (cJ, .long), (cZ, .boolean)] t ∧ va_D (va_A [(g0, .inr (1, [.ref g1, .ref g2, .ref g3, .ref g4, .ref g5, .ref g6, .ref g7, .ref g8, .int (nI cnt)])), (g1, .inl (cI, 300, .inl fi)), (g2, .inl (cI, 300, .inl nx)), (g3, .inl (cI, 300, .inl la)), (g4, .inl (cI, 300, .inl le)), (g5, .inl (cJ, 300, .inr (.inl by_))), (g6, .inl (cJ, 300, .inr (.inl he))), (g7, .inl (cI, 300, .inl lo)), (g8, .inl (cI, 300, .inl rk)), (z0, .inl (cI, 300, .inl z)), (w0, .inr (2, [.ref w1, .ref w2, .int v, .long y])), (w1, .inl (cI, 300, .inl M)), (w2, .inl (cJ, 300, .inr (.inl B)))] sz) [(g0, .inr (1, [.ref g1, .ref g2, .ref g3, .ref g4, .ref g5, .ref g6, .ref g7, .ref g8, .int (nI cnt)])), (g1, .inl (cI, 300, .inl fi)), (g2, .inl (cI, 300, .inl nx)), (g3, .inl (cI, 300, .inl la)), (g4, .inl (cI, 300, .inl le)), (g5, .inl (cJ, 300, .inr (.inl by_))), (g6, .inl (cJ, 300, .inr (.inl he))), (g7, .inl (cI, 300, .inl lo)), (g8, .inl (cI, 300, .inl rk)), (z0, .inl (cI, 300, .inl z)), (w0, .inr (2, [.ref w1, .ref w2, .int (nI (rowL z M (fun _ => -1) (hs.flatMap ch)).2.2.1), .long ((rowL z M (fun _ => -1) (hs.flatMap ch)).2.2.2)])), (w1, .inl (cI, 300, .inl ((rowL z M (fun _ => -1) (hs.flatMap ch)).1))), (w2, .inl (cJ, 300, .inr (.inl ((rowL z M (fun _ => -1) (hs.flatMap ch)).2.1))))]) (va_A [(g0, .inr (1, [.ref g1, .ref g2, .ref g3, .ref g4, .ref g5, .ref g6, .ref g7, .ref g8, .int (nI cnt)])), (g1, .inl (cI, 300, .inl fi)), (g2, .inl (cI, 300, .inl nx)), (g3, .inl (cI, 300, .inl la)), (g4, .inl (cI, 300, .inl le)), (g5, .inl (cJ, 300, .inr (.inl by_))), (g6, .inl (cJ, 300, .inr (.inl he))), (g7, .inl (cI, 300, .inl lo)), (g8, .inl (cI, 300, .inl rk)), (z0, .inl (cI, 300, .inl z)), (w0, .inr (2, [.ref w1, .ref w2, .int v, .long y])), (w1, .inl (cI, 300, .inl M)), (w2, .inl (cJ, 300, .inr (.inl B)))] sz)) 0 0 (va_A [(g0, .inr (1, [.ref g1, .ref g2, .ref g3, .ref g4, .ref g5, .ref g6, .ref g7, .ref g8, .int (nI cnt)])), (g1, .inl (cI, 300, .inl fi)), (g2, .inl (cI, 300, .inl nx)), (g3, .inl (cI, 300, .inl la)), (g4, .inl (cI, 300, .inl le)), (g5, .inl (cJ, 300, .inr (.inl by_))), (g6, .inl (cJ, 300, .inr (.inl he))), (g7, .inl (cI, 300, .inl lo)), (g8, .inl (cI, 300, .inl rk)), (z0, .inl (cI, 300, .inl z)), (w0, .inr (2, [.ref w1, .ref w2, .int v, .long y])), (w1, .inl (cI, 300, .inl M)), (w2, .inl (cJ, 300, .inr (.inl B)))] sz) := by
  refine Met.ofW (cc := cX1_writeTo) (maxL := 6) (ret := none) (by decide) rfl ?_
  intro p ev s m args below meth c s₁ Bd hml hv
  obtain ⟨rfl, hsz, hP, hK, hD0⟩ := hv
  have hx := Bd.exec
  have hb := Bd.bytes
  have hr := Bd.returns
  have hts := atoms_spec (ws := wsX1_writeTo) Bd.pre
  have hown : s.vm.findClass RX1 = some m.cls := findClass_of_methodNamed Bd.named
  have hlocks := Bd.notSynchronized
  have hin1 : ∀ w ∈ wsX10, w ∈ wsX1_writeTo := by decide +kernel
  subst hsz
  have hD := hD0.self (sz := s.heap.size)
  generalize hAe : va_A [(g0, .inr (1, [.ref g1, .ref g2, .ref g3, .ref g4, .ref g5, .ref g6, .ref g7, .ref g8, .int (nI cnt)])), (g1, .inl (cI, 300, .inl fi)), (g2, .inl (cI, 300, .inl nx)), (g3, .inl (cI, 300, .inl la)), (g4, .inl (cI, 300, .inl le)), (g5, .inl (cJ, 300, .inr (.inl by_))), (g6, .inl (cJ, 300, .inr (.inl he))), (g7, .inl (cI, 300, .inl lo)), (g8, .inl (cI, 300, .inl rk)), (z0, .inl (cI, 300, .inl z)), (w0, .inr (2, [.ref w1, .ref w2, .int v, .long y])), (w1, .inl (cI, 300, .inl M)), (w2, .inl (cJ, 300, .inr (.inl B)))] s.heap.size = A at hD ⊢
  have hA : ∀ q : Nat, s.heap.size ≤ q → A q := fun q h => by rw [← hAe]; exact Or.inr h
  have hS : va_S A s.heap s.heap [] := va_S.rf
  have hl := lv_entry ([.ref g0, .ref w0, .ref z0]) (n := 6) (Nat.le_of_ble_eq_true rfl)
  rw [lg_entry_eq]
  generalize (lg_sl ([.ref g0, .ref w0, .ref z0]) ++ List.replicate (6 - (lg_sl ([.ref g0, .ref w0, .ref z0])).length) Slot.unset).toArray = ls at hl ⊢
  have hl : lv_has ls 6 [(0, .ref g0), (1, .ref w0), (2, .ref z0)] := hl
  generalize hHe : s.heap = H at hP ⊢
  have hS : va_S A s.heap H [] := hHe ▸ hS
  refine lv_aload_n hx hb dX1_writeTo_0 rfl (lv_at hl 1 rfl) ?_
  have hPc := hP.sub (ws' := [(w0, .inr (2, [.ref w1, .ref w2, .int v, .long y])), (w1, .inl (cI, 300, .inl M)), (w2, .inl (cJ, 300, .inr (.inl B)))]) [10, 11, 12] rfl
  have hDc := hD.sub (ws' := [(w0, .inr (2, [.ref w1, .ref w2, .int v, .long y])), (w1, .inl (cI, 300, .inl M)), (w2, .inl (cJ, 300, .inr (.inl B)))]) [10, 11, 12] (by decide) rfl
  have hFc := va_free (wc := [(w0, .inr (2, [.ref w1, .ref w2, .int v, .long y])), (w1, .inl (cI, 300, .inl M)), (w2, .inl (cJ, 300, .inr (.inl B)))]) hD hS hA [10, 11, 12] rfl
  refine va_callv (va_runV (As := []) (rest := []) ⟨hx, hb, hml, hown, hts⟩ (ct_X2_empty l dC dI cI cJ cZ H.size w0 w1 w2 M B v y ) (cwV 0 hts gX1_writeTo_X2_empty rfl rfl rfl (by decide +kernel) ⟨Nat.le_of_ble_eq_true rfl, Nat.le_of_ble_eq_true rfl⟩) (pre_V hK hPc hDc (ci := 2) rfl rfl) rfl rfl hl.1 rfl (lv_room (Nat.le_of_ble_eq_true rfl)) dX1_writeTo_1 ⟨Nat.zero_le _, Nat.zero_le _⟩) hS (fun q _ h => hFc q h) hFc (fun uu t H1 locs ht hvm hw hB hz1 hk1 hS => ?_)
  obtain ⟨hP1, hK1, hD1⟩ := hB
  rw [ht] at hP1
  try dsimp only at hw
  have hP1 : va_P (dC, dI) vwCl [(w0, .inr (2, [.ref w1, .ref w2, .int 0, .long 0])), (w1, .inl (cI, 300, .inl M)), (w2, .inl (cJ, 300, .inr (.inl (mix 300 (fun _ => -1) B))))] H1 := hP1
  obtain ⟨hP, hD⟩ := va_join (wr := [(g0, .inr (1, [.ref g1, .ref g2, .ref g3, .ref g4, .ref g5, .ref g6, .ref g7, .ref g8, .int (nI cnt)])), (g1, .inl (cI, 300, .inl fi)), (g2, .inl (cI, 300, .inl nx)), (g3, .inl (cI, 300, .inl la)), (g4, .inl (cI, 300, .inl le)), (g5, .inl (cJ, 300, .inr (.inl by_))), (g6, .inl (cJ, 300, .inr (.inl he))), (g7, .inl (cI, 300, .inl lo)), (g8, .inl (cI, 300, .inl rk)), (z0, .inl (cI, 300, .inl z))]) (w1 := [(w0, .inr (2, [.ref w1, .ref w2, .int 0, .long 0])), (w1, .inl (cI, 300, .inl M)), (w2, .inl (cJ, 300, .inr (.inl (mix 300 (fun _ => -1) B))))]) hP hD [10, 11, 12] [0, 1, 2, 3, 4, 5, 6, 7, 8, 9] rfl rfl (by decide) (by decide) hk1 hFc hP1 hD1
  have hP := hP.sub (ws' := [(g0, .inr (1, [.ref g1, .ref g2, .ref g3, .ref g4, .ref g5, .ref g6, .ref g7, .ref g8, .int (nI cnt)])), (g1, .inl (cI, 300, .inl fi)), (g2, .inl (cI, 300, .inl nx)), (g3, .inl (cI, 300, .inl la)), (g4, .inl (cI, 300, .inl le)), (g5, .inl (cJ, 300, .inr (.inl by_))), (g6, .inl (cJ, 300, .inr (.inl he))), (g7, .inl (cI, 300, .inl lo)), (g8, .inl (cI, 300, .inl rk)), (z0, .inl (cI, 300, .inl z)), (w0, .inr (2, [.ref w1, .ref w2, .int 0, .long 0])), (w1, .inl (cI, 300, .inl M)), (w2, .inl (cJ, 300, .inr (.inl (mix 300 (fun _ => -1) B))))]) [0, 1, 2, 3, 4, 5, 6, 7, 8, 9, 10, 11, 12] rfl
  have hD := hD.sub (ws' := [(g0, .inr (1, [.ref g1, .ref g2, .ref g3, .ref g4, .ref g5, .ref g6, .ref g7, .ref g8, .int (nI cnt)])), (g1, .inl (cI, 300, .inl fi)), (g2, .inl (cI, 300, .inl nx)), (g3, .inl (cI, 300, .inl la)), (g4, .inl (cI, 300, .inl le)), (g5, .inl (cJ, 300, .inr (.inl by_))), (g6, .inl (cJ, 300, .inr (.inl he))), (g7, .inl (cI, 300, .inl lo)), (g8, .inl (cI, 300, .inl rk)), (z0, .inl (cI, 300, .inl z)), (w0, .inr (2, [.ref w1, .ref w2, .int 0, .long 0])), (w1, .inl (cI, 300, .inl M)), (w2, .inl (cJ, 300, .inr (.inl (mix 300 (fun _ => -1) B))))]) [0, 1, 2, 3, 4, 5, 6, 7, 8, 9, 10, 11, 12] (by decide) rfl
  generalize H1 = H at hP hS ⊢
  refine lv_iconst (v := 0) hx hb dX1_writeTo_4 (by decide) ?_
  refine tp_i (y := nI 0) (nI_0.symm) ?_
  refine lv_istore_n (lv' := [(3, .int (nI 0)), (0, .ref g0), (1, .ref w0), (2, .ref z0)]) hx hb dX1_writeTo_5 rfl hl (by decide) rfl (fun ls hl => ?_)
  have hP := hP.el 12 (fun _ => -1) rfl (fun j hj => mix_lt _ _ hj)
  have hD := hD.set (p := 12) (e := .inl (cJ, 300, .inr (.inl (fun _ => -1)))) rfl
  have hP : va_P (dC, dI) vwCl [(g0, .inr (1, [.ref g1, .ref g2, .ref g3, .ref g4, .ref g5, .ref g6, .ref g7, .ref g8, .int (nI cnt)])), (g1, .inl (cI, 300, .inl fi)), (g2, .inl (cI, 300, .inl nx)), (g3, .inl (cI, 300, .inl la)), (g4, .inl (cI, 300, .inl le)), (g5, .inl (cJ, 300, .inr (.inl by_))), (g6, .inl (cJ, 300, .inr (.inl he))), (g7, .inl (cI, 300, .inl lo)), (g8, .inl (cI, 300, .inl rk)), (z0, .inl (cI, 300, .inl z)), (w0, .inr (2, [.ref w1, .ref w2, .int (nI 0), .long 0])), (w1, .inl (cI, 300, .inl M)), (w2, .inl (cJ, 300, .inr (.inl (fun _ => -1))))] H := hP
  have hD : va_D A [(g0, .inr (1, [.ref g1, .ref g2, .ref g3, .ref g4, .ref g5, .ref g6, .ref g7, .ref g8, .int (nI cnt)])), (g1, .inl (cI, 300, .inl fi)), (g2, .inl (cI, 300, .inl nx)), (g3, .inl (cI, 300, .inl la)), (g4, .inl (cI, 300, .inl le)), (g5, .inl (cJ, 300, .inr (.inl by_))), (g6, .inl (cJ, 300, .inr (.inl he))), (g7, .inl (cI, 300, .inl lo)), (g8, .inl (cI, 300, .inl rk)), (z0, .inl (cI, 300, .inl z)), (w0, .inr (2, [.ref w1, .ref w2, .int (nI 0), .long 0])), (w1, .inl (cI, 300, .inl M)), (w2, .inl (cJ, 300, .inr (.inl (fun _ => -1))))] := hD
  refine lpX1_write (z := z) (cnt := cnt) (ch := ch) (G := (rowL z M (fun _ => -1) (hs.flatMap ch))) hx hb hml hts hown hK hA hc3 (fun  H locs ls hP hD hS hl => ?_) (hs.length) hs 0 (M, (fun _ => -1), 0, 0) (rfl) (by omega) (fun j hj => by rw [Nat.zero_add]; exact hr9 j hj) (hc) (by show 0 + _ ≤ 300; omega) (rfl) H _ ls hP hD hS (lv_sub hl [1, 2, 3, 0] rfl)
  · -- kn
    have hP9 : va_P (dC, dI) vwCl [(g0, .inr (1, [.ref g1, .ref g2, .ref g3, .ref g4, .ref g5, .ref g6, .ref g7, .ref g8, .int (nI cnt)])), (g1, .inl (cI, 300, .inl fi)), (g2, .inl (cI, 300, .inl nx)), (g3, .inl (cI, 300, .inl la)), (g4, .inl (cI, 300, .inl le)), (g5, .inl (cJ, 300, .inr (.inl by_))), (g6, .inl (cJ, 300, .inr (.inl he))), (g7, .inl (cI, 300, .inl lo)), (g8, .inl (cI, 300, .inl rk)), (z0, .inl (cI, 300, .inl z)), (w0, .inr (2, [.ref w1, .ref w2, .int (nI (rowL z M (fun _ => -1) (hs.flatMap ch)).2.2.1), .long ((rowL z M (fun _ => -1) (hs.flatMap ch)).2.2.2)])), (w1, .inl (cI, 300, .inl ((rowL z M (fun _ => -1) (hs.flatMap ch)).1))), (w2, .inl (cJ, 300, .inr (.inl ((rowL z M (fun _ => -1) (hs.flatMap ch)).2.1))))] H := hP
    have hD9 : va_D A [(g0, .inr (1, [.ref g1, .ref g2, .ref g3, .ref g4, .ref g5, .ref g6, .ref g7, .ref g8, .int (nI cnt)])), (g1, .inl (cI, 300, .inl fi)), (g2, .inl (cI, 300, .inl nx)), (g3, .inl (cI, 300, .inl la)), (g4, .inl (cI, 300, .inl le)), (g5, .inl (cJ, 300, .inr (.inl by_))), (g6, .inl (cJ, 300, .inr (.inl he))), (g7, .inl (cI, 300, .inl lo)), (g8, .inl (cI, 300, .inl rk)), (z0, .inl (cI, 300, .inl z)), (w0, .inr (2, [.ref w1, .ref w2, .int (nI (rowL z M (fun _ => -1) (hs.flatMap ch)).2.2.1), .long ((rowL z M (fun _ => -1) (hs.flatMap ch)).2.2.2)])), (w1, .inl (cI, 300, .inl ((rowL z M (fun _ => -1) (hs.flatMap ch)).1))), (w2, .inl (cJ, 300, .inr (.inl ((rowL z M (fun _ => -1) (hs.flatMap ch)).2.1))))] := hD
    exact W.vret hx hb hr (fun t ht hW => ⟨⟨(), rfl, trivial, by rw [ht]; exact hP9, va_K.moved hW.alike hK, hD9⟩, hS.F ht⟩) hS.2.2 dX1_writeTo_70
set_option maxHeartbeats 4000000 in
set_option maxRecDepth 100000 in
theorem ct_X1_init (l : Launch) (dC : Nat → ClassId) (dI : Nat → Nat → Nat) (cI cJ cZ : ClassId) (sz : Nat) (g0 : Nat)   : Met l yX1_init wsX1_init ({ frames := 1, cells := 8, slots := 2400, locals := 12 }) (va_Pc [.ref g0] (fun U => U.heap.size = sz ∧ va_P (dC, dI) vwCl [(g0, .inr (1, [.null, .null, .null, .null, .null, .null, .null, .null, .int 0]))] U.heap ∧ va_K (dC, dI) vwCl [(cI, .int), (cJ, .long), (cZ, .boolean)] U ∧ va_D (fun _ => True) [(g0, .inr (1, [.null, .null, .null, .null, .null, .null, .null, .null, .int 0]))])) (va_Qv (fun (uu : Unit) => True) (fun (uu : Unit) (t : State) => ∃ (g1 g2 g3 g4 g5 g6 g7 g8 : Nat), va_P (dC, dI) vwCl [(g0, .inr (1, [.ref g1, .ref g2, .ref g3, .ref g4, .ref g5, .ref g6, .ref g7, .ref g8, .int 0])), (g1, .inl (cI, 300, .inl (fun _ => 0))), (g2, .inl (cI, 300, .inl (fun _ => 0))), (g3, .inl (cI, 300, .inl (fun _ => 0))), (g4, .inl (cI, 300, .inl (fun _ => 0))), (g5, .inl (cJ, 300, .inr (.inl (fun _ => 0)))), (g6, .inl (cJ, 300, .inr (.inl (fun _ => 0)))), (g7, .inl (cI, 300, .inl (fun _ => 0))), (g8, .inl (cI, 300, .inl (fun _ => 0)))] t.heap ∧ va_K (dC, dI) vwCl [(cI, .int), (cJ, .long), (cZ, .boolean)] t ∧ va_D (va_A [(g0, .inr (1, [.null, .null, .null, .null, .null, .null, .null, .null, .int 0]))] sz) [(g0, .inr (1, [.ref g1, .ref g2, .ref g3, .ref g4, .ref g5, .ref g6, .ref g7, .ref g8, .int 0])), (g1, .inl (cI, 300, .inl (fun _ => 0))), (g2, .inl (cI, 300, .inl (fun _ => 0))), (g3, .inl (cI, 300, .inl (fun _ => 0))), (g4, .inl (cI, 300, .inl (fun _ => 0))), (g5, .inl (cJ, 300, .inr (.inl (fun _ => 0)))), (g6, .inl (cJ, 300, .inr (.inl (fun _ => 0)))), (g7, .inl (cI, 300, .inl (fun _ => 0))), (g8, .inl (cI, 300, .inl (fun _ => 0)))]) (va_A [(g0, .inr (1, [.null, .null, .null, .null, .null, .null, .null, .null, .int 0]))] sz)) 8 2400 (va_A [(g0, .inr (1, [.null, .null, .null, .null, .null, .null, .null, .null, .int 0]))] sz) := by
  refine Met.ofW (cc := cX1_init) (maxL := 1) (ret := none) (by decide) rfl ?_
  intro p ev s m args below meth c s₁ Bd hml hv
  obtain ⟨rfl, hsz, hP, hK, hD0⟩ := hv
  have hx := Bd.exec
  have hb := Bd.bytes
  have hr := Bd.returns
  have hts := atoms_spec (ws := wsX1_init) Bd.pre
  have hown : s.vm.findClass RX1 = some m.cls := findClass_of_methodNamed Bd.named
  have hlocks := Bd.notSynchronized
  have hin : meth.name = "<init>" := (name_of_methodNamed Bd.named Bd.method).1
  have hin1 : ∀ w ∈ wsX10, w ∈ wsX1_init := by decide +kernel
  subst hsz
  have hD := hD0.self (sz := s.heap.size)
  generalize hAe : va_A [(g0, .inr (1, [.null, .null, .null, .null, .null, .null, .null, .null, .int 0]))] s.heap.size = A at hD ⊢
  have hA : ∀ q : Nat, s.heap.size ≤ q → A q := fun q h => by rw [← hAe]; exact Or.inr h
  have hS : va_S A s.heap s.heap [] := va_S.rf
  have hl := lv_entry ([.ref g0]) (n := 1) (Nat.le_of_ble_eq_true rfl)
  rw [lg_entry_eq]
  generalize (lg_sl ([.ref g0]) ++ List.replicate (1 - (lg_sl ([.ref g0])).length) Slot.unset).toArray = ls at hl ⊢
  have hl : lv_has ls 1 [(0, .ref g0)] := hl
  generalize hHe : s.heap = H at hP ⊢
  have hS : va_S A s.heap H [] := hHe ▸ hS
  refine lv_aload_n hx hb dX1_init_0 rfl (lv_at hl 0 rfl) ?_
  refine W.objInit hx hb hown (hts (.methodLink RX1 3 objectInit) (by decide +kernel)) (hts (.instanceMethod objectInit) (by decide +kernel)) (hts (.code objectInit ⟨#[0xb1]⟩ 1 none) (by decide +kernel)) rfl (by rw [hml]; exact hl.1) rfl dX1_init_1 (Nat.le_of_ble_eq_true rfl) (Nat.le_of_ble_eq_true rfl) ?_
  refine W.eq (g2 := F0 m 4 ls []) rfl ?_
  refine lv_aload_n hx hb dX1_init_4 rfl (lv_at hl 0 rfl) ?_
  refine lv_sipush (v := 300) hx hb dX1_init_5 (by decide) ?_
  refine new_a (atype := .int) (ty := .int) (cA := cI) (a0 := (300, .inl (fun _ => 0))) (N' := 300) hx hb (hts (.arrayClass .int) (by decide +kernel)) rfl hK 0 rfl (fun _ _ h => h) hP hD hS hA (vp_zero_i _) (by decide) (by decide) (by decide) (by decide) (by decide) dX1_init_8 (fun a_1 H hP hD hS => ?_)
  have hP : va_P (dC, dI) vwCl [(g0, .inr (1, [.null, .null, .null, .null, .null, .null, .null, .null, .int 0])), (a_1, .inl (cI, 300, .inl (fun _ => 0)))] H := hP
  have hD : va_D A [(g0, .inr (1, [.null, .null, .null, .null, .null, .null, .null, .null, .int 0])), (a_1, .inl (cI, 300, .inl (fun _ => 0)))] := hD
  refine W.widen (k := 1) (n := 300) (by omega) (by omega) ?_
  refine va_putF (D := (dC, dI)) (ci := 1) (v := .ref a_1) (ty := (.array .int)) (C := RX1) (T := TX1) (N := 9) hx hb hts hin1 tyX1 tyX1_ok nmX1 hown hK hP hD hS 0 rfl rfl 0 (by decide) (hts (.fieldLink RX1 9 "CallClusters$Clustering" "first" "[I") (by decide +kernel)) (fun _ h9 => h9) rfl hin rfl (by decide +kernel) (rfl) (rfl) (Nat.le_of_ble_eq_true rfl) dX1_init_10 (fun H locs hP hD hS => ?_)
  have hP : va_P (dC, dI) vwCl [(g0, .inr (1, [.ref a_1, .null, .null, .null, .null, .null, .null, .null, .int 0])), (a_1, .inl (cI, 300, .inl (fun _ => 0)))] H := hP
  have hD : va_D A [(g0, .inr (1, [.ref a_1, .null, .null, .null, .null, .null, .null, .null, .int 0])), (a_1, .inl (cI, 300, .inl (fun _ => 0)))] := hD
  refine lv_aload_n hx hb dX1_init_13 rfl (lv_at hl 0 rfl) ?_
  refine lv_sipush (v := 300) hx hb dX1_init_14 (by decide) ?_
  refine new_a (atype := .int) (ty := .int) (cA := cI) (a0 := (300, .inl (fun _ => 0))) (N' := 300) hx hb (hts (.arrayClass .int) (by decide +kernel)) rfl hK 0 rfl (fun _ _ h => h) hP hD hS hA (vp_zero_i _) (by decide) (by decide) (by decide) (by decide) (by decide) dX1_init_17 (fun a_2 H hP hD hS => ?_)
  have hP : va_P (dC, dI) vwCl [(g0, .inr (1, [.ref a_1, .null, .null, .null, .null, .null, .null, .null, .int 0])), (a_1, .inl (cI, 300, .inl (fun _ => 0))), (a_2, .inl (cI, 300, .inl (fun _ => 0)))] H := hP
  have hD : va_D A [(g0, .inr (1, [.ref a_1, .null, .null, .null, .null, .null, .null, .null, .int 0])), (a_1, .inl (cI, 300, .inl (fun _ => 0))), (a_2, .inl (cI, 300, .inl (fun _ => 0)))] := hD
  refine W.widen (k := 2) (n := 600) (by omega) (by omega) ?_
  refine va_putF (D := (dC, dI)) (ci := 1) (v := .ref a_2) (ty := (.array .int)) (C := RX1) (T := TX1) (N := 9) hx hb hts hin1 tyX1 tyX1_ok nmX1 hown hK hP hD hS 0 rfl rfl 1 (by decide) (hts (.fieldLink RX1 15 "CallClusters$Clustering" "next" "[I") (by decide +kernel)) (fun _ h9 => h9) rfl hin rfl (by decide +kernel) (rfl) (rfl) (Nat.le_of_ble_eq_true rfl) dX1_init_19 (fun H locs hP hD hS => ?_)
  have hP : va_P (dC, dI) vwCl [(g0, .inr (1, [.ref a_1, .ref a_2, .null, .null, .null, .null, .null, .null, .int 0])), (a_1, .inl (cI, 300, .inl (fun _ => 0))), (a_2, .inl (cI, 300, .inl (fun _ => 0)))] H := hP
  have hD : va_D A [(g0, .inr (1, [.ref a_1, .ref a_2, .null, .null, .null, .null, .null, .null, .int 0])), (a_1, .inl (cI, 300, .inl (fun _ => 0))), (a_2, .inl (cI, 300, .inl (fun _ => 0)))] := hD
  refine lv_aload_n hx hb dX1_init_22 rfl (lv_at hl 0 rfl) ?_
  refine lv_sipush (v := 300) hx hb dX1_init_23 (by decide) ?_
  refine new_a (atype := .int) (ty := .int) (cA := cI) (a0 := (300, .inl (fun _ => 0))) (N' := 300) hx hb (hts (.arrayClass .int) (by decide +kernel)) rfl hK 0 rfl (fun _ _ h => h) hP hD hS hA (vp_zero_i _) (by decide) (by decide) (by decide) (by decide) (by decide) dX1_init_26 (fun a_3 H hP hD hS => ?_)
  have hP : va_P (dC, dI) vwCl [(g0, .inr (1, [.ref a_1, .ref a_2, .null, .null, .null, .null, .null, .null, .int 0])), (a_1, .inl (cI, 300, .inl (fun _ => 0))), (a_2, .inl (cI, 300, .inl (fun _ => 0))), (a_3, .inl (cI, 300, .inl (fun _ => 0)))] H := hP
  have hD : va_D A [(g0, .inr (1, [.ref a_1, .ref a_2, .null, .null, .null, .null, .null, .null, .int 0])), (a_1, .inl (cI, 300, .inl (fun _ => 0))), (a_2, .inl (cI, 300, .inl (fun _ => 0))), (a_3, .inl (cI, 300, .inl (fun _ => 0)))] := hD
  refine W.widen (k := 3) (n := 900) (by omega) (by omega) ?_
  refine va_putF (D := (dC, dI)) (ci := 1) (v := .ref a_3) (ty := (.array .int)) (C := RX1) (T := TX1) (N := 9) hx hb hts hin1 tyX1 tyX1_ok nmX1 hown hK hP hD hS 0 rfl rfl 2 (by decide) (hts (.fieldLink RX1 18 "CallClusters$Clustering" "last" "[I") (by decide +kernel)) (fun _ h9 => h9) rfl hin rfl (by decide +kernel) (rfl) (rfl) (Nat.le_of_ble_eq_true rfl) dX1_init_28 (fun H locs hP hD hS => ?_)
  have hP : va_P (dC, dI) vwCl [(g0, .inr (1, [.ref a_1, .ref a_2, .ref a_3, .null, .null, .null, .null, .null, .int 0])), (a_1, .inl (cI, 300, .inl (fun _ => 0))), (a_2, .inl (cI, 300, .inl (fun _ => 0))), (a_3, .inl (cI, 300, .inl (fun _ => 0)))] H := hP
  have hD : va_D A [(g0, .inr (1, [.ref a_1, .ref a_2, .ref a_3, .null, .null, .null, .null, .null, .int 0])), (a_1, .inl (cI, 300, .inl (fun _ => 0))), (a_2, .inl (cI, 300, .inl (fun _ => 0))), (a_3, .inl (cI, 300, .inl (fun _ => 0)))] := hD
  refine lv_aload_n hx hb dX1_init_31 rfl (lv_at hl 0 rfl) ?_
  refine lv_sipush (v := 300) hx hb dX1_init_32 (by decide) ?_
  refine new_a (atype := .int) (ty := .int) (cA := cI) (a0 := (300, .inl (fun _ => 0))) (N' := 300) hx hb (hts (.arrayClass .int) (by decide +kernel)) rfl hK 0 rfl (fun _ _ h => h) hP hD hS hA (vp_zero_i _) (by decide) (by decide) (by decide) (by decide) (by decide) dX1_init_35 (fun a_4 H hP hD hS => ?_)
  have hP : va_P (dC, dI) vwCl [(g0, .inr (1, [.ref a_1, .ref a_2, .ref a_3, .null, .null, .null, .null, .null, .int 0])), (a_1, .inl (cI, 300, .inl (fun _ => 0))), (a_2, .inl (cI, 300, .inl (fun _ => 0))), (a_3, .inl (cI, 300, .inl (fun _ => 0))), (a_4, .inl (cI, 300, .inl (fun _ => 0)))] H := hP
  have hD : va_D A [(g0, .inr (1, [.ref a_1, .ref a_2, .ref a_3, .null, .null, .null, .null, .null, .int 0])), (a_1, .inl (cI, 300, .inl (fun _ => 0))), (a_2, .inl (cI, 300, .inl (fun _ => 0))), (a_3, .inl (cI, 300, .inl (fun _ => 0))), (a_4, .inl (cI, 300, .inl (fun _ => 0)))] := hD
  refine W.widen (k := 4) (n := 1200) (by omega) (by omega) ?_
  refine va_putF (D := (dC, dI)) (ci := 1) (v := .ref a_4) (ty := (.array .int)) (C := RX1) (T := TX1) (N := 9) hx hb hts hin1 tyX1 tyX1_ok nmX1 hown hK hP hD hS 0 rfl rfl 3 (by decide) (hts (.fieldLink RX1 21 "CallClusters$Clustering" "least" "[I") (by decide +kernel)) (fun _ h9 => h9) rfl hin rfl (by decide +kernel) (rfl) (rfl) (Nat.le_of_ble_eq_true rfl) dX1_init_37 (fun H locs hP hD hS => ?_)
  have hP : va_P (dC, dI) vwCl [(g0, .inr (1, [.ref a_1, .ref a_2, .ref a_3, .ref a_4, .null, .null, .null, .null, .int 0])), (a_1, .inl (cI, 300, .inl (fun _ => 0))), (a_2, .inl (cI, 300, .inl (fun _ => 0))), (a_3, .inl (cI, 300, .inl (fun _ => 0))), (a_4, .inl (cI, 300, .inl (fun _ => 0)))] H := hP
  have hD : va_D A [(g0, .inr (1, [.ref a_1, .ref a_2, .ref a_3, .ref a_4, .null, .null, .null, .null, .int 0])), (a_1, .inl (cI, 300, .inl (fun _ => 0))), (a_2, .inl (cI, 300, .inl (fun _ => 0))), (a_3, .inl (cI, 300, .inl (fun _ => 0))), (a_4, .inl (cI, 300, .inl (fun _ => 0)))] := hD
  refine lv_aload_n hx hb dX1_init_40 rfl (lv_at hl 0 rfl) ?_
  refine lv_sipush (v := 300) hx hb dX1_init_41 (by decide) ?_
  refine new_a (atype := .long) (ty := .long) (cA := cJ) (a0 := (300, .inr (.inl (fun _ => 0)))) (N' := 300) hx hb (hts (.arrayClass .long) (by decide +kernel)) rfl hK 1 rfl (fun _ _ h => h) hP hD hS hA (vp_zero_l _) (by decide) (by decide) (by decide) (by decide) (by decide) dX1_init_44 (fun a_5 H hP hD hS => ?_)
  have hP : va_P (dC, dI) vwCl [(g0, .inr (1, [.ref a_1, .ref a_2, .ref a_3, .ref a_4, .null, .null, .null, .null, .int 0])), (a_1, .inl (cI, 300, .inl (fun _ => 0))), (a_2, .inl (cI, 300, .inl (fun _ => 0))), (a_3, .inl (cI, 300, .inl (fun _ => 0))), (a_4, .inl (cI, 300, .inl (fun _ => 0))), (a_5, .inl (cJ, 300, .inr (.inl (fun _ => 0))))] H := hP
  have hD : va_D A [(g0, .inr (1, [.ref a_1, .ref a_2, .ref a_3, .ref a_4, .null, .null, .null, .null, .int 0])), (a_1, .inl (cI, 300, .inl (fun _ => 0))), (a_2, .inl (cI, 300, .inl (fun _ => 0))), (a_3, .inl (cI, 300, .inl (fun _ => 0))), (a_4, .inl (cI, 300, .inl (fun _ => 0))), (a_5, .inl (cJ, 300, .inr (.inl (fun _ => 0))))] := hD
  refine W.widen (k := 5) (n := 1500) (by omega) (by omega) ?_
  refine va_putF (D := (dC, dI)) (ci := 1) (v := .ref a_5) (ty := (.array .long)) (C := RX1) (T := TX1) (N := 9) hx hb hts hin1 tyX1 tyX1_ok nmX1 hown hK hP hD hS 0 rfl rfl 4 (by decide) (hts (.fieldLink RX1 24 "CallClusters$Clustering" "bytes" "[J") (by decide +kernel)) (fun _ h9 => h9) rfl hin rfl (by decide +kernel) (rfl) (rfl) (Nat.le_of_ble_eq_true rfl) dX1_init_46 (fun H locs hP hD hS => ?_)
  have hP : va_P (dC, dI) vwCl [(g0, .inr (1, [.ref a_1, .ref a_2, .ref a_3, .ref a_4, .ref a_5, .null, .null, .null, .int 0])), (a_1, .inl (cI, 300, .inl (fun _ => 0))), (a_2, .inl (cI, 300, .inl (fun _ => 0))), (a_3, .inl (cI, 300, .inl (fun _ => 0))), (a_4, .inl (cI, 300, .inl (fun _ => 0))), (a_5, .inl (cJ, 300, .inr (.inl (fun _ => 0))))] H := hP
  have hD : va_D A [(g0, .inr (1, [.ref a_1, .ref a_2, .ref a_3, .ref a_4, .ref a_5, .null, .null, .null, .int 0])), (a_1, .inl (cI, 300, .inl (fun _ => 0))), (a_2, .inl (cI, 300, .inl (fun _ => 0))), (a_3, .inl (cI, 300, .inl (fun _ => 0))), (a_4, .inl (cI, 300, .inl (fun _ => 0))), (a_5, .inl (cJ, 300, .inr (.inl (fun _ => 0))))] := hD
  refine lv_aload_n hx hb dX1_init_49 rfl (lv_at hl 0 rfl) ?_
  refine lv_sipush (v := 300) hx hb dX1_init_50 (by decide) ?_
  refine new_a (atype := .long) (ty := .long) (cA := cJ) (a0 := (300, .inr (.inl (fun _ => 0)))) (N' := 300) hx hb (hts (.arrayClass .long) (by decide +kernel)) rfl hK 1 rfl (fun _ _ h => h) hP hD hS hA (vp_zero_l _) (by decide) (by decide) (by decide) (by decide) (by decide) dX1_init_53 (fun a_6 H hP hD hS => ?_)
  have hP : va_P (dC, dI) vwCl [(g0, .inr (1, [.ref a_1, .ref a_2, .ref a_3, .ref a_4, .ref a_5, .null, .null, .null, .int 0])), (a_1, .inl (cI, 300, .inl (fun _ => 0))), (a_2, .inl (cI, 300, .inl (fun _ => 0))), (a_3, .inl (cI, 300, .inl (fun _ => 0))), (a_4, .inl (cI, 300, .inl (fun _ => 0))), (a_5, .inl (cJ, 300, .inr (.inl (fun _ => 0)))), (a_6, .inl (cJ, 300, .inr (.inl (fun _ => 0))))] H := hP
  have hD : va_D A [(g0, .inr (1, [.ref a_1, .ref a_2, .ref a_3, .ref a_4, .ref a_5, .null, .null, .null, .int 0])), (a_1, .inl (cI, 300, .inl (fun _ => 0))), (a_2, .inl (cI, 300, .inl (fun _ => 0))), (a_3, .inl (cI, 300, .inl (fun _ => 0))), (a_4, .inl (cI, 300, .inl (fun _ => 0))), (a_5, .inl (cJ, 300, .inr (.inl (fun _ => 0)))), (a_6, .inl (cJ, 300, .inr (.inl (fun _ => 0))))] := hD
  refine W.widen (k := 6) (n := 1800) (by omega) (by omega) ?_
  refine va_putF (D := (dC, dI)) (ci := 1) (v := .ref a_6) (ty := (.array .long)) (C := RX1) (T := TX1) (N := 9) hx hb hts hin1 tyX1 tyX1_ok nmX1 hown hK hP hD hS 0 rfl rfl 5 (by decide) (hts (.fieldLink RX1 28 "CallClusters$Clustering" "heat" "[J") (by decide +kernel)) (fun _ h9 => h9) rfl hin rfl (by decide +kernel) (rfl) (rfl) (Nat.le_of_ble_eq_true rfl) dX1_init_55 (fun H locs hP hD hS => ?_)
  have hP : va_P (dC, dI) vwCl [(g0, .inr (1, [.ref a_1, .ref a_2, .ref a_3, .ref a_4, .ref a_5, .ref a_6, .null, .null, .int 0])), (a_1, .inl (cI, 300, .inl (fun _ => 0))), (a_2, .inl (cI, 300, .inl (fun _ => 0))), (a_3, .inl (cI, 300, .inl (fun _ => 0))), (a_4, .inl (cI, 300, .inl (fun _ => 0))), (a_5, .inl (cJ, 300, .inr (.inl (fun _ => 0)))), (a_6, .inl (cJ, 300, .inr (.inl (fun _ => 0))))] H := hP
  have hD : va_D A [(g0, .inr (1, [.ref a_1, .ref a_2, .ref a_3, .ref a_4, .ref a_5, .ref a_6, .null, .null, .int 0])), (a_1, .inl (cI, 300, .inl (fun _ => 0))), (a_2, .inl (cI, 300, .inl (fun _ => 0))), (a_3, .inl (cI, 300, .inl (fun _ => 0))), (a_4, .inl (cI, 300, .inl (fun _ => 0))), (a_5, .inl (cJ, 300, .inr (.inl (fun _ => 0)))), (a_6, .inl (cJ, 300, .inr (.inl (fun _ => 0))))] := hD
  refine lv_aload_n hx hb dX1_init_58 rfl (lv_at hl 0 rfl) ?_
  refine lv_sipush (v := 300) hx hb dX1_init_59 (by decide) ?_
  refine new_a (atype := .int) (ty := .int) (cA := cI) (a0 := (300, .inl (fun _ => 0))) (N' := 300) hx hb (hts (.arrayClass .int) (by decide +kernel)) rfl hK 0 rfl (fun _ _ h => h) hP hD hS hA (vp_zero_i _) (by decide) (by decide) (by decide) (by decide) (by decide) dX1_init_62 (fun a_7 H hP hD hS => ?_)
  have hP : va_P (dC, dI) vwCl [(g0, .inr (1, [.ref a_1, .ref a_2, .ref a_3, .ref a_4, .ref a_5, .ref a_6, .null, .null, .int 0])), (a_1, .inl (cI, 300, .inl (fun _ => 0))), (a_2, .inl (cI, 300, .inl (fun _ => 0))), (a_3, .inl (cI, 300, .inl (fun _ => 0))), (a_4, .inl (cI, 300, .inl (fun _ => 0))), (a_5, .inl (cJ, 300, .inr (.inl (fun _ => 0)))), (a_6, .inl (cJ, 300, .inr (.inl (fun _ => 0)))), (a_7, .inl (cI, 300, .inl (fun _ => 0)))] H := hP
  have hD : va_D A [(g0, .inr (1, [.ref a_1, .ref a_2, .ref a_3, .ref a_4, .ref a_5, .ref a_6, .null, .null, .int 0])), (a_1, .inl (cI, 300, .inl (fun _ => 0))), (a_2, .inl (cI, 300, .inl (fun _ => 0))), (a_3, .inl (cI, 300, .inl (fun _ => 0))), (a_4, .inl (cI, 300, .inl (fun _ => 0))), (a_5, .inl (cJ, 300, .inr (.inl (fun _ => 0)))), (a_6, .inl (cJ, 300, .inr (.inl (fun _ => 0)))), (a_7, .inl (cI, 300, .inl (fun _ => 0)))] := hD
  refine W.widen (k := 7) (n := 2100) (by omega) (by omega) ?_
  refine va_putF (D := (dC, dI)) (ci := 1) (v := .ref a_7) (ty := (.array .int)) (C := RX1) (T := TX1) (N := 9) hx hb hts hin1 tyX1 tyX1_ok nmX1 hown hK hP hD hS 0 rfl rfl 6 (by decide) (hts (.fieldLink RX1 31 "CallClusters$Clustering" "looked" "[I") (by decide +kernel)) (fun _ h9 => h9) rfl hin rfl (by decide +kernel) (rfl) (rfl) (Nat.le_of_ble_eq_true rfl) dX1_init_64 (fun H locs hP hD hS => ?_)
  have hP : va_P (dC, dI) vwCl [(g0, .inr (1, [.ref a_1, .ref a_2, .ref a_3, .ref a_4, .ref a_5, .ref a_6, .ref a_7, .null, .int 0])), (a_1, .inl (cI, 300, .inl (fun _ => 0))), (a_2, .inl (cI, 300, .inl (fun _ => 0))), (a_3, .inl (cI, 300, .inl (fun _ => 0))), (a_4, .inl (cI, 300, .inl (fun _ => 0))), (a_5, .inl (cJ, 300, .inr (.inl (fun _ => 0)))), (a_6, .inl (cJ, 300, .inr (.inl (fun _ => 0)))), (a_7, .inl (cI, 300, .inl (fun _ => 0)))] H := hP
  have hD : va_D A [(g0, .inr (1, [.ref a_1, .ref a_2, .ref a_3, .ref a_4, .ref a_5, .ref a_6, .ref a_7, .null, .int 0])), (a_1, .inl (cI, 300, .inl (fun _ => 0))), (a_2, .inl (cI, 300, .inl (fun _ => 0))), (a_3, .inl (cI, 300, .inl (fun _ => 0))), (a_4, .inl (cI, 300, .inl (fun _ => 0))), (a_5, .inl (cJ, 300, .inr (.inl (fun _ => 0)))), (a_6, .inl (cJ, 300, .inr (.inl (fun _ => 0)))), (a_7, .inl (cI, 300, .inl (fun _ => 0)))] := hD
  refine lv_aload_n hx hb dX1_init_67 rfl (lv_at hl 0 rfl) ?_
  refine lv_sipush (v := 300) hx hb dX1_init_68 (by decide) ?_
  refine new_a (atype := .int) (ty := .int) (cA := cI) (a0 := (300, .inl (fun _ => 0))) (N' := 300) hx hb (hts (.arrayClass .int) (by decide +kernel)) rfl hK 0 rfl (fun _ _ h => h) hP hD hS hA (vp_zero_i _) (by decide) (by decide) (by decide) (by decide) (by decide) dX1_init_71 (fun a_8 H hP hD hS => ?_)
  have hP : va_P (dC, dI) vwCl [(g0, .inr (1, [.ref a_1, .ref a_2, .ref a_3, .ref a_4, .ref a_5, .ref a_6, .ref a_7, .null, .int 0])), (a_1, .inl (cI, 300, .inl (fun _ => 0))), (a_2, .inl (cI, 300, .inl (fun _ => 0))), (a_3, .inl (cI, 300, .inl (fun _ => 0))), (a_4, .inl (cI, 300, .inl (fun _ => 0))), (a_5, .inl (cJ, 300, .inr (.inl (fun _ => 0)))), (a_6, .inl (cJ, 300, .inr (.inl (fun _ => 0)))), (a_7, .inl (cI, 300, .inl (fun _ => 0))), (a_8, .inl (cI, 300, .inl (fun _ => 0)))] H := hP
  have hD : va_D A [(g0, .inr (1, [.ref a_1, .ref a_2, .ref a_3, .ref a_4, .ref a_5, .ref a_6, .ref a_7, .null, .int 0])), (a_1, .inl (cI, 300, .inl (fun _ => 0))), (a_2, .inl (cI, 300, .inl (fun _ => 0))), (a_3, .inl (cI, 300, .inl (fun _ => 0))), (a_4, .inl (cI, 300, .inl (fun _ => 0))), (a_5, .inl (cJ, 300, .inr (.inl (fun _ => 0)))), (a_6, .inl (cJ, 300, .inr (.inl (fun _ => 0)))), (a_7, .inl (cI, 300, .inl (fun _ => 0))), (a_8, .inl (cI, 300, .inl (fun _ => 0)))] := hD
  refine W.widen (k := 8) (n := 2400) (by omega) (by omega) ?_
  refine va_putF (D := (dC, dI)) (ci := 1) (v := .ref a_8) (ty := (.array .int)) (C := RX1) (T := TX1) (N := 9) hx hb hts hin1 tyX1 tyX1_ok nmX1 hown hK hP hD hS 0 rfl rfl 7 (by decide) (hts (.fieldLink RX1 34 "CallClusters$Clustering" "ranked" "[I") (by decide +kernel)) (fun _ h9 => h9) rfl hin rfl (by decide +kernel) (rfl) (rfl) (Nat.le_of_ble_eq_true rfl) dX1_init_73 (fun H locs hP hD hS => ?_)
  have hP : va_P (dC, dI) vwCl [(g0, .inr (1, [.ref a_1, .ref a_2, .ref a_3, .ref a_4, .ref a_5, .ref a_6, .ref a_7, .ref a_8, .int 0])), (a_1, .inl (cI, 300, .inl (fun _ => 0))), (a_2, .inl (cI, 300, .inl (fun _ => 0))), (a_3, .inl (cI, 300, .inl (fun _ => 0))), (a_4, .inl (cI, 300, .inl (fun _ => 0))), (a_5, .inl (cJ, 300, .inr (.inl (fun _ => 0)))), (a_6, .inl (cJ, 300, .inr (.inl (fun _ => 0)))), (a_7, .inl (cI, 300, .inl (fun _ => 0))), (a_8, .inl (cI, 300, .inl (fun _ => 0)))] H := hP
  have hD : va_D A [(g0, .inr (1, [.ref a_1, .ref a_2, .ref a_3, .ref a_4, .ref a_5, .ref a_6, .ref a_7, .ref a_8, .int 0])), (a_1, .inl (cI, 300, .inl (fun _ => 0))), (a_2, .inl (cI, 300, .inl (fun _ => 0))), (a_3, .inl (cI, 300, .inl (fun _ => 0))), (a_4, .inl (cI, 300, .inl (fun _ => 0))), (a_5, .inl (cJ, 300, .inr (.inl (fun _ => 0)))), (a_6, .inl (cJ, 300, .inr (.inl (fun _ => 0)))), (a_7, .inl (cI, 300, .inl (fun _ => 0))), (a_8, .inl (cI, 300, .inl (fun _ => 0)))] := hD
  have hP9 : va_P (dC, dI) vwCl [(g0, .inr (1, [.ref a_1, .ref a_2, .ref a_3, .ref a_4, .ref a_5, .ref a_6, .ref a_7, .ref a_8, .int 0])), (a_1, .inl (cI, 300, .inl (fun _ => 0))), (a_2, .inl (cI, 300, .inl (fun _ => 0))), (a_3, .inl (cI, 300, .inl (fun _ => 0))), (a_4, .inl (cI, 300, .inl (fun _ => 0))), (a_5, .inl (cJ, 300, .inr (.inl (fun _ => 0)))), (a_6, .inl (cJ, 300, .inr (.inl (fun _ => 0)))), (a_7, .inl (cI, 300, .inl (fun _ => 0))), (a_8, .inl (cI, 300, .inl (fun _ => 0)))] H := hP
  have hD9 : va_D A [(g0, .inr (1, [.ref a_1, .ref a_2, .ref a_3, .ref a_4, .ref a_5, .ref a_6, .ref a_7, .ref a_8, .int 0])), (a_1, .inl (cI, 300, .inl (fun _ => 0))), (a_2, .inl (cI, 300, .inl (fun _ => 0))), (a_3, .inl (cI, 300, .inl (fun _ => 0))), (a_4, .inl (cI, 300, .inl (fun _ => 0))), (a_5, .inl (cJ, 300, .inr (.inl (fun _ => 0)))), (a_6, .inl (cJ, 300, .inr (.inl (fun _ => 0)))), (a_7, .inl (cI, 300, .inl (fun _ => 0))), (a_8, .inl (cI, 300, .inl (fun _ => 0)))] := hD
  refine W.widen (k := 8) (n := 2400) (by omega) (by omega) ?_
  exact W.vret hx hb hr (fun t ht hW => ⟨⟨(), rfl, trivial, a_1, a_2, a_3, a_4, a_5, a_6, a_7, a_8, by rw [ht]; exact hP9, va_K.moved hW.alike hK, hD9⟩, hS.F ht⟩) hS.2.2 dX1_init_76
end
section
theorem nI_inj {a b : Nat} (ha : a < 2000000) (hb : b < 2000000) (h : nI a = nI b) : a = b := (nI_eq (by omega) (by omega)).mp h
theorem nI_in9 {x : Int32} {n : Nat} (hn : n < 2000000) (h : vp_in x n) : ∃ j, j < n ∧ x = nI j := vp_in_of h (by omega)
theorem Chain.congr {nx nx' : Nat → Int32} : ∀ {l : List Nat} {f : Int32}, (∀ x, x ∈ l → nx x = nx' x) → Chain nx l f → Chain nx' l f
  | [], _, _, h => h
  | x :: l, f, hq, h => ⟨h.1, (hq x List.mem_cons_self) ▸ Chain.congr (fun y hy => hq y (List.mem_cons_of_mem _ hy)) h.2⟩
theorem Chain.app {nx nx' : Nat → Int32} {l2 : List Nat} {g : Int32} {x : Nat} (h2 : Chain nx' l2 g) (hx : nx' x = g) : ∀ {l : List Nat} {f : Int32}, l.getLast? = some x → l.Nodup → (∀ y, y ∈ l → y ≠ x → nx y = nx' y) → Chain nx l f → Chain nx' (l ++ l2) f
  | [], _, hl, _, _, _ => by cases hl
  | [y], f, hl, _, _, h => by
    have : y = x := by simpa using hl
    subst this
    exact ⟨h.1, by rw [hx]; exact h2⟩
  | y :: z :: l, f, hl, hn, hq, h => by
    have hl' : (z :: l).getLast? = some x := by rw [List.getLast?_cons_cons] at hl; exact hl
    have hyx : y ≠ x := by
      intro e
      subst e
      have h3 : y ∈ z :: l := List.mem_of_getLast? hl'
      exact (List.nodup_cons.mp hn).1 h3
    refine ⟨h.1, ?_⟩
    rw [← hq y List.mem_cons_self hyx]
    exact Chain.app h2 hx hl' (List.nodup_cons.mp hn).2 (fun w hw => hq w (List.mem_cons_of_mem _ hw)) h.2
/-- no more than n different numbers below n -/
theorem nodup_le : ∀ (n : Nat) (l : List Nat), l.Nodup → (∀ x, x ∈ l → x < n) → l.length ≤ n
  | 0, [], _, _ => Nat.le_refl 0
  | 0, x :: l, _, h => absurd (h x List.mem_cons_self) (Nat.not_lt_zero x)
  | n + 1, l, hn, h => by
    have h1 : (l.filter (fun x => x != n)).length ≤ n := nodup_le n _ (hn.sublist List.filter_sublist) (fun x hx => by
      rw [List.mem_filter] at hx
      have := h x hx.1
      have h2 : x ≠ n := by simpa using hx.2
      omega)
    have h2 : l.length ≤ (l.filter (fun x => x != n)).length + 1 := by
      clear h h1
      induction l with
      | nil => simp
      | cons y l ih =>
        by_cases hy : y = n
        · subst hy
          have h3 : l.filter (fun x => x != y) = l := by
            rw [List.filter_eq_self]
            intro a ha
            have : a ≠ y := fun e => (List.nodup_cons.mp hn).1 (e ▸ ha)
            simpa using this
          simp [h3]
        · have h4 : (y != n) = true := by simpa using hy
          rw [List.filter_cons_of_pos (p := fun x => x != n) (a := y) (l := l) h4, List.length_cons, List.length_cons]
          have := ih (List.nodup_cons.mp hn).2
          omega
    omega
/-- the clusters as the arrays have them: first, next, last, least, bytes, heat; and (of no array) each chain -/
abbrev CS : Type := (Nat → Int32) × (Nat → Int32) × (Nat → Int32) × (Nat → Int32) × (Nat → Int64) × (Nat → Int64) × (Nat → List Nat)
abbrev cFi (X : CS) : Nat → Int32 := X.1
abbrev cNx (X : CS) : Nat → Int32 := X.2.1
abbrev cLa (X : CS) : Nat → Int32 := X.2.2.1
abbrev cLe (X : CS) : Nat → Int32 := X.2.2.2.1
abbrev cBy (X : CS) : Nat → Int64 := X.2.2.2.2.1
abbrev cHe (X : CS) : Nat → Int64 := X.2.2.2.2.2.1
abbrev cCh (X : CS) : Nat → List Nat := X.2.2.2.2.2.2
def jS (a b : Nat) (X : CS) : CS := (rlab (cCh X b) (nI a) (cFi X), upd (cNx X) (cLa X a).toNatClampNeg (nI b), upd (cLa X) a (cLa X b), upd (cLe X) a (if cLe X b < cLe X a then cLe X b else cLe X a), vp_updL (cBy X) a (cBy X a + cBy X b), vp_updL (cHe X) a (cHe X a + cHe X b), fun h => if h = a then cCh X a ++ cCh X b else cCh X h)
def joinS (P : Int32) (cf : Nat → Int32) (f : Nat) (X : CS) : CS := if cFi X (cf f).toNatClampNeg = cFi X f then X else if P.toInt64 < cBy X (cFi X (cf f).toNatClampNeg).toNatClampNeg + cBy X (cFi X f).toNatClampNeg then X else jS (cFi X (cf f).toNatClampNeg).toNatClampNeg (cFi X f).toNatClampNeg X
def runJ (P : Int32) (cf : Nat → Int32) (l : List Nat) (X : CS) : CS := l.foldl (fun X f => joinS P cf f X) X
def CInv (z : Nat → Int32) (X : CS) : Prop :=
  (∀ j, j < 300 → (cFi X j = -1 ↔ z j ≤ 0)) ∧
  (∀ j, j < 300 → ¬ z j ≤ 0 → ∃ h, h < 300 ∧ cFi X j = nI h ∧ cFi X h = nI h ∧ j ∈ cCh X h) ∧
  (∀ h, h < 300 → cFi X h = nI h → Chain (cNx X) (cCh X h) (nI h) ∧ (cCh X h).Nodup ∧ (∀ m, m ∈ cCh X h → m < 300 ∧ cFi X m = nI h) ∧ ∃ x, (cCh X h).getLast? = some x ∧ cLa X h = nI x)
theorem CInv.len {z : Nat → Int32} {X : CS} (I : CInv z X) {h : Nat} (hh : h < 300) (hf : cFi X h = nI h) : (cCh X h).length ≤ 300 := by
  obtain ⟨-, h1, h2, -⟩ := I.2.2 h hh hf
  exact nodup_le 300 _ h1 (fun x hx => (h2 x hx).1)
theorem CInv.self {z : Nat → Int32} {X : CS} (I : CInv z X) {h : Nat} (hh : h < 300) (hf : cFi X h = nI h) : h ∈ cCh X h := by
  have h0 : ¬ z h ≤ 0 := fun e => by
    have := (I.1 h hh).mpr e
    rw [hf] at this
    exact nI_m1 (by omega) this
  obtain ⟨k, h1, h2, h3, h4⟩ := I.2.1 h hh h0
  rw [hf] at h2
  have := nI_inj (by omega) (by omega) h2
  subst this
  exact h4
theorem CInv.vin {z : Nat → Int32} {X : CS} (I : CInv z X) : ∀ j, j < 300 → cFi X j = -1 ∨ vp_in (cFi X j) 300 := by
  intro j hj
  by_cases h : z j ≤ 0
  · exact Or.inl ((I.1 j hj).mpr h)
  · obtain ⟨k, h1, h2, -⟩ := I.2.1 j hj h
    exact Or.inr (by rw [h2]; exact inn h1 (by omega))
theorem CInv.join_ {z : Nat → Int32} {X : CS} (I : CInv z X) {a b : Nat} (ha : a < 300) (hb : b < 300) (hab : a ≠ b) (fa : cFi X a = nI a) (fb : cFi X b = nI b) : CInv z (jS a b X) := by
  obtain ⟨cha, nda, ma, xa, la1, la2⟩ := I.2.2 a ha fa
  obtain ⟨chb, ndb, mb, xb, lb1, lb2⟩ := I.2.2 b hb fb
  have inj : ∀ {p q : Nat}, p < 300 → q < 300 → nI p = nI q → p = q := fun hp hq h => nI_inj (by omega) (by omega) h
  have anb : a ∉ cCh X b := fun h => by
    have := (mb a h).2
    rw [fa] at this
    exact hab (inj ha hb this)
  have nib : ∀ {m h : Nat}, h < 300 → h ≠ b → cFi X m = nI h → m ∉ cCh X b := fun hh hn hm h => by
    have := (mb _ h).2
    rw [hm] at this
    exact hn (inj hh hb this)
  have hfi : ∀ j, cFi (jS a b X) j = if j ∈ cCh X b then nI a else cFi X j := fun _ => rfl
  have xain : xa ∈ cCh X a := List.mem_of_getLast? la1
  have xalt : xa < 300 := (ma xa xain).1
  have hxa : (cLa X a).toNatClampNeg = xa := by rw [la2]; exact ix_n (by omega)
  refine ⟨fun j hj => ?_, fun j hj hz => ?_, fun h hh hf => ?_⟩
  · rw [hfi]
    split
    · rename_i hm
      have h1 := (mb j hm).2
      constructor
      · intro e; exact absurd e (nI_m1 (by omega))
      · intro e
        have := (I.1 j hj).mpr e
        rw [h1] at this
        exact absurd this (nI_m1 (by omega))
    · exact I.1 j hj
  · obtain ⟨h, h1, h2, h3, h4⟩ := I.2.1 j hj hz
    by_cases e : h = b
    · subst e
      refine ⟨a, ha, ?_, ?_, ?_⟩
      · rw [hfi, if_pos h4]
      · rw [hfi, if_neg anb]; exact fa
      · show j ∈ (if a = a then cCh X a ++ cCh X h else cCh X a)
        rw [if_pos rfl]
        exact List.mem_append_right _ h4
    · refine ⟨h, h1, ?_, ?_, ?_⟩
      · rw [hfi, if_neg (nib h1 e h2)]; exact h2
      · rw [hfi, if_neg (nib h1 e h3)]; exact h3
      · show j ∈ (if h = a then cCh X a ++ cCh X b else cCh X h)
        split
        · rename_i e2; subst e2; exact List.mem_append_left _ h4
        · exact h4
  · rw [hfi] at hf
    have hnb : h ∉ cCh X b := by
      intro hm
      rw [if_pos hm] at hf
      have := inj ha hh hf
      subst this
      exact anb hm
    rw [if_neg hnb] at hf
    have hhb : h ≠ b := fun e => hnb (by rw [e]; exact I.self hb fb)
    by_cases e : h = a
    · subst e
      show Chain (upd (cNx X) (cLa X h).toNatClampNeg (nI b)) (if h = h then cCh X h ++ cCh X b else cCh X h) (nI h) ∧ (if h = h then cCh X h ++ cCh X b else cCh X h).Nodup ∧ (∀ m, m ∈ (if h = h then cCh X h ++ cCh X b else cCh X h) → m < 300 ∧ rlab (cCh X b) (nI h) (cFi X) m = nI h) ∧ ∃ x, (if h = h then cCh X h ++ cCh X b else cCh X h).getLast? = some x ∧ upd (cLa X) h (cLa X b) h = nI x
      simp only [if_true]
      rw [hxa]
      refine ⟨?_, ?_, ?_, ?_⟩
      · refine Chain.app (nx := cNx X) (x := xa) (g := nI b) ?_ (by unfold upd; rw [if_pos rfl]) la1 nda (fun y _ hy => by unfold upd; rw [if_neg hy]) cha
        refine Chain.congr (fun y hy => ?_) chb
        have : y ≠ xa := fun e => nib hh hhb (ma xa xain).2 (e ▸ hy)
        unfold upd
        rw [if_neg this]
      · rw [List.nodup_append]
        refine ⟨nda, ndb, fun p hp q hq e => ?_⟩
        subst e
        exact nib hh hhb (ma p hp).2 hq
      · intro m hm
        rcases List.mem_append.mp hm with h1 | h1
        · exact ⟨(ma m h1).1, by unfold rlab; rw [if_neg (nib hh hhb (ma m h1).2)]; exact (ma m h1).2⟩
        · exact ⟨(mb m h1).1, by unfold rlab; rw [if_pos h1]⟩
      · refine ⟨xb, ?_, ?_⟩
        · rw [List.getLast?_append, lb1]; rfl
        · unfold upd; rw [if_pos rfl]; exact lb2
    · obtain ⟨chh, ndh, mh, xh, lh1, lh2⟩ := I.2.2 h hh hf
      show Chain (upd (cNx X) (cLa X a).toNatClampNeg (nI b)) (if h = a then cCh X a ++ cCh X b else cCh X h) (nI h) ∧ (if h = a then cCh X a ++ cCh X b else cCh X h).Nodup ∧ (∀ m, m ∈ (if h = a then cCh X a ++ cCh X b else cCh X h) → m < 300 ∧ rlab (cCh X b) (nI a) (cFi X) m = nI h) ∧ ∃ x, (if h = a then cCh X a ++ cCh X b else cCh X h).getLast? = some x ∧ upd (cLa X) a (cLa X b) h = nI x
      simp only [if_neg e]
      rw [hxa]
      refine ⟨Chain.congr (fun y hy => ?_) chh, ndh, fun m hm => ⟨(mh m hm).1, ?_⟩, xh, lh1, ?_⟩
      · have : y ≠ xa := fun e2 => by
          have h5 := (mh y hy).2
          rw [e2, (ma xa xain).2] at h5
          exact e (inj ha hh h5).symm
        unfold upd
        rw [if_neg this]
      · unfold rlab
        rw [if_neg (nib hh hhb (mh m hm).2)]
        exact (mh m hm).2
      · unfold upd; rw [if_neg e]; exact lh2
/-- a function is looked at: it has a size, and so has its caller -/
def Looks (z cf : Nat → Int32) (f : Nat) : Prop := f < 300 ∧ ¬ z f ≤ 0 ∧ ∃ c, c < 300 ∧ cf f = nI c ∧ ¬ z c ≤ 0
theorem CInv.look_ {z : Nat → Int32} {X : CS} (I : CInv z X) {P : Int32} {cf : Nat → Int32} {f : Nat} (hf : Looks z cf f) : CInv z (joinS P cf f X) := by
  obtain ⟨h1, h2, c, h3, h4, h5⟩ := hf
  obtain ⟨a, a1, a2, a3, -⟩ := I.2.1 c h3 h5
  obtain ⟨b, b1, b2, b3, -⟩ := I.2.1 f h1 h2
  unfold joinS
  rw [h4, ix_n (by omega), a2, b2, ix_n (by omega), ix_n (by omega)]
  split
  · exact I
  · rename_i hne
    split
    · exact I
    · exact I.join_ a1 b1 (fun e => hne (by rw [e])) a3 b3
def bFi0 (z : Nat → Int32) : Nat → Int32 := fun j => if z j ≤ 0 then -1 else nI j
def bSt0 (z : Nat → Int32) (Hh : Nat → Int64) : CS := (bFi0 z, fun _ => -1, fun j => nI j, fun j => nI j, fun j => (z j).toInt64, Hh, fun j => [j])
theorem CInv.start (z : Nat → Int32) (Hh : Nat → Int64) : CInv z (bSt0 z Hh) := by
  refine ⟨fun j hj => ?_, fun j hj hz => ?_, fun h hh hf => ?_⟩
  · show bFi0 z j = -1 ↔ z j ≤ 0
    unfold bFi0
    split
    · simp [*]
    · rename_i h1
      constructor
      · intro e; exact absurd e (nI_m1 (by omega))
      · intro e; exact absurd e h1
  · have h1 : bFi0 z j = nI j := by unfold bFi0; rw [if_neg hz]
    exact ⟨j, hj, h1, h1, List.mem_singleton.mpr rfl⟩
  · refine ⟨⟨rfl, rfl⟩, List.nodup_cons.mpr ⟨List.not_mem_nil, List.nodup_nil⟩, fun m hm => ?_, h, rfl, rfl⟩
    have : m = h := List.mem_singleton.mp hm
    subst this
    exact ⟨hh, hf⟩
theorem CInv.run {z : Nat → Int32} {P : Int32} {cf : Nat → Int32} : ∀ {l : List Nat} {X : CS}, CInv z X → (∀ f, f ∈ l → Looks z cf f) → CInv z (runJ P cf l X)
  | [], _, I, _ => I
  | f :: l, X, I, h => CInv.run (l := l) (I.look_ (h f List.mem_cons_self)) (fun g hg => h g (List.mem_cons_of_mem _ hg))
def bLst (z S F : Nat → Int32) (Hh : Nat → Int64) (lo : Nat → Int32) : List Nat := (List.range (obhN (bFi0 z) S F Hh lo 300).1).map (fun j => ((obhN (bFi0 z) S F Hh lo 300).2 j).toNatClampNeg)
def bldX (P : Int32) (z S F : Nat → Int32) (Hh : Nat → Int64) (lo : Nat → Int32) : CS := runJ P (cof S F) (bLst z S F Hh lo) (bSt0 z Hh)
theorem bLst_len (z S F : Nat → Int32) (Hh : Nat → Int64) (lo : Nat → Int32) : (bLst z S F Hh lo).length = (obhN (bFi0 z) S F Hh lo 300).1 := by simp [bLst]
theorem bLst_get {z S F : Nat → Int32} {Hh : Nat → Int64} {lo : Nat → Int32} (j : Nat) (h : j < (bLst z S F Hh lo).length) : (obhN (bFi0 z) S F Hh lo 300).2 j = nI (bLst z S F Hh lo)[j] := by
  have hj : j < (obhN (bFi0 z) S F Hh lo 300).1 := by rw [bLst_len] at h; exact h
  obtain ⟨x, h1, h2, -⟩ := (obhN_in (bFi0 z) S F Hh lo 300).2 j hj
  have h3 : (bLst z S F Hh lo)[j] = ((obhN (bFi0 z) S F Hh lo 300).2 j).toNatClampNeg := by simp [bLst]
  rw [h3, h2, ix_n (by omega)]
theorem bLst_looks {z S F : Nat → Int32} {Hh : Nat → Int64} {lo : Nat → Int32} (hcf : ∀ f, f < 300 → cof S F f = -1 ∨ ∃ c, c < 300 ∧ cof S F f = nI c ∧ ¬ z c ≤ 0) : ∀ f, f ∈ bLst z S F Hh lo → Looks z (cof S F) f := by
  intro f hf
  unfold bLst at hf
  obtain ⟨j, hj, he⟩ := List.mem_map.mp hf
  rw [List.mem_range] at hj
  obtain ⟨x, h1, h2, h3, h4⟩ := (obhN_in (bFi0 z) S F Hh lo 300).2 j hj
  rw [h2, ix_n (by omega)] at he
  subst he
  refine ⟨h1, fun e => h3 (by unfold bFi0; rw [if_pos e]), (hcf x h1).resolve_left h4⟩
end
section
set_option maxHeartbeats 4000000 in
set_option maxRecDepth 100000 in
theorem lpX1_build {p : Program} {l : Launch} {ev : Env} {s : State} {m : MethodId} {args : Array Value} {below : List Frame} {meth : Method} {c : Code} {Q : State → Prop} {A : Nat → Prop} {dC : Nat → ClassId} {dI : Nat → Nat → Nat} {cI cJ cZ : ClassId} (hx : p.tables.exec = Jvm.exec) (hb : c.code = cX1_build) (hml : c.maxLocals = 8) (hts : ∀ w ∈ wsX1_build, w.before args s = true) (hown : s.vm.findClass RX1 = some m.cls) (hK : va_K (dC, dI) vwCl [(cI, .int), (cJ, .long), (cZ, .boolean)] s) (hA : ∀ q : Nat, s.heap.size ≤ q → A q) {g0 : Nat} {g1 : Nat} {g2 : Nat} {g3 : Nat} {g4 : Nat} {g5 : Nat} {g6 : Nat} {g7 : Nat} {g8 : Nat} {z0 : Nat} {h0 : Nat} {h1 : Nat} {h2 : Nat} {h3 : Nat} {h4 : Nat} {h5 : Nat} {lo rk : Nat → Int32} {rc : Int32} {F T : Nat → Int32} {C Hh : Nat → Int64} {S : Nat → Int32} {u : Nat} {z : Nat → Int32} {P : Int32} {cnt : Nat} {G : CS} (hcnt : cnt ≤ 300) (hs : ∀ j, j < 300 → S j = -1 ∨ vp_in (S j) 2000)  (kn : ∀ (H : Heap) (locs : List Loc) (ls : Array Slot), va_P (dC, dI) vwCl [(g0, .inr (1, [.ref g1, .ref g2, .ref g3, .ref g4, .ref g5, .ref g6, .ref g7, .ref g8, .int rc])), (g1, .inl (cI, 300, .inl (cFi G))), (g2, .inl (cI, 300, .inl (cNx G))), (g3, .inl (cI, 300, .inl (cLa G))), (g4, .inl (cI, 300, .inl (cLe G))), (g5, .inl (cJ, 300, .inr (.inl (cBy G)))), (g6, .inl (cJ, 300, .inr (.inl (cHe G)))), (g7, .inl (cI, 300, .inl lo)), (g8, .inl (cI, 300, .inl rk)), (z0, .inl (cI, 300, .inl z)), (h0, .inr (0, [.ref h1, .ref h2, .ref h3, .ref h4, .ref h5, .int (nI u)])), (h1, .inl (cI, 2000, .inl F)), (h2, .inl (cI, 2000, .inl T)), (h3, .inl (cJ, 2000, .inr (.inl C))), (h4, .inl (cJ, 300, .inr (.inl Hh))), (h5, .inl (cI, 300, .inl S))] H → va_D A [(g0, .inr (1, [.ref g1, .ref g2, .ref g3, .ref g4, .ref g5, .ref g6, .ref g7, .ref g8, .int rc])), (g1, .inl (cI, 300, .inl (cFi G))), (g2, .inl (cI, 300, .inl (cNx G))), (g3, .inl (cI, 300, .inl (cLa G))), (g4, .inl (cI, 300, .inl (cLe G))), (g5, .inl (cJ, 300, .inr (.inl (cBy G)))), (g6, .inl (cJ, 300, .inr (.inl (cHe G)))), (g7, .inl (cI, 300, .inl lo)), (g8, .inl (cI, 300, .inl rk)), (z0, .inl (cI, 300, .inl z)), (h0, .inr (0, [.ref h1, .ref h2, .ref h3, .ref h4, .ref h5, .int (nI u)])), (h1, .inl (cI, 2000, .inl F)), (h2, .inl (cI, 2000, .inl T)), (h3, .inl (cJ, 2000, .inr (.inl C))), (h4, .inl (cJ, 300, .inr (.inl Hh))), (h5, .inl (cI, 300, .inl S))] → va_S A s.heap H locs → lv_has ls 8 [(0, .ref g0), (1, .ref z0), (2, .ref h0), (3, .int P)] → W p l ev ({ frames := 2, cells := 0, slots := 0, locals := 48 } : Room) s m args below meth c H locs 0 0 Q (F0 m 97 ls [])) : ∀ (n : Nat) (q : List Nat) (i : Nat) (X : CS), q.length = n → i + q.length = cnt → (∀ j (h : j < q.length), lo (i + j) = nI q[j]) → CInv z X → (∀ f, f ∈ q → Looks z (cof S F) f) → runJ P (cof S F) q X = G → ∀ (H : Heap) (locs : List Loc) (ls : Array Slot), va_P (dC, dI) vwCl [(g0, .inr (1, [.ref g1, .ref g2, .ref g3, .ref g4, .ref g5, .ref g6, .ref g7, .ref g8, .int rc])), (g1, .inl (cI, 300, .inl (cFi X))), (g2, .inl (cI, 300, .inl (cNx X))), (g3, .inl (cI, 300, .inl (cLa X))), (g4, .inl (cI, 300, .inl (cLe X))), (g5, .inl (cJ, 300, .inr (.inl (cBy X)))), (g6, .inl (cJ, 300, .inr (.inl (cHe X)))), (g7, .inl (cI, 300, .inl lo)), (g8, .inl (cI, 300, .inl rk)), (z0, .inl (cI, 300, .inl z)), (h0, .inr (0, [.ref h1, .ref h2, .ref h3, .ref h4, .ref h5, .int (nI u)])), (h1, .inl (cI, 2000, .inl F)), (h2, .inl (cI, 2000, .inl T)), (h3, .inl (cJ, 2000, .inr (.inl C))), (h4, .inl (cJ, 300, .inr (.inl Hh))), (h5, .inl (cI, 300, .inl S))] H → va_D A [(g0, .inr (1, [.ref g1, .ref g2, .ref g3, .ref g4, .ref g5, .ref g6, .ref g7, .ref g8, .int rc])), (g1, .inl (cI, 300, .inl (cFi X))), (g2, .inl (cI, 300, .inl (cNx X))), (g3, .inl (cI, 300, .inl (cLa X))), (g4, .inl (cI, 300, .inl (cLe X))), (g5, .inl (cJ, 300, .inr (.inl (cBy X)))), (g6, .inl (cJ, 300, .inr (.inl (cHe X)))), (g7, .inl (cI, 300, .inl lo)), (g8, .inl (cI, 300, .inl rk)), (z0, .inl (cI, 300, .inl z)), (h0, .inr (0, [.ref h1, .ref h2, .ref h3, .ref h4, .ref h5, .int (nI u)])), (h1, .inl (cI, 2000, .inl F)), (h2, .inl (cI, 2000, .inl T)), (h3, .inl (cJ, 2000, .inr (.inl C))), (h4, .inl (cJ, 300, .inr (.inl Hh))), (h5, .inl (cI, 300, .inl S))] → va_S A s.heap H locs → lv_has ls 8 [(0, .ref g0), (1, .ref z0), (2, .ref h0), (3, .int P), (4, .int (nI cnt)), (5, .int (nI i))] → W p l ev ({ frames := 2, cells := 0, slots := 0, locals := 48 } : Room) s m args below meth c H locs 0 0 Q (F0 m 16 ls []) := by
  have hin1 : ∀ w ∈ wsX10, w ∈ wsX1_build := by decide +kernel
  intro n
  induction n with
  | zero =>
    intro q i X hn hi hlo hI hf hG H locs ls hP hD hS hl
    have hq : q = [] := List.length_eq_zero_iff.mp hn
    subst hq
    have hi : i = cnt := hi
    subst hi
    have hG : X = G := hG
    subst hG
    refine lv_iload hx hb dX1_build_16 (lv_at hl 5 rfl) ?_
    refine lv_iload hx hb dX1_build_18 (lv_at hl 4 rfl) ?_
    refine lv_icmp_ge (tgt := 97) hx hb dX1_build_20 (by decide) (fun c_1 => ?_) (fun c_1 => ?_)
    · -- pc 20, side 0
      exact kn   H locs ls hP hD hS (lv_sub hl [0, 1, 2, 3] rfl)
    · -- pc 20, side 1
      exact absurd (nI_le (Nat.le_refl _) (by omega)) c_1
  | succ n ih =>
    intro q i X hn hi hlo hI hf hG H locs ls hP hD hS hl
    obtain ⟨f, q, rfl⟩ : ∃ y q', q = y :: q' := by cases q with | nil => cases hn | cons y q => exact ⟨y, q, rfl⟩
    rw [List.length_cons] at hn hi
    have hlo0 : lo i = nI f := hlo 0 (by rw [List.length_cons]; omega)
    have hlk := hf f List.mem_cons_self
    have hI2 : CInv z (joinS P (cof S F) f X) := hI.look_ hlk
    obtain ⟨f1, f2, c9, f3, f4, f5⟩ := hlk
    obtain ⟨a, a1, a2, a3, -⟩ := hI.2.1 c9 f3 f5
    obtain ⟨b, b1, b2, b3, -⟩ := hI.2.1 f f1 f2
    obtain ⟨chb, ndb, mb, -⟩ := hI.2.2 b b1 b3
    obtain ⟨-, -, ma, xa, la1, la2⟩ := hI.2.2 a a1 a3
    have hjs : joinS P (cof S F) f X = if nI a = nI b then X else if P.toInt64 < cBy X a + cBy X b then X else jS a b X := by unfold joinS; rw [f4, ix_n (by omega), a2, b2, ix_n (by omega), ix_n (by omega)]
    refine lv_iload hx hb dX1_build_16 (lv_at hl 5 rfl) ?_
    refine lv_iload hx hb dX1_build_18 (lv_at hl 4 rfl) ?_
    refine lv_icmp_ge (tgt := 97) hx hb dX1_build_20 (by decide) (fun c_2 => ?_) (fun c_2 => ?_)
    · -- pc 20, side 0
      exact absurd c_2 (nI_ge (show i < cnt by omega) (by omega))
    · -- pc 20, side 1
      refine lv_aload_n hx hb dX1_build_23 rfl (lv_at hl 0 rfl) ?_
      refine va_get (D := (dC, dI)) (ci := 1) (v := .ref g1) (C := RX1) (T := TX1) (N := 9) hx hb hts hin1 hown hK hP 0 rfl rfl 0 (by decide) (hts (.fieldLink RX1 9 "CallClusters$Clustering" "first" "[I") (by decide +kernel)) (fun _ h9 => h9) rfl dX1_build_24 ?_
      refine lv_aload_n hx hb dX1_build_27 rfl (lv_at hl 2 rfl) ?_
      refine lv_aload_n hx hb dX1_build_28 rfl (lv_at hl 0 rfl) ?_
      refine va_get (D := (dC, dI)) (ci := 1) (v := .ref g7) (C := RX1) (T := TX1) (N := 9) hx hb hts hin1 hown hK hP 0 rfl rfl 6 (by decide) (hts (.fieldLink RX1 31 "CallClusters$Clustering" "looked" "[I") (by decide +kernel)) (fun _ h9 => h9) rfl dX1_build_29 ?_
      refine lv_iload hx hb dX1_build_32 (lv_at hl 5 rfl) ?_
      refine va_iald hx hb hK hP 7 0 rfl rfl (inn (show i < 300 by omega) (by omega)) dX1_build_34 ?_
      refine tp_i (y := nI f) (by rw [ix_n (by omega)]; exact hlo0) ?_
      have hPc := hP.sub (ws' := [(h0, .inr (0, [.ref h1, .ref h2, .ref h3, .ref h4, .ref h5, .int (nI u)])), (h1, .inl (cI, 2000, .inl F)), (h2, .inl (cI, 2000, .inl T)), (h3, .inl (cJ, 2000, .inr (.inl C))), (h4, .inl (cJ, 300, .inr (.inl Hh))), (h5, .inl (cI, 300, .inl S))]) [10, 11, 12, 13, 14, 15] rfl
      have hDc := hD.sub (ws' := [(h0, .inr (0, [.ref h1, .ref h2, .ref h3, .ref h4, .ref h5, .int (nI u)])), (h1, .inl (cI, 2000, .inl F)), (h2, .inl (cI, 2000, .inl T)), (h3, .inl (cJ, 2000, .inr (.inl C))), (h4, .inl (cJ, 300, .inr (.inl Hh))), (h5, .inl (cI, 300, .inl S))]) [10, 11, 12, 13, 14, 15] (by decide) rfl
      have hFc := va_free (wc := [(h0, .inr (0, [.ref h1, .ref h2, .ref h3, .ref h4, .ref h5, .int (nI u)])), (h1, .inl (cI, 2000, .inl F)), (h2, .inl (cI, 2000, .inl T)), (h3, .inl (cJ, 2000, .inr (.inl C))), (h4, .inl (cJ, 300, .inr (.inl Hh))), (h5, .inl (cI, 300, .inl S))]) hD hS hA [10, 11, 12, 13, 14, 15] rfl
      refine va_calli (va_runV (As := [.int (nI f)]) (rest := [.ref g1]) ⟨hx, hb, hml, hown, hts⟩ (ct_X0_callerOf l dC dI cI cJ cZ H.size h0 h1 h2 h3 h4 h5 F T C Hh S u (nI f) (inn f1 (by omega)) (by rw [ix_n (by omega)]; exact hs f f1)) (cwV 1 hts gX1_build_X0_callerOf rfl rfl rfl (by decide +kernel) ⟨Nat.le_of_ble_eq_true rfl, Nat.le_of_ble_eq_true rfl⟩) (pre_V hK hPc hDc (ci := 0) rfl rfl) rfl rfl hl.1 rfl (lv_room (Nat.le_of_ble_eq_true rfl)) dX1_build_35 ⟨Nat.zero_le _, Nat.zero_le _⟩) hS (fun q _ h => hFc q h) hFc (fun r_3 uu t H1 locs ht hvm hw hB hz1 hk1 hS => ?_)
      obtain ⟨hP1, hK1, hD1⟩ := hB
      rw [ht] at hP1
      try dsimp only at hw
      have hP1 : va_P (dC, dI) vwCl [(h0, .inr (0, [.ref h1, .ref h2, .ref h3, .ref h4, .ref h5, .int (nI u)])), (h1, .inl (cI, 2000, .inl F)), (h2, .inl (cI, 2000, .inl T)), (h3, .inl (cJ, 2000, .inr (.inl C))), (h4, .inl (cJ, 300, .inr (.inl Hh))), (h5, .inl (cI, 300, .inl S))] H1 := hP1
      obtain ⟨hP, hD⟩ := va_join (wr := [(g0, .inr (1, [.ref g1, .ref g2, .ref g3, .ref g4, .ref g5, .ref g6, .ref g7, .ref g8, .int rc])), (g1, .inl (cI, 300, .inl (cFi X))), (g2, .inl (cI, 300, .inl (cNx X))), (g3, .inl (cI, 300, .inl (cLa X))), (g4, .inl (cI, 300, .inl (cLe X))), (g5, .inl (cJ, 300, .inr (.inl (cBy X)))), (g6, .inl (cJ, 300, .inr (.inl (cHe X)))), (g7, .inl (cI, 300, .inl lo)), (g8, .inl (cI, 300, .inl rk)), (z0, .inl (cI, 300, .inl z))]) (w1 := [(h0, .inr (0, [.ref h1, .ref h2, .ref h3, .ref h4, .ref h5, .int (nI u)])), (h1, .inl (cI, 2000, .inl F)), (h2, .inl (cI, 2000, .inl T)), (h3, .inl (cJ, 2000, .inr (.inl C))), (h4, .inl (cJ, 300, .inr (.inl Hh))), (h5, .inl (cI, 300, .inl S))]) hP hD [10, 11, 12, 13, 14, 15] [0, 1, 2, 3, 4, 5, 6, 7, 8, 9] rfl rfl (by decide) (by decide) hk1 hFc hP1 hD1
      have hP := hP.sub (ws' := [(g0, .inr (1, [.ref g1, .ref g2, .ref g3, .ref g4, .ref g5, .ref g6, .ref g7, .ref g8, .int rc])), (g1, .inl (cI, 300, .inl (cFi X))), (g2, .inl (cI, 300, .inl (cNx X))), (g3, .inl (cI, 300, .inl (cLa X))), (g4, .inl (cI, 300, .inl (cLe X))), (g5, .inl (cJ, 300, .inr (.inl (cBy X)))), (g6, .inl (cJ, 300, .inr (.inl (cHe X)))), (g7, .inl (cI, 300, .inl lo)), (g8, .inl (cI, 300, .inl rk)), (z0, .inl (cI, 300, .inl z)), (h0, .inr (0, [.ref h1, .ref h2, .ref h3, .ref h4, .ref h5, .int (nI u)])), (h1, .inl (cI, 2000, .inl F)), (h2, .inl (cI, 2000, .inl T)), (h3, .inl (cJ, 2000, .inr (.inl C))), (h4, .inl (cJ, 300, .inr (.inl Hh))), (h5, .inl (cI, 300, .inl S))]) [0, 1, 2, 3, 4, 5, 6, 7, 8, 9, 10, 11, 12, 13, 14, 15] rfl
      have hD := hD.sub (ws' := [(g0, .inr (1, [.ref g1, .ref g2, .ref g3, .ref g4, .ref g5, .ref g6, .ref g7, .ref g8, .int rc])), (g1, .inl (cI, 300, .inl (cFi X))), (g2, .inl (cI, 300, .inl (cNx X))), (g3, .inl (cI, 300, .inl (cLa X))), (g4, .inl (cI, 300, .inl (cLe X))), (g5, .inl (cJ, 300, .inr (.inl (cBy X)))), (g6, .inl (cJ, 300, .inr (.inl (cHe X)))), (g7, .inl (cI, 300, .inl lo)), (g8, .inl (cI, 300, .inl rk)), (z0, .inl (cI, 300, .inl z)), (h0, .inr (0, [.ref h1, .ref h2, .ref h3, .ref h4, .ref h5, .int (nI u)])), (h1, .inl (cI, 2000, .inl F)), (h2, .inl (cI, 2000, .inl T)), (h3, .inl (cJ, 2000, .inr (.inl C))), (h4, .inl (cJ, 300, .inr (.inl Hh))), (h5, .inl (cI, 300, .inl S))]) [0, 1, 2, 3, 4, 5, 6, 7, 8, 9, 10, 11, 12, 13, 14, 15] (by decide) rfl
      generalize H1 = H at hP hS ⊢
      rw [ix_n (by omega), f4] at hw
      subst hw
      refine va_iald hx hb hK hP 1 0 rfl rfl (inn f3 (by omega)) dX1_build_38 ?_
      refine tp_i (y := nI a) (by rw [ix_n (by omega)]; exact a2) ?_
      refine lv_istore (lv' := [(6, .int (nI a)), (0, .ref g0), (1, .ref z0), (2, .ref h0), (3, .int P), (4, .int (nI cnt)), (5, .int (nI i))]) hx hb dX1_build_39 hl (by decide) rfl (fun ls hl => ?_)
      refine lv_aload_n hx hb dX1_build_41 rfl (lv_at hl 1 rfl) ?_
      refine va_get (D := (dC, dI)) (ci := 1) (v := .ref g1) (C := RX1) (T := TX1) (N := 9) hx hb hts hin1 hown hK hP 0 rfl rfl 0 (by decide) (hts (.fieldLink RX1 9 "CallClusters$Clustering" "first" "[I") (by decide +kernel)) (fun _ h9 => h9) rfl dX1_build_42 ?_
      refine lv_aload_n hx hb dX1_build_45 rfl (lv_at hl 1 rfl) ?_
      refine va_get (D := (dC, dI)) (ci := 1) (v := .ref g7) (C := RX1) (T := TX1) (N := 9) hx hb hts hin1 hown hK hP 0 rfl rfl 6 (by decide) (hts (.fieldLink RX1 31 "CallClusters$Clustering" "looked" "[I") (by decide +kernel)) (fun _ h9 => h9) rfl dX1_build_46 ?_
      refine lv_iload hx hb dX1_build_49 (lv_at hl 6 rfl) ?_
      refine va_iald hx hb hK hP 7 0 rfl rfl (inn (show i < 300 by omega) (by omega)) dX1_build_51 ?_
      refine tp_i (y := nI f) (by rw [ix_n (by omega)]; exact hlo0) ?_
      refine va_iald hx hb hK hP 1 0 rfl rfl (inn f1 (by omega)) dX1_build_52 ?_
      refine tp_i (y := nI b) (by rw [ix_n (by omega)]; exact b2) ?_
      refine lv_istore (lv' := [(7, .int (nI b)), (6, .int (nI a)), (0, .ref g0), (1, .ref z0), (2, .ref h0), (3, .int P), (4, .int (nI cnt)), (5, .int (nI i))]) hx hb dX1_build_53 hl (by decide) rfl (fun ls hl => ?_)
      refine lv_iload hx hb dX1_build_55 (lv_at hl 1 rfl) ?_
      refine lv_iload hx hb dX1_build_57 (lv_at hl 0 rfl) ?_
      refine lv_icmp_eq (tgt := 91) hx hb dX1_build_59 (by decide) (fun c_4 => ?_) (fun c_4 => ?_)
      · -- pc 59, side 0
        refine lv_iinc (v := nI (i + 1)) (lv' := [(5, .int (nI (i + 1))), (7, .int (nI b)), (6, .int (nI a)), (0, .ref g0), (1, .ref z0), (2, .ref h0), (3, .int P), (4, .int (nI cnt))]) hx hb dX1_build_91 hl (k := 7) rfl (by exact nI_1 i) (by decide) rfl (fun ls hl => ?_)
        refine lv_goto (tgt := 16) hx hb dX1_build_94 (by decide) ?_
        have hq9 : X = joinS P (cof S F) f X := by rw [hjs, if_pos c_4]
        rw [hq9] at hP hD
        exact ih q (i + 1) (joinS P (cof S F) f X) (by omega) (by omega) (fun j hj => by rw [show i + 1 + j = i + (j + 1) by omega]; exact hlo (j + 1) (by rw [List.length_cons]; omega)) (hI2) (fun g hg => hf g (List.mem_cons_of_mem _ hg)) (hG) H locs ls hP hD hS (lv_sub hl [3, 4, 5, 6, 7, 0] rfl)
      · -- pc 59, side 1
        refine lv_aload_n hx hb dX1_build_62 rfl (lv_at hl 2 rfl) ?_
        refine va_get (D := (dC, dI)) (ci := 1) (v := .ref g5) (C := RX1) (T := TX1) (N := 9) hx hb hts hin1 hown hK hP 0 rfl rfl 4 (by decide) (hts (.fieldLink RX1 24 "CallClusters$Clustering" "bytes" "[J") (by decide +kernel)) (fun _ h9 => h9) rfl dX1_build_63 ?_
        refine lv_iload hx hb dX1_build_66 (lv_at hl 1 rfl) ?_
        refine va_lald hx hb hK hP 5 1 rfl rfl (inn a1 (by omega)) dX1_build_68 ?_
        refine tp_l (y := cBy X a) (by rw [ix_n (by omega)]) ?_
        refine lv_aload_n hx hb dX1_build_69 rfl (lv_at hl 2 rfl) ?_
        refine va_get (D := (dC, dI)) (ci := 1) (v := .ref g5) (C := RX1) (T := TX1) (N := 9) hx hb hts hin1 hown hK hP 0 rfl rfl 4 (by decide) (hts (.fieldLink RX1 24 "CallClusters$Clustering" "bytes" "[J") (by decide +kernel)) (fun _ h9 => h9) rfl dX1_build_70 ?_
        refine lv_iload hx hb dX1_build_73 (lv_at hl 0 rfl) ?_
        refine va_lald hx hb hK hP 5 1 rfl rfl (inn b1 (by omega)) dX1_build_75 ?_
        refine tp_l (y := cBy X b) (by rw [ix_n (by omega)]) ?_
        refine lv_ladd hx hb dX1_build_76 ?_
        refine lv_iload_n hx hb dX1_build_77 rfl (lv_at hl 5 rfl) ?_
        refine lv_i2l (v := P.toInt64) hx hb dX1_build_78 rfl ?_
        refine W.lcmp hx hb dX1_build_79 ?_
        refine lv_if_gt (tgt := 91) hx hb dX1_build_80 (by decide) (fun c_5 => ?_) (fun c_5 => ?_)
        · -- pc 80, side 0
          rw [lg_cmp_gt] at c_5
          refine lv_iinc (v := nI (i + 1)) (lv' := [(5, .int (nI (i + 1))), (7, .int (nI b)), (6, .int (nI a)), (0, .ref g0), (1, .ref z0), (2, .ref h0), (3, .int P), (4, .int (nI cnt))]) hx hb dX1_build_91 hl (k := 7) rfl (by exact nI_1 i) (by decide) rfl (fun ls hl => ?_)
          refine lv_goto (tgt := 16) hx hb dX1_build_94 (by decide) ?_
          have hq9 : X = joinS P (cof S F) f X := by rw [hjs, if_neg c_4, if_pos c_5]
          rw [hq9] at hP hD
          exact ih q (i + 1) (joinS P (cof S F) f X) (by omega) (by omega) (fun j hj => by rw [show i + 1 + j = i + (j + 1) by omega]; exact hlo (j + 1) (by rw [List.length_cons]; omega)) (hI2) (fun g hg => hf g (List.mem_cons_of_mem _ hg)) (hG) H locs ls hP hD hS (lv_sub hl [3, 4, 5, 6, 7, 0] rfl)
        · -- pc 80, side 1
          rw [lg_cmp_gt] at c_5
          refine lv_aload_n hx hb dX1_build_83 rfl (lv_at hl 2 rfl) ?_
          refine lv_iload hx hb dX1_build_84 (lv_at hl 1 rfl) ?_
          refine lv_iload hx hb dX1_build_86 (lv_at hl 0 rfl) ?_
          have hPc := hP.sub (ws' := [(g0, .inr (1, [.ref g1, .ref g2, .ref g3, .ref g4, .ref g5, .ref g6, .ref g7, .ref g8, .int rc])), (g1, .inl (cI, 300, .inl (cFi X))), (g2, .inl (cI, 300, .inl (cNx X))), (g3, .inl (cI, 300, .inl (cLa X))), (g4, .inl (cI, 300, .inl (cLe X))), (g5, .inl (cJ, 300, .inr (.inl (cBy X)))), (g6, .inl (cJ, 300, .inr (.inl (cHe X)))), (g7, .inl (cI, 300, .inl lo)), (g8, .inl (cI, 300, .inl rk))]) [0, 1, 2, 3, 4, 5, 6, 7, 8] rfl
          have hDc := hD.sub (ws' := [(g0, .inr (1, [.ref g1, .ref g2, .ref g3, .ref g4, .ref g5, .ref g6, .ref g7, .ref g8, .int rc])), (g1, .inl (cI, 300, .inl (cFi X))), (g2, .inl (cI, 300, .inl (cNx X))), (g3, .inl (cI, 300, .inl (cLa X))), (g4, .inl (cI, 300, .inl (cLe X))), (g5, .inl (cJ, 300, .inr (.inl (cBy X)))), (g6, .inl (cJ, 300, .inr (.inl (cHe X)))), (g7, .inl (cI, 300, .inl lo)), (g8, .inl (cI, 300, .inl rk))]) [0, 1, 2, 3, 4, 5, 6, 7, 8] (by decide) rfl
          have hFc := va_free (wc := [(g0, .inr (1, [.ref g1, .ref g2, .ref g3, .ref g4, .ref g5, .ref g6, .ref g7, .ref g8, .int rc])), (g1, .inl (cI, 300, .inl (cFi X))), (g2, .inl (cI, 300, .inl (cNx X))), (g3, .inl (cI, 300, .inl (cLa X))), (g4, .inl (cI, 300, .inl (cLe X))), (g5, .inl (cJ, 300, .inr (.inl (cBy X)))), (g6, .inl (cJ, 300, .inr (.inl (cHe X)))), (g7, .inl (cI, 300, .inl lo)), (g8, .inl (cI, 300, .inl rk))]) hD hS hA [0, 1, 2, 3, 4, 5, 6, 7, 8] rfl
          refine va_callv (va_runV (As := [.int (nI a), .int (nI b)]) (rest := []) ⟨hx, hb, hml, hown, hts⟩ (ct_X1_join l dC dI cI cJ cZ H.size g0 g1 g2 g3 g4 g5 g6 g7 g8 (cFi X) (cNx X) (cLa X) (cLe X) (cBy X) (cHe X) lo rk rc a b (cCh X b) a1 b1 (hI.len b1 b3) chb (fun y hy => (mb y hy).1) (by rw [la2]; exact inn (ma xa (List.mem_of_getLast? la1)).1 (by omega))) (cwV 2 hts gX1_build_X1_join rfl rfl rfl (by decide +kernel) ⟨Nat.le_of_ble_eq_true rfl, Nat.le_of_ble_eq_true rfl⟩) (pre_V hK hPc hDc (ci := 1) rfl rfl) rfl rfl hl.1 rfl (lv_room (Nat.le_of_ble_eq_true rfl)) dX1_build_88 ⟨Nat.zero_le _, Nat.zero_le _⟩) hS (fun q _ h => hFc q h) hFc (fun uu t H1 locs ht hvm hw hB hz1 hk1 hS => ?_)
          obtain ⟨hP1, hK1, hD1⟩ := hB
          rw [ht] at hP1
          try dsimp only at hw
          have hP1 : va_P (dC, dI) vwCl [(g0, .inr (1, [.ref g1, .ref g2, .ref g3, .ref g4, .ref g5, .ref g6, .ref g7, .ref g8, .int rc])), (g1, .inl (cI, 300, .inl (rlab (cCh X b) (nI a) (cFi X)))), (g2, .inl (cI, 300, .inl (upd (cNx X) (((cLa X) a).toNatClampNeg) (nI b)))), (g3, .inl (cI, 300, .inl (upd (cLa X) a ((cLa X) b)))), (g4, .inl (cI, 300, .inl (upd (cLe X) a (if (cLe X) b < (cLe X) a then (cLe X) b else (cLe X) a)))), (g5, .inl (cJ, 300, .inr (.inl (vp_updL (cBy X) a ((cBy X) a + (cBy X) b))))), (g6, .inl (cJ, 300, .inr (.inl (vp_updL (cHe X) a ((cHe X) a + (cHe X) b))))), (g7, .inl (cI, 300, .inl lo)), (g8, .inl (cI, 300, .inl rk))] H1 := hP1
          obtain ⟨hP, hD⟩ := va_join (wr := [(z0, .inl (cI, 300, .inl z)), (h0, .inr (0, [.ref h1, .ref h2, .ref h3, .ref h4, .ref h5, .int (nI u)])), (h1, .inl (cI, 2000, .inl F)), (h2, .inl (cI, 2000, .inl T)), (h3, .inl (cJ, 2000, .inr (.inl C))), (h4, .inl (cJ, 300, .inr (.inl Hh))), (h5, .inl (cI, 300, .inl S))]) (w1 := [(g0, .inr (1, [.ref g1, .ref g2, .ref g3, .ref g4, .ref g5, .ref g6, .ref g7, .ref g8, .int rc])), (g1, .inl (cI, 300, .inl (rlab (cCh X b) (nI a) (cFi X)))), (g2, .inl (cI, 300, .inl (upd (cNx X) (((cLa X) a).toNatClampNeg) (nI b)))), (g3, .inl (cI, 300, .inl (upd (cLa X) a ((cLa X) b)))), (g4, .inl (cI, 300, .inl (upd (cLe X) a (if (cLe X) b < (cLe X) a then (cLe X) b else (cLe X) a)))), (g5, .inl (cJ, 300, .inr (.inl (vp_updL (cBy X) a ((cBy X) a + (cBy X) b))))), (g6, .inl (cJ, 300, .inr (.inl (vp_updL (cHe X) a ((cHe X) a + (cHe X) b))))), (g7, .inl (cI, 300, .inl lo)), (g8, .inl (cI, 300, .inl rk))]) hP hD [0, 1, 2, 3, 4, 5, 6, 7, 8] [9, 10, 11, 12, 13, 14, 15] rfl rfl (by decide) (by decide) hk1 hFc hP1 hD1
          have hP := hP.sub (ws' := [(g0, .inr (1, [.ref g1, .ref g2, .ref g3, .ref g4, .ref g5, .ref g6, .ref g7, .ref g8, .int rc])), (g1, .inl (cI, 300, .inl (rlab (cCh X b) (nI a) (cFi X)))), (g2, .inl (cI, 300, .inl (upd (cNx X) (((cLa X) a).toNatClampNeg) (nI b)))), (g3, .inl (cI, 300, .inl (upd (cLa X) a ((cLa X) b)))), (g4, .inl (cI, 300, .inl (upd (cLe X) a (if (cLe X) b < (cLe X) a then (cLe X) b else (cLe X) a)))), (g5, .inl (cJ, 300, .inr (.inl (vp_updL (cBy X) a ((cBy X) a + (cBy X) b))))), (g6, .inl (cJ, 300, .inr (.inl (vp_updL (cHe X) a ((cHe X) a + (cHe X) b))))), (g7, .inl (cI, 300, .inl lo)), (g8, .inl (cI, 300, .inl rk)), (z0, .inl (cI, 300, .inl z)), (h0, .inr (0, [.ref h1, .ref h2, .ref h3, .ref h4, .ref h5, .int (nI u)])), (h1, .inl (cI, 2000, .inl F)), (h2, .inl (cI, 2000, .inl T)), (h3, .inl (cJ, 2000, .inr (.inl C))), (h4, .inl (cJ, 300, .inr (.inl Hh))), (h5, .inl (cI, 300, .inl S))]) [7, 8, 9, 10, 11, 12, 13, 14, 15, 0, 1, 2, 3, 4, 5, 6] rfl
          have hD := hD.sub (ws' := [(g0, .inr (1, [.ref g1, .ref g2, .ref g3, .ref g4, .ref g5, .ref g6, .ref g7, .ref g8, .int rc])), (g1, .inl (cI, 300, .inl (rlab (cCh X b) (nI a) (cFi X)))), (g2, .inl (cI, 300, .inl (upd (cNx X) (((cLa X) a).toNatClampNeg) (nI b)))), (g3, .inl (cI, 300, .inl (upd (cLa X) a ((cLa X) b)))), (g4, .inl (cI, 300, .inl (upd (cLe X) a (if (cLe X) b < (cLe X) a then (cLe X) b else (cLe X) a)))), (g5, .inl (cJ, 300, .inr (.inl (vp_updL (cBy X) a ((cBy X) a + (cBy X) b))))), (g6, .inl (cJ, 300, .inr (.inl (vp_updL (cHe X) a ((cHe X) a + (cHe X) b))))), (g7, .inl (cI, 300, .inl lo)), (g8, .inl (cI, 300, .inl rk)), (z0, .inl (cI, 300, .inl z)), (h0, .inr (0, [.ref h1, .ref h2, .ref h3, .ref h4, .ref h5, .int (nI u)])), (h1, .inl (cI, 2000, .inl F)), (h2, .inl (cI, 2000, .inl T)), (h3, .inl (cJ, 2000, .inr (.inl C))), (h4, .inl (cJ, 300, .inr (.inl Hh))), (h5, .inl (cI, 300, .inl S))]) [7, 8, 9, 10, 11, 12, 13, 14, 15, 0, 1, 2, 3, 4, 5, 6] (by decide) rfl
          generalize H1 = H at hP hS ⊢
          refine lv_iinc (v := nI (i + 1)) (lv' := [(5, .int (nI (i + 1))), (7, .int (nI b)), (6, .int (nI a)), (0, .ref g0), (1, .ref z0), (2, .ref h0), (3, .int P), (4, .int (nI cnt))]) hx hb dX1_build_91 hl (k := 7) rfl (by exact nI_1 i) (by decide) rfl (fun ls hl => ?_)
          refine lv_goto (tgt := 16) hx hb dX1_build_94 (by decide) ?_
          have hq9 : jS a b X = joinS P (cof S F) f X := by rw [hjs, if_neg c_4, if_neg c_5]
          have hP : va_P (dC, dI) vwCl [(g0, .inr (1, [.ref g1, .ref g2, .ref g3, .ref g4, .ref g5, .ref g6, .ref g7, .ref g8, .int rc])), (g1, .inl (cI, 300, .inl (cFi (jS a b X)))), (g2, .inl (cI, 300, .inl (cNx (jS a b X)))), (g3, .inl (cI, 300, .inl (cLa (jS a b X)))), (g4, .inl (cI, 300, .inl (cLe (jS a b X)))), (g5, .inl (cJ, 300, .inr (.inl (cBy (jS a b X))))), (g6, .inl (cJ, 300, .inr (.inl (cHe (jS a b X))))), (g7, .inl (cI, 300, .inl lo)), (g8, .inl (cI, 300, .inl rk)), (z0, .inl (cI, 300, .inl z)), (h0, .inr (0, [.ref h1, .ref h2, .ref h3, .ref h4, .ref h5, .int (nI u)])), (h1, .inl (cI, 2000, .inl F)), (h2, .inl (cI, 2000, .inl T)), (h3, .inl (cJ, 2000, .inr (.inl C))), (h4, .inl (cJ, 300, .inr (.inl Hh))), (h5, .inl (cI, 300, .inl S))] H := hP
          have hD : va_D A [(g0, .inr (1, [.ref g1, .ref g2, .ref g3, .ref g4, .ref g5, .ref g6, .ref g7, .ref g8, .int rc])), (g1, .inl (cI, 300, .inl (cFi (jS a b X)))), (g2, .inl (cI, 300, .inl (cNx (jS a b X)))), (g3, .inl (cI, 300, .inl (cLa (jS a b X)))), (g4, .inl (cI, 300, .inl (cLe (jS a b X)))), (g5, .inl (cJ, 300, .inr (.inl (cBy (jS a b X))))), (g6, .inl (cJ, 300, .inr (.inl (cHe (jS a b X))))), (g7, .inl (cI, 300, .inl lo)), (g8, .inl (cI, 300, .inl rk)), (z0, .inl (cI, 300, .inl z)), (h0, .inr (0, [.ref h1, .ref h2, .ref h3, .ref h4, .ref h5, .int (nI u)])), (h1, .inl (cI, 2000, .inl F)), (h2, .inl (cI, 2000, .inl T)), (h3, .inl (cJ, 2000, .inr (.inl C))), (h4, .inl (cJ, 300, .inr (.inl Hh))), (h5, .inl (cI, 300, .inl S))] := hD
          rw [hq9] at hP hD
          exact ih q (i + 1) (joinS P (cof S F) f X) (by omega) (by omega) (fun j hj => by rw [show i + 1 + j = i + (j + 1) by omega]; exact hlo (j + 1) (by rw [List.length_cons]; omega)) (hI2) (fun g hg => hf g (List.mem_cons_of_mem _ hg)) (hG) H locs ls hP hD hS (lv_sub hl [3, 4, 5, 6, 7, 0] rfl)
set_option maxHeartbeats 4000000 in
set_option maxRecDepth 100000 in
theorem ct_X1_build (l : Launch) (dC : Nat → ClassId) (dI : Nat → Nat → Nat) (cI cJ cZ : ClassId) (sz : Nat) (g0 : Nat) (g1 : Nat) (g2 : Nat) (g3 : Nat) (g4 : Nat) (g5 : Nat) (g6 : Nat) (g7 : Nat) (g8 : Nat) (z0 : Nat) (h0 : Nat) (h1 : Nat) (h2 : Nat) (h3 : Nat) (h4 : Nat) (h5 : Nat) (fi nx la le : Nat → Int32) (by_ he : Nat → Int64) (lo rk : Nat → Int32) (rc : Int32) (F T : Nat → Int32) (C Hh : Nat → Int64) (S : Nat → Int32) (u : Nat) (z : Nat → Int32) (P : Int32) (hs : ∀ j, j < 300 → S j = -1 ∨ vp_in (S j) 2000) (hcf : ∀ f, f < 300 → cof S F f = -1 ∨ ∃ c, c < 300 ∧ cof S F f = nI c ∧ ¬ z c ≤ 0) : Met l yX1_build wsX1_build ({ frames := 2, cells := 0, slots := 0, locals := 48 }) (va_Pc [.ref g0, .ref z0, .ref h0, .int P] (fun U => U.heap.size = sz ∧ va_P (dC, dI) vwCl [(g0, .inr (1, [.ref g1, .ref g2, .ref g3, .ref g4, .ref g5, .ref g6, .ref g7, .ref g8, .int rc])), (g1, .inl (cI, 300, .inl fi)), (g2, .inl (cI, 300, .inl nx)), (g3, .inl (cI, 300, .inl la)), (g4, .inl (cI, 300, .inl le)), (g5, .inl (cJ, 300, .inr (.inl by_))), (g6, .inl (cJ, 300, .inr (.inl he))), (g7, .inl (cI, 300, .inl lo)), (g8, .inl (cI, 300, .inl rk)), (z0, .inl (cI, 300, .inl z)), (h0, .inr (0, [.ref h1, .ref h2, .ref h3, .ref h4, .ref h5, .int (nI u)])), (h1, .inl (cI, 2000, .inl F)), (h2, .inl (cI, 2000, .inl T)), (h3, .inl (cJ, 2000, .inr (.inl C))), (h4, .inl (cJ, 300, .inr (.inl Hh))), (h5, .inl (cI, 300, .inl S))] U.heap ∧ va_K (dC, dI) vwCl [(cI, .int), (cJ, .long), (cZ, .boolean)] U ∧ va_D (fun _ => True) [(g0, .inr (1, [.ref g1, .ref g2, .ref g3, .ref g4, .ref g5, .ref g6, .ref g7, .ref g8, .int rc])), (g1, .inl (cI, 300, .inl fi)), (g2, .inl (cI, 300, .inl nx)), (g3, .inl (cI, 300, .inl la)), (g4, .inl (cI, 300, .inl le)), (g5, .inl (cJ, 300, .inr (.inl by_))), (g6, .inl (cJ, 300, .inr (.inl he))), (g7, .inl (cI, 300, .inl lo)), (g8, .inl (cI, 300, .inl rk)), (z0, .inl (cI, 300, .inl z)), (h0, .inr (0, [.ref h1, .ref h2, .ref h3, .ref h4, .ref h5, .int (nI u)])), (h1, .inl (cI, 2000, .inl F)), (h2, .inl (cI, 2000, .inl T)), (h3, .inl (cJ, 2000, .inr (.inl C))), (h4, .inl (cJ, 300, .inr (.inl Hh))), (h5, .inl (cI, 300, .inl S))])) (va_Qv (fun (uu : Unit) => True) (fun (uu : Unit) (t : State) => va_P (dC, dI) vwCl [(g0, .inr (1, [.ref g1, .ref g2, .ref g3, .ref g4, .ref g5, .ref g6, .ref g7, .ref g8, .int (nI (rkN (cFi (bldX P z S F Hh lo)) (cLe (bldX P z S F Hh lo)) (cBy (bldX P z S F Hh lo)) (cHe (bldX P z S F Hh lo)) rk 300).1)])), (g1, .inl (cI, 300, .inl (cFi (bldX P z S F Hh lo)))), (g2, .inl (cI, 300, .inl (cNx (bldX P z S F Hh lo)))), (g3, .inl (cI, 300, .inl (cLa (bldX P z S F Hh lo)))), (g4, .inl (cI, 300, .inl (cLe (bldX P z S F Hh lo)))), (g5, .inl (cJ, 300, .inr (.inl (cBy (bldX P z S F Hh lo))))), (g6, .inl (cJ, 300, .inr (.inl (cHe (bldX P z S F Hh lo))))), (g7, .inl (cI, 300, .inl ((obhN (bFi0 z) S F Hh lo 300).2))), (g8, .inl (cI, 300, .inl ((rkN (cFi (bldX P z S F Hh lo)) (cLe (bldX P z S F Hh lo)) (cBy (bldX P z S F Hh lo)) (cHe (bldX P z S F Hh lo)) rk 300).2))), (z0, .inl (cI, 300, .inl z)), (h0, .inr (0, [.ref h1, .ref h2, .ref h3, .ref h4, .ref h5, .int (nI u)])), (h1, .inl (cI, 2000, .inl F)), (h2, .inl (cI, 2000, .inl T)), (h3, .inl (cJ, 2000, .inr (.inl C))), (h4, .inl (cJ, 300, .inr (.inl Hh))), (h5, .inl (cI, 300, .inl S))] t.heap ∧ va_K (dC, dI) vwCl [(cI, .int), (cJ, .long), (cZ, .boolean)] t ∧ va_D (va_A [(g0, .inr (1, [.ref g1, .ref g2, .ref g3, .ref g4, .ref g5, .ref g6, .ref g7, .ref g8, .int rc])), (g1, .inl (cI, 300, .inl fi)), (g2, .inl (cI, 300, .inl nx)), (g3, .inl (cI, 300, .inl la)), (g4, .inl (cI, 300, .inl le)), (g5, .inl (cJ, 300, .inr (.inl by_))), (g6, .inl (cJ, 300, .inr (.inl he))), (g7, .inl (cI, 300, .inl lo)), (g8, .inl (cI, 300, .inl rk)), (z0, .inl (cI, 300, .inl z)), (h0, .inr (0, [.ref h1, .ref h2, .ref h3, .ref h4, .ref h5, .int (nI u)])), (h1, .inl (cI, 2000, .inl F)), (h2, .inl (cI, 2000, .inl T)), (h3, .inl (cJ, 2000, .inr (.inl C))), (h4, .inl (cJ, 300, .inr (.inl Hh))), (h5, .inl (cI, 300, .inl S))] sz) [(g0, .inr (1, [.ref g1, .ref g2, .ref g3, .ref g4, .ref g5, .ref g6, .ref g7, .ref g8, .int (nI (rkN (cFi (bldX P z S F Hh lo)) (cLe (bldX P z S F Hh lo)) (cBy (bldX P z S F Hh lo)) (cHe (bldX P z S F Hh lo)) rk 300).1)])), (g1, .inl (cI, 300, .inl (cFi (bldX P z S F Hh lo)))), (g2, .inl (cI, 300, .inl (cNx (bldX P z S F Hh lo)))), (g3, .inl (cI, 300, .inl (cLa (bldX P z S F Hh lo)))), (g4, .inl (cI, 300, .inl (cLe (bldX P z S F Hh lo)))), (g5, .inl (cJ, 300, .inr (.inl (cBy (bldX P z S F Hh lo))))), (g6, .inl (cJ, 300, .inr (.inl (cHe (bldX P z S F Hh lo))))), (g7, .inl (cI, 300, .inl ((obhN (bFi0 z) S F Hh lo 300).2))), (g8, .inl (cI, 300, .inl ((rkN (cFi (bldX P z S F Hh lo)) (cLe (bldX P z S F Hh lo)) (cBy (bldX P z S F Hh lo)) (cHe (bldX P z S F Hh lo)) rk 300).2))), (z0, .inl (cI, 300, .inl z)), (h0, .inr (0, [.ref h1, .ref h2, .ref h3, .ref h4, .ref h5, .int (nI u)])), (h1, .inl (cI, 2000, .inl F)), (h2, .inl (cI, 2000, .inl T)), (h3, .inl (cJ, 2000, .inr (.inl C))), (h4, .inl (cJ, 300, .inr (.inl Hh))), (h5, .inl (cI, 300, .inl S))]) (va_A [(g0, .inr (1, [.ref g1, .ref g2, .ref g3, .ref g4, .ref g5, .ref g6, .ref g7, .ref g8, .int rc])), (g1, .inl (cI, 300, .inl fi)), (g2, .inl (cI, 300, .inl nx)), (g3, .inl (cI, 300, .inl la)), (g4, .inl (cI, 300, .inl le)), (g5, .inl (cJ, 300, .inr (.inl by_))), (g6, .inl (cJ, 300, .inr (.inl he))), (g7, .inl (cI, 300, .inl lo)), (g8, .inl (cI, 300, .inl rk)), (z0, .inl (cI, 300, .inl z)), (h0, .inr (0, [.ref h1, .ref h2, .ref h3, .ref h4, .ref h5, .int (nI u)])), (h1, .inl (cI, 2000, .inl F)), (h2, .inl (cI, 2000, .inl T)), (h3, .inl (cJ, 2000, .inr (.inl C))), (h4, .inl (cJ, 300, .inr (.inl Hh))), (h5, .inl (cI, 300, .inl S))] sz)) 0 0 (va_A [(g0, .inr (1, [.ref g1, .ref g2, .ref g3, .ref g4, .ref g5, .ref g6, .ref g7, .ref g8, .int rc])), (g1, .inl (cI, 300, .inl fi)), (g2, .inl (cI, 300, .inl nx)), (g3, .inl (cI, 300, .inl la)), (g4, .inl (cI, 300, .inl le)), (g5, .inl (cJ, 300, .inr (.inl by_))), (g6, .inl (cJ, 300, .inr (.inl he))), (g7, .inl (cI, 300, .inl lo)), (g8, .inl (cI, 300, .inl rk)), (z0, .inl (cI, 300, .inl z)), (h0, .inr (0, [.ref h1, .ref h2, .ref h3, .ref h4, .ref h5, .int (nI u)])), (h1, .inl (cI, 2000, .inl F)), (h2, .inl (cI, 2000, .inl T)), (h3, .inl (cJ, 2000, .inr (.inl C))), (h4, .inl (cJ, 300, .inr (.inl Hh))), (h5, .inl (cI, 300, .inl S))] sz) := by
  refine Met.ofW (cc := cX1_build) (maxL := 8) (ret := none) (by decide) rfl ?_
  intro p ev s m args below meth c s₁ Bd hml hv
  obtain ⟨rfl, hsz, hP, hK, hD0⟩ := hv
  have hx := Bd.exec
  have hb := Bd.bytes
  have hr := Bd.returns
  have hts := atoms_spec (ws := wsX1_build) Bd.pre
  have hown : s.vm.findClass RX1 = some m.cls := findClass_of_methodNamed Bd.named
  have hlocks := Bd.notSynchronized
  have hin1 : ∀ w ∈ wsX10, w ∈ wsX1_build := by decide +kernel
  subst hsz
  have hD := hD0.self (sz := s.heap.size)
  generalize hAe : va_A [(g0, .inr (1, [.ref g1, .ref g2, .ref g3, .ref g4, .ref g5, .ref g6, .ref g7, .ref g8, .int rc])), (g1, .inl (cI, 300, .inl fi)), (g2, .inl (cI, 300, .inl nx)), (g3, .inl (cI, 300, .inl la)), (g4, .inl (cI, 300, .inl le)), (g5, .inl (cJ, 300, .inr (.inl by_))), (g6, .inl (cJ, 300, .inr (.inl he))), (g7, .inl (cI, 300, .inl lo)), (g8, .inl (cI, 300, .inl rk)), (z0, .inl (cI, 300, .inl z)), (h0, .inr (0, [.ref h1, .ref h2, .ref h3, .ref h4, .ref h5, .int (nI u)])), (h1, .inl (cI, 2000, .inl F)), (h2, .inl (cI, 2000, .inl T)), (h3, .inl (cJ, 2000, .inr (.inl C))), (h4, .inl (cJ, 300, .inr (.inl Hh))), (h5, .inl (cI, 300, .inl S))] s.heap.size = A at hD ⊢
  have hA : ∀ q : Nat, s.heap.size ≤ q → A q := fun q h => by rw [← hAe]; exact Or.inr h
  have hS : va_S A s.heap s.heap [] := va_S.rf
  have hl := lv_entry ([.ref g0, .ref z0, .ref h0, .int P]) (n := 8) (Nat.le_of_ble_eq_true rfl)
  rw [lg_entry_eq]
  generalize (lg_sl ([.ref g0, .ref z0, .ref h0, .int P]) ++ List.replicate (8 - (lg_sl ([.ref g0, .ref z0, .ref h0, .int P])).length) Slot.unset).toArray = ls at hl ⊢
  have hl : lv_has ls 8 [(0, .ref g0), (1, .ref z0), (2, .ref h0), (3, .int P)] := hl
  generalize hHe : s.heap = H at hP ⊢
  have hS : va_S A s.heap H [] := hHe ▸ hS
  refine lv_aload_n hx hb dX1_build_0 rfl (lv_at hl 0 rfl) ?_
  refine lv_aload_n hx hb dX1_build_1 rfl (lv_at hl 1 rfl) ?_
  refine lv_aload_n hx hb dX1_build_2 rfl (lv_at hl 2 rfl) ?_
  have hPc := hP.sub (ws' := [(g0, .inr (1, [.ref g1, .ref g2, .ref g3, .ref g4, .ref g5, .ref g6, .ref g7, .ref g8, .int rc])), (g1, .inl (cI, 300, .inl fi)), (g2, .inl (cI, 300, .inl nx)), (g3, .inl (cI, 300, .inl la)), (g4, .inl (cI, 300, .inl le)), (g5, .inl (cJ, 300, .inr (.inl by_))), (g6, .inl (cJ, 300, .inr (.inl he))), (g7, .inl (cI, 300, .inl lo)), (g8, .inl (cI, 300, .inl rk)), (z0, .inl (cI, 300, .inl z)), (h0, .inr (0, [.ref h1, .ref h2, .ref h3, .ref h4, .ref h5, .int (nI u)])), (h1, .inl (cI, 2000, .inl F)), (h2, .inl (cI, 2000, .inl T)), (h3, .inl (cJ, 2000, .inr (.inl C))), (h4, .inl (cJ, 300, .inr (.inl Hh))), (h5, .inl (cI, 300, .inl S))]) [0, 1, 2, 3, 4, 5, 6, 7, 8, 9, 10, 11, 12, 13, 14, 15] rfl
  have hDc := hD.sub (ws' := [(g0, .inr (1, [.ref g1, .ref g2, .ref g3, .ref g4, .ref g5, .ref g6, .ref g7, .ref g8, .int rc])), (g1, .inl (cI, 300, .inl fi)), (g2, .inl (cI, 300, .inl nx)), (g3, .inl (cI, 300, .inl la)), (g4, .inl (cI, 300, .inl le)), (g5, .inl (cJ, 300, .inr (.inl by_))), (g6, .inl (cJ, 300, .inr (.inl he))), (g7, .inl (cI, 300, .inl lo)), (g8, .inl (cI, 300, .inl rk)), (z0, .inl (cI, 300, .inl z)), (h0, .inr (0, [.ref h1, .ref h2, .ref h3, .ref h4, .ref h5, .int (nI u)])), (h1, .inl (cI, 2000, .inl F)), (h2, .inl (cI, 2000, .inl T)), (h3, .inl (cJ, 2000, .inr (.inl C))), (h4, .inl (cJ, 300, .inr (.inl Hh))), (h5, .inl (cI, 300, .inl S))]) [0, 1, 2, 3, 4, 5, 6, 7, 8, 9, 10, 11, 12, 13, 14, 15] (by decide) rfl
  have hFc := va_free (wc := [(g0, .inr (1, [.ref g1, .ref g2, .ref g3, .ref g4, .ref g5, .ref g6, .ref g7, .ref g8, .int rc])), (g1, .inl (cI, 300, .inl fi)), (g2, .inl (cI, 300, .inl nx)), (g3, .inl (cI, 300, .inl la)), (g4, .inl (cI, 300, .inl le)), (g5, .inl (cJ, 300, .inr (.inl by_))), (g6, .inl (cJ, 300, .inr (.inl he))), (g7, .inl (cI, 300, .inl lo)), (g8, .inl (cI, 300, .inl rk)), (z0, .inl (cI, 300, .inl z)), (h0, .inr (0, [.ref h1, .ref h2, .ref h3, .ref h4, .ref h5, .int (nI u)])), (h1, .inl (cI, 2000, .inl F)), (h2, .inl (cI, 2000, .inl T)), (h3, .inl (cJ, 2000, .inr (.inl C))), (h4, .inl (cJ, 300, .inr (.inl Hh))), (h5, .inl (cI, 300, .inl S))]) hD hS hA [0, 1, 2, 3, 4, 5, 6, 7, 8, 9, 10, 11, 12, 13, 14, 15] rfl
  refine va_callv (va_runV (As := [.ref z0, .ref h0]) (rest := []) ⟨hx, hb, hml, hown, hts⟩ (ct_X1_standAlone l dC dI cI cJ cZ H.size g0 g1 g2 g3 g4 g5 g6 g7 g8 z0 h0 h1 h2 h3 h4 h5 fi nx la le by_ he lo rk rc F T C Hh S u z ) (cwV 2 hts gX1_build_X1_standAlone rfl rfl rfl (by decide +kernel) ⟨Nat.le_of_ble_eq_true rfl, Nat.le_of_ble_eq_true rfl⟩) (pre_V hK hPc hDc (ci := 1) rfl rfl) rfl rfl hl.1 rfl (lv_room (Nat.le_of_ble_eq_true rfl)) dX1_build_3 ⟨Nat.zero_le _, Nat.zero_le _⟩) hS (fun q _ h => hFc q h) hFc (fun uu t H1 locs ht hvm hw hB hz1 hk1 hS => ?_)
  obtain ⟨hP1, hK1, hD1⟩ := hB
  rw [ht] at hP1
  try dsimp only at hw
  have hP1 : va_P (dC, dI) vwCl [(g0, .inr (1, [.ref g1, .ref g2, .ref g3, .ref g4, .ref g5, .ref g6, .ref g7, .ref g8, .int rc])), (g1, .inl (cI, 300, .inl (fun j => if z j ≤ 0 then -1 else nI j))), (g2, .inl (cI, 300, .inl (fun _ => -1))), (g3, .inl (cI, 300, .inl (fun j => nI j))), (g4, .inl (cI, 300, .inl (fun j => nI j))), (g5, .inl (cJ, 300, .inr (.inl (fun j => (z j).toInt64)))), (g6, .inl (cJ, 300, .inr (.inl Hh))), (g7, .inl (cI, 300, .inl lo)), (g8, .inl (cI, 300, .inl rk)), (z0, .inl (cI, 300, .inl z)), (h0, .inr (0, [.ref h1, .ref h2, .ref h3, .ref h4, .ref h5, .int (nI u)])), (h1, .inl (cI, 2000, .inl F)), (h2, .inl (cI, 2000, .inl T)), (h3, .inl (cJ, 2000, .inr (.inl C))), (h4, .inl (cJ, 300, .inr (.inl Hh))), (h5, .inl (cI, 300, .inl S))] H1 := hP1
  obtain ⟨hP, hD⟩ := va_join (wr := []) (w1 := [(g0, .inr (1, [.ref g1, .ref g2, .ref g3, .ref g4, .ref g5, .ref g6, .ref g7, .ref g8, .int rc])), (g1, .inl (cI, 300, .inl (fun j => if z j ≤ 0 then -1 else nI j))), (g2, .inl (cI, 300, .inl (fun _ => -1))), (g3, .inl (cI, 300, .inl (fun j => nI j))), (g4, .inl (cI, 300, .inl (fun j => nI j))), (g5, .inl (cJ, 300, .inr (.inl (fun j => (z j).toInt64)))), (g6, .inl (cJ, 300, .inr (.inl Hh))), (g7, .inl (cI, 300, .inl lo)), (g8, .inl (cI, 300, .inl rk)), (z0, .inl (cI, 300, .inl z)), (h0, .inr (0, [.ref h1, .ref h2, .ref h3, .ref h4, .ref h5, .int (nI u)])), (h1, .inl (cI, 2000, .inl F)), (h2, .inl (cI, 2000, .inl T)), (h3, .inl (cJ, 2000, .inr (.inl C))), (h4, .inl (cJ, 300, .inr (.inl Hh))), (h5, .inl (cI, 300, .inl S))]) hP hD [0, 1, 2, 3, 4, 5, 6, 7, 8, 9, 10, 11, 12, 13, 14, 15] [] rfl rfl (by decide) (by decide) hk1 hFc hP1 hD1
  have hP := hP.sub (ws' := [(g0, .inr (1, [.ref g1, .ref g2, .ref g3, .ref g4, .ref g5, .ref g6, .ref g7, .ref g8, .int rc])), (g1, .inl (cI, 300, .inl (fun j => if z j ≤ 0 then -1 else nI j))), (g2, .inl (cI, 300, .inl (fun _ => -1))), (g3, .inl (cI, 300, .inl (fun j => nI j))), (g4, .inl (cI, 300, .inl (fun j => nI j))), (g5, .inl (cJ, 300, .inr (.inl (fun j => (z j).toInt64)))), (g6, .inl (cJ, 300, .inr (.inl Hh))), (g7, .inl (cI, 300, .inl lo)), (g8, .inl (cI, 300, .inl rk)), (z0, .inl (cI, 300, .inl z)), (h0, .inr (0, [.ref h1, .ref h2, .ref h3, .ref h4, .ref h5, .int (nI u)])), (h1, .inl (cI, 2000, .inl F)), (h2, .inl (cI, 2000, .inl T)), (h3, .inl (cJ, 2000, .inr (.inl C))), (h4, .inl (cJ, 300, .inr (.inl Hh))), (h5, .inl (cI, 300, .inl S))]) [0, 1, 2, 3, 4, 5, 6, 7, 8, 9, 10, 11, 12, 13, 14, 15] rfl
  have hD := hD.sub (ws' := [(g0, .inr (1, [.ref g1, .ref g2, .ref g3, .ref g4, .ref g5, .ref g6, .ref g7, .ref g8, .int rc])), (g1, .inl (cI, 300, .inl (fun j => if z j ≤ 0 then -1 else nI j))), (g2, .inl (cI, 300, .inl (fun _ => -1))), (g3, .inl (cI, 300, .inl (fun j => nI j))), (g4, .inl (cI, 300, .inl (fun j => nI j))), (g5, .inl (cJ, 300, .inr (.inl (fun j => (z j).toInt64)))), (g6, .inl (cJ, 300, .inr (.inl Hh))), (g7, .inl (cI, 300, .inl lo)), (g8, .inl (cI, 300, .inl rk)), (z0, .inl (cI, 300, .inl z)), (h0, .inr (0, [.ref h1, .ref h2, .ref h3, .ref h4, .ref h5, .int (nI u)])), (h1, .inl (cI, 2000, .inl F)), (h2, .inl (cI, 2000, .inl T)), (h3, .inl (cJ, 2000, .inr (.inl C))), (h4, .inl (cJ, 300, .inr (.inl Hh))), (h5, .inl (cI, 300, .inl S))]) [0, 1, 2, 3, 4, 5, 6, 7, 8, 9, 10, 11, 12, 13, 14, 15] (by decide) rfl
  generalize H1 = H at hP hS ⊢
  have hP : va_P (dC, dI) vwCl [(g0, .inr (1, [.ref g1, .ref g2, .ref g3, .ref g4, .ref g5, .ref g6, .ref g7, .ref g8, .int rc])), (g1, .inl (cI, 300, .inl (bFi0 z))), (g2, .inl (cI, 300, .inl (fun _ => -1))), (g3, .inl (cI, 300, .inl (fun j => nI j))), (g4, .inl (cI, 300, .inl (fun j => nI j))), (g5, .inl (cJ, 300, .inr (.inl (fun j => (z j).toInt64)))), (g6, .inl (cJ, 300, .inr (.inl Hh))), (g7, .inl (cI, 300, .inl lo)), (g8, .inl (cI, 300, .inl rk)), (z0, .inl (cI, 300, .inl z)), (h0, .inr (0, [.ref h1, .ref h2, .ref h3, .ref h4, .ref h5, .int (nI u)])), (h1, .inl (cI, 2000, .inl F)), (h2, .inl (cI, 2000, .inl T)), (h3, .inl (cJ, 2000, .inr (.inl C))), (h4, .inl (cJ, 300, .inr (.inl Hh))), (h5, .inl (cI, 300, .inl S))] H := hP
  have hD : va_D A [(g0, .inr (1, [.ref g1, .ref g2, .ref g3, .ref g4, .ref g5, .ref g6, .ref g7, .ref g8, .int rc])), (g1, .inl (cI, 300, .inl (bFi0 z))), (g2, .inl (cI, 300, .inl (fun _ => -1))), (g3, .inl (cI, 300, .inl (fun j => nI j))), (g4, .inl (cI, 300, .inl (fun j => nI j))), (g5, .inl (cJ, 300, .inr (.inl (fun j => (z j).toInt64)))), (g6, .inl (cJ, 300, .inr (.inl Hh))), (g7, .inl (cI, 300, .inl lo)), (g8, .inl (cI, 300, .inl rk)), (z0, .inl (cI, 300, .inl z)), (h0, .inr (0, [.ref h1, .ref h2, .ref h3, .ref h4, .ref h5, .int (nI u)])), (h1, .inl (cI, 2000, .inl F)), (h2, .inl (cI, 2000, .inl T)), (h3, .inl (cJ, 2000, .inr (.inl C))), (h4, .inl (cJ, 300, .inr (.inl Hh))), (h5, .inl (cI, 300, .inl S))] := hD
  refine lv_aload_n hx hb dX1_build_6 rfl (lv_at hl 0 rfl) ?_
  refine lv_aload_n hx hb dX1_build_7 rfl (lv_at hl 2 rfl) ?_
  have hPc := hP.sub (ws' := [(g0, .inr (1, [.ref g1, .ref g2, .ref g3, .ref g4, .ref g5, .ref g6, .ref g7, .ref g8, .int rc])), (g1, .inl (cI, 300, .inl (bFi0 z))), (g2, .inl (cI, 300, .inl (fun _ => -1))), (g3, .inl (cI, 300, .inl (fun j => nI j))), (g4, .inl (cI, 300, .inl (fun j => nI j))), (g5, .inl (cJ, 300, .inr (.inl (fun j => (z j).toInt64)))), (g6, .inl (cJ, 300, .inr (.inl Hh))), (g7, .inl (cI, 300, .inl lo)), (g8, .inl (cI, 300, .inl rk)), (h0, .inr (0, [.ref h1, .ref h2, .ref h3, .ref h4, .ref h5, .int (nI u)])), (h1, .inl (cI, 2000, .inl F)), (h2, .inl (cI, 2000, .inl T)), (h3, .inl (cJ, 2000, .inr (.inl C))), (h4, .inl (cJ, 300, .inr (.inl Hh))), (h5, .inl (cI, 300, .inl S))]) [0, 1, 2, 3, 4, 5, 6, 7, 8, 10, 11, 12, 13, 14, 15] rfl
  have hDc := hD.sub (ws' := [(g0, .inr (1, [.ref g1, .ref g2, .ref g3, .ref g4, .ref g5, .ref g6, .ref g7, .ref g8, .int rc])), (g1, .inl (cI, 300, .inl (bFi0 z))), (g2, .inl (cI, 300, .inl (fun _ => -1))), (g3, .inl (cI, 300, .inl (fun j => nI j))), (g4, .inl (cI, 300, .inl (fun j => nI j))), (g5, .inl (cJ, 300, .inr (.inl (fun j => (z j).toInt64)))), (g6, .inl (cJ, 300, .inr (.inl Hh))), (g7, .inl (cI, 300, .inl lo)), (g8, .inl (cI, 300, .inl rk)), (h0, .inr (0, [.ref h1, .ref h2, .ref h3, .ref h4, .ref h5, .int (nI u)])), (h1, .inl (cI, 2000, .inl F)), (h2, .inl (cI, 2000, .inl T)), (h3, .inl (cJ, 2000, .inr (.inl C))), (h4, .inl (cJ, 300, .inr (.inl Hh))), (h5, .inl (cI, 300, .inl S))]) [0, 1, 2, 3, 4, 5, 6, 7, 8, 10, 11, 12, 13, 14, 15] (by decide) rfl
  have hFc := va_free (wc := [(g0, .inr (1, [.ref g1, .ref g2, .ref g3, .ref g4, .ref g5, .ref g6, .ref g7, .ref g8, .int rc])), (g1, .inl (cI, 300, .inl (bFi0 z))), (g2, .inl (cI, 300, .inl (fun _ => -1))), (g3, .inl (cI, 300, .inl (fun j => nI j))), (g4, .inl (cI, 300, .inl (fun j => nI j))), (g5, .inl (cJ, 300, .inr (.inl (fun j => (z j).toInt64)))), (g6, .inl (cJ, 300, .inr (.inl Hh))), (g7, .inl (cI, 300, .inl lo)), (g8, .inl (cI, 300, .inl rk)), (h0, .inr (0, [.ref h1, .ref h2, .ref h3, .ref h4, .ref h5, .int (nI u)])), (h1, .inl (cI, 2000, .inl F)), (h2, .inl (cI, 2000, .inl T)), (h3, .inl (cJ, 2000, .inr (.inl C))), (h4, .inl (cJ, 300, .inr (.inl Hh))), (h5, .inl (cI, 300, .inl S))]) hD hS hA [0, 1, 2, 3, 4, 5, 6, 7, 8, 10, 11, 12, 13, 14, 15] rfl
  refine va_calli (va_runV (As := [.ref h0]) (rest := []) ⟨hx, hb, hml, hown, hts⟩ (ct_X1_orderByHeat l dC dI cI cJ cZ H.size g0 g1 g2 g3 g4 g5 g6 g7 g8 h0 h1 h2 h3 h4 h5 (bFi0 z) (fun _ => -1) (fun j => nI j) (fun j => nI j) (fun j => (z j).toInt64) Hh lo rk rc F T C Hh S u hs) (cwV 1 hts gX1_build_X1_orderByHeat rfl rfl rfl (by decide +kernel) ⟨Nat.le_of_ble_eq_true rfl, Nat.le_of_ble_eq_true rfl⟩) (pre_V hK hPc hDc (ci := 1) rfl rfl) rfl rfl hl.1 rfl (lv_room (Nat.le_of_ble_eq_true rfl)) dX1_build_8 ⟨Nat.zero_le _, Nat.zero_le _⟩) hS (fun q _ h => hFc q h) hFc (fun r_2 uu t H1 locs ht hvm hw hB hz1 hk1 hS => ?_)
  obtain ⟨hP1, hK1, hD1⟩ := hB
  rw [ht] at hP1
  try dsimp only at hw
  have hP1 : va_P (dC, dI) vwCl [(g0, .inr (1, [.ref g1, .ref g2, .ref g3, .ref g4, .ref g5, .ref g6, .ref g7, .ref g8, .int rc])), (g1, .inl (cI, 300, .inl (bFi0 z))), (g2, .inl (cI, 300, .inl (fun _ => -1))), (g3, .inl (cI, 300, .inl (fun j => nI j))), (g4, .inl (cI, 300, .inl (fun j => nI j))), (g5, .inl (cJ, 300, .inr (.inl (fun j => (z j).toInt64)))), (g6, .inl (cJ, 300, .inr (.inl Hh))), (g7, .inl (cI, 300, .inl ((obhN (bFi0 z) S F Hh lo 300).2))), (g8, .inl (cI, 300, .inl rk)), (h0, .inr (0, [.ref h1, .ref h2, .ref h3, .ref h4, .ref h5, .int (nI u)])), (h1, .inl (cI, 2000, .inl F)), (h2, .inl (cI, 2000, .inl T)), (h3, .inl (cJ, 2000, .inr (.inl C))), (h4, .inl (cJ, 300, .inr (.inl Hh))), (h5, .inl (cI, 300, .inl S))] H1 := hP1
  obtain ⟨hP, hD⟩ := va_join (wr := [(z0, .inl (cI, 300, .inl z))]) (w1 := [(g0, .inr (1, [.ref g1, .ref g2, .ref g3, .ref g4, .ref g5, .ref g6, .ref g7, .ref g8, .int rc])), (g1, .inl (cI, 300, .inl (bFi0 z))), (g2, .inl (cI, 300, .inl (fun _ => -1))), (g3, .inl (cI, 300, .inl (fun j => nI j))), (g4, .inl (cI, 300, .inl (fun j => nI j))), (g5, .inl (cJ, 300, .inr (.inl (fun j => (z j).toInt64)))), (g6, .inl (cJ, 300, .inr (.inl Hh))), (g7, .inl (cI, 300, .inl ((obhN (bFi0 z) S F Hh lo 300).2))), (g8, .inl (cI, 300, .inl rk)), (h0, .inr (0, [.ref h1, .ref h2, .ref h3, .ref h4, .ref h5, .int (nI u)])), (h1, .inl (cI, 2000, .inl F)), (h2, .inl (cI, 2000, .inl T)), (h3, .inl (cJ, 2000, .inr (.inl C))), (h4, .inl (cJ, 300, .inr (.inl Hh))), (h5, .inl (cI, 300, .inl S))]) hP hD [0, 1, 2, 3, 4, 5, 6, 7, 8, 10, 11, 12, 13, 14, 15] [9] rfl rfl (by decide) (by decide) hk1 hFc hP1 hD1
  have hP := hP.sub (ws' := [(g0, .inr (1, [.ref g1, .ref g2, .ref g3, .ref g4, .ref g5, .ref g6, .ref g7, .ref g8, .int rc])), (g1, .inl (cI, 300, .inl (bFi0 z))), (g2, .inl (cI, 300, .inl (fun _ => -1))), (g3, .inl (cI, 300, .inl (fun j => nI j))), (g4, .inl (cI, 300, .inl (fun j => nI j))), (g5, .inl (cJ, 300, .inr (.inl (fun j => (z j).toInt64)))), (g6, .inl (cJ, 300, .inr (.inl Hh))), (g7, .inl (cI, 300, .inl ((obhN (bFi0 z) S F Hh lo 300).2))), (g8, .inl (cI, 300, .inl rk)), (z0, .inl (cI, 300, .inl z)), (h0, .inr (0, [.ref h1, .ref h2, .ref h3, .ref h4, .ref h5, .int (nI u)])), (h1, .inl (cI, 2000, .inl F)), (h2, .inl (cI, 2000, .inl T)), (h3, .inl (cJ, 2000, .inr (.inl C))), (h4, .inl (cJ, 300, .inr (.inl Hh))), (h5, .inl (cI, 300, .inl S))]) [1, 2, 3, 4, 5, 6, 7, 8, 9, 0, 10, 11, 12, 13, 14, 15] rfl
  have hD := hD.sub (ws' := [(g0, .inr (1, [.ref g1, .ref g2, .ref g3, .ref g4, .ref g5, .ref g6, .ref g7, .ref g8, .int rc])), (g1, .inl (cI, 300, .inl (bFi0 z))), (g2, .inl (cI, 300, .inl (fun _ => -1))), (g3, .inl (cI, 300, .inl (fun j => nI j))), (g4, .inl (cI, 300, .inl (fun j => nI j))), (g5, .inl (cJ, 300, .inr (.inl (fun j => (z j).toInt64)))), (g6, .inl (cJ, 300, .inr (.inl Hh))), (g7, .inl (cI, 300, .inl ((obhN (bFi0 z) S F Hh lo 300).2))), (g8, .inl (cI, 300, .inl rk)), (z0, .inl (cI, 300, .inl z)), (h0, .inr (0, [.ref h1, .ref h2, .ref h3, .ref h4, .ref h5, .int (nI u)])), (h1, .inl (cI, 2000, .inl F)), (h2, .inl (cI, 2000, .inl T)), (h3, .inl (cJ, 2000, .inr (.inl C))), (h4, .inl (cJ, 300, .inr (.inl Hh))), (h5, .inl (cI, 300, .inl S))]) [1, 2, 3, 4, 5, 6, 7, 8, 9, 0, 10, 11, 12, 13, 14, 15] (by decide) rfl
  generalize H1 = H at hP hS ⊢
  subst hw
  refine lv_istore (lv' := [(4, .int (nI (obhN (bFi0 z) S F Hh lo 300).1)), (0, .ref g0), (1, .ref z0), (2, .ref h0), (3, .int P)]) hx hb dX1_build_11 hl (by decide) rfl (fun ls hl => ?_)
  refine lv_iconst (v := 0) hx hb dX1_build_13 (by decide) ?_
  refine tp_i (y := nI 0) (nI_0.symm) ?_
  refine lv_istore (lv' := [(5, .int (nI 0)), (4, .int (nI (obhN (bFi0 z) S F Hh lo 300).1)), (0, .ref g0), (1, .ref z0), (2, .ref h0), (3, .int P)]) hx hb dX1_build_14 hl (by decide) rfl (fun ls hl => ?_)
  have hP : va_P (dC, dI) vwCl [(g0, .inr (1, [.ref g1, .ref g2, .ref g3, .ref g4, .ref g5, .ref g6, .ref g7, .ref g8, .int rc])), (g1, .inl (cI, 300, .inl (cFi (bSt0 z Hh)))), (g2, .inl (cI, 300, .inl (cNx (bSt0 z Hh)))), (g3, .inl (cI, 300, .inl (cLa (bSt0 z Hh)))), (g4, .inl (cI, 300, .inl (cLe (bSt0 z Hh)))), (g5, .inl (cJ, 300, .inr (.inl (cBy (bSt0 z Hh))))), (g6, .inl (cJ, 300, .inr (.inl (cHe (bSt0 z Hh))))), (g7, .inl (cI, 300, .inl ((obhN (bFi0 z) S F Hh lo 300).2))), (g8, .inl (cI, 300, .inl rk)), (z0, .inl (cI, 300, .inl z)), (h0, .inr (0, [.ref h1, .ref h2, .ref h3, .ref h4, .ref h5, .int (nI u)])), (h1, .inl (cI, 2000, .inl F)), (h2, .inl (cI, 2000, .inl T)), (h3, .inl (cJ, 2000, .inr (.inl C))), (h4, .inl (cJ, 300, .inr (.inl Hh))), (h5, .inl (cI, 300, .inl S))] H := hP
  have hD : va_D A [(g0, .inr (1, [.ref g1, .ref g2, .ref g3, .ref g4, .ref g5, .ref g6, .ref g7, .ref g8, .int rc])), (g1, .inl (cI, 300, .inl (cFi (bSt0 z Hh)))), (g2, .inl (cI, 300, .inl (cNx (bSt0 z Hh)))), (g3, .inl (cI, 300, .inl (cLa (bSt0 z Hh)))), (g4, .inl (cI, 300, .inl (cLe (bSt0 z Hh)))), (g5, .inl (cJ, 300, .inr (.inl (cBy (bSt0 z Hh))))), (g6, .inl (cJ, 300, .inr (.inl (cHe (bSt0 z Hh))))), (g7, .inl (cI, 300, .inl ((obhN (bFi0 z) S F Hh lo 300).2))), (g8, .inl (cI, 300, .inl rk)), (z0, .inl (cI, 300, .inl z)), (h0, .inr (0, [.ref h1, .ref h2, .ref h3, .ref h4, .ref h5, .int (nI u)])), (h1, .inl (cI, 2000, .inl F)), (h2, .inl (cI, 2000, .inl T)), (h3, .inl (cJ, 2000, .inr (.inl C))), (h4, .inl (cJ, 300, .inr (.inl Hh))), (h5, .inl (cI, 300, .inl S))] := hD
  refine lpX1_build (z := z) (P := P) (cnt := (obhN (bFi0 z) S F Hh lo 300).1) (G := (bldX P z S F Hh lo)) hx hb hml hts hown hK hA (obhN_in _ _ _ _ _ 300).1 hs (fun  H locs ls hP hD hS hl => ?_) ((bLst z S F Hh lo).length) (bLst z S F Hh lo) 0 (bSt0 z Hh) (rfl) (by rw [bLst_len]; omega) (fun j hj => by rw [Nat.zero_add]; exact bLst_get j hj) (CInv.start z Hh) (bLst_looks hcf) (rfl) H _ ls hP hD hS (lv_sub hl [2, 3, 4, 5, 1, 0] rfl)
  · -- kn
    have hP : va_P (dC, dI) vwCl [(g0, .inr (1, [.ref g1, .ref g2, .ref g3, .ref g4, .ref g5, .ref g6, .ref g7, .ref g8, .int rc])), (g1, .inl (cI, 300, .inl (cFi (bldX P z S F Hh lo)))), (g2, .inl (cI, 300, .inl (cNx (bldX P z S F Hh lo)))), (g3, .inl (cI, 300, .inl (cLa (bldX P z S F Hh lo)))), (g4, .inl (cI, 300, .inl (cLe (bldX P z S F Hh lo)))), (g5, .inl (cJ, 300, .inr (.inl (cBy (bldX P z S F Hh lo))))), (g6, .inl (cJ, 300, .inr (.inl (cHe (bldX P z S F Hh lo))))), (g7, .inl (cI, 300, .inl ((obhN (bFi0 z) S F Hh lo 300).2))), (g8, .inl (cI, 300, .inl rk)), (z0, .inl (cI, 300, .inl z)), (h0, .inr (0, [.ref h1, .ref h2, .ref h3, .ref h4, .ref h5, .int (nI u)])), (h1, .inl (cI, 2000, .inl F)), (h2, .inl (cI, 2000, .inl T)), (h3, .inl (cJ, 2000, .inr (.inl C))), (h4, .inl (cJ, 300, .inr (.inl Hh))), (h5, .inl (cI, 300, .inl S))] H := hP
    have hD : va_D A [(g0, .inr (1, [.ref g1, .ref g2, .ref g3, .ref g4, .ref g5, .ref g6, .ref g7, .ref g8, .int rc])), (g1, .inl (cI, 300, .inl (cFi (bldX P z S F Hh lo)))), (g2, .inl (cI, 300, .inl (cNx (bldX P z S F Hh lo)))), (g3, .inl (cI, 300, .inl (cLa (bldX P z S F Hh lo)))), (g4, .inl (cI, 300, .inl (cLe (bldX P z S F Hh lo)))), (g5, .inl (cJ, 300, .inr (.inl (cBy (bldX P z S F Hh lo))))), (g6, .inl (cJ, 300, .inr (.inl (cHe (bldX P z S F Hh lo))))), (g7, .inl (cI, 300, .inl ((obhN (bFi0 z) S F Hh lo 300).2))), (g8, .inl (cI, 300, .inl rk)), (z0, .inl (cI, 300, .inl z)), (h0, .inr (0, [.ref h1, .ref h2, .ref h3, .ref h4, .ref h5, .int (nI u)])), (h1, .inl (cI, 2000, .inl F)), (h2, .inl (cI, 2000, .inl T)), (h3, .inl (cJ, 2000, .inr (.inl C))), (h4, .inl (cJ, 300, .inr (.inl Hh))), (h5, .inl (cI, 300, .inl S))] := hD
    refine lv_aload_n hx hb dX1_build_97 rfl (lv_at hl 0 rfl) ?_
    have hPc := hP.sub (ws' := [(g0, .inr (1, [.ref g1, .ref g2, .ref g3, .ref g4, .ref g5, .ref g6, .ref g7, .ref g8, .int rc])), (g1, .inl (cI, 300, .inl (cFi (bldX P z S F Hh lo)))), (g2, .inl (cI, 300, .inl (cNx (bldX P z S F Hh lo)))), (g3, .inl (cI, 300, .inl (cLa (bldX P z S F Hh lo)))), (g4, .inl (cI, 300, .inl (cLe (bldX P z S F Hh lo)))), (g5, .inl (cJ, 300, .inr (.inl (cBy (bldX P z S F Hh lo))))), (g6, .inl (cJ, 300, .inr (.inl (cHe (bldX P z S F Hh lo))))), (g7, .inl (cI, 300, .inl ((obhN (bFi0 z) S F Hh lo 300).2))), (g8, .inl (cI, 300, .inl rk))]) [0, 1, 2, 3, 4, 5, 6, 7, 8] rfl
    have hDc := hD.sub (ws' := [(g0, .inr (1, [.ref g1, .ref g2, .ref g3, .ref g4, .ref g5, .ref g6, .ref g7, .ref g8, .int rc])), (g1, .inl (cI, 300, .inl (cFi (bldX P z S F Hh lo)))), (g2, .inl (cI, 300, .inl (cNx (bldX P z S F Hh lo)))), (g3, .inl (cI, 300, .inl (cLa (bldX P z S F Hh lo)))), (g4, .inl (cI, 300, .inl (cLe (bldX P z S F Hh lo)))), (g5, .inl (cJ, 300, .inr (.inl (cBy (bldX P z S F Hh lo))))), (g6, .inl (cJ, 300, .inr (.inl (cHe (bldX P z S F Hh lo))))), (g7, .inl (cI, 300, .inl ((obhN (bFi0 z) S F Hh lo 300).2))), (g8, .inl (cI, 300, .inl rk))]) [0, 1, 2, 3, 4, 5, 6, 7, 8] (by decide) rfl
    have hFc := va_free (wc := [(g0, .inr (1, [.ref g1, .ref g2, .ref g3, .ref g4, .ref g5, .ref g6, .ref g7, .ref g8, .int rc])), (g1, .inl (cI, 300, .inl (cFi (bldX P z S F Hh lo)))), (g2, .inl (cI, 300, .inl (cNx (bldX P z S F Hh lo)))), (g3, .inl (cI, 300, .inl (cLa (bldX P z S F Hh lo)))), (g4, .inl (cI, 300, .inl (cLe (bldX P z S F Hh lo)))), (g5, .inl (cJ, 300, .inr (.inl (cBy (bldX P z S F Hh lo))))), (g6, .inl (cJ, 300, .inr (.inl (cHe (bldX P z S F Hh lo))))), (g7, .inl (cI, 300, .inl ((obhN (bFi0 z) S F Hh lo 300).2))), (g8, .inl (cI, 300, .inl rk))]) hD hS hA [0, 1, 2, 3, 4, 5, 6, 7, 8] rfl
    refine va_callv (va_runV (As := []) (rest := []) ⟨hx, hb, hml, hown, hts⟩ (ct_X1_rank l dC dI cI cJ cZ H.size g0 g1 g2 g3 g4 g5 g6 g7 g8 (cFi (bldX P z S F Hh lo)) (cNx (bldX P z S F Hh lo)) (cLa (bldX P z S F Hh lo)) (cLe (bldX P z S F Hh lo)) (cBy (bldX P z S F Hh lo)) (cHe (bldX P z S F Hh lo)) ((obhN (bFi0 z) S F Hh lo 300).2) rk rc (CInv.vin (CInv.run (CInv.start z Hh) (bLst_looks hcf)))) (cwV 0 hts gX1_build_X1_rank rfl rfl rfl (by decide +kernel) ⟨Nat.le_of_ble_eq_true rfl, Nat.le_of_ble_eq_true rfl⟩) (pre_V hK hPc hDc (ci := 1) rfl rfl) rfl rfl hl.1 rfl (lv_room (Nat.le_of_ble_eq_true rfl)) dX1_build_98 ⟨Nat.zero_le _, Nat.zero_le _⟩) hS (fun q _ h => hFc q h) hFc (fun uu t H1 locs ht hvm hw hB hz1 hk1 hS => ?_)
    obtain ⟨hP1, hK1, hD1⟩ := hB
    rw [ht] at hP1
    try dsimp only at hw
    have hP1 : va_P (dC, dI) vwCl [(g0, .inr (1, [.ref g1, .ref g2, .ref g3, .ref g4, .ref g5, .ref g6, .ref g7, .ref g8, .int (nI (rkN (cFi (bldX P z S F Hh lo)) (cLe (bldX P z S F Hh lo)) (cBy (bldX P z S F Hh lo)) (cHe (bldX P z S F Hh lo)) rk 300).1)])), (g1, .inl (cI, 300, .inl (cFi (bldX P z S F Hh lo)))), (g2, .inl (cI, 300, .inl (cNx (bldX P z S F Hh lo)))), (g3, .inl (cI, 300, .inl (cLa (bldX P z S F Hh lo)))), (g4, .inl (cI, 300, .inl (cLe (bldX P z S F Hh lo)))), (g5, .inl (cJ, 300, .inr (.inl (cBy (bldX P z S F Hh lo))))), (g6, .inl (cJ, 300, .inr (.inl (cHe (bldX P z S F Hh lo))))), (g7, .inl (cI, 300, .inl ((obhN (bFi0 z) S F Hh lo 300).2))), (g8, .inl (cI, 300, .inl ((rkN (cFi (bldX P z S F Hh lo)) (cLe (bldX P z S F Hh lo)) (cBy (bldX P z S F Hh lo)) (cHe (bldX P z S F Hh lo)) rk 300).2)))] H1 := hP1
    obtain ⟨hP, hD⟩ := va_join (wr := [(z0, .inl (cI, 300, .inl z)), (h0, .inr (0, [.ref h1, .ref h2, .ref h3, .ref h4, .ref h5, .int (nI u)])), (h1, .inl (cI, 2000, .inl F)), (h2, .inl (cI, 2000, .inl T)), (h3, .inl (cJ, 2000, .inr (.inl C))), (h4, .inl (cJ, 300, .inr (.inl Hh))), (h5, .inl (cI, 300, .inl S))]) (w1 := [(g0, .inr (1, [.ref g1, .ref g2, .ref g3, .ref g4, .ref g5, .ref g6, .ref g7, .ref g8, .int (nI (rkN (cFi (bldX P z S F Hh lo)) (cLe (bldX P z S F Hh lo)) (cBy (bldX P z S F Hh lo)) (cHe (bldX P z S F Hh lo)) rk 300).1)])), (g1, .inl (cI, 300, .inl (cFi (bldX P z S F Hh lo)))), (g2, .inl (cI, 300, .inl (cNx (bldX P z S F Hh lo)))), (g3, .inl (cI, 300, .inl (cLa (bldX P z S F Hh lo)))), (g4, .inl (cI, 300, .inl (cLe (bldX P z S F Hh lo)))), (g5, .inl (cJ, 300, .inr (.inl (cBy (bldX P z S F Hh lo))))), (g6, .inl (cJ, 300, .inr (.inl (cHe (bldX P z S F Hh lo))))), (g7, .inl (cI, 300, .inl ((obhN (bFi0 z) S F Hh lo 300).2))), (g8, .inl (cI, 300, .inl ((rkN (cFi (bldX P z S F Hh lo)) (cLe (bldX P z S F Hh lo)) (cBy (bldX P z S F Hh lo)) (cHe (bldX P z S F Hh lo)) rk 300).2)))]) hP hD [0, 1, 2, 3, 4, 5, 6, 7, 8] [9, 10, 11, 12, 13, 14, 15] rfl rfl (by decide) (by decide) hk1 hFc hP1 hD1
    have hP := hP.sub (ws' := [(g0, .inr (1, [.ref g1, .ref g2, .ref g3, .ref g4, .ref g5, .ref g6, .ref g7, .ref g8, .int (nI (rkN (cFi (bldX P z S F Hh lo)) (cLe (bldX P z S F Hh lo)) (cBy (bldX P z S F Hh lo)) (cHe (bldX P z S F Hh lo)) rk 300).1)])), (g1, .inl (cI, 300, .inl (cFi (bldX P z S F Hh lo)))), (g2, .inl (cI, 300, .inl (cNx (bldX P z S F Hh lo)))), (g3, .inl (cI, 300, .inl (cLa (bldX P z S F Hh lo)))), (g4, .inl (cI, 300, .inl (cLe (bldX P z S F Hh lo)))), (g5, .inl (cJ, 300, .inr (.inl (cBy (bldX P z S F Hh lo))))), (g6, .inl (cJ, 300, .inr (.inl (cHe (bldX P z S F Hh lo))))), (g7, .inl (cI, 300, .inl ((obhN (bFi0 z) S F Hh lo 300).2))), (g8, .inl (cI, 300, .inl ((rkN (cFi (bldX P z S F Hh lo)) (cLe (bldX P z S F Hh lo)) (cBy (bldX P z S F Hh lo)) (cHe (bldX P z S F Hh lo)) rk 300).2))), (z0, .inl (cI, 300, .inl z)), (h0, .inr (0, [.ref h1, .ref h2, .ref h3, .ref h4, .ref h5, .int (nI u)])), (h1, .inl (cI, 2000, .inl F)), (h2, .inl (cI, 2000, .inl T)), (h3, .inl (cJ, 2000, .inr (.inl C))), (h4, .inl (cJ, 300, .inr (.inl Hh))), (h5, .inl (cI, 300, .inl S))]) [7, 8, 9, 10, 11, 12, 13, 14, 15, 0, 1, 2, 3, 4, 5, 6] rfl
    have hD := hD.sub (ws' := [(g0, .inr (1, [.ref g1, .ref g2, .ref g3, .ref g4, .ref g5, .ref g6, .ref g7, .ref g8, .int (nI (rkN (cFi (bldX P z S F Hh lo)) (cLe (bldX P z S F Hh lo)) (cBy (bldX P z S F Hh lo)) (cHe (bldX P z S F Hh lo)) rk 300).1)])), (g1, .inl (cI, 300, .inl (cFi (bldX P z S F Hh lo)))), (g2, .inl (cI, 300, .inl (cNx (bldX P z S F Hh lo)))), (g3, .inl (cI, 300, .inl (cLa (bldX P z S F Hh lo)))), (g4, .inl (cI, 300, .inl (cLe (bldX P z S F Hh lo)))), (g5, .inl (cJ, 300, .inr (.inl (cBy (bldX P z S F Hh lo))))), (g6, .inl (cJ, 300, .inr (.inl (cHe (bldX P z S F Hh lo))))), (g7, .inl (cI, 300, .inl ((obhN (bFi0 z) S F Hh lo 300).2))), (g8, .inl (cI, 300, .inl ((rkN (cFi (bldX P z S F Hh lo)) (cLe (bldX P z S F Hh lo)) (cBy (bldX P z S F Hh lo)) (cHe (bldX P z S F Hh lo)) rk 300).2))), (z0, .inl (cI, 300, .inl z)), (h0, .inr (0, [.ref h1, .ref h2, .ref h3, .ref h4, .ref h5, .int (nI u)])), (h1, .inl (cI, 2000, .inl F)), (h2, .inl (cI, 2000, .inl T)), (h3, .inl (cJ, 2000, .inr (.inl C))), (h4, .inl (cJ, 300, .inr (.inl Hh))), (h5, .inl (cI, 300, .inl S))]) [7, 8, 9, 10, 11, 12, 13, 14, 15, 0, 1, 2, 3, 4, 5, 6] (by decide) rfl
    generalize H1 = H at hP hS ⊢
    have hP9 : va_P (dC, dI) vwCl [(g0, .inr (1, [.ref g1, .ref g2, .ref g3, .ref g4, .ref g5, .ref g6, .ref g7, .ref g8, .int (nI (rkN (cFi (bldX P z S F Hh lo)) (cLe (bldX P z S F Hh lo)) (cBy (bldX P z S F Hh lo)) (cHe (bldX P z S F Hh lo)) rk 300).1)])), (g1, .inl (cI, 300, .inl (cFi (bldX P z S F Hh lo)))), (g2, .inl (cI, 300, .inl (cNx (bldX P z S F Hh lo)))), (g3, .inl (cI, 300, .inl (cLa (bldX P z S F Hh lo)))), (g4, .inl (cI, 300, .inl (cLe (bldX P z S F Hh lo)))), (g5, .inl (cJ, 300, .inr (.inl (cBy (bldX P z S F Hh lo))))), (g6, .inl (cJ, 300, .inr (.inl (cHe (bldX P z S F Hh lo))))), (g7, .inl (cI, 300, .inl ((obhN (bFi0 z) S F Hh lo 300).2))), (g8, .inl (cI, 300, .inl ((rkN (cFi (bldX P z S F Hh lo)) (cLe (bldX P z S F Hh lo)) (cBy (bldX P z S F Hh lo)) (cHe (bldX P z S F Hh lo)) rk 300).2))), (z0, .inl (cI, 300, .inl z)), (h0, .inr (0, [.ref h1, .ref h2, .ref h3, .ref h4, .ref h5, .int (nI u)])), (h1, .inl (cI, 2000, .inl F)), (h2, .inl (cI, 2000, .inl T)), (h3, .inl (cJ, 2000, .inr (.inl C))), (h4, .inl (cJ, 300, .inr (.inl Hh))), (h5, .inl (cI, 300, .inl S))] H := hP
    have hD9 : va_D A [(g0, .inr (1, [.ref g1, .ref g2, .ref g3, .ref g4, .ref g5, .ref g6, .ref g7, .ref g8, .int (nI (rkN (cFi (bldX P z S F Hh lo)) (cLe (bldX P z S F Hh lo)) (cBy (bldX P z S F Hh lo)) (cHe (bldX P z S F Hh lo)) rk 300).1)])), (g1, .inl (cI, 300, .inl (cFi (bldX P z S F Hh lo)))), (g2, .inl (cI, 300, .inl (cNx (bldX P z S F Hh lo)))), (g3, .inl (cI, 300, .inl (cLa (bldX P z S F Hh lo)))), (g4, .inl (cI, 300, .inl (cLe (bldX P z S F Hh lo)))), (g5, .inl (cJ, 300, .inr (.inl (cBy (bldX P z S F Hh lo))))), (g6, .inl (cJ, 300, .inr (.inl (cHe (bldX P z S F Hh lo))))), (g7, .inl (cI, 300, .inl ((obhN (bFi0 z) S F Hh lo 300).2))), (g8, .inl (cI, 300, .inl ((rkN (cFi (bldX P z S F Hh lo)) (cLe (bldX P z S F Hh lo)) (cBy (bldX P z S F Hh lo)) (cHe (bldX P z S F Hh lo)) rk 300).2))), (z0, .inl (cI, 300, .inl z)), (h0, .inr (0, [.ref h1, .ref h2, .ref h3, .ref h4, .ref h5, .int (nI u)])), (h1, .inl (cI, 2000, .inl F)), (h2, .inl (cI, 2000, .inl T)), (h3, .inl (cJ, 2000, .inr (.inl C))), (h4, .inl (cJ, 300, .inr (.inl Hh))), (h5, .inl (cI, 300, .inl S))] := hD
    exact W.vret hx hb hr (fun t ht hW => ⟨⟨(), rfl, trivial, by rw [ht]; exact hP9, va_K.moved hW.alike hK, hD9⟩, hS.F ht⟩) hS.2.2 dX1_build_101
end
section
theorem fcN_src (F T : Nat → Int32) (C : Nat → Int64) (z : Nat → Int32) : ∀ (k g : Nat), fcN F T C z k g = -1 ∨ ∃ i, i < k ∧ fcN F T C z k g = nI i ∧ ¬ z (F i).toNatClampNeg ≤ 0 ∧ F i ≠ T i ∧ (T i).toNatClampNeg = g := by
  intro k
  induction k with
  | zero => intro g; exact Or.inl rfl
  | succ k ih =>
    intro g
    have h0 : fcN F T C z k g = -1 ∨ ∃ i, i < k + 1 ∧ fcN F T C z k g = nI i ∧ ¬ z (F i).toNatClampNeg ≤ 0 ∧ F i ≠ T i ∧ (T i).toNatClampNeg = g := by
      rcases ih g with h | ⟨i, h1, h2⟩
      · exact Or.inl h
      · exact Or.inr ⟨i, by omega, h2⟩
    show fcStep F T C z k (fcN F T C z k) g = -1 ∨ ∃ i, i < k + 1 ∧ fcStep F T C z k (fcN F T C z k) g = nI i ∧ ¬ z (F i).toNatClampNeg ≤ 0 ∧ F i ≠ T i ∧ (T i).toNatClampNeg = g
    unfold fcStep
    split
    · exact h0
    · rename_i hft
      split
      · exact h0
      · rename_i hz
        split
        · exact h0
        · unfold upd
          split
          · rename_i hg
            exact Or.inr ⟨k, by omega, rfl, hz, hft, hg.symm⟩
          · exact h0
theorem fcN_cof {F T : Nat → Int32} {C : Nat → Int64} {z : Nat → Int32} {u : Nat} (hu : u ≤ 2000) (hF : ∀ i, i < u → vp_in (F i) 300) (f : Nat) : cof (fcN F T C z u) F f = -1 ∨ ∃ c, c < 300 ∧ cof (fcN F T C z u) F f = nI c ∧ ¬ z c ≤ 0 := by
  unfold cof
  rcases fcN_src F T C z u f with h | ⟨i, h1, h2, h3, -⟩
  · exact Or.inl (if_pos h)
  · have h4 : ¬ fcN F T C z u f = -1 := by rw [h2]; exact nI_m1 (by omega)
    rw [if_neg h4, h2, ix_n (by omega)]
    obtain ⟨c, hc, he⟩ := nI_in9 (by omega) (hF i h1)
    rw [he, ix_n (by omega)] at h3
    exact Or.inr ⟨c, hc, he, h3⟩
theorem insF_inj {g : Nat → Int32} {a cnt : Nat} {x : Int32} (ha : a ≤ cnt) (hg : ∀ i j, i < cnt → j < cnt → g i = g j → i = j) (hx : ∀ i, i < cnt → g i ≠ x) : ∀ i j, i < cnt + 1 → j < cnt + 1 → insF g a cnt x i = insF g a cnt x j → i = j := by
  intro i j hi hj h
  unfold insF upd shf at h
  by_cases h1 : i = a
  · by_cases h2 : j = a
    · omega
    · rw [if_pos h1, if_neg h2] at h
      split at h
      · exact absurd h.symm (hx _ (by omega))
      · exact absurd h.symm (hx _ (by omega))
  · by_cases h2 : j = a
    · rw [if_neg h1, if_pos h2] at h
      split at h
      · exact absurd h (hx _ (by omega))
      · exact absurd h (hx _ (by omega))
    · rw [if_neg h1, if_neg h2] at h
      split at h
      · split at h
        · have := hg _ _ (by omega) (by omega) h; omega
        · have := hg _ _ (by omega) (by omega) h; omega
      · split at h
        · have := hg _ _ (by omega) (by omega) h; omega
        · exact hg _ _ (by omega) (by omega) h
theorem rkN_more (fi le : Nat → Int32) (by_ he : Nat → Int64) (g : Nat → Int32) : ∀ k, k ≤ 300 → (∀ j, j < (rkN fi le by_ he g k).1 → ∃ x, x < k ∧ (rkN fi le by_ he g k).2 j = fi x ∧ fi x ≠ -1 ∧ le (fi x).toNatClampNeg = nI x) ∧ ∀ i j, i < (rkN fi le by_ he g k).1 → j < (rkN fi le by_ he g k).1 → (rkN fi le by_ he g k).2 i = (rkN fi le by_ he g k).2 j → i = j := by
  intro k
  induction k with
  | zero => intro _; exact ⟨fun j h => absurd h (Nat.not_lt_zero j), fun i j h => absurd h (Nat.not_lt_zero i)⟩
  | succ k ih =>
    intro hk
    obtain ⟨ih1, ih2⟩ := ih (by omega)
    have h0 : ∀ j, j < (rkN fi le by_ he g k).1 → ∃ x, x < k + 1 ∧ (rkN fi le by_ he g k).2 j = fi x ∧ fi x ≠ -1 ∧ le (fi x).toNatClampNeg = nI x := by
      intro j h
      obtain ⟨x, h1, h2⟩ := ih1 j h
      exact ⟨x, by omega, h2⟩
    show (∀ j, j < (rkStep fi le by_ he k (rkN fi le by_ he g k)).1 → ∃ x, x < k + 1 ∧ (rkStep fi le by_ he k (rkN fi le by_ he g k)).2 j = fi x ∧ fi x ≠ -1 ∧ le (fi x).toNatClampNeg = nI x) ∧ ∀ i j, i < (rkStep fi le by_ he k (rkN fi le by_ he g k)).1 → j < (rkStep fi le by_ he k (rkN fi le by_ he g k)).1 → (rkStep fi le by_ he k (rkN fi le by_ he g k)).2 i = (rkStep fi le by_ he k (rkN fi le by_ he g k)).2 j → i = j
    unfold rkStep
    split
    · exact ⟨h0, ih2⟩
    · split
      · rename_i h1 h2
        refine ⟨insF_all (P := fun y => ∃ x, x < k + 1 ∧ y = fi x ∧ fi x ≠ -1 ∧ le (fi x).toNatClampNeg = nI x) (bpos_le _ _) h0 ⟨k, by omega, rfl, h1, h2⟩, insF_inj (bpos_le _ _) ih2 (fun i hi e => ?_)⟩
        obtain ⟨x, x1, x2, x3, x4⟩ := ih1 i hi
        rw [x2] at e
        rw [e, h2] at x4
        have := nI_inj (by omega) (by omega) x4
        omega
      · exact ⟨h0, ih2⟩
def rLst (X : CS) (rk : Nat → Int32) : List Nat := (List.range (rkN (cFi X) (cLe X) (cBy X) (cHe X) rk 300).1).map (fun j => ((rkN (cFi X) (cLe X) (cBy X) (cHe X) rk 300).2 j).toNatClampNeg)
theorem rLst_len (X : CS) (rk : Nat → Int32) : (rLst X rk).length = (rkN (cFi X) (cLe X) (cBy X) (cHe X) rk 300).1 := by simp [rLst]
theorem rLst_src {z : Nat → Int32} {X : CS} (I : CInv z X) {rk : Nat → Int32} {j : Nat} (hj : j < (rkN (cFi X) (cLe X) (cBy X) (cHe X) rk 300).1) : ∃ h, h < 300 ∧ (rkN (cFi X) (cLe X) (cBy X) (cHe X) rk 300).2 j = nI h ∧ cFi X h = nI h := by
  obtain ⟨x, h1, h2, h3, -⟩ := (rkN_more (cFi X) (cLe X) (cBy X) (cHe X) rk 300 (Nat.le_refl _)).1 j hj
  obtain ⟨h, a1, a2, a3, -⟩ := I.2.1 x h1 (fun e => h3 ((I.1 x h1).mpr e))
  exact ⟨h, a1, by rw [h2, a2], a3⟩
theorem rLst_get {z : Nat → Int32} {X : CS} (I : CInv z X) {rk : Nat → Int32} (j : Nat) (h : j < (rLst X rk).length) : (rkN (cFi X) (cLe X) (cBy X) (cHe X) rk 300).2 j = nI (rLst X rk)[j] := by
  have hj : j < (rkN (cFi X) (cLe X) (cBy X) (cHe X) rk 300).1 := by rw [rLst_len] at h; exact h
  obtain ⟨x, h1, h2, -⟩ := rLst_src I hj
  have h3 : (rLst X rk)[j] = ((rkN (cFi X) (cLe X) (cBy X) (cHe X) rk 300).2 j).toNatClampNeg := by simp [rLst]
  rw [h3, h2, ix_n (by omega)]
theorem rLst_head {z : Nat → Int32} {X : CS} (I : CInv z X) {rk : Nat → Int32} : ∀ h, h ∈ rLst X rk → h < 300 ∧ cFi X h = nI h := by
  intro h hh
  unfold rLst at hh
  obtain ⟨j, hj, he⟩ := List.mem_map.mp hh
  rw [List.mem_range] at hj
  obtain ⟨x, h1, h2, h3⟩ := rLst_src I hj
  rw [h2, ix_n (by omega)] at he
  subst he
  exact ⟨h1, h3⟩
theorem rLst_nodup {z : Nat → Int32} {X : CS} (I : CInv z X) {rk : Nat → Int32} : (rLst X rk).Nodup := by
  unfold rLst
  have h0 := (rkN_more (cFi X) (cLe X) (cBy X) (cHe X) rk 300 (Nat.le_refl _)).2
  have h1 : ∀ i, i < (rkN (cFi X) (cLe X) (cBy X) (cHe X) rk 300).1 → ∃ h, h < 300 ∧ (rkN (cFi X) (cLe X) (cBy X) (cHe X) rk 300).2 i = nI h ∧ cFi X h = nI h := fun i hi => rLst_src I hi
  generalize (rkN (cFi X) (cLe X) (cBy X) (cHe X) rk 300).2 = g at h0 h1 ⊢
  generalize (rkN (cFi X) (cLe X) (cBy X) (cHe X) rk 300).1 = n at h0 h1 ⊢
  rw [List.nodup_iff_pairwise_ne, List.pairwise_map]
  refine List.Pairwise.imp_of_mem ?_ (List.nodup_iff_pairwise_ne.mp (List.nodup_range (n := n)))
  intro i j hi hj hij e
  rw [List.mem_range] at hi hj
  obtain ⟨x, x1, x2, -⟩ := h1 i hi
  obtain ⟨y, y1, y2, -⟩ := h1 j hj
  apply hij
  apply h0 i j hi hj
  rw [x2, y2, ix_n (by omega), ix_n (by omega)] at e
  rw [x2, y2, e]
theorem flat_nodup (ch : Nat → List Nat) : ∀ (hs : List Nat), hs.Nodup → (∀ h, h ∈ hs → (ch h).Nodup) → (∀ g h m, g ∈ hs → h ∈ hs → m ∈ ch g → m ∈ ch h → g = h) → (hs.flatMap ch).Nodup
  | [], _, _, _ => List.nodup_nil
  | a :: hs, hn, hc, hd => by
    rw [List.flatMap_cons, List.nodup_append]
    refine ⟨hc a List.mem_cons_self, flat_nodup ch hs (List.nodup_cons.mp hn).2 (fun h hh => hc h (List.mem_cons_of_mem _ hh)) (fun g h m hg hh => hd g h m (List.mem_cons_of_mem _ hg) (List.mem_cons_of_mem _ hh)), fun p hp q hq e => ?_⟩
    subst e
    obtain ⟨h, h1, h2⟩ := List.mem_flatMap.mp hq
    have := hd a h p List.mem_cons_self (List.mem_cons_of_mem _ h1) hp h2
    subst this
    exact (List.nodup_cons.mp hn).1 h1
def wLst (X : CS) (rk : Nat → Int32) : List Nat := (rLst X rk).flatMap (cCh X)
theorem wLst_in {z : Nat → Int32} {X : CS} (I : CInv z X) {rk : Nat → Int32} : (wLst X rk).Nodup ∧ ∀ m, m ∈ wLst X rk → m < 300 := by
  constructor
  · refine flat_nodup (cCh X) _ (rLst_nodup I) (fun h hh => ?_) (fun g h m hg hh mg mh => ?_)
    · obtain ⟨h1, h2⟩ := rLst_head I h hh
      exact (I.2.2 h h1 h2).2.1
    · obtain ⟨g1, g2⟩ := rLst_head I g hg
      obtain ⟨h1, h2⟩ := rLst_head I h hh
      have e1 := ((I.2.2 g g1 g2).2.2.1 m mg).2
      have e2 := ((I.2.2 h h1 h2).2.2.1 m mh).2
      rw [e1] at e2
      exact nI_inj (by omega) (by omega) e2
  · intro m hm
    obtain ⟨h, hh, h2⟩ := List.mem_flatMap.mp hm
    obtain ⟨h3, h4⟩ := rLst_head I h hh
    exact ((I.2.2 h h3 h4).2.2.1 m h2).1
theorem wLst_len {z : Nat → Int32} {X : CS} (I : CInv z X) {rk : Nat → Int32} : (wLst X rk).length ≤ 300 := nodup_le 300 _ (wLst_in I).1 (wLst_in I).2
theorem bldX_inv {P : Int32} {z S F : Nat → Int32} {Hh : Nat → Int64} {lo : Nat → Int32} (hcf : ∀ f, f < 300 → cof S F f = -1 ∨ ∃ c, c < 300 ∧ cof S F f = nI c ∧ ¬ z c ≤ 0) : CInv z (bldX P z S F Hh lo) := CInv.run (CInv.start z Hh) (bLst_looks hcf)
/-- the functions with sizes by number -/
def nLst (z : Nat → Int32) (n : Nat) : List Nat := (List.range n).filter (fun f => decide (0 < z f))
theorem nLst_s (z : Nat → Int32) (n : Nat) : nLst z (n + 1) = if 0 < z n then nLst z n ++ [n] else nLst z n := by
  unfold nLst
  rw [List.range_succ, List.filter_append]
  by_cases h : 0 < z n
  · simp [h]
  · simp [h]
theorem nLst_len (z : Nat → Int32) (n : Nat) : (nLst z n).length ≤ n := by
  unfold nLst
  exact Nat.le_trans (List.length_filter_le _ _) (by simp)
end
section
/-- the heats: the sum of all calls of a function -/
def hN (F T : Nat → Int32) (C : Nat → Int64) : Nat → (Nat → Int64)
  | 0 => fun _ => 0
  | k + 1 => vp_updL (hN F T C k) (T k).toNatClampNeg (hN F T C k (T k).toNatClampNeg + C k)
theorem hN_congr {F T F' T' : Nat → Int32} {C C' : Nat → Int64} : ∀ (k : Nat), (∀ i, i < k → T i = T' i ∧ C i = C' i) → hN F T C k = hN F' T' C' k
  | 0, _ => rfl
  | k + 1, h => by
    show vp_updL (hN F T C k) (T k).toNatClampNeg (hN F T C k (T k).toNatClampNeg + C k) = vp_updL (hN F' T' C' k) (T' k).toNatClampNeg (hN F' T' C' k (T' k).toNatClampNeg + C' k)
    rw [hN_congr k (fun i hi => h i (by omega)), (h k (by omega)).1, (h k (by omega)).2]
theorem l_shift (a b c d : Int64) : a + (b - c) + d = a + d + (b - c) := by
  apply Int64.toBitVec_inj.mp
  simp only [Int64.toBitVec_add, Int64.toBitVec_sub]
  rw [BitVec.add_assoc, BitVec.add_comm (_ - _), ← BitVec.add_assoc]
theorem l_swap (a b c : Int64) : a + c + (b - c) = a + b := by
  apply Int64.toBitVec_inj.mp
  simp only [Int64.toBitVec_add, Int64.toBitVec_sub]
  rw [BitVec.add_assoc, BitVec.add_comm _ (_ - _), BitVec.sub_add_cancel]
theorem hN_raise (F T : Nat → Int32) (C : Nat → Int64) (i : Nat) (y : Int64) : ∀ (k : Nat), i < k → vp_updL (hN F T C k) (T i).toNatClampNeg (hN F T C k (T i).toNatClampNeg + (y - C i)) = hN F T (vp_updL C i y) k
  | 0, h => absurd h (Nat.not_lt_zero _)
  | k + 1, h => by
    by_cases e : i = k
    · subst e
      have h1 : hN F T (vp_updL C i y) i = hN F T C i := hN_congr i (fun j hj => ⟨rfl, by unfold vp_updL; rw [if_neg (by omega)]⟩)
      show vp_updL (vp_updL (hN F T C i) (T i).toNatClampNeg (hN F T C i (T i).toNatClampNeg + C i)) (T i).toNatClampNeg (vp_updL (hN F T C i) (T i).toNatClampNeg (hN F T C i (T i).toNatClampNeg + C i) (T i).toNatClampNeg + (y - C i)) = vp_updL (hN F T (vp_updL C i y) i) (T i).toNatClampNeg (hN F T (vp_updL C i y) i (T i).toNatClampNeg + vp_updL C i y i)
      rw [h1]
      funext j
      unfold vp_updL
      by_cases hj : j = (T i).toNatClampNeg
      · simp only [hj, if_true]
        exact l_swap _ _ _
      · simp only [if_neg hj]
    · have ih := hN_raise F T C i y k (by omega)
      show vp_updL (vp_updL (hN F T C k) (T k).toNatClampNeg (hN F T C k (T k).toNatClampNeg + C k)) (T i).toNatClampNeg (vp_updL (hN F T C k) (T k).toNatClampNeg (hN F T C k (T k).toNatClampNeg + C k) (T i).toNatClampNeg + (y - C i)) = vp_updL (hN F T (vp_updL C i y) k) (T k).toNatClampNeg (hN F T (vp_updL C i y) k (T k).toNatClampNeg + vp_updL C i y k)
      rw [← ih]
      funext j
      unfold vp_updL
      rw [if_neg (show ¬ k = i by omega)]
      by_cases h1 : j = (T i).toNatClampNeg
      · subst h1
        by_cases h2 : (T i).toNatClampNeg = (T k).toNatClampNeg
        · simp only [h2, if_true]
          exact (l_shift _ _ _ _).symm
        · simp only [if_true, if_neg h2]
      · by_cases h2 : j = (T k).toNatClampNeg
        · subst h2
          simp only [if_neg h1, if_true]
        · simp only [if_neg h1, if_neg h2]
theorem hN_new {F T : Nat → Int32} {C : Nat → Int64} {u : Nat} {f g : Int32} : hN (upd F u f) (upd T u g) (vp_updL C u 0) (u + 1) = hN F T C u := by
  have h1 : hN (upd F u f) (upd T u g) (vp_updL C u 0) u = hN F T C u := hN_congr u (fun i hi => ⟨by unfold upd; rw [if_neg (by omega)], by unfold vp_updL; rw [if_neg (by omega)]⟩)
  show vp_updL (hN (upd F u f) (upd T u g) (vp_updL C u 0) u) (upd T u g u).toNatClampNeg (hN (upd F u f) (upd T u g) (vp_updL C u 0) u (upd T u g u).toNatClampNeg + vp_updL C u 0 u) = hN F T C u
  rw [h1]
  funext j
  unfold vp_updL
  split
  · rename_i h
    subst h
    simp
  · rfl
def isFI (n : Nat) (f : Int32) : Int32 := if f < 0 then 0 else if nI n ≤ f then 0 else 1
theorem isFI_in {n : Nat} {f : Int32} (hn : n ≤ 300) (h : ¬ isFI n f = 0) : ∃ k, k < n ∧ f = nI k := by
  unfold isFI at h
  by_cases h1 : f < 0
  · rw [if_pos h1] at h; exact absurd rfl h
  · rw [if_neg h1] at h
    by_cases h2 : nI n ≤ f
    · rw [if_pos h2] at h; exact absurd rfl h
    · obtain ⟨j, hj, he⟩ := nI_of h1
      subst he
      refine ⟨j, ?_, rfl⟩
      rw [nI_leI (by omega) hj] at h2
      omega
theorem isFI_k {n k : Nat} (hn : n ≤ 300) (h : k < n) : isFI n (nI k) = 1 := by
  unfold isFI
  rw [if_neg (nI_pos (by omega)), if_neg (nI_ge h (by omega))]
theorem isFI_v {n : Nat} {f : Int32} (hn : n ≤ 300) (h : ¬ isFI n f = 0) : vp_in f 300 := by
  obtain ⟨k, h1, h2⟩ := isFI_in hn h
  rw [h2]
  exact inn (by omega) (by omega)
theorem isFI_01 (n : Nat) (f : Int32) : isFI n f = 0 ∨ isFI n f = 1 := by
  unfold isFI
  split
  · exact Or.inl rfl
  · split
    · exact Or.inl rfl
    · exact Or.inr rfl
def hasI (n : Nat) (z : Nat → Int32) (f : Int32) : Int32 := if isFI n f = 0 then 0 else if z f.toNatClampNeg ≤ 0 then 0 else 1
-- what lay in the arrays before does not matter
theorem bpos_congr {p q : Nat → Bool} : ∀ (k : Nat), (∀ j, j < k → p j = q j) → bpos p k = bpos q k
  | 0, _ => rfl
  | k + 1, h => by
    unfold bpos
    rw [h k (by omega), bpos_congr k (fun j hj => h j (by omega))]
theorem insF_congr {g g' : Nat → Int32} {a cnt : Nat} {x : Int32} (ha : a ≤ cnt) (h : ∀ j, j < cnt → g j = g' j) : ∀ j, j < cnt + 1 → insF g a cnt x j = insF g' a cnt x j := by
  intro j hj
  unfold insF upd shf
  split
  · rfl
  · split
    · exact h _ (by omega)
    · exact h _ (by omega)
theorem obhN_lo (fi S F : Nat → Int32) (he : Nat → Int64) (g g' : Nat → Int32) : ∀ k, (obhN fi S F he g k).1 = (obhN fi S F he g' k).1 ∧ ∀ j, j < (obhN fi S F he g k).1 → (obhN fi S F he g k).2 j = (obhN fi S F he g' k).2 j := by
  intro k
  induction k with
  | zero => exact ⟨rfl, fun j h => absurd h (Nat.not_lt_zero j)⟩
  | succ k ih =>
    obtain ⟨h1, h2⟩ := ih
    show (obhStep fi S F he k (obhN fi S F he g k)).1 = (obhStep fi S F he k (obhN fi S F he g' k)).1 ∧ ∀ j, j < (obhStep fi S F he k (obhN fi S F he g k)).1 → (obhStep fi S F he k (obhN fi S F he g k)).2 j = (obhStep fi S F he k (obhN fi S F he g' k)).2 j
    unfold obhStep
    split
    · exact ⟨h1, h2⟩
    · split
      · exact ⟨h1, h2⟩
      · refine ⟨by rw [h1], ?_⟩
        have hb : bpos (fun j => decide (he ((obhN fi S F he g k).2 j).toNatClampNeg < he k)) (obhN fi S F he g k).1 = bpos (fun j => decide (he ((obhN fi S F he g' k).2 j).toNatClampNeg < he k)) (obhN fi S F he g' k).1 := by
          rw [← h1]
          exact bpos_congr _ (fun j hj => by rw [h2 j hj])
        intro j hj
        have := insF_congr (x := nI k) (bpos_le (fun j => decide (he ((obhN fi S F he g k).2 j).toNatClampNeg < he k)) (obhN fi S F he g k).1) h2 j hj
        exact this.trans (by rw [hb, h1])
theorem bLst_lo (z S F : Nat → Int32) (Hh : Nat → Int64) (lo : Nat → Int32) : bLst z S F Hh lo = bLst z S F Hh (fun _ => 0) := by
  unfold bLst
  obtain ⟨h1, h2⟩ := obhN_lo (bFi0 z) S F Hh lo (fun _ => 0) 300
  rw [← h1]
  apply List.map_congr_left
  intro j hj
  rw [List.mem_range] at hj
  rw [h2 j hj]
theorem rkN_lo (fi le : Nat → Int32) (by_ he : Nat → Int64) (g g' : Nat → Int32) : ∀ k, (rkN fi le by_ he g k).1 = (rkN fi le by_ he g' k).1 ∧ ∀ j, j < (rkN fi le by_ he g k).1 → (rkN fi le by_ he g k).2 j = (rkN fi le by_ he g' k).2 j := by
  intro k
  induction k with
  | zero => exact ⟨rfl, fun j h => absurd h (Nat.not_lt_zero j)⟩
  | succ k ih =>
    obtain ⟨h1, h2⟩ := ih
    show (rkStep fi le by_ he k (rkN fi le by_ he g k)).1 = (rkStep fi le by_ he k (rkN fi le by_ he g' k)).1 ∧ ∀ j, j < (rkStep fi le by_ he k (rkN fi le by_ he g k)).1 → (rkStep fi le by_ he k (rkN fi le by_ he g k)).2 j = (rkStep fi le by_ he k (rkN fi le by_ he g' k)).2 j
    unfold rkStep
    split
    · exact ⟨h1, h2⟩
    · split
      · refine ⟨by rw [h1], ?_⟩
        have hb : bpos (fun j => !decide (densI (by_ (fi k).toNatClampNeg) (by_ ((rkN fi le by_ he g k).2 j).toNatClampNeg) (he (fi k).toNatClampNeg) (he ((rkN fi le by_ he g k).2 j).toNatClampNeg) = 0)) (rkN fi le by_ he g k).1 = bpos (fun j => !decide (densI (by_ (fi k).toNatClampNeg) (by_ ((rkN fi le by_ he g' k).2 j).toNatClampNeg) (he (fi k).toNatClampNeg) (he ((rkN fi le by_ he g' k).2 j).toNatClampNeg) = 0)) (rkN fi le by_ he g' k).1 := by
          rw [← h1]
          exact bpos_congr _ (fun j hj => by rw [h2 j hj])
        intro j hj
        have := insF_congr (x := fi k) (bpos_le (fun j => !decide (densI (by_ (fi k).toNatClampNeg) (by_ ((rkN fi le by_ he g k).2 j).toNatClampNeg) (he (fi k).toNatClampNeg) (he ((rkN fi le by_ he g k).2 j).toNatClampNeg) = 0)) (rkN fi le by_ he g k).1) h2 j hj
        exact this.trans (by rw [hb, h1])
      · exact ⟨h1, h2⟩
theorem rLst_lo (X : CS) (rk : Nat → Int32) : rLst X rk = rLst X (fun _ => 0) := by
  unfold rLst
  obtain ⟨h1, h2⟩ := rkN_lo (cFi X) (cLe X) (cBy X) (cHe X) rk (fun _ => 0) 300
  rw [← h1]
  apply List.map_congr_left
  intro j hj
  rw [List.mem_range] at hj
  rw [h2 j hj]
theorem rAdd_B (z : Nat → Int32) : ∀ (l : List Nat) (x y : (Nat → Int32) × (Nat → Int64) × Nat × Int64), x.2 = y.2 → (l.foldl (rAdd z) x).2 = (l.foldl (rAdd z) y).2
  | [], _, _, h => h
  | f :: l, x, y, h => by
    rw [List.foldl_cons, List.foldl_cons]
    refine rAdd_B z l _ _ ?_
    unfold rAdd
    rw [h]
theorem rAdd_M (z : Nat → Int32) : ∀ (l : List Nat) (x : (Nat → Int32) × (Nat → Int64) × Nat × Int64), (∀ j, j < x.2.2.1 → (l.foldl (rAdd z) x).1 j = x.1 j) ∧ ∀ j (h : j < l.length), (l.foldl (rAdd z) x).1 (x.2.2.1 + j) = nI l[j]
  | [], x => ⟨fun _ _ => rfl, fun j h => absurd h (Nat.not_lt_zero j)⟩
  | f :: l, x => by
    obtain ⟨h1, h2⟩ := rAdd_M z l (rAdd z x f)
    rw [List.foldl_cons]
    have hn : (rAdd z x f).2.2.1 = x.2.2.1 + 1 := rfl
    rw [hn] at h1 h2
    constructor
    · intro j hj
      rw [h1 j (by omega)]
      show upd x.1 x.2.2.1 (nI f) j = x.1 j
      unfold upd
      rw [if_neg (by omega)]
    · intro j hj
      cases j with
      | zero =>
        rw [h1 _ (by omega)]
        show upd x.1 x.2.2.1 (nI f) x.2.2.1 = nI f
        unfold upd
        rw [if_pos rfl]
      | succ j =>
        rw [List.length_cons] at hj
        have := h2 j (by omega)
        rw [show x.2.2.1 + (j + 1) = x.2.2.1 + 1 + j by omega, this]
        rfl
theorem rowL_M (z M : Nat → Int32) (B : Nat → Int64) (l : List Nat) (j : Nat) (h : j < l.length) : (rowL z M B l).1 j = nI l[j] := by
  have h1 := (rAdd_M z l (M, B, 0, 0)).2 j h
  have h2 : (M, B, 0, (0 : Int64)).2.2.1 + j = j := Nat.zero_add j
  rw [h2] at h1
  exact h1
theorem rowL_B (z M M' : Nat → Int32) (B : Nat → Int64) (l : List Nat) : (rowL z M B l).2 = (rowL z M' B l).2 := rAdd_B z l (M, B, 0, 0) (M', B, 0, 0) rfl
theorem rowL_n (z M : Nat → Int32) (B : Nat → Int64) (l : List Nat) : (rowL z M B l).2.2.1 = l.length := (rAdd_n z l (M, B, 0, 0)).trans (Nat.zero_add _)
/-- what follows from what was told -/
def sX (P : Int32) (z F T : Nat → Int32) (C : Nat → Int64) (u : Nat) : CS := bldX P z (fcN F T C z u) F (hN F T C u) (fun _ => 0)
def sW (P : Int32) (z F T : Nat → Int32) (C : Nat → Int64) (u : Nat) : List Nat := wLst (sX P z F T C u) (fun _ => 0)
def rowB (z : Nat → Int32) (l : List Nat) : Nat → Int64 := (rowL z (fun _ => 0) (fun _ => -1) l).2.1
/-- the derived arrays of the class, where nothing is stale -/
def DerC (n : Nat) (P : Int32) (z F T : Nat → Int32) (C : Nat → Int64) (u : Nat) (S fi : Nat → Int32) (rc : Int32) (M : Nat → Int32) (B : Nat → Int64) (pu : Int32) (B2 : Nat → Int64) : Prop :=
  S = fcN F T C z u ∧ fi = cFi (sX P z F T C u) ∧ rc = nI (rLst (sX P z F T C u) (fun _ => 0)).length ∧ pu = nI (sW P z F T C u).length ∧ (∀ j (h : j < (sW P z F T C u).length), M j = nI (sW P z F T C u)[j]) ∧ B = rowB z (sW P z F T C u) ∧ B2 = rowB z (nLst z n)
theorem DerC.made (n : Nat) (P : Int32) (z F T : Nat → Int32) (C : Nat → Int64) (u : Nat) (lo rk M M2 : Nat → Int32) (X : CS) (hX : X = bldX P z (fcN F T C z u) F (hN F T C u) lo) :
    DerC n P z F T C u (fcN F T C z u) (cFi X) (nI (rkN (cFi X) (cLe X) (cBy X) (cHe X) rk 300).1) (rowL z M (fun _ => -1) (wLst X rk)).1 (rowL z M (fun _ => -1) (wLst X rk)).2.1 (nI (rowL z M (fun _ => -1) (wLst X rk)).2.2.1) (rowL z M2 (fun _ => -1) (nLst z n)).2.1 := by
  have h1 : X = sX P z F T C u := by
    rw [hX]
    unfold sX bldX
    rw [bLst_lo]
  have h2 : wLst X rk = sW P z F T C u := by
    unfold sW wLst
    rw [← h1, rLst_lo]
  refine ⟨rfl, by rw [h1], ?_, by rw [rowL_n, h2], ?_, ?_, ?_⟩
  · rw [← rLst_len, ← h1, rLst_lo]
  · rw [h2]
    generalize sW P z F T C u = l
    exact fun j hj => rowL_M z M _ l j hj
  · rw [h2]
    generalize sW P z F T C u = l
    exact congrArg (fun y => y.1) (rowL_B z M (fun _ => 0) (fun _ => -1) l)
  · generalize nLst z n = l
    exact congrArg (fun y => y.1) (rowL_B z M2 (fun _ => 0) (fun _ => -1) l)
end
section
theorem DerC.made2 (n : Nat) (P : Int32) (z F T : Nat → Int32) (C : Nat → Int64) (u : Nat) (lo rk M M2 : Nat → Int32) (X : CS) (hX : X = bldX P z (fcN F T C z u) F (hN F T C u) lo) :
    DerC n P z F T C u (fcN F T C z u) (cFi X) (nI (rkN (cFi X) (cLe X) (cBy X) (cHe X) rk 300).1) (rowL z M (fun _ => -1) ((rLst X rk).flatMap (cCh X))).1 (rowL z M (fun _ => -1) ((rLst X rk).flatMap (cCh X))).2.1 (nI (rowL z M (fun _ => -1) ((rLst X rk).flatMap (cCh X))).2.2.1) (rowL z M2 (fun _ => -1) (nLst z n)).2.1 := by
  have h := DerC.made n P z F T C u lo rk M M2 X hX
  have e : wLst X rk = (rLst X rk).flatMap (cCh X) := rfl
  rw [e] at h
  exact h
end
section
set_option maxRecDepth 20000 in
theorem ggX3_init_X0_init : GoodIn wsX3_init wsX0_init := goodIn_r _ [23, 24, 2, 3, 4, 25, 26, 27, 28, 29, 30, 55, 56, 57, 58, 59, 60] (by decide +kernel) (by decide +kernel)
set_option maxRecDepth 20000 in
theorem gX3_init_X0_init_n15 : GoodIn wsX3_init (wsX0_init) := ggX3_init_X0_init
set_option maxRecDepth 20000 in
theorem ggX3_init_X1_init : GoodIn wsX3_init wsX1_init := goodIn_r _ [32, 33, 2, 3, 4, 34, 35, 36, 37, 27, 38, 39, 40, 41, 61, 62, 63, 64, 65, 66, 67, 68, 69] (by decide +kernel) (by decide +kernel)
set_option maxRecDepth 20000 in
theorem gX3_init_X1_init_n22 : GoodIn wsX3_init (wsX1_init) := ggX3_init_X1_init
set_option maxRecDepth 20000 in
theorem ggX3_init_X2_init : GoodIn wsX3_init wsX2_init := goodIn_r _ [43, 44, 2, 3, 4, 45, 27, 46, 70, 71, 72, 73] (by decide +kernel) (by decide +kernel)
set_option maxRecDepth 20000 in
theorem gX3_init_X2_init_n29 : GoodIn wsX3_init (wsX2_init) := ggX3_init_X2_init
theorem dX3_init_0 : decode cX3_init 0 = .ok (.aload_n 0, 1) := by decide +kernel
theorem dX3_init_1 : decode cX3_init 1 = .ok (.invokespecial 1, 3) := by decide +kernel
theorem dX3_init_4 : decode cX3_init 4 = .ok (.aload_n 0, 1) := by decide +kernel
theorem dX3_init_5 : decode cX3_init 5 = .ok (.sipush 300, 3) := by decide +kernel
theorem dX3_init_8 : decode cX3_init 8 = .ok (.newarray .int, 2) := by decide +kernel
theorem dX3_init_10 : decode cX3_init 10 = .ok (.putfield 9, 3) := by decide +kernel
theorem dX3_init_13 : decode cX3_init 13 = .ok (.aload_n 0, 1) := by decide +kernel
theorem dX3_init_14 : decode cX3_init 14 = .ok (.new 13, 3) := by decide +kernel
theorem dX3_init_17 : decode cX3_init 17 = .ok (.dup, 1) := by decide +kernel
theorem dX3_init_18 : decode cX3_init 18 = .ok (.invokespecial 15, 3) := by decide +kernel
theorem dX3_init_21 : decode cX3_init 21 = .ok (.putfield 16, 3) := by decide +kernel
theorem dX3_init_24 : decode cX3_init 24 = .ok (.aload_n 0, 1) := by decide +kernel
theorem dX3_init_25 : decode cX3_init 25 = .ok (.new 20, 3) := by decide +kernel
theorem dX3_init_28 : decode cX3_init 28 = .ok (.dup, 1) := by decide +kernel
theorem dX3_init_29 : decode cX3_init 29 = .ok (.invokespecial 22, 3) := by decide +kernel
theorem dX3_init_32 : decode cX3_init 32 = .ok (.putfield 23, 3) := by decide +kernel
theorem dX3_init_35 : decode cX3_init 35 = .ok (.aload_n 0, 1) := by decide +kernel
theorem dX3_init_36 : decode cX3_init 36 = .ok (.new 27, 3) := by decide +kernel
theorem dX3_init_39 : decode cX3_init 39 = .ok (.dup, 1) := by decide +kernel
theorem dX3_init_40 : decode cX3_init 40 = .ok (.invokespecial 29, 3) := by decide +kernel
theorem dX3_init_43 : decode cX3_init 43 = .ok (.putfield 30, 3) := by decide +kernel
theorem dX3_init_46 : decode cX3_init 46 = .ok (.aload_n 0, 1) := by decide +kernel
theorem dX3_init_47 : decode cX3_init 47 = .ok (.new 27, 3) := by decide +kernel
theorem dX3_init_50 : decode cX3_init 50 = .ok (.dup, 1) := by decide +kernel
theorem dX3_init_51 : decode cX3_init 51 = .ok (.invokespecial 29, 3) := by decide +kernel
theorem dX3_init_54 : decode cX3_init 54 = .ok (.putfield 34, 3) := by decide +kernel
theorem dX3_init_57 : decode cX3_init 57 = .ok (.aload_n 0, 1) := by decide +kernel
theorem dX3_init_58 : decode cX3_init 58 = .ok (.iconst 1, 1) := by decide +kernel
theorem dX3_init_59 : decode cX3_init 59 = .ok (.putfield 37, 3) := by decide +kernel
theorem dX3_init_62 : decode cX3_init 62 = .ok (.aload_n 0, 1) := by decide +kernel
theorem dX3_init_63 : decode cX3_init 63 = .ok (.sipush 4096, 3) := by decide +kernel
theorem dX3_init_66 : decode cX3_init 66 = .ok (.putfield 41, 3) := by decide +kernel
theorem dX3_init_69 : decode cX3_init 69 = .ok (.aload_n 0, 1) := by decide +kernel
theorem dX3_init_70 : decode cX3_init 70 = .ok (.iconst 1, 1) := by decide +kernel
theorem dX3_init_71 : decode cX3_init 71 = .ok (.putfield 44, 3) := by decide +kernel
theorem dX3_init_74 : decode cX3_init 74 = .ok (.return_, 1) := by decide +kernel
set_option maxRecDepth 20000 in
theorem ggX3_functions_J7_fill_53178 : GoodIn wsX3_functions wsJ7_fill_53178 := goodIn_r _ [8] (by decide +kernel) (by decide +kernel)
set_option maxRecDepth 20000 in
theorem gX3_functions_J7_fill_53178 : GoodIn wsX3_functions (va_wsS RX3 48 yJ7_fill_53178 wsJ7_fill_53178) := goodIn_app (goodIn_of _ (by decide +kernel)) ggX3_functions_J7_fill_53178
set_option maxRecDepth 20000 in
theorem ggX3_functions_X0_forgetAll : GoodIn wsX3_functions wsX0_forgetAll := goodIn_r _ [13, 14, 15, 16, 17, 7, 18, 27, 28, 29, 30, 31, 32] (by decide +kernel) (by decide +kernel)
set_option maxRecDepth 20000 in
theorem gX3_functions_X0_forgetAll : GoodIn wsX3_functions (wsV RX3 54 RX0 yX0_forgetAll wsX0_forgetAll) := goodIn_app (goodIn_of _ (by decide +kernel)) ggX3_functions_X0_forgetAll
theorem dX3_functions_0 : decode cX3_functions 0 = .ok (.iload_n 1, 1) := by decide +kernel
theorem dX3_functions_1 : decode cX3_functions 1 = .ok (.iconst 1, 1) := by decide +kernel
theorem dX3_functions_2 : decode cX3_functions 2 = .ok (.if_icmp .lt 10, 3) := by decide +kernel
theorem dX3_functions_5 : decode cX3_functions 5 = .ok (.iload_n 1, 1) := by decide +kernel
theorem dX3_functions_6 : decode cX3_functions 6 = .ok (.sipush 300, 3) := by decide +kernel
theorem dX3_functions_9 : decode cX3_functions 9 = .ok (.if_icmp .le 5, 3) := by decide +kernel
theorem dX3_functions_12 : decode cX3_functions 12 = .ok (.iconst 0, 1) := by decide +kernel
theorem dX3_functions_13 : decode cX3_functions 13 = .ok (.ireturn, 1) := by decide +kernel
theorem dX3_functions_14 : decode cX3_functions 14 = .ok (.aload_n 0, 1) := by decide +kernel
theorem dX3_functions_15 : decode cX3_functions 15 = .ok (.iload_n 1, 1) := by decide +kernel
theorem dX3_functions_16 : decode cX3_functions 16 = .ok (.putfield 37, 3) := by decide +kernel
theorem dX3_functions_19 : decode cX3_functions 19 = .ok (.aload_n 0, 1) := by decide +kernel
theorem dX3_functions_20 : decode cX3_functions 20 = .ok (.getfield 9, 3) := by decide +kernel
theorem dX3_functions_23 : decode cX3_functions 23 = .ok (.iconst 0, 1) := by decide +kernel
theorem dX3_functions_24 : decode cX3_functions 24 = .ok (.invokestatic 48, 3) := by decide +kernel
theorem dX3_functions_27 : decode cX3_functions 27 = .ok (.aload_n 0, 1) := by decide +kernel
theorem dX3_functions_28 : decode cX3_functions 28 = .ok (.getfield 16, 3) := by decide +kernel
theorem dX3_functions_31 : decode cX3_functions 31 = .ok (.invokevirtual 54, 3) := by decide +kernel
theorem dX3_functions_34 : decode cX3_functions 34 = .ok (.aload_n 0, 1) := by decide +kernel
theorem dX3_functions_35 : decode cX3_functions 35 = .ok (.iconst 1, 1) := by decide +kernel
theorem dX3_functions_36 : decode cX3_functions 36 = .ok (.putfield 44, 3) := by decide +kernel
theorem dX3_functions_39 : decode cX3_functions 39 = .ok (.iconst 1, 1) := by decide +kernel
theorem dX3_functions_40 : decode cX3_functions 40 = .ok (.ireturn, 1) := by decide +kernel
set_option maxRecDepth 20000 in
theorem ggX3_size_X3_isFunction : GoodIn wsX3_size wsX3_isFunction := goodIn_r _ [8, 9, 10, 11, 12, 13, 14, 15, 16, 17] (by decide +kernel) (by decide +kernel)
set_option maxRecDepth 20000 in
theorem gX3_size_X3_isFunction : GoodIn wsX3_size (wsV RX3 57 RX3 yX3_isFunction wsX3_isFunction) := goodIn_app (goodIn_of _ (by decide +kernel)) ggX3_size_X3_isFunction
theorem dX3_size_0 : decode cX3_size 0 = .ok (.aload_n 0, 1) := by decide +kernel
theorem dX3_size_1 : decode cX3_size 1 = .ok (.iload_n 1, 1) := by decide +kernel
theorem dX3_size_2 : decode cX3_size 2 = .ok (.invokevirtual 57, 3) := by decide +kernel
theorem dX3_size_5 : decode cX3_size 5 = .ok (.ifCond .eq 13, 3) := by decide +kernel
theorem dX3_size_8 : decode cX3_size 8 = .ok (.iload_n 2, 1) := by decide +kernel
theorem dX3_size_9 : decode cX3_size 9 = .ok (.ifCond .lt 9, 3) := by decide +kernel
theorem dX3_size_12 : decode cX3_size 12 = .ok (.iload_n 2, 1) := by decide +kernel
theorem dX3_size_13 : decode cX3_size 13 = .ok (.ldc 61, 2) := by decide +kernel
theorem dX3_size_15 : decode cX3_size 15 = .ok (.if_icmp .le 5, 3) := by decide +kernel
theorem dX3_size_18 : decode cX3_size 18 = .ok (.iconst 0, 1) := by decide +kernel
theorem dX3_size_19 : decode cX3_size 19 = .ok (.ireturn, 1) := by decide +kernel
theorem dX3_size_20 : decode cX3_size 20 = .ok (.aload_n 0, 1) := by decide +kernel
theorem dX3_size_21 : decode cX3_size 21 = .ok (.getfield 9, 3) := by decide +kernel
theorem dX3_size_24 : decode cX3_size 24 = .ok (.iload_n 1, 1) := by decide +kernel
theorem dX3_size_25 : decode cX3_size 25 = .ok (.iload_n 2, 1) := by decide +kernel
theorem dX3_size_26 : decode cX3_size 26 = .ok (.iastore, 1) := by decide +kernel
theorem dX3_size_27 : decode cX3_size 27 = .ok (.aload_n 0, 1) := by decide +kernel
theorem dX3_size_28 : decode cX3_size 28 = .ok (.iconst 1, 1) := by decide +kernel
theorem dX3_size_29 : decode cX3_size 29 = .ok (.putfield 44, 3) := by decide +kernel
theorem dX3_size_32 : decode cX3_size 32 = .ok (.iconst 1, 1) := by decide +kernel
theorem dX3_size_33 : decode cX3_size 33 = .ok (.ireturn, 1) := by decide +kernel
set_option maxRecDepth 20000 in
theorem ggX3_call_X3_isFunction : GoodIn wsX3_call wsX3_isFunction := goodIn_r _ [11, 12, 32, 33, 34, 35, 36, 37, 38, 39] (by decide +kernel) (by decide +kernel)
set_option maxRecDepth 20000 in
theorem gX3_call_X3_isFunction : GoodIn wsX3_call (wsV RX3 57 RX3 yX3_isFunction wsX3_isFunction) := goodIn_app (goodIn_of _ (by decide +kernel)) ggX3_call_X3_isFunction
set_option maxRecDepth 20000 in
theorem ggX3_call_X0_pairFor : GoodIn wsX3_call wsX0_pairFor := goodIn_r _ [17, 18, 19, 20, 21, 40, 41, 42, 43, 44, 45] (by decide +kernel) (by decide +kernel)
set_option maxRecDepth 20000 in
theorem gX3_call_X0_pairFor : GoodIn wsX3_call (wsV RX3 67 RX0 yX0_pairFor wsX0_pairFor) := goodIn_app (goodIn_of _ (by decide +kernel)) ggX3_call_X0_pairFor
set_option maxRecDepth 20000 in
theorem ggX3_call_X0_raise : GoodIn wsX3_call wsX0_raise := goodIn_r _ [25, 21, 26, 27, 28, 29, 30, 31, 20, 40, 41, 42, 43, 44, 45] (by decide +kernel) (by decide +kernel)
set_option maxRecDepth 20000 in
theorem gX3_call_X0_raise : GoodIn wsX3_call (wsV RX3 73 RX0 yX0_raise wsX0_raise) := goodIn_app (goodIn_of _ (by decide +kernel)) ggX3_call_X0_raise
theorem dX3_call_0 : decode cX3_call 0 = .ok (.aload_n 0, 1) := by decide +kernel
theorem dX3_call_1 : decode cX3_call 1 = .ok (.iload_n 1, 1) := by decide +kernel
theorem dX3_call_2 : decode cX3_call 2 = .ok (.invokevirtual 57, 3) := by decide +kernel
theorem dX3_call_5 : decode cX3_call 5 = .ok (.ifCond .eq 11, 3) := by decide +kernel
theorem dX3_call_8 : decode cX3_call 8 = .ok (.aload_n 0, 1) := by decide +kernel
theorem dX3_call_9 : decode cX3_call 9 = .ok (.iload_n 2, 1) := by decide +kernel
theorem dX3_call_10 : decode cX3_call 10 = .ok (.invokevirtual 57, 3) := by decide +kernel
theorem dX3_call_13 : decode cX3_call 13 = .ok (.ifCond .ne 7, 3) := by decide +kernel
theorem dX3_call_16 : decode cX3_call 16 = .ok (.ldc2_w 62, 3) := by decide +kernel
theorem dX3_call_19 : decode cX3_call 19 = .ok (.lreturn, 1) := by decide +kernel
theorem dX3_call_20 : decode cX3_call 20 = .ok (.iload_n 3, 1) := by decide +kernel
theorem dX3_call_21 : decode cX3_call 21 = .ok (.iconst 1, 1) := by decide +kernel
theorem dX3_call_22 : decode cX3_call 22 = .ok (.if_icmp .lt 9, 3) := by decide +kernel
theorem dX3_call_25 : decode cX3_call 25 = .ok (.iload_n 3, 1) := by decide +kernel
theorem dX3_call_26 : decode cX3_call 26 = .ok (.ldc 64, 2) := by decide +kernel
theorem dX3_call_28 : decode cX3_call 28 = .ok (.if_icmp .le 7, 3) := by decide +kernel
theorem dX3_call_31 : decode cX3_call 31 = .ok (.ldc2_w 65, 3) := by decide +kernel
theorem dX3_call_34 : decode cX3_call 34 = .ok (.lreturn, 1) := by decide +kernel
theorem dX3_call_35 : decode cX3_call 35 = .ok (.aload_n 0, 1) := by decide +kernel
theorem dX3_call_36 : decode cX3_call 36 = .ok (.getfield 16, 3) := by decide +kernel
theorem dX3_call_39 : decode cX3_call 39 = .ok (.iload_n 1, 1) := by decide +kernel
theorem dX3_call_40 : decode cX3_call 40 = .ok (.iload_n 2, 1) := by decide +kernel
theorem dX3_call_41 : decode cX3_call 41 = .ok (.invokevirtual 67, 3) := by decide +kernel
theorem dX3_call_44 : decode cX3_call 44 = .ok (.istore 4, 2) := by decide +kernel
theorem dX3_call_46 : decode cX3_call 46 = .ok (.iload 4, 2) := by decide +kernel
theorem dX3_call_48 : decode cX3_call 48 = .ok (.iconst (-1), 1) := by decide +kernel
theorem dX3_call_49 : decode cX3_call 49 = .ok (.if_icmp .ne 7, 3) := by decide +kernel
theorem dX3_call_52 : decode cX3_call 52 = .ok (.ldc2_w 71, 3) := by decide +kernel
theorem dX3_call_55 : decode cX3_call 55 = .ok (.lreturn, 1) := by decide +kernel
theorem dX3_call_56 : decode cX3_call 56 = .ok (.aload_n 0, 1) := by decide +kernel
theorem dX3_call_57 : decode cX3_call 57 = .ok (.iconst 1, 1) := by decide +kernel
theorem dX3_call_58 : decode cX3_call 58 = .ok (.putfield 44, 3) := by decide +kernel
theorem dX3_call_61 : decode cX3_call 61 = .ok (.aload_n 0, 1) := by decide +kernel
theorem dX3_call_62 : decode cX3_call 62 = .ok (.getfield 16, 3) := by decide +kernel
theorem dX3_call_65 : decode cX3_call 65 = .ok (.iload 4, 2) := by decide +kernel
theorem dX3_call_67 : decode cX3_call 67 = .ok (.iload_n 3, 1) := by decide +kernel
theorem dX3_call_68 : decode cX3_call 68 = .ok (.invokevirtual 73, 3) := by decide +kernel
theorem dX3_call_71 : decode cX3_call 71 = .ok (.lreturn, 1) := by decide +kernel
theorem dX3_page_0 : decode cX3_page 0 = .ok (.iload_n 1, 1) := by decide +kernel
theorem dX3_page_1 : decode cX3_page 1 = .ok (.iconst 1, 1) := by decide +kernel
theorem dX3_page_2 : decode cX3_page 2 = .ok (.if_icmp .lt 9, 3) := by decide +kernel
theorem dX3_page_5 : decode cX3_page 5 = .ok (.iload_n 1, 1) := by decide +kernel
theorem dX3_page_6 : decode cX3_page 6 = .ok (.ldc 77, 2) := by decide +kernel
theorem dX3_page_8 : decode cX3_page 8 = .ok (.if_icmp .le 5, 3) := by decide +kernel
theorem dX3_page_11 : decode cX3_page 11 = .ok (.iconst 0, 1) := by decide +kernel
theorem dX3_page_12 : decode cX3_page 12 = .ok (.ireturn, 1) := by decide +kernel
theorem dX3_page_13 : decode cX3_page 13 = .ok (.aload_n 0, 1) := by decide +kernel
theorem dX3_page_14 : decode cX3_page 14 = .ok (.iload_n 1, 1) := by decide +kernel
theorem dX3_page_15 : decode cX3_page 15 = .ok (.putfield 41, 3) := by decide +kernel
theorem dX3_page_18 : decode cX3_page 18 = .ok (.aload_n 0, 1) := by decide +kernel
theorem dX3_page_19 : decode cX3_page 19 = .ok (.iconst 1, 1) := by decide +kernel
theorem dX3_page_20 : decode cX3_page 20 = .ok (.putfield 44, 3) := by decide +kernel
theorem dX3_page_23 : decode cX3_page 23 = .ok (.iconst 1, 1) := by decide +kernel
theorem dX3_page_24 : decode cX3_page 24 = .ok (.ireturn, 1) := by decide +kernel
set_option maxRecDepth 20000 in
theorem ggX3_heat_X3_isFunction : GoodIn wsX3_heat wsX3_isFunction := goodIn_r _ [7, 8, 15, 16, 17, 18, 19, 20, 21, 22] (by decide +kernel) (by decide +kernel)
set_option maxRecDepth 20000 in
theorem gX3_heat_X3_isFunction : GoodIn wsX3_heat (wsV RX3 57 RX3 yX3_isFunction wsX3_isFunction) := goodIn_app (goodIn_of _ (by decide +kernel)) ggX3_heat_X3_isFunction
set_option maxRecDepth 20000 in
theorem ggX3_heat_X0_heatOf : GoodIn wsX3_heat wsX0_heatOf := goodIn_r _ [13, 14, 23, 24, 25, 26, 27, 28] (by decide +kernel) (by decide +kernel)
set_option maxRecDepth 20000 in
theorem gX3_heat_X0_heatOf : GoodIn wsX3_heat (wsV RX3 78 RX0 yX0_heatOf wsX0_heatOf) := goodIn_app (goodIn_of _ (by decide +kernel)) ggX3_heat_X0_heatOf
theorem dX3_heat_0 : decode cX3_heat 0 = .ok (.aload_n 0, 1) := by decide +kernel
theorem dX3_heat_1 : decode cX3_heat 1 = .ok (.iload_n 1, 1) := by decide +kernel
theorem dX3_heat_2 : decode cX3_heat 2 = .ok (.invokevirtual 57, 3) := by decide +kernel
theorem dX3_heat_5 : decode cX3_heat 5 = .ok (.ifCond .eq 14, 3) := by decide +kernel
theorem dX3_heat_8 : decode cX3_heat 8 = .ok (.aload_n 0, 1) := by decide +kernel
theorem dX3_heat_9 : decode cX3_heat 9 = .ok (.getfield 16, 3) := by decide +kernel
theorem dX3_heat_12 : decode cX3_heat 12 = .ok (.iload_n 1, 1) := by decide +kernel
theorem dX3_heat_13 : decode cX3_heat 13 = .ok (.invokevirtual 78, 3) := by decide +kernel
theorem dX3_heat_16 : decode cX3_heat 16 = .ok (.goto 6, 3) := by decide +kernel
theorem dX3_heat_19 : decode cX3_heat 19 = .ok (.ldc2_w 62, 3) := by decide +kernel
theorem dX3_heat_22 : decode cX3_heat 22 = .ok (.lreturn, 1) := by decide +kernel
set_option maxRecDepth 20000 in
theorem ggX3_caller_X3_hasSize : GoodIn wsX3_caller wsX3_hasSize := goodIn_r _ [6, 7, 8, 9, 10, 5, 11, 12, 115, 116, 117, 118, 119, 120, 121, 122] (by decide +kernel) (by decide +kernel)
set_option maxRecDepth 20000 in
theorem gX3_caller_X3_hasSize : GoodIn wsX3_caller (wsV RX3 82 RX3 yX3_hasSize wsX3_hasSize) := goodIn_app (goodIn_of _ (by decide +kernel)) ggX3_caller_X3_hasSize
set_option maxRecDepth 20000 in
theorem ggX3_caller_X3_refresh : GoodIn wsX3_caller wsX3_refresh := goodIn_r _ [16, 17, 1, 7, 18, 19, 20, 21, 22, 23, 24, 25, 26, 27, 28, 29, 30, 31, 32, 33, 34, 35, 36, 37, 38, 39, 40, 41, 42, 43, 44, 45, 46, 47, 48, 49, 50, 51, 52, 53, 54, 55, 56, 57, 58, 59, 60, 61, 62, 63, 64, 65, 66, 67, 68, 69, 70, 71, 72, 73, 74, 75, 76, 77, 78, 79, 80, 81, 82, 83, 84, 85, 86, 87, 88, 89, 90, 91, 92, 93, 94, 95, 96, 97, 98, 99, 100, 101, 102, 103, 104, 105, 106, 107, 108, 109, 5, 110, 111, 12, 112, 113, 115, 116, 117, 118, 119, 120, 121, 122, 123, 124, 125, 126, 127, 128, 129, 130, 131, 132, 133, 134, 135, 136, 137, 138, 139, 140, 141] (by decide +kernel) (by decide +kernel)
set_option maxRecDepth 20000 in
theorem gX3_caller_X3_refresh : GoodIn wsX3_caller (wsV RX3 85 RX3 yX3_refresh wsX3_refresh) := goodIn_app (goodIn_of _ (by decide +kernel)) ggX3_caller_X3_refresh
set_option maxRecDepth 20000 in
theorem ggX3_caller_X0_callerOf : GoodIn wsX3_caller wsX0_callerOf := goodIn_r _ [67, 26, 28, 123, 124, 125, 126, 127, 128] (by decide +kernel) (by decide +kernel)
set_option maxRecDepth 20000 in
theorem gX3_caller_X0_callerOf : GoodIn wsX3_caller (wsV RX3 88 RX0 yX0_callerOf wsX0_callerOf) := goodIn_app (goodIn_of _ (by decide +kernel)) ggX3_caller_X0_callerOf
theorem dX3_caller_0 : decode cX3_caller 0 = .ok (.aload_n 0, 1) := by decide +kernel
theorem dX3_caller_1 : decode cX3_caller 1 = .ok (.iload_n 1, 1) := by decide +kernel
theorem dX3_caller_2 : decode cX3_caller 2 = .ok (.invokevirtual 82, 3) := by decide +kernel
theorem dX3_caller_5 : decode cX3_caller 5 = .ok (.ifCond .ne 5, 3) := by decide +kernel
theorem dX3_caller_8 : decode cX3_caller 8 = .ok (.iconst (-1), 1) := by decide +kernel
theorem dX3_caller_9 : decode cX3_caller 9 = .ok (.ireturn, 1) := by decide +kernel
theorem dX3_caller_10 : decode cX3_caller 10 = .ok (.aload_n 0, 1) := by decide +kernel
theorem dX3_caller_11 : decode cX3_caller 11 = .ok (.invokevirtual 85, 3) := by decide +kernel
theorem dX3_caller_14 : decode cX3_caller 14 = .ok (.aload_n 0, 1) := by decide +kernel
theorem dX3_caller_15 : decode cX3_caller 15 = .ok (.getfield 16, 3) := by decide +kernel
theorem dX3_caller_18 : decode cX3_caller 18 = .ok (.iload_n 1, 1) := by decide +kernel
theorem dX3_caller_19 : decode cX3_caller 19 = .ok (.invokevirtual 88, 3) := by decide +kernel
theorem dX3_caller_22 : decode cX3_caller 22 = .ok (.ireturn, 1) := by decide +kernel
set_option maxRecDepth 20000 in
theorem ggX3_length_X3_refresh : GoodIn wsX3_length wsX3_refresh := goodIn_r _ [6, 7, 8, 9, 10, 11, 1, 12, 13, 14, 15, 16, 17, 18, 19, 20, 21, 22, 23, 24, 25, 26, 27, 28, 29, 30, 31, 32, 33, 34, 35, 36, 37, 38, 39, 40, 41, 42, 43, 44, 45, 46, 47, 48, 49, 50, 51, 52, 53, 54, 55, 56, 57, 58, 59, 60, 61, 62, 63, 64, 65, 66, 67, 68, 69, 70, 71, 72, 73, 74, 75, 76, 77, 78, 79, 80, 81, 82, 83, 84, 85, 86, 87, 88, 89, 90, 91, 92, 93, 94, 95, 96, 97, 98, 99, 100, 5, 101, 102, 103, 104, 105, 110, 111, 112, 113, 114, 115, 116, 117, 118, 119, 120, 121, 122, 123, 124, 125, 126, 127, 128, 129, 130, 131, 132, 133, 134, 135, 136] (by decide +kernel) (by decide +kernel)
set_option maxRecDepth 20000 in
theorem gX3_length_X3_refresh : GoodIn wsX3_length (wsV RX3 85 RX3 yX3_refresh wsX3_refresh) := goodIn_app (goodIn_of _ (by decide +kernel)) ggX3_length_X3_refresh
set_option maxRecDepth 20000 in
theorem ggX3_length_X2_memberCount : GoodIn wsX3_length wsX2_memberCount := goodIn_r _ [109, 86, 133, 134, 135, 136] (by decide +kernel) (by decide +kernel)
set_option maxRecDepth 20000 in
theorem gX3_length_X2_memberCount : GoodIn wsX3_length (wsV RX3 92 RX2 yX2_memberCount wsX2_memberCount) := goodIn_app (goodIn_of _ (by decide +kernel)) ggX3_length_X2_memberCount
theorem dX3_length_0 : decode cX3_length 0 = .ok (.aload_n 0, 1) := by decide +kernel
theorem dX3_length_1 : decode cX3_length 1 = .ok (.invokevirtual 85, 3) := by decide +kernel
theorem dX3_length_4 : decode cX3_length 4 = .ok (.aload_n 0, 1) := by decide +kernel
theorem dX3_length_5 : decode cX3_length 5 = .ok (.getfield 30, 3) := by decide +kernel
theorem dX3_length_8 : decode cX3_length 8 = .ok (.invokevirtual 92, 3) := by decide +kernel
theorem dX3_length_11 : decode cX3_length 11 = .ok (.ireturn, 1) := by decide +kernel
set_option maxRecDepth 20000 in
theorem ggX3_row_X3_refresh : GoodIn wsX3_row wsX3_refresh := goodIn_r _ [6, 7, 8, 9, 10, 11, 1, 12, 13, 14, 15, 16, 17, 18, 19, 20, 21, 22, 23, 24, 25, 26, 27, 28, 29, 30, 31, 32, 33, 34, 35, 36, 37, 38, 39, 40, 41, 42, 43, 44, 45, 46, 47, 48, 49, 50, 51, 52, 53, 54, 55, 56, 57, 58, 59, 60, 61, 62, 63, 64, 65, 66, 67, 68, 69, 70, 71, 72, 73, 74, 75, 76, 77, 78, 79, 80, 81, 82, 83, 84, 85, 86, 87, 88, 89, 90, 91, 92, 93, 94, 95, 96, 97, 98, 99, 100, 5, 101, 102, 103, 104, 105, 110, 111, 112, 113, 114, 115, 116, 117, 118, 119, 120, 121, 122, 123, 124, 125, 126, 127, 128, 129, 130, 131, 132, 133, 134, 135, 136] (by decide +kernel) (by decide +kernel)
set_option maxRecDepth 20000 in
theorem gX3_row_X3_refresh : GoodIn wsX3_row (wsV RX3 85 RX3 yX3_refresh wsX3_refresh) := goodIn_app (goodIn_of _ (by decide +kernel)) ggX3_row_X3_refresh
set_option maxRecDepth 20000 in
theorem ggX3_row_X2_memberAt : GoodIn wsX3_row wsX2_memberAt := goodIn_r _ [109, 86, 97, 133, 134, 135, 136] (by decide +kernel) (by decide +kernel)
set_option maxRecDepth 20000 in
theorem gX3_row_X2_memberAt : GoodIn wsX3_row (wsV RX3 96 RX2 yX2_memberAt wsX2_memberAt) := goodIn_app (goodIn_of _ (by decide +kernel)) ggX3_row_X2_memberAt
theorem dX3_row_0 : decode cX3_row 0 = .ok (.aload_n 0, 1) := by decide +kernel
theorem dX3_row_1 : decode cX3_row 1 = .ok (.invokevirtual 85, 3) := by decide +kernel
theorem dX3_row_4 : decode cX3_row 4 = .ok (.aload_n 0, 1) := by decide +kernel
theorem dX3_row_5 : decode cX3_row 5 = .ok (.getfield 30, 3) := by decide +kernel
theorem dX3_row_8 : decode cX3_row 8 = .ok (.iload_n 1, 1) := by decide +kernel
theorem dX3_row_9 : decode cX3_row 9 = .ok (.invokevirtual 96, 3) := by decide +kernel
theorem dX3_row_12 : decode cX3_row 12 = .ok (.ireturn, 1) := by decide +kernel
set_option maxRecDepth 20000 in
theorem ggX3_begin_X3_hasSize : GoodIn wsX3_begin wsX3_hasSize := goodIn_r _ [7, 8, 9, 10, 11, 6, 12, 13, 119, 120, 121, 122, 123, 124, 125, 126] (by decide +kernel) (by decide +kernel)
set_option maxRecDepth 20000 in
theorem gX3_begin_X3_hasSize : GoodIn wsX3_begin (wsV RX3 82 RX3 yX3_hasSize wsX3_hasSize) := goodIn_app (goodIn_of _ (by decide +kernel)) ggX3_begin_X3_hasSize
set_option maxRecDepth 20000 in
theorem ggX3_begin_X3_refresh : GoodIn wsX3_begin wsX3_refresh := goodIn_r _ [17, 18, 19, 8, 20, 21, 2, 22, 23, 24, 25, 26, 27, 28, 29, 30, 31, 32, 33, 34, 35, 36, 37, 38, 39, 40, 41, 42, 43, 44, 45, 46, 47, 48, 49, 50, 51, 52, 53, 54, 55, 56, 57, 58, 59, 60, 61, 62, 63, 64, 65, 66, 67, 68, 69, 70, 71, 72, 73, 74, 75, 76, 77, 78, 79, 80, 81, 82, 83, 84, 85, 86, 87, 88, 89, 90, 91, 92, 93, 94, 95, 96, 97, 98, 99, 100, 101, 102, 103, 104, 105, 106, 107, 108, 109, 110, 6, 111, 112, 13, 113, 114, 119, 120, 121, 122, 123, 124, 125, 126, 127, 128, 129, 130, 131, 132, 133, 134, 135, 136, 137, 138, 139, 140, 141, 142, 143, 144, 145] (by decide +kernel) (by decide +kernel)
set_option maxRecDepth 20000 in
theorem gX3_begin_X3_refresh : GoodIn wsX3_begin (wsV RX3 85 RX3 yX3_refresh wsX3_refresh) := goodIn_app (goodIn_of _ (by decide +kernel)) ggX3_begin_X3_refresh
set_option maxRecDepth 20000 in
theorem ggX3_begin_X2_beginOf : GoodIn wsX3_begin wsX2_beginOf := goodIn_r _ [118, 98, 142, 143, 144, 145] (by decide +kernel) (by decide +kernel)
set_option maxRecDepth 20000 in
theorem gX3_begin_X2_beginOf : GoodIn wsX3_begin (wsV RX3 99 RX2 yX2_beginOf wsX2_beginOf) := goodIn_app (goodIn_of _ (by decide +kernel)) ggX3_begin_X2_beginOf
theorem dX3_begin_0 : decode cX3_begin 0 = .ok (.aload_n 0, 1) := by decide +kernel
theorem dX3_begin_1 : decode cX3_begin 1 = .ok (.iload_n 1, 1) := by decide +kernel
theorem dX3_begin_2 : decode cX3_begin 2 = .ok (.invokevirtual 82, 3) := by decide +kernel
theorem dX3_begin_5 : decode cX3_begin 5 = .ok (.ifCond .ne 7, 3) := by decide +kernel
theorem dX3_begin_8 : decode cX3_begin 8 = .ok (.ldc2_w 62, 3) := by decide +kernel
theorem dX3_begin_11 : decode cX3_begin 11 = .ok (.lreturn, 1) := by decide +kernel
theorem dX3_begin_12 : decode cX3_begin 12 = .ok (.aload_n 0, 1) := by decide +kernel
theorem dX3_begin_13 : decode cX3_begin 13 = .ok (.invokevirtual 85, 3) := by decide +kernel
theorem dX3_begin_16 : decode cX3_begin 16 = .ok (.aload_n 0, 1) := by decide +kernel
theorem dX3_begin_17 : decode cX3_begin 17 = .ok (.getfield 30, 3) := by decide +kernel
theorem dX3_begin_20 : decode cX3_begin 20 = .ok (.iload_n 1, 1) := by decide +kernel
theorem dX3_begin_21 : decode cX3_begin 21 = .ok (.invokevirtual 99, 3) := by decide +kernel
theorem dX3_begin_24 : decode cX3_begin 24 = .ok (.lreturn, 1) := by decide +kernel
set_option maxRecDepth 20000 in
theorem ggX3_clusters_X3_refresh : GoodIn wsX3_clusters wsX3_refresh := goodIn_r _ [6, 7, 8, 9, 1, 10, 11, 12, 13, 14, 15, 16, 17, 18, 19, 20, 21, 22, 23, 24, 25, 26, 27, 28, 29, 30, 31, 32, 33, 34, 35, 36, 37, 38, 39, 40, 41, 42, 43, 44, 45, 46, 47, 48, 49, 50, 51, 52, 53, 54, 55, 56, 57, 58, 59, 60, 61, 62, 63, 64, 65, 66, 67, 68, 69, 70, 71, 72, 73, 74, 75, 76, 77, 78, 79, 80, 81, 82, 83, 84, 85, 86, 87, 88, 89, 90, 91, 92, 93, 94, 95, 96, 97, 98, 99, 100, 5, 101, 102, 103, 104, 105, 110, 111, 112, 113, 114, 115, 116, 117, 118, 119, 120, 121, 122, 123, 124, 125, 126, 127, 128, 129, 130, 131, 132, 133, 134, 135, 136] (by decide +kernel) (by decide +kernel)
set_option maxRecDepth 20000 in
theorem gX3_clusters_X3_refresh : GoodIn wsX3_clusters (wsV RX3 85 RX3 yX3_refresh wsX3_refresh) := goodIn_app (goodIn_of _ (by decide +kernel)) ggX3_clusters_X3_refresh
set_option maxRecDepth 20000 in
theorem ggX3_clusters_X1_clusterCount : GoodIn wsX3_clusters wsX1_clusterCount := goodIn_r _ [109, 71, 124, 125, 126, 127, 128, 129, 130, 131, 132] (by decide +kernel) (by decide +kernel)
set_option maxRecDepth 20000 in
theorem gX3_clusters_X1_clusterCount : GoodIn wsX3_clusters (wsV RX3 102 RX1 yX1_clusterCount wsX1_clusterCount) := goodIn_app (goodIn_of _ (by decide +kernel)) ggX3_clusters_X1_clusterCount
theorem dX3_clusters_0 : decode cX3_clusters 0 = .ok (.aload_n 0, 1) := by decide +kernel
theorem dX3_clusters_1 : decode cX3_clusters 1 = .ok (.invokevirtual 85, 3) := by decide +kernel
theorem dX3_clusters_4 : decode cX3_clusters 4 = .ok (.aload_n 0, 1) := by decide +kernel
theorem dX3_clusters_5 : decode cX3_clusters 5 = .ok (.getfield 23, 3) := by decide +kernel
theorem dX3_clusters_8 : decode cX3_clusters 8 = .ok (.invokevirtual 102, 3) := by decide +kernel
theorem dX3_clusters_11 : decode cX3_clusters 11 = .ok (.ireturn, 1) := by decide +kernel
set_option maxRecDepth 20000 in
theorem ggX3_cluster_X3_hasSize : GoodIn wsX3_cluster wsX3_hasSize := goodIn_r _ [6, 7, 8, 9, 10, 5, 11, 12, 118, 119, 120, 121, 122, 123, 124, 125] (by decide +kernel) (by decide +kernel)
set_option maxRecDepth 20000 in
theorem gX3_cluster_X3_hasSize : GoodIn wsX3_cluster (wsV RX3 82 RX3 yX3_hasSize wsX3_hasSize) := goodIn_app (goodIn_of _ (by decide +kernel)) ggX3_cluster_X3_hasSize
set_option maxRecDepth 20000 in
theorem ggX3_cluster_X3_refresh : GoodIn wsX3_cluster wsX3_refresh := goodIn_r _ [16, 17, 18, 7, 1, 19, 20, 21, 22, 23, 24, 25, 26, 27, 28, 29, 30, 31, 32, 33, 34, 35, 36, 37, 38, 39, 40, 41, 42, 43, 44, 45, 46, 47, 48, 49, 50, 51, 52, 53, 54, 55, 56, 57, 58, 59, 60, 61, 62, 63, 64, 65, 66, 67, 68, 69, 70, 71, 72, 73, 74, 75, 76, 77, 78, 79, 80, 81, 82, 83, 84, 85, 86, 87, 88, 89, 90, 91, 92, 93, 94, 95, 96, 97, 98, 99, 100, 101, 102, 103, 104, 105, 106, 107, 108, 109, 5, 110, 111, 12, 112, 113, 118, 119, 120, 121, 122, 123, 124, 125, 126, 127, 128, 129, 130, 131, 132, 133, 134, 135, 136, 137, 138, 139, 140, 141, 142, 143, 144] (by decide +kernel) (by decide +kernel)
set_option maxRecDepth 20000 in
theorem gX3_cluster_X3_refresh : GoodIn wsX3_cluster (wsV RX3 85 RX3 yX3_refresh wsX3_refresh) := goodIn_app (goodIn_of _ (by decide +kernel)) ggX3_cluster_X3_refresh
set_option maxRecDepth 20000 in
theorem ggX3_cluster_X1_firstOf : GoodIn wsX3_cluster wsX1_firstOf := goodIn_r _ [117, 44, 132, 133, 134, 135, 136, 137, 138, 139, 140] (by decide +kernel) (by decide +kernel)
set_option maxRecDepth 20000 in
theorem gX3_cluster_X1_firstOf : GoodIn wsX3_cluster (wsV RX3 105 RX1 yX1_firstOf wsX1_firstOf) := goodIn_app (goodIn_of _ (by decide +kernel)) ggX3_cluster_X1_firstOf
theorem dX3_cluster_0 : decode cX3_cluster 0 = .ok (.aload_n 0, 1) := by decide +kernel
theorem dX3_cluster_1 : decode cX3_cluster 1 = .ok (.iload_n 1, 1) := by decide +kernel
theorem dX3_cluster_2 : decode cX3_cluster 2 = .ok (.invokevirtual 82, 3) := by decide +kernel
theorem dX3_cluster_5 : decode cX3_cluster 5 = .ok (.ifCond .ne 5, 3) := by decide +kernel
theorem dX3_cluster_8 : decode cX3_cluster 8 = .ok (.iconst (-1), 1) := by decide +kernel
theorem dX3_cluster_9 : decode cX3_cluster 9 = .ok (.ireturn, 1) := by decide +kernel
theorem dX3_cluster_10 : decode cX3_cluster 10 = .ok (.aload_n 0, 1) := by decide +kernel
theorem dX3_cluster_11 : decode cX3_cluster 11 = .ok (.invokevirtual 85, 3) := by decide +kernel
theorem dX3_cluster_14 : decode cX3_cluster 14 = .ok (.aload_n 0, 1) := by decide +kernel
theorem dX3_cluster_15 : decode cX3_cluster 15 = .ok (.getfield 23, 3) := by decide +kernel
theorem dX3_cluster_18 : decode cX3_cluster 18 = .ok (.iload_n 1, 1) := by decide +kernel
theorem dX3_cluster_19 : decode cX3_cluster 19 = .ok (.invokevirtual 105, 3) := by decide +kernel
theorem dX3_cluster_22 : decode cX3_cluster 22 = .ok (.ireturn, 1) := by decide +kernel
set_option maxRecDepth 20000 in
theorem ggX3_cost_X3_refresh : GoodIn wsX3_cost wsX3_refresh := goodIn_r _ [9, 10, 1, 11, 12, 13, 2, 14, 15, 16, 17, 18, 19, 20, 21, 22, 23, 24, 25, 26, 27, 28, 29, 30, 31, 32, 33, 34, 35, 36, 37, 38, 39, 40, 41, 42, 43, 44, 45, 46, 47, 48, 49, 50, 51, 52, 53, 54, 55, 56, 57, 58, 59, 60, 61, 62, 63, 64, 65, 66, 67, 68, 69, 70, 71, 72, 73, 74, 75, 76, 77, 78, 79, 80, 81, 82, 83, 84, 85, 86, 87, 88, 89, 90, 91, 92, 93, 94, 95, 96, 97, 98, 99, 100, 101, 102, 8, 103, 3, 104, 105, 106, 119, 120, 121, 122, 123, 124, 125, 126, 127, 128, 129, 130, 131, 132, 133, 134, 135, 136, 137, 138, 139, 140, 141, 142, 143, 144, 145] (by decide +kernel) (by decide +kernel)
set_option maxRecDepth 20000 in
theorem gX3_cost_X3_refresh : GoodIn wsX3_cost (wsV RX3 85 RX3 yX3_refresh wsX3_refresh) := goodIn_app (goodIn_of _ (by decide +kernel)) ggX3_cost_X3_refresh
set_option maxRecDepth 20000 in
theorem ggX3_cost_X0_costIn : GoodIn wsX3_cost wsX0_costIn := goodIn_r _ [110, 20, 21, 22, 111, 31, 112, 113, 67, 114, 115, 116, 117, 86, 118, 90, 127, 128, 129, 130, 131, 132, 142, 143, 144, 145] (by decide +kernel) (by decide +kernel)
set_option maxRecDepth 20000 in
theorem gX3_cost_X0_costIn : GoodIn wsX3_cost (wsV RX3 108 RX0 yX0_costIn wsX0_costIn) := goodIn_app (goodIn_of _ (by decide +kernel)) ggX3_cost_X0_costIn
theorem dX3_cost_0 : decode cX3_cost 0 = .ok (.iload_n 1, 1) := by decide +kernel
theorem dX3_cost_1 : decode cX3_cost 1 = .ok (.lookupswitch 59 #[(0, 27), (1, 43)], 27) := by decide +kernel
theorem dX3_cost_28 : decode cX3_cost 28 = .ok (.aload_n 0, 1) := by decide +kernel
theorem dX3_cost_29 : decode cX3_cost 29 = .ok (.invokevirtual 85, 3) := by decide +kernel
theorem dX3_cost_32 : decode cX3_cost 32 = .ok (.aload_n 0, 1) := by decide +kernel
theorem dX3_cost_33 : decode cX3_cost 33 = .ok (.getfield 16, 3) := by decide +kernel
theorem dX3_cost_36 : decode cX3_cost 36 = .ok (.aload_n 0, 1) := by decide +kernel
theorem dX3_cost_37 : decode cX3_cost 37 = .ok (.getfield 30, 3) := by decide +kernel
theorem dX3_cost_40 : decode cX3_cost 40 = .ok (.invokevirtual 108, 3) := by decide +kernel
theorem dX3_cost_43 : decode cX3_cost 43 = .ok (.lreturn, 1) := by decide +kernel
theorem dX3_cost_44 : decode cX3_cost 44 = .ok (.aload_n 0, 1) := by decide +kernel
theorem dX3_cost_45 : decode cX3_cost 45 = .ok (.invokevirtual 85, 3) := by decide +kernel
theorem dX3_cost_48 : decode cX3_cost 48 = .ok (.aload_n 0, 1) := by decide +kernel
theorem dX3_cost_49 : decode cX3_cost 49 = .ok (.getfield 16, 3) := by decide +kernel
theorem dX3_cost_52 : decode cX3_cost 52 = .ok (.aload_n 0, 1) := by decide +kernel
theorem dX3_cost_53 : decode cX3_cost 53 = .ok (.getfield 34, 3) := by decide +kernel
theorem dX3_cost_56 : decode cX3_cost 56 = .ok (.invokevirtual 108, 3) := by decide +kernel
theorem dX3_cost_59 : decode cX3_cost 59 = .ok (.lreturn, 1) := by decide +kernel
theorem dX3_cost_60 : decode cX3_cost 60 = .ok (.ldc2_w 62, 3) := by decide +kernel
theorem dX3_cost_63 : decode cX3_cost 63 = .ok (.lreturn, 1) := by decide +kernel
theorem dX3_isFunction_0 : decode cX3_isFunction 0 = .ok (.iload_n 1, 1) := by decide +kernel
theorem dX3_isFunction_1 : decode cX3_isFunction 1 = .ok (.ifCond .lt 15, 3) := by decide +kernel
theorem dX3_isFunction_4 : decode cX3_isFunction 4 = .ok (.iload_n 1, 1) := by decide +kernel
theorem dX3_isFunction_5 : decode cX3_isFunction 5 = .ok (.aload_n 0, 1) := by decide +kernel
theorem dX3_isFunction_6 : decode cX3_isFunction 6 = .ok (.getfield 37, 3) := by decide +kernel
theorem dX3_isFunction_9 : decode cX3_isFunction 9 = .ok (.if_icmp .ge 7, 3) := by decide +kernel
theorem dX3_isFunction_12 : decode cX3_isFunction 12 = .ok (.iconst 1, 1) := by decide +kernel
theorem dX3_isFunction_13 : decode cX3_isFunction 13 = .ok (.goto 4, 3) := by decide +kernel
theorem dX3_isFunction_16 : decode cX3_isFunction 16 = .ok (.iconst 0, 1) := by decide +kernel
theorem dX3_isFunction_17 : decode cX3_isFunction 17 = .ok (.ireturn, 1) := by decide +kernel
set_option maxRecDepth 20000 in
theorem ggX3_hasSize_X3_isFunction : GoodIn wsX3_hasSize wsX3_isFunction := goodIn_r _ [6, 7, 8, 9, 10, 11, 12, 13, 14, 15] (by decide +kernel) (by decide +kernel)
set_option maxRecDepth 20000 in
theorem gX3_hasSize_X3_isFunction : GoodIn wsX3_hasSize (wsV RX3 57 RX3 yX3_isFunction wsX3_isFunction) := goodIn_app (goodIn_of _ (by decide +kernel)) ggX3_hasSize_X3_isFunction
theorem dX3_hasSize_0 : decode cX3_hasSize 0 = .ok (.aload_n 0, 1) := by decide +kernel
theorem dX3_hasSize_1 : decode cX3_hasSize 1 = .ok (.iload_n 1, 1) := by decide +kernel
theorem dX3_hasSize_2 : decode cX3_hasSize 2 = .ok (.invokevirtual 57, 3) := by decide +kernel
theorem dX3_hasSize_5 : decode cX3_hasSize 5 = .ok (.ifCond .eq 16, 3) := by decide +kernel
theorem dX3_hasSize_8 : decode cX3_hasSize 8 = .ok (.aload_n 0, 1) := by decide +kernel
theorem dX3_hasSize_9 : decode cX3_hasSize 9 = .ok (.getfield 9, 3) := by decide +kernel
theorem dX3_hasSize_12 : decode cX3_hasSize 12 = .ok (.iload_n 1, 1) := by decide +kernel
theorem dX3_hasSize_13 : decode cX3_hasSize 13 = .ok (.iaload, 1) := by decide +kernel
theorem dX3_hasSize_14 : decode cX3_hasSize 14 = .ok (.ifCond .le 7, 3) := by decide +kernel
theorem dX3_hasSize_17 : decode cX3_hasSize 17 = .ok (.iconst 1, 1) := by decide +kernel
theorem dX3_hasSize_18 : decode cX3_hasSize 18 = .ok (.goto 4, 3) := by decide +kernel
theorem dX3_hasSize_21 : decode cX3_hasSize 21 = .ok (.iconst 0, 1) := by decide +kernel
theorem dX3_hasSize_22 : decode cX3_hasSize 22 = .ok (.ireturn, 1) := by decide +kernel
set_option maxRecDepth 20000 in
theorem ggX3_refresh_X0_findCallers : GoodIn wsX3_refresh wsX0_findCallers := goodIn_r _ [11, 12, 13, 14, 15, 16, 17, 18, 19, 20, 21, 22, 10, 23, 24, 110, 111, 112, 113, 114, 115] (by decide +kernel) (by decide +kernel)
set_option maxRecDepth 20000 in
theorem gX3_refresh_X0_findCallers : GoodIn wsX3_refresh (wsV RX3 112 RX0 yX0_findCallers wsX0_findCallers) := goodIn_app (goodIn_of _ (by decide +kernel)) ggX3_refresh_X0_findCallers
set_option maxRecDepth 20000 in
theorem ggX3_refresh_X1_build : GoodIn wsX3_refresh wsX1_build := goodIn_r _ [29, 30, 31, 32, 33, 34, 35, 28, 36, 37, 38, 39, 40, 41, 42, 43, 10, 44, 45, 46, 47, 48, 49, 50, 51, 52, 53, 12, 14, 54, 55, 56, 57, 58, 59, 60, 61, 62, 63, 64, 65, 66, 67, 68, 69, 70, 71, 116, 117, 118, 119, 120, 121, 122, 123, 124, 110, 111, 112, 113, 114, 115] (by decide +kernel) (by decide +kernel)
set_option maxRecDepth 20000 in
theorem gX3_refresh_X1_build : GoodIn wsX3_refresh (wsV RX3 116 RX1 yX1_build wsX1_build) := goodIn_app (goodIn_of _ (by decide +kernel)) ggX3_refresh_X1_build
set_option maxRecDepth 20000 in
theorem ggX3_refresh_X1_writeTo : GoodIn wsX3_refresh wsX1_writeTo := goodIn_r _ [75, 66, 67, 37, 76, 77, 78, 79, 80, 81, 82, 83, 84, 85, 86, 18, 87, 88, 89, 90, 91, 92, 116, 117, 118, 119, 120, 121, 122, 123, 124, 125, 126, 127, 128] (by decide +kernel) (by decide +kernel)
set_option maxRecDepth 20000 in
theorem gX3_refresh_X1_writeTo : GoodIn wsX3_refresh (wsV RX3 120 RX1 yX1_writeTo wsX1_writeTo) := goodIn_app (goodIn_of _ (by decide +kernel)) ggX3_refresh_X1_writeTo
set_option maxRecDepth 20000 in
theorem ggX3_refresh_X3_writeByNumber : GoodIn wsX3_refresh wsX3_writeByNumber := goodIn_r _ [97, 98, 99, 3, 100, 77, 78, 79, 80, 81, 82, 83, 84, 85, 86, 18, 87, 101, 89, 90, 91, 92, 102, 103, 104, 105, 106, 107, 108, 109, 125, 126, 127, 128] (by decide +kernel) (by decide +kernel)
set_option maxRecDepth 20000 in
theorem gX3_refresh_X3_writeByNumber : GoodIn wsX3_refresh (wsV RX3 124 RX3 yX3_writeByNumber wsX3_writeByNumber) := goodIn_app (goodIn_of _ (by decide +kernel)) ggX3_refresh_X3_writeByNumber
theorem dX3_refresh_0 : decode cX3_refresh 0 = .ok (.aload_n 0, 1) := by decide +kernel
theorem dX3_refresh_1 : decode cX3_refresh 1 = .ok (.getfield 44, 3) := by decide +kernel
theorem dX3_refresh_4 : decode cX3_refresh 4 = .ok (.ifCond .ne 4, 3) := by decide +kernel
theorem dX3_refresh_7 : decode cX3_refresh 7 = .ok (.return_, 1) := by decide +kernel
theorem dX3_refresh_8 : decode cX3_refresh 8 = .ok (.aload_n 0, 1) := by decide +kernel
theorem dX3_refresh_9 : decode cX3_refresh 9 = .ok (.getfield 16, 3) := by decide +kernel
theorem dX3_refresh_12 : decode cX3_refresh 12 = .ok (.aload_n 0, 1) := by decide +kernel
theorem dX3_refresh_13 : decode cX3_refresh 13 = .ok (.getfield 9, 3) := by decide +kernel
theorem dX3_refresh_16 : decode cX3_refresh 16 = .ok (.invokevirtual 112, 3) := by decide +kernel
theorem dX3_refresh_19 : decode cX3_refresh 19 = .ok (.aload_n 0, 1) := by decide +kernel
theorem dX3_refresh_20 : decode cX3_refresh 20 = .ok (.getfield 23, 3) := by decide +kernel
theorem dX3_refresh_23 : decode cX3_refresh 23 = .ok (.aload_n 0, 1) := by decide +kernel
theorem dX3_refresh_24 : decode cX3_refresh 24 = .ok (.getfield 9, 3) := by decide +kernel
theorem dX3_refresh_27 : decode cX3_refresh 27 = .ok (.aload_n 0, 1) := by decide +kernel
theorem dX3_refresh_28 : decode cX3_refresh 28 = .ok (.getfield 16, 3) := by decide +kernel
theorem dX3_refresh_31 : decode cX3_refresh 31 = .ok (.aload_n 0, 1) := by decide +kernel
theorem dX3_refresh_32 : decode cX3_refresh 32 = .ok (.getfield 41, 3) := by decide +kernel
theorem dX3_refresh_35 : decode cX3_refresh 35 = .ok (.invokevirtual 116, 3) := by decide +kernel
theorem dX3_refresh_38 : decode cX3_refresh 38 = .ok (.aload_n 0, 1) := by decide +kernel
theorem dX3_refresh_39 : decode cX3_refresh 39 = .ok (.getfield 23, 3) := by decide +kernel
theorem dX3_refresh_42 : decode cX3_refresh 42 = .ok (.aload_n 0, 1) := by decide +kernel
theorem dX3_refresh_43 : decode cX3_refresh 43 = .ok (.getfield 30, 3) := by decide +kernel
theorem dX3_refresh_46 : decode cX3_refresh 46 = .ok (.aload_n 0, 1) := by decide +kernel
theorem dX3_refresh_47 : decode cX3_refresh 47 = .ok (.getfield 9, 3) := by decide +kernel
theorem dX3_refresh_50 : decode cX3_refresh 50 = .ok (.invokevirtual 120, 3) := by decide +kernel
theorem dX3_refresh_53 : decode cX3_refresh 53 = .ok (.aload_n 0, 1) := by decide +kernel
theorem dX3_refresh_54 : decode cX3_refresh 54 = .ok (.invokevirtual 124, 3) := by decide +kernel
theorem dX3_refresh_57 : decode cX3_refresh 57 = .ok (.aload_n 0, 1) := by decide +kernel
theorem dX3_refresh_58 : decode cX3_refresh 58 = .ok (.iconst 0, 1) := by decide +kernel
theorem dX3_refresh_59 : decode cX3_refresh 59 = .ok (.putfield 44, 3) := by decide +kernel
theorem dX3_refresh_62 : decode cX3_refresh 62 = .ok (.return_, 1) := by decide +kernel
set_option maxRecDepth 20000 in
theorem ggX3_writeByNumber_X2_empty : GoodIn wsX3_writeByNumber wsX2_empty := goodIn_r _ [8, 9, 10, 11, 12, 13, 14, 15, 16, 30, 31, 32, 33] (by decide +kernel) (by decide +kernel)
set_option maxRecDepth 20000 in
theorem gX3_writeByNumber_X2_empty : GoodIn wsX3_writeByNumber (wsV RX3 127 RX2 yX2_empty wsX2_empty) := goodIn_app (goodIn_of _ (by decide +kernel)) ggX3_writeByNumber_X2_empty
set_option maxRecDepth 20000 in
theorem ggX3_writeByNumber_X2_append : GoodIn wsX3_writeByNumber wsX2_append := goodIn_r _ [20, 9, 21, 11, 10, 30, 31, 32, 33] (by decide +kernel) (by decide +kernel)
set_option maxRecDepth 20000 in
theorem gX3_writeByNumber_X2_append : GoodIn wsX3_writeByNumber (wsV RX3 130 RX2 yX2_append wsX2_append) := goodIn_app (goodIn_of _ (by decide +kernel)) ggX3_writeByNumber_X2_append
theorem dX3_writeByNumber_0 : decode cX3_writeByNumber 0 = .ok (.aload_n 0, 1) := by decide +kernel
theorem dX3_writeByNumber_1 : decode cX3_writeByNumber 1 = .ok (.getfield 34, 3) := by decide +kernel
theorem dX3_writeByNumber_4 : decode cX3_writeByNumber 4 = .ok (.invokevirtual 127, 3) := by decide +kernel
theorem dX3_writeByNumber_7 : decode cX3_writeByNumber 7 = .ok (.iconst 0, 1) := by decide +kernel
theorem dX3_writeByNumber_8 : decode cX3_writeByNumber 8 = .ok (.istore_n 1, 1) := by decide +kernel
theorem dX3_writeByNumber_9 : decode cX3_writeByNumber 9 = .ok (.iload_n 1, 1) := by decide +kernel
theorem dX3_writeByNumber_10 : decode cX3_writeByNumber 10 = .ok (.aload_n 0, 1) := by decide +kernel
theorem dX3_writeByNumber_11 : decode cX3_writeByNumber 11 = .ok (.getfield 37, 3) := by decide +kernel
theorem dX3_writeByNumber_14 : decode cX3_writeByNumber 14 = .ok (.if_icmp .ge 32, 3) := by decide +kernel
theorem dX3_writeByNumber_17 : decode cX3_writeByNumber 17 = .ok (.aload_n 0, 1) := by decide +kernel
theorem dX3_writeByNumber_18 : decode cX3_writeByNumber 18 = .ok (.getfield 9, 3) := by decide +kernel
theorem dX3_writeByNumber_21 : decode cX3_writeByNumber 21 = .ok (.iload_n 1, 1) := by decide +kernel
theorem dX3_writeByNumber_22 : decode cX3_writeByNumber 22 = .ok (.iaload, 1) := by decide +kernel
theorem dX3_writeByNumber_23 : decode cX3_writeByNumber 23 = .ok (.ifCond .le 17, 3) := by decide +kernel
theorem dX3_writeByNumber_26 : decode cX3_writeByNumber 26 = .ok (.aload_n 0, 1) := by decide +kernel
theorem dX3_writeByNumber_27 : decode cX3_writeByNumber 27 = .ok (.getfield 34, 3) := by decide +kernel
theorem dX3_writeByNumber_30 : decode cX3_writeByNumber 30 = .ok (.iload_n 1, 1) := by decide +kernel
theorem dX3_writeByNumber_31 : decode cX3_writeByNumber 31 = .ok (.aload_n 0, 1) := by decide +kernel
theorem dX3_writeByNumber_32 : decode cX3_writeByNumber 32 = .ok (.getfield 9, 3) := by decide +kernel
theorem dX3_writeByNumber_35 : decode cX3_writeByNumber 35 = .ok (.iload_n 1, 1) := by decide +kernel
theorem dX3_writeByNumber_36 : decode cX3_writeByNumber 36 = .ok (.iaload, 1) := by decide +kernel
theorem dX3_writeByNumber_37 : decode cX3_writeByNumber 37 = .ok (.invokevirtual 130, 3) := by decide +kernel
theorem dX3_writeByNumber_40 : decode cX3_writeByNumber 40 = .ok (.iinc 1 1, 3) := by decide +kernel
theorem dX3_writeByNumber_43 : decode cX3_writeByNumber 43 = .ok (.goto (-34), 3) := by decide +kernel
theorem dX3_writeByNumber_46 : decode cX3_writeByNumber 46 = .ok (.return_, 1) := by decide +kernel
end
section
set_option maxHeartbeats 4000000 in
set_option maxRecDepth 100000 in
theorem ct_X3_isFunction (l : Launch) (dC : Nat → ClassId) (dI : Nat → Nat → Nat) (cI cJ cZ : ClassId) (sz : Nat) (x0 : Nat) (z0 h0 g0 w0 v0 : Nat) (n : Nat) (P st : Int32) (f : Int32)  : Met l yX3_isFunction wsX3_isFunction ({ frames := 0, cells := 0, slots := 0, locals := 0 }) (va_Pc [.ref x0, .int f] (fun U => U.heap.size = sz ∧ va_P (dC, dI) vwCl [(x0, .inr (3, [.ref z0, .ref h0, .ref g0, .ref w0, .ref v0, .int (nI n), .int P, .int st]))] U.heap ∧ va_K (dC, dI) vwCl [(cI, .int), (cJ, .long), (cZ, .boolean)] U ∧ va_D (fun _ => True) [(x0, .inr (3, [.ref z0, .ref h0, .ref g0, .ref w0, .ref v0, .int (nI n), .int P, .int st]))])) (va_Qi (fun (r : Int32) (uu : Unit) => r = isFI n f) (fun (uu : Unit) (t : State) => va_P (dC, dI) vwCl [(x0, .inr (3, [.ref z0, .ref h0, .ref g0, .ref w0, .ref v0, .int (nI n), .int P, .int st]))] t.heap ∧ va_K (dC, dI) vwCl [(cI, .int), (cJ, .long), (cZ, .boolean)] t ∧ va_D (va_A [(x0, .inr (3, [.ref z0, .ref h0, .ref g0, .ref w0, .ref v0, .int (nI n), .int P, .int st]))] sz) [(x0, .inr (3, [.ref z0, .ref h0, .ref g0, .ref w0, .ref v0, .int (nI n), .int P, .int st]))]) (va_A [(x0, .inr (3, [.ref z0, .ref h0, .ref g0, .ref w0, .ref v0, .int (nI n), .int P, .int st]))] sz)) 0 0 (va_A [(x0, .inr (3, [.ref z0, .ref h0, .ref g0, .ref w0, .ref v0, .int (nI n), .int P, .int st]))] sz) := by
  refine Met.ofW (cc := cX3_isFunction) (maxL := 2) (ret := (some .boolean)) (by decide) rfl ?_
  intro p ev s m args below meth c s₁ Bd hml hv
  obtain ⟨rfl, hsz, hP, hK, hD0⟩ := hv
  have hx := Bd.exec
  have hb := Bd.bytes
  have hr := Bd.returns
  have hts := atoms_spec (ws := wsX3_isFunction) Bd.pre
  have hown : s.vm.findClass RX3 = some m.cls := findClass_of_methodNamed Bd.named
  have hlocks := Bd.notSynchronized
  have hin3 : ∀ w ∈ wsX30, w ∈ wsX3_isFunction := by decide +kernel
  subst hsz
  have hD := hD0.self (sz := s.heap.size)
  generalize hAe : va_A [(x0, .inr (3, [.ref z0, .ref h0, .ref g0, .ref w0, .ref v0, .int (nI n), .int P, .int st]))] s.heap.size = A at hD ⊢
  have hA : ∀ q : Nat, s.heap.size ≤ q → A q := fun q h => by rw [← hAe]; exact Or.inr h
  have hS : va_S A s.heap s.heap [] := va_S.rf
  have hl := lv_entry ([.ref x0, .int f]) (n := 2) (Nat.le_of_ble_eq_true rfl)
  rw [lg_entry_eq]
  generalize (lg_sl ([.ref x0, .int f]) ++ List.replicate (2 - (lg_sl ([.ref x0, .int f])).length) Slot.unset).toArray = ls at hl ⊢
  have hl : lv_has ls 2 [(0, .ref x0), (1, .int f)] := hl
  generalize hHe : s.heap = H at hP ⊢
  have hS : va_S A s.heap H [] := hHe ▸ hS
  refine lv_iload_n hx hb dX3_isFunction_0 rfl (lv_at hl 1 rfl) ?_
  refine lv_if_lt (tgt := 16) hx hb dX3_isFunction_1 (by decide) (fun c_1 => ?_) (fun c_1 => ?_)
  · -- pc 1, side 0
    refine lv_iconst (v := 0) hx hb dX3_isFunction_16 (by decide) ?_
    have hP9 : va_P (dC, dI) vwCl [(x0, .inr (3, [.ref z0, .ref h0, .ref g0, .ref w0, .ref v0, .int (nI n), .int P, .int st]))] H := hP
    have hD9 : va_D A [(x0, .inr (3, [.ref z0, .ref h0, .ref g0, .ref w0, .ref v0, .int (nI n), .int P, .int st]))] := hD
    exact W.zret (v := 0) hx hb hr (by decide) (fun t ht hW => ⟨⟨0, (), rfl, by simp [isFI, c_1], by rw [ht]; exact hP9, va_K.moved hW.alike hK, hD9⟩, hS.F ht⟩) hS.2.2 dX3_isFunction_17
  · -- pc 1, side 1
    refine lv_iload_n hx hb dX3_isFunction_4 rfl (lv_at hl 1 rfl) ?_
    refine lv_aload_n hx hb dX3_isFunction_5 rfl (lv_at hl 0 rfl) ?_
    refine va_get (D := (dC, dI)) (ci := 3) (v := .int (nI n)) (C := RX3) (T := TX3) (N := 8) hx hb hts hin3 hown hK hP 0 rfl rfl 5 (by decide) (hts (.fieldLink RX3 37 "CallClusters" "functionCount" "I") (by decide +kernel)) (fun _ h9 => h9) rfl dX3_isFunction_6 ?_
    refine lv_icmp_ge (tgt := 16) hx hb dX3_isFunction_9 (by decide) (fun c_2 => ?_) (fun c_2 => ?_)
    · -- pc 9, side 0
      refine lv_iconst (v := 0) hx hb dX3_isFunction_16 (by decide) ?_
      have hP9 : va_P (dC, dI) vwCl [(x0, .inr (3, [.ref z0, .ref h0, .ref g0, .ref w0, .ref v0, .int (nI n), .int P, .int st]))] H := hP
      have hD9 : va_D A [(x0, .inr (3, [.ref z0, .ref h0, .ref g0, .ref w0, .ref v0, .int (nI n), .int P, .int st]))] := hD
      exact W.zret (v := 0) hx hb hr (by decide) (fun t ht hW => ⟨⟨0, (), rfl, by simp [isFI, c_1, c_2], by rw [ht]; exact hP9, va_K.moved hW.alike hK, hD9⟩, hS.F ht⟩) hS.2.2 dX3_isFunction_17
    · -- pc 9, side 1
      refine lv_iconst (v := 1) hx hb dX3_isFunction_12 (by decide) ?_
      refine lv_goto (tgt := 17) hx hb dX3_isFunction_13 (by decide) ?_
      have hP9 : va_P (dC, dI) vwCl [(x0, .inr (3, [.ref z0, .ref h0, .ref g0, .ref w0, .ref v0, .int (nI n), .int P, .int st]))] H := hP
      have hD9 : va_D A [(x0, .inr (3, [.ref z0, .ref h0, .ref g0, .ref w0, .ref v0, .int (nI n), .int P, .int st]))] := hD
      exact W.zret (v := 1) hx hb hr (by decide) (fun t ht hW => ⟨⟨1, (), rfl, by simp [isFI, c_1, c_2], by rw [ht]; exact hP9, va_K.moved hW.alike hK, hD9⟩, hS.F ht⟩) hS.2.2 dX3_isFunction_17
set_option maxHeartbeats 4000000 in
set_option maxRecDepth 100000 in
theorem ct_X3_hasSize (l : Launch) (dC : Nat → ClassId) (dI : Nat → Nat → Nat) (cI cJ cZ : ClassId) (sz : Nat) (x0 : Nat) (z0 : Nat) (h0 g0 w0 v0 : Nat) (n : Nat) (P st : Int32) (z : Nat → Int32) (f : Int32) (hn : n ≤ 300) : Met l yX3_hasSize wsX3_hasSize ({ frames := 1, cells := 0, slots := 0, locals := 21 }) (va_Pc [.ref x0, .int f] (fun U => U.heap.size = sz ∧ va_P (dC, dI) vwCl [(x0, .inr (3, [.ref z0, .ref h0, .ref g0, .ref w0, .ref v0, .int (nI n), .int P, .int st])), (z0, .inl (cI, 300, .inl z))] U.heap ∧ va_K (dC, dI) vwCl [(cI, .int), (cJ, .long), (cZ, .boolean)] U ∧ va_D (fun _ => True) [(x0, .inr (3, [.ref z0, .ref h0, .ref g0, .ref w0, .ref v0, .int (nI n), .int P, .int st])), (z0, .inl (cI, 300, .inl z))])) (va_Qi (fun (r : Int32) (uu : Unit) => r = hasI n z f) (fun (uu : Unit) (t : State) => va_P (dC, dI) vwCl [(x0, .inr (3, [.ref z0, .ref h0, .ref g0, .ref w0, .ref v0, .int (nI n), .int P, .int st])), (z0, .inl (cI, 300, .inl z))] t.heap ∧ va_K (dC, dI) vwCl [(cI, .int), (cJ, .long), (cZ, .boolean)] t ∧ va_D (va_A [(x0, .inr (3, [.ref z0, .ref h0, .ref g0, .ref w0, .ref v0, .int (nI n), .int P, .int st])), (z0, .inl (cI, 300, .inl z))] sz) [(x0, .inr (3, [.ref z0, .ref h0, .ref g0, .ref w0, .ref v0, .int (nI n), .int P, .int st])), (z0, .inl (cI, 300, .inl z))]) (va_A [(x0, .inr (3, [.ref z0, .ref h0, .ref g0, .ref w0, .ref v0, .int (nI n), .int P, .int st])), (z0, .inl (cI, 300, .inl z))] sz)) 0 0 (va_A [(x0, .inr (3, [.ref z0, .ref h0, .ref g0, .ref w0, .ref v0, .int (nI n), .int P, .int st])), (z0, .inl (cI, 300, .inl z))] sz) := by
  refine Met.ofW (cc := cX3_hasSize) (maxL := 2) (ret := (some .boolean)) (by decide) rfl ?_
  intro p ev s m args below meth c s₁ Bd hml hv
  obtain ⟨rfl, hsz, hP, hK, hD0⟩ := hv
  have hx := Bd.exec
  have hb := Bd.bytes
  have hr := Bd.returns
  have hts := atoms_spec (ws := wsX3_hasSize) Bd.pre
  have hown : s.vm.findClass RX3 = some m.cls := findClass_of_methodNamed Bd.named
  have hlocks := Bd.notSynchronized
  have hin3 : ∀ w ∈ wsX30, w ∈ wsX3_hasSize := by decide +kernel
  subst hsz
  have hD := hD0.self (sz := s.heap.size)
  generalize hAe : va_A [(x0, .inr (3, [.ref z0, .ref h0, .ref g0, .ref w0, .ref v0, .int (nI n), .int P, .int st])), (z0, .inl (cI, 300, .inl z))] s.heap.size = A at hD ⊢
  have hA : ∀ q : Nat, s.heap.size ≤ q → A q := fun q h => by rw [← hAe]; exact Or.inr h
  have hS : va_S A s.heap s.heap [] := va_S.rf
  have hl := lv_entry ([.ref x0, .int f]) (n := 2) (Nat.le_of_ble_eq_true rfl)
  rw [lg_entry_eq]
  generalize (lg_sl ([.ref x0, .int f]) ++ List.replicate (2 - (lg_sl ([.ref x0, .int f])).length) Slot.unset).toArray = ls at hl ⊢
  have hl : lv_has ls 2 [(0, .ref x0), (1, .int f)] := hl
  generalize hHe : s.heap = H at hP ⊢
  have hS : va_S A s.heap H [] := hHe ▸ hS
  refine lv_aload_n hx hb dX3_hasSize_0 rfl (lv_at hl 0 rfl) ?_
  refine lv_iload_n hx hb dX3_hasSize_1 rfl (lv_at hl 1 rfl) ?_
  have hPc := hP.sub (ws' := [(x0, .inr (3, [.ref z0, .ref h0, .ref g0, .ref w0, .ref v0, .int (nI n), .int P, .int st]))]) [0] rfl
  have hDc := hD.sub (ws' := [(x0, .inr (3, [.ref z0, .ref h0, .ref g0, .ref w0, .ref v0, .int (nI n), .int P, .int st]))]) [0] (by decide) rfl
  have hFc := va_free (wc := [(x0, .inr (3, [.ref z0, .ref h0, .ref g0, .ref w0, .ref v0, .int (nI n), .int P, .int st]))]) hD hS hA [0] rfl
  refine va_calli (va_runV (As := [.int f]) (rest := []) ⟨hx, hb, hml, hown, hts⟩ (ct_X3_isFunction l dC dI cI cJ cZ H.size x0 z0 h0 g0 w0 v0 n P st f ) (cwV 1 hts gX3_hasSize_X3_isFunction rfl rfl rfl (by decide +kernel) ⟨Nat.le_of_ble_eq_true rfl, Nat.le_of_ble_eq_true rfl⟩) (pre_V hK hPc hDc (ci := 3) rfl rfl) rfl rfl hl.1 rfl (lv_room (Nat.le_of_ble_eq_true rfl)) dX3_hasSize_2 ⟨Nat.zero_le _, Nat.zero_le _⟩) hS (fun q _ h => hFc q h) hFc (fun r_1 uu t H1 locs ht hvm hw hB hz1 hk1 hS => ?_)
  obtain ⟨hP1, hK1, hD1⟩ := hB
  rw [ht] at hP1
  try dsimp only at hw
  have hP1 : va_P (dC, dI) vwCl [(x0, .inr (3, [.ref z0, .ref h0, .ref g0, .ref w0, .ref v0, .int (nI n), .int P, .int st]))] H1 := hP1
  obtain ⟨hP, hD⟩ := va_join (wr := [(z0, .inl (cI, 300, .inl z))]) (w1 := [(x0, .inr (3, [.ref z0, .ref h0, .ref g0, .ref w0, .ref v0, .int (nI n), .int P, .int st]))]) hP hD [0] [1] rfl rfl (by decide) (by decide) hk1 hFc hP1 hD1
  have hP := hP.sub (ws' := [(x0, .inr (3, [.ref z0, .ref h0, .ref g0, .ref w0, .ref v0, .int (nI n), .int P, .int st])), (z0, .inl (cI, 300, .inl z))]) [1, 0] rfl
  have hD := hD.sub (ws' := [(x0, .inr (3, [.ref z0, .ref h0, .ref g0, .ref w0, .ref v0, .int (nI n), .int P, .int st])), (z0, .inl (cI, 300, .inl z))]) [1, 0] (by decide) rfl
  generalize H1 = H at hP hS ⊢
  refine lv_if_eq (tgt := 21) hx hb dX3_hasSize_5 (by decide) (fun c_2 => ?_) (fun c_2 => ?_)
  · -- pc 5, side 0
    rw [hw] at c_2
    refine lv_iconst (v := 0) hx hb dX3_hasSize_21 (by decide) ?_
    have hP9 : va_P (dC, dI) vwCl [(x0, .inr (3, [.ref z0, .ref h0, .ref g0, .ref w0, .ref v0, .int (nI n), .int P, .int st])), (z0, .inl (cI, 300, .inl z))] H := hP
    have hD9 : va_D A [(x0, .inr (3, [.ref z0, .ref h0, .ref g0, .ref w0, .ref v0, .int (nI n), .int P, .int st])), (z0, .inl (cI, 300, .inl z))] := hD
    exact W.zret (v := 0) hx hb hr (by decide) (fun t ht hW => ⟨⟨0, (), rfl, by simp [hasI, c_2], by rw [ht]; exact hP9, va_K.moved hW.alike hK, hD9⟩, hS.F ht⟩) hS.2.2 dX3_hasSize_22
  · -- pc 5, side 1
    rw [hw] at c_2
    refine lv_aload_n hx hb dX3_hasSize_8 rfl (lv_at hl 0 rfl) ?_
    refine va_get (D := (dC, dI)) (ci := 3) (v := .ref z0) (C := RX3) (T := TX3) (N := 8) hx hb hts hin3 hown hK hP 0 rfl rfl 0 (by decide) (hts (.fieldLink RX3 9 "CallClusters" "sizes" "[I") (by decide +kernel)) (fun _ h9 => h9) rfl dX3_hasSize_9 ?_
    refine lv_iload_n hx hb dX3_hasSize_12 rfl (lv_at hl 1 rfl) ?_
    refine va_iald hx hb hK hP 1 0 rfl rfl (isFI_v hn c_2) dX3_hasSize_13 ?_
    refine lv_if_le (tgt := 21) hx hb dX3_hasSize_14 (by decide) (fun c_3 => ?_) (fun c_3 => ?_)
    · -- pc 14, side 0
      refine lv_iconst (v := 0) hx hb dX3_hasSize_21 (by decide) ?_
      have hP9 : va_P (dC, dI) vwCl [(x0, .inr (3, [.ref z0, .ref h0, .ref g0, .ref w0, .ref v0, .int (nI n), .int P, .int st])), (z0, .inl (cI, 300, .inl z))] H := hP
      have hD9 : va_D A [(x0, .inr (3, [.ref z0, .ref h0, .ref g0, .ref w0, .ref v0, .int (nI n), .int P, .int st])), (z0, .inl (cI, 300, .inl z))] := hD
      exact W.zret (v := 0) hx hb hr (by decide) (fun t ht hW => ⟨⟨0, (), rfl, by simp [hasI, c_2, c_3], by rw [ht]; exact hP9, va_K.moved hW.alike hK, hD9⟩, hS.F ht⟩) hS.2.2 dX3_hasSize_22
    · -- pc 14, side 1
      refine lv_iconst (v := 1) hx hb dX3_hasSize_17 (by decide) ?_
      refine lv_goto (tgt := 22) hx hb dX3_hasSize_18 (by decide) ?_
      have hP9 : va_P (dC, dI) vwCl [(x0, .inr (3, [.ref z0, .ref h0, .ref g0, .ref w0, .ref v0, .int (nI n), .int P, .int st])), (z0, .inl (cI, 300, .inl z))] H := hP
      have hD9 : va_D A [(x0, .inr (3, [.ref z0, .ref h0, .ref g0, .ref w0, .ref v0, .int (nI n), .int P, .int st])), (z0, .inl (cI, 300, .inl z))] := hD
      exact W.zret (v := 1) hx hb hr (by decide) (fun t ht hW => ⟨⟨1, (), rfl, by simp [hasI, c_2, c_3], by rw [ht]; exact hP9, va_K.moved hW.alike hK, hD9⟩, hS.F ht⟩) hS.2.2 dX3_hasSize_22
set_option maxHeartbeats 4000000 in
set_option maxRecDepth 100000 in
theorem ct_X3_heat (l : Launch) (dC : Nat → ClassId) (dI : Nat → Nat → Nat) (cI cJ cZ : ClassId) (sz : Nat) (x0 : Nat) (h0 : Nat) (h1 : Nat) (h2 : Nat) (h3 : Nat) (h4 : Nat) (h5 : Nat) (z0 g0 w0 v0 : Nat) (n : Nat) (P st : Int32) (F T : Nat → Int32) (C : Nat → Int64) (S : Nat → Int32) (u : Nat) (f : Int32) (hn : n ≤ 300) : Met l yX3_heat wsX3_heat ({ frames := 1, cells := 0, slots := 0, locals := 21 }) (va_Pc [.ref x0, .int f] (fun U => U.heap.size = sz ∧ va_P (dC, dI) vwCl [(x0, .inr (3, [.ref z0, .ref h0, .ref g0, .ref w0, .ref v0, .int (nI n), .int P, .int st])), (h0, .inr (0, [.ref h1, .ref h2, .ref h3, .ref h4, .ref h5, .int (nI u)])), (h1, .inl (cI, 2000, .inl F)), (h2, .inl (cI, 2000, .inl T)), (h3, .inl (cJ, 2000, .inr (.inl C))), (h4, .inl (cJ, 300, .inr (.inl (hN F T C u)))), (h5, .inl (cI, 300, .inl S))] U.heap ∧ va_K (dC, dI) vwCl [(cI, .int), (cJ, .long), (cZ, .boolean)] U ∧ va_D (fun _ => True) [(x0, .inr (3, [.ref z0, .ref h0, .ref g0, .ref w0, .ref v0, .int (nI n), .int P, .int st])), (h0, .inr (0, [.ref h1, .ref h2, .ref h3, .ref h4, .ref h5, .int (nI u)])), (h1, .inl (cI, 2000, .inl F)), (h2, .inl (cI, 2000, .inl T)), (h3, .inl (cJ, 2000, .inr (.inl C))), (h4, .inl (cJ, 300, .inr (.inl (hN F T C u)))), (h5, .inl (cI, 300, .inl S))])) (va_Ql (fun (r : Int64) (uu : Unit) => r = if isFI n f = 0 then -1 else hN F T C u (f.toNatClampNeg)) (fun (uu : Unit) (t : State) => va_P (dC, dI) vwCl [(x0, .inr (3, [.ref z0, .ref h0, .ref g0, .ref w0, .ref v0, .int (nI n), .int P, .int st])), (h0, .inr (0, [.ref h1, .ref h2, .ref h3, .ref h4, .ref h5, .int (nI u)])), (h1, .inl (cI, 2000, .inl F)), (h2, .inl (cI, 2000, .inl T)), (h3, .inl (cJ, 2000, .inr (.inl C))), (h4, .inl (cJ, 300, .inr (.inl (hN F T C u)))), (h5, .inl (cI, 300, .inl S))] t.heap ∧ va_K (dC, dI) vwCl [(cI, .int), (cJ, .long), (cZ, .boolean)] t ∧ va_D (va_A [(x0, .inr (3, [.ref z0, .ref h0, .ref g0, .ref w0, .ref v0, .int (nI n), .int P, .int st])), (h0, .inr (0, [.ref h1, .ref h2, .ref h3, .ref h4, .ref h5, .int (nI u)])), (h1, .inl (cI, 2000, .inl F)), (h2, .inl (cI, 2000, .inl T)), (h3, .inl (cJ, 2000, .inr (.inl C))), (h4, .inl (cJ, 300, .inr (.inl (hN F T C u)))), (h5, .inl (cI, 300, .inl S))] sz) [(x0, .inr (3, [.ref z0, .ref h0, .ref g0, .ref w0, .ref v0, .int (nI n), .int P, .int st])), (h0, .inr (0, [.ref h1, .ref h2, .ref h3, .ref h4, .ref h5, .int (nI u)])), (h1, .inl (cI, 2000, .inl F)), (h2, .inl (cI, 2000, .inl T)), (h3, .inl (cJ, 2000, .inr (.inl C))), (h4, .inl (cJ, 300, .inr (.inl (hN F T C u)))), (h5, .inl (cI, 300, .inl S))]) (va_A [(x0, .inr (3, [.ref z0, .ref h0, .ref g0, .ref w0, .ref v0, .int (nI n), .int P, .int st])), (h0, .inr (0, [.ref h1, .ref h2, .ref h3, .ref h4, .ref h5, .int (nI u)])), (h1, .inl (cI, 2000, .inl F)), (h2, .inl (cI, 2000, .inl T)), (h3, .inl (cJ, 2000, .inr (.inl C))), (h4, .inl (cJ, 300, .inr (.inl (hN F T C u)))), (h5, .inl (cI, 300, .inl S))] sz)) 0 0 (va_A [(x0, .inr (3, [.ref z0, .ref h0, .ref g0, .ref w0, .ref v0, .int (nI n), .int P, .int st])), (h0, .inr (0, [.ref h1, .ref h2, .ref h3, .ref h4, .ref h5, .int (nI u)])), (h1, .inl (cI, 2000, .inl F)), (h2, .inl (cI, 2000, .inl T)), (h3, .inl (cJ, 2000, .inr (.inl C))), (h4, .inl (cJ, 300, .inr (.inl (hN F T C u)))), (h5, .inl (cI, 300, .inl S))] sz) := by
  refine Met.ofW (cc := cX3_heat) (maxL := 2) (ret := (some .long)) (by decide) rfl ?_
  intro p ev s m args below meth c s₁ Bd hml hv
  obtain ⟨rfl, hsz, hP, hK, hD0⟩ := hv
  have hx := Bd.exec
  have hb := Bd.bytes
  have hr := Bd.returns
  have hts := atoms_spec (ws := wsX3_heat) Bd.pre
  have hown : s.vm.findClass RX3 = some m.cls := findClass_of_methodNamed Bd.named
  have hlocks := Bd.notSynchronized
  have hin3 : ∀ w ∈ wsX30, w ∈ wsX3_heat := by decide +kernel
  subst hsz
  have hD := hD0.self (sz := s.heap.size)
  generalize hAe : va_A [(x0, .inr (3, [.ref z0, .ref h0, .ref g0, .ref w0, .ref v0, .int (nI n), .int P, .int st])), (h0, .inr (0, [.ref h1, .ref h2, .ref h3, .ref h4, .ref h5, .int (nI u)])), (h1, .inl (cI, 2000, .inl F)), (h2, .inl (cI, 2000, .inl T)), (h3, .inl (cJ, 2000, .inr (.inl C))), (h4, .inl (cJ, 300, .inr (.inl (hN F T C u)))), (h5, .inl (cI, 300, .inl S))] s.heap.size = A at hD ⊢
  have hA : ∀ q : Nat, s.heap.size ≤ q → A q := fun q h => by rw [← hAe]; exact Or.inr h
  have hS : va_S A s.heap s.heap [] := va_S.rf
  have hl := lv_entry ([.ref x0, .int f]) (n := 2) (Nat.le_of_ble_eq_true rfl)
  rw [lg_entry_eq]
  generalize (lg_sl ([.ref x0, .int f]) ++ List.replicate (2 - (lg_sl ([.ref x0, .int f])).length) Slot.unset).toArray = ls at hl ⊢
  have hl : lv_has ls 2 [(0, .ref x0), (1, .int f)] := hl
  generalize hHe : s.heap = H at hP ⊢
  have hS : va_S A s.heap H [] := hHe ▸ hS
  refine lv_aload_n hx hb dX3_heat_0 rfl (lv_at hl 0 rfl) ?_
  refine lv_iload_n hx hb dX3_heat_1 rfl (lv_at hl 1 rfl) ?_
  have hPc := hP.sub (ws' := [(x0, .inr (3, [.ref z0, .ref h0, .ref g0, .ref w0, .ref v0, .int (nI n), .int P, .int st]))]) [0] rfl
  have hDc := hD.sub (ws' := [(x0, .inr (3, [.ref z0, .ref h0, .ref g0, .ref w0, .ref v0, .int (nI n), .int P, .int st]))]) [0] (by decide) rfl
  have hFc := va_free (wc := [(x0, .inr (3, [.ref z0, .ref h0, .ref g0, .ref w0, .ref v0, .int (nI n), .int P, .int st]))]) hD hS hA [0] rfl
  refine va_calli (va_runV (As := [.int f]) (rest := []) ⟨hx, hb, hml, hown, hts⟩ (ct_X3_isFunction l dC dI cI cJ cZ H.size x0 z0 h0 g0 w0 v0 n P st f ) (cwV 1 hts gX3_heat_X3_isFunction rfl rfl rfl (by decide +kernel) ⟨Nat.le_of_ble_eq_true rfl, Nat.le_of_ble_eq_true rfl⟩) (pre_V hK hPc hDc (ci := 3) rfl rfl) rfl rfl hl.1 rfl (lv_room (Nat.le_of_ble_eq_true rfl)) dX3_heat_2 ⟨Nat.zero_le _, Nat.zero_le _⟩) hS (fun q _ h => hFc q h) hFc (fun r_1 uu t H1 locs ht hvm hw hB hz1 hk1 hS => ?_)
  obtain ⟨hP1, hK1, hD1⟩ := hB
  rw [ht] at hP1
  try dsimp only at hw
  have hP1 : va_P (dC, dI) vwCl [(x0, .inr (3, [.ref z0, .ref h0, .ref g0, .ref w0, .ref v0, .int (nI n), .int P, .int st]))] H1 := hP1
  obtain ⟨hP, hD⟩ := va_join (wr := [(h0, .inr (0, [.ref h1, .ref h2, .ref h3, .ref h4, .ref h5, .int (nI u)])), (h1, .inl (cI, 2000, .inl F)), (h2, .inl (cI, 2000, .inl T)), (h3, .inl (cJ, 2000, .inr (.inl C))), (h4, .inl (cJ, 300, .inr (.inl (hN F T C u)))), (h5, .inl (cI, 300, .inl S))]) (w1 := [(x0, .inr (3, [.ref z0, .ref h0, .ref g0, .ref w0, .ref v0, .int (nI n), .int P, .int st]))]) hP hD [0] [1, 2, 3, 4, 5, 6] rfl rfl (by decide) (by decide) hk1 hFc hP1 hD1
  have hP := hP.sub (ws' := [(x0, .inr (3, [.ref z0, .ref h0, .ref g0, .ref w0, .ref v0, .int (nI n), .int P, .int st])), (h0, .inr (0, [.ref h1, .ref h2, .ref h3, .ref h4, .ref h5, .int (nI u)])), (h1, .inl (cI, 2000, .inl F)), (h2, .inl (cI, 2000, .inl T)), (h3, .inl (cJ, 2000, .inr (.inl C))), (h4, .inl (cJ, 300, .inr (.inl (hN F T C u)))), (h5, .inl (cI, 300, .inl S))]) [6, 0, 1, 2, 3, 4, 5] rfl
  have hD := hD.sub (ws' := [(x0, .inr (3, [.ref z0, .ref h0, .ref g0, .ref w0, .ref v0, .int (nI n), .int P, .int st])), (h0, .inr (0, [.ref h1, .ref h2, .ref h3, .ref h4, .ref h5, .int (nI u)])), (h1, .inl (cI, 2000, .inl F)), (h2, .inl (cI, 2000, .inl T)), (h3, .inl (cJ, 2000, .inr (.inl C))), (h4, .inl (cJ, 300, .inr (.inl (hN F T C u)))), (h5, .inl (cI, 300, .inl S))]) [6, 0, 1, 2, 3, 4, 5] (by decide) rfl
  generalize H1 = H at hP hS ⊢
  refine lv_if_eq (tgt := 19) hx hb dX3_heat_5 (by decide) (fun c_2 => ?_) (fun c_2 => ?_)
  · -- pc 5, side 0
    rw [hw] at c_2
    refine lv_ldc2 (v := (-1)) hx hb hown (hts (.constantLong RX3 62 (-1)) (by decide +kernel)) dX3_heat_19 ?_
    have hP9 : va_P (dC, dI) vwCl [(x0, .inr (3, [.ref z0, .ref h0, .ref g0, .ref w0, .ref v0, .int (nI n), .int P, .int st])), (h0, .inr (0, [.ref h1, .ref h2, .ref h3, .ref h4, .ref h5, .int (nI u)])), (h1, .inl (cI, 2000, .inl F)), (h2, .inl (cI, 2000, .inl T)), (h3, .inl (cJ, 2000, .inr (.inl C))), (h4, .inl (cJ, 300, .inr (.inl (hN F T C u)))), (h5, .inl (cI, 300, .inl S))] H := hP
    have hD9 : va_D A [(x0, .inr (3, [.ref z0, .ref h0, .ref g0, .ref w0, .ref v0, .int (nI n), .int P, .int st])), (h0, .inr (0, [.ref h1, .ref h2, .ref h3, .ref h4, .ref h5, .int (nI u)])), (h1, .inl (cI, 2000, .inl F)), (h2, .inl (cI, 2000, .inl T)), (h3, .inl (cJ, 2000, .inr (.inl C))), (h4, .inl (cJ, 300, .inr (.inl (hN F T C u)))), (h5, .inl (cI, 300, .inl S))] := hD
    exact W.lret (v := (-1)) hx hb hr (fun t ht hW => ⟨⟨(-1), (), rfl, by simp [c_2], by rw [ht]; exact hP9, va_K.moved hW.alike hK, hD9⟩, hS.F ht⟩) hS.2.2 dX3_heat_22
  · -- pc 5, side 1
    rw [hw] at c_2
    refine lv_aload_n hx hb dX3_heat_8 rfl (lv_at hl 0 rfl) ?_
    refine va_get (D := (dC, dI)) (ci := 3) (v := .ref h0) (C := RX3) (T := TX3) (N := 8) hx hb hts hin3 hown hK hP 0 rfl rfl 1 (by decide) (hts (.fieldLink RX3 16 "CallClusters" "table" "LCallClusters$CallTable;") (by decide +kernel)) (fun _ h9 => h9) rfl dX3_heat_9 ?_
    refine lv_iload_n hx hb dX3_heat_12 rfl (lv_at hl 1 rfl) ?_
    have hPc := hP.sub (ws' := [(h0, .inr (0, [.ref h1, .ref h2, .ref h3, .ref h4, .ref h5, .int (nI u)])), (h1, .inl (cI, 2000, .inl F)), (h2, .inl (cI, 2000, .inl T)), (h3, .inl (cJ, 2000, .inr (.inl C))), (h4, .inl (cJ, 300, .inr (.inl (hN F T C u)))), (h5, .inl (cI, 300, .inl S))]) [1, 2, 3, 4, 5, 6] rfl
    have hDc := hD.sub (ws' := [(h0, .inr (0, [.ref h1, .ref h2, .ref h3, .ref h4, .ref h5, .int (nI u)])), (h1, .inl (cI, 2000, .inl F)), (h2, .inl (cI, 2000, .inl T)), (h3, .inl (cJ, 2000, .inr (.inl C))), (h4, .inl (cJ, 300, .inr (.inl (hN F T C u)))), (h5, .inl (cI, 300, .inl S))]) [1, 2, 3, 4, 5, 6] (by decide) rfl
    have hFc := va_free (wc := [(h0, .inr (0, [.ref h1, .ref h2, .ref h3, .ref h4, .ref h5, .int (nI u)])), (h1, .inl (cI, 2000, .inl F)), (h2, .inl (cI, 2000, .inl T)), (h3, .inl (cJ, 2000, .inr (.inl C))), (h4, .inl (cJ, 300, .inr (.inl (hN F T C u)))), (h5, .inl (cI, 300, .inl S))]) hD hS hA [1, 2, 3, 4, 5, 6] rfl
    refine va_calll (va_runV (As := [.int f]) (rest := []) ⟨hx, hb, hml, hown, hts⟩ (ct_X0_heatOf l dC dI cI cJ cZ H.size h0 h1 h2 h3 h4 h5 F T C (hN F T C u) S u f (isFI_v hn c_2)) (cwV 1 hts gX3_heat_X0_heatOf rfl rfl rfl (by decide +kernel) ⟨Nat.le_of_ble_eq_true rfl, Nat.le_of_ble_eq_true rfl⟩) (pre_V hK hPc hDc (ci := 0) rfl rfl) rfl rfl hl.1 rfl (lv_room (Nat.le_of_ble_eq_true rfl)) dX3_heat_13 ⟨Nat.zero_le _, Nat.zero_le _⟩) hS (fun q _ h => hFc q h) hFc (fun r_3 uu t H1 locs ht hvm hw hB hz1 hk1 hS => ?_)
    obtain ⟨hP1, hK1, hD1⟩ := hB
    rw [ht] at hP1
    try dsimp only at hw
    have hP1 : va_P (dC, dI) vwCl [(h0, .inr (0, [.ref h1, .ref h2, .ref h3, .ref h4, .ref h5, .int (nI u)])), (h1, .inl (cI, 2000, .inl F)), (h2, .inl (cI, 2000, .inl T)), (h3, .inl (cJ, 2000, .inr (.inl C))), (h4, .inl (cJ, 300, .inr (.inl (hN F T C u)))), (h5, .inl (cI, 300, .inl S))] H1 := hP1
    obtain ⟨hP, hD⟩ := va_join (wr := [(x0, .inr (3, [.ref z0, .ref h0, .ref g0, .ref w0, .ref v0, .int (nI n), .int P, .int st]))]) (w1 := [(h0, .inr (0, [.ref h1, .ref h2, .ref h3, .ref h4, .ref h5, .int (nI u)])), (h1, .inl (cI, 2000, .inl F)), (h2, .inl (cI, 2000, .inl T)), (h3, .inl (cJ, 2000, .inr (.inl C))), (h4, .inl (cJ, 300, .inr (.inl (hN F T C u)))), (h5, .inl (cI, 300, .inl S))]) hP hD [1, 2, 3, 4, 5, 6] [0] rfl rfl (by decide) (by decide) hk1 hFc hP1 hD1
    have hP := hP.sub (ws' := [(x0, .inr (3, [.ref z0, .ref h0, .ref g0, .ref w0, .ref v0, .int (nI n), .int P, .int st])), (h0, .inr (0, [.ref h1, .ref h2, .ref h3, .ref h4, .ref h5, .int (nI u)])), (h1, .inl (cI, 2000, .inl F)), (h2, .inl (cI, 2000, .inl T)), (h3, .inl (cJ, 2000, .inr (.inl C))), (h4, .inl (cJ, 300, .inr (.inl (hN F T C u)))), (h5, .inl (cI, 300, .inl S))]) [0, 1, 2, 3, 4, 5, 6] rfl
    have hD := hD.sub (ws' := [(x0, .inr (3, [.ref z0, .ref h0, .ref g0, .ref w0, .ref v0, .int (nI n), .int P, .int st])), (h0, .inr (0, [.ref h1, .ref h2, .ref h3, .ref h4, .ref h5, .int (nI u)])), (h1, .inl (cI, 2000, .inl F)), (h2, .inl (cI, 2000, .inl T)), (h3, .inl (cJ, 2000, .inr (.inl C))), (h4, .inl (cJ, 300, .inr (.inl (hN F T C u)))), (h5, .inl (cI, 300, .inl S))]) [0, 1, 2, 3, 4, 5, 6] (by decide) rfl
    generalize H1 = H at hP hS ⊢
    subst hw
    refine lv_goto (tgt := 22) hx hb dX3_heat_16 (by decide) ?_
    have hP9 : va_P (dC, dI) vwCl [(x0, .inr (3, [.ref z0, .ref h0, .ref g0, .ref w0, .ref v0, .int (nI n), .int P, .int st])), (h0, .inr (0, [.ref h1, .ref h2, .ref h3, .ref h4, .ref h5, .int (nI u)])), (h1, .inl (cI, 2000, .inl F)), (h2, .inl (cI, 2000, .inl T)), (h3, .inl (cJ, 2000, .inr (.inl C))), (h4, .inl (cJ, 300, .inr (.inl (hN F T C u)))), (h5, .inl (cI, 300, .inl S))] H := hP
    have hD9 : va_D A [(x0, .inr (3, [.ref z0, .ref h0, .ref g0, .ref w0, .ref v0, .int (nI n), .int P, .int st])), (h0, .inr (0, [.ref h1, .ref h2, .ref h3, .ref h4, .ref h5, .int (nI u)])), (h1, .inl (cI, 2000, .inl F)), (h2, .inl (cI, 2000, .inl T)), (h3, .inl (cJ, 2000, .inr (.inl C))), (h4, .inl (cJ, 300, .inr (.inl (hN F T C u)))), (h5, .inl (cI, 300, .inl S))] := hD
    exact W.lret (v := hN F T C u (f.toNatClampNeg)) hx hb hr (fun t ht hW => ⟨⟨hN F T C u (f.toNatClampNeg), (), rfl, by simp [c_2], by rw [ht]; exact hP9, va_K.moved hW.alike hK, hD9⟩, hS.F ht⟩) hS.2.2 dX3_heat_22
set_option maxHeartbeats 4000000 in
set_option maxRecDepth 100000 in
theorem ct_X3_page (l : Launch) (dC : Nat → ClassId) (dI : Nat → Nat → Nat) (cI cJ cZ : ClassId) (sz : Nat) (x0 : Nat) (z0 h0 g0 w0 v0 : Nat) (n : Nat) (P st : Int32) (y : Int32)  : Met l yX3_page wsX3_page ({ frames := 0, cells := 0, slots := 0, locals := 0 }) (va_Pc [.ref x0, .int y] (fun U => U.heap.size = sz ∧ va_P (dC, dI) vwCl [(x0, .inr (3, [.ref z0, .ref h0, .ref g0, .ref w0, .ref v0, .int (nI n), .int P, .int st]))] U.heap ∧ va_K (dC, dI) vwCl [(cI, .int), (cJ, .long), (cZ, .boolean)] U ∧ va_D (fun _ => True) [(x0, .inr (3, [.ref z0, .ref h0, .ref g0, .ref w0, .ref v0, .int (nI n), .int P, .int st]))])) (va_Qi (fun (r : Int32) (uu : Int32 × Int32) => match uu with | (P', st') => (r = 0 ∧ P' = P ∧ st' = st ∧ (y < 1 ∨ 100000000 < y)) ∨ (r = 1 ∧ P' = y ∧ st' = 1 ∧ ¬ y < 1 ∧ ¬ 100000000 < y)) (fun (uu : Int32 × Int32) (t : State) => match uu with | (P', st') => va_P (dC, dI) vwCl [(x0, .inr (3, [.ref z0, .ref h0, .ref g0, .ref w0, .ref v0, .int (nI n), .int (P'), .int (st')]))] t.heap ∧ va_K (dC, dI) vwCl [(cI, .int), (cJ, .long), (cZ, .boolean)] t ∧ va_D (va_A [(x0, .inr (3, [.ref z0, .ref h0, .ref g0, .ref w0, .ref v0, .int (nI n), .int P, .int st]))] sz) [(x0, .inr (3, [.ref z0, .ref h0, .ref g0, .ref w0, .ref v0, .int (nI n), .int (P'), .int (st')]))]) (va_A [(x0, .inr (3, [.ref z0, .ref h0, .ref g0, .ref w0, .ref v0, .int (nI n), .int P, .int st]))] sz)) 0 0 (va_A [(x0, .inr (3, [.ref z0, .ref h0, .ref g0, .ref w0, .ref v0, .int (nI n), .int P, .int st]))] sz) := by
  refine Met.ofW (cc := cX3_page) (maxL := 2) (ret := (some .boolean)) (by decide) rfl ?_
  intro p ev s m args below meth c s₁ Bd hml hv
  obtain ⟨rfl, hsz, hP, hK, hD0⟩ := hv
  have hx := Bd.exec
  have hb := Bd.bytes
  have hr := Bd.returns
  have hts := atoms_spec (ws := wsX3_page) Bd.pre
  have hown : s.vm.findClass RX3 = some m.cls := findClass_of_methodNamed Bd.named
  have hlocks := Bd.notSynchronized
  have hin3 : ∀ w ∈ wsX30, w ∈ wsX3_page := by decide +kernel
  subst hsz
  have hD := hD0.self (sz := s.heap.size)
  generalize hAe : va_A [(x0, .inr (3, [.ref z0, .ref h0, .ref g0, .ref w0, .ref v0, .int (nI n), .int P, .int st]))] s.heap.size = A at hD ⊢
  have hA : ∀ q : Nat, s.heap.size ≤ q → A q := fun q h => by rw [← hAe]; exact Or.inr h
  have hS : va_S A s.heap s.heap [] := va_S.rf
  have hl := lv_entry ([.ref x0, .int y]) (n := 2) (Nat.le_of_ble_eq_true rfl)
  rw [lg_entry_eq]
  generalize (lg_sl ([.ref x0, .int y]) ++ List.replicate (2 - (lg_sl ([.ref x0, .int y])).length) Slot.unset).toArray = ls at hl ⊢
  have hl : lv_has ls 2 [(0, .ref x0), (1, .int y)] := hl
  generalize hHe : s.heap = H at hP ⊢
  have hS : va_S A s.heap H [] := hHe ▸ hS
  refine lv_iload_n hx hb dX3_page_0 rfl (lv_at hl 1 rfl) ?_
  refine lv_iconst (v := 1) hx hb dX3_page_1 (by decide) ?_
  refine lv_icmp_lt (tgt := 11) hx hb dX3_page_2 (by decide) (fun c_1 => ?_) (fun c_1 => ?_)
  · -- pc 2, side 0
    refine lv_iconst (v := 0) hx hb dX3_page_11 (by decide) ?_
    have hP9 : va_P (dC, dI) vwCl [(x0, .inr (3, [.ref z0, .ref h0, .ref g0, .ref w0, .ref v0, .int (nI n), .int P, .int st]))] H := hP
    have hD9 : va_D A [(x0, .inr (3, [.ref z0, .ref h0, .ref g0, .ref w0, .ref v0, .int (nI n), .int P, .int st]))] := hD
    exact W.zret (v := 0) hx hb hr (by decide) (fun t ht hW => ⟨⟨0, (P, st), rfl, Or.inl ⟨rfl, rfl, rfl, Or.inl c_1⟩, by rw [ht]; exact hP9, va_K.moved hW.alike hK, hD9⟩, hS.F ht⟩) hS.2.2 dX3_page_12
  · -- pc 2, side 1
    refine lv_iload_n hx hb dX3_page_5 rfl (lv_at hl 1 rfl) ?_
    refine lv_ldc (v := 100000000) hx hb hown (hts (.constant RX3 77 (100000000)) (by decide +kernel)) dX3_page_6 ?_
    refine lv_icmp_le (tgt := 13) hx hb dX3_page_8 (by decide) (fun c_2 => ?_) (fun c_2 => ?_)
    · -- pc 8, side 0
      refine lv_aload_n hx hb dX3_page_13 rfl (lv_at hl 0 rfl) ?_
      refine lv_iload_n hx hb dX3_page_14 rfl (lv_at hl 1 rfl) ?_
      refine va_put (D := (dC, dI)) (ci := 3) (v := .int y) (ty := .int) (C := RX3) (T := TX3) (N := 8) hx hb hts hin3 tyX3 tyX3_ok nmX3 hown hK hP hD hS 0 rfl rfl 6 (by decide) (hts (.fieldLink RX3 41 "CallClusters" "pageBytes" "I") (by decide +kernel)) (fun _ h9 => h9) rfl (by decide +kernel) (rfl) (rfl) (Nat.le_of_ble_eq_true rfl) dX3_page_15 (fun H locs hP hD hS => ?_)
      have hP : va_P (dC, dI) vwCl [(x0, .inr (3, [.ref z0, .ref h0, .ref g0, .ref w0, .ref v0, .int (nI n), .int y, .int st]))] H := hP
      have hD : va_D A [(x0, .inr (3, [.ref z0, .ref h0, .ref g0, .ref w0, .ref v0, .int (nI n), .int y, .int st]))] := hD
      refine lv_aload_n hx hb dX3_page_18 rfl (lv_at hl 0 rfl) ?_
      refine lv_iconst (v := 1) hx hb dX3_page_19 (by decide) ?_
      refine va_put (D := (dC, dI)) (ci := 3) (v := .int 1) (ty := .boolean) (C := RX3) (T := TX3) (N := 8) hx hb hts hin3 tyX3 tyX3_ok nmX3 hown hK hP hD hS 0 rfl rfl 7 (by decide) (hts (.fieldLink RX3 44 "CallClusters" "stale" "Z") (by decide +kernel)) (fun _ h9 => h9) rfl (by decide +kernel) (by decide) (by decide) (Nat.le_of_ble_eq_true rfl) dX3_page_20 (fun H locs hP hD hS => ?_)
      have hP : va_P (dC, dI) vwCl [(x0, .inr (3, [.ref z0, .ref h0, .ref g0, .ref w0, .ref v0, .int (nI n), .int y, .int 1]))] H := hP
      have hD : va_D A [(x0, .inr (3, [.ref z0, .ref h0, .ref g0, .ref w0, .ref v0, .int (nI n), .int y, .int 1]))] := hD
      refine lv_iconst (v := 1) hx hb dX3_page_23 (by decide) ?_
      have hP9 : va_P (dC, dI) vwCl [(x0, .inr (3, [.ref z0, .ref h0, .ref g0, .ref w0, .ref v0, .int (nI n), .int y, .int 1]))] H := hP
      have hD9 : va_D A [(x0, .inr (3, [.ref z0, .ref h0, .ref g0, .ref w0, .ref v0, .int (nI n), .int y, .int 1]))] := hD
      exact W.zret (v := 1) hx hb hr (by decide) (fun t ht hW => ⟨⟨1, (y, 1), rfl, Or.inr ⟨rfl, rfl, rfl, c_1, Int32.not_lt.mpr c_2⟩, by rw [ht]; exact hP9, va_K.moved hW.alike hK, hD9⟩, hS.F ht⟩) hS.2.2 dX3_page_24
    · -- pc 8, side 1
      refine lv_iconst (v := 0) hx hb dX3_page_11 (by decide) ?_
      have hP9 : va_P (dC, dI) vwCl [(x0, .inr (3, [.ref z0, .ref h0, .ref g0, .ref w0, .ref v0, .int (nI n), .int P, .int st]))] H := hP
      have hD9 : va_D A [(x0, .inr (3, [.ref z0, .ref h0, .ref g0, .ref w0, .ref v0, .int (nI n), .int P, .int st]))] := hD
      exact W.zret (v := 0) hx hb hr (by decide) (fun t ht hW => ⟨⟨0, (P, st), rfl, Or.inl ⟨rfl, rfl, rfl, Or.inr (Int32.not_le.mp c_2)⟩, by rw [ht]; exact hP9, va_K.moved hW.alike hK, hD9⟩, hS.F ht⟩) hS.2.2 dX3_page_12
set_option maxHeartbeats 4000000 in
set_option maxRecDepth 100000 in
theorem ct_X3_size (l : Launch) (dC : Nat → ClassId) (dI : Nat → Nat → Nat) (cI cJ cZ : ClassId) (sz : Nat) (x0 : Nat) (z0 : Nat) (h0 g0 w0 v0 : Nat) (n : Nat) (P st : Int32) (z : Nat → Int32) (f y : Int32) (hn : n ≤ 300) : Met l yX3_size wsX3_size ({ frames := 1, cells := 0, slots := 0, locals := 21 }) (va_Pc [.ref x0, .int f, .int y] (fun U => U.heap.size = sz ∧ va_P (dC, dI) vwCl [(x0, .inr (3, [.ref z0, .ref h0, .ref g0, .ref w0, .ref v0, .int (nI n), .int P, .int st])), (z0, .inl (cI, 300, .inl z))] U.heap ∧ va_K (dC, dI) vwCl [(cI, .int), (cJ, .long), (cZ, .boolean)] U ∧ va_D (fun _ => True) [(x0, .inr (3, [.ref z0, .ref h0, .ref g0, .ref w0, .ref v0, .int (nI n), .int P, .int st])), (z0, .inl (cI, 300, .inl z))])) (va_Qi (fun (r : Int32) (uu : (Nat → Int32) × Int32) => match uu with | (z', st') => (r = 0 ∧ z' = z ∧ st' = st ∧ (isFI n f = 0 ∨ y < 0 ∨ 1000000 < y)) ∨ (r = 1 ∧ z' = upd z (f.toNatClampNeg) y ∧ st' = 1 ∧ ¬ isFI n f = 0 ∧ ¬ y < 0 ∧ ¬ 1000000 < y)) (fun (uu : (Nat → Int32) × Int32) (t : State) => match uu with | (z', st') => va_P (dC, dI) vwCl [(x0, .inr (3, [.ref z0, .ref h0, .ref g0, .ref w0, .ref v0, .int (nI n), .int P, .int (st')])), (z0, .inl (cI, 300, .inl (z')))] t.heap ∧ va_K (dC, dI) vwCl [(cI, .int), (cJ, .long), (cZ, .boolean)] t ∧ va_D (va_A [(x0, .inr (3, [.ref z0, .ref h0, .ref g0, .ref w0, .ref v0, .int (nI n), .int P, .int st])), (z0, .inl (cI, 300, .inl z))] sz) [(x0, .inr (3, [.ref z0, .ref h0, .ref g0, .ref w0, .ref v0, .int (nI n), .int P, .int (st')])), (z0, .inl (cI, 300, .inl (z')))]) (va_A [(x0, .inr (3, [.ref z0, .ref h0, .ref g0, .ref w0, .ref v0, .int (nI n), .int P, .int st])), (z0, .inl (cI, 300, .inl z))] sz)) 0 0 (va_A [(x0, .inr (3, [.ref z0, .ref h0, .ref g0, .ref w0, .ref v0, .int (nI n), .int P, .int st])), (z0, .inl (cI, 300, .inl z))] sz) := by
  refine Met.ofW (cc := cX3_size) (maxL := 3) (ret := (some .boolean)) (by decide) rfl ?_
  intro p ev s m args below meth c s₁ Bd hml hv
  obtain ⟨rfl, hsz, hP, hK, hD0⟩ := hv
  have hx := Bd.exec
  have hb := Bd.bytes
  have hr := Bd.returns
  have hts := atoms_spec (ws := wsX3_size) Bd.pre
  have hown : s.vm.findClass RX3 = some m.cls := findClass_of_methodNamed Bd.named
  have hlocks := Bd.notSynchronized
  have hin3 : ∀ w ∈ wsX30, w ∈ wsX3_size := by decide +kernel
  subst hsz
  have hD := hD0.self (sz := s.heap.size)
  generalize hAe : va_A [(x0, .inr (3, [.ref z0, .ref h0, .ref g0, .ref w0, .ref v0, .int (nI n), .int P, .int st])), (z0, .inl (cI, 300, .inl z))] s.heap.size = A at hD ⊢
  have hA : ∀ q : Nat, s.heap.size ≤ q → A q := fun q h => by rw [← hAe]; exact Or.inr h
  have hS : va_S A s.heap s.heap [] := va_S.rf
  have hl := lv_entry ([.ref x0, .int f, .int y]) (n := 3) (Nat.le_of_ble_eq_true rfl)
  rw [lg_entry_eq]
  generalize (lg_sl ([.ref x0, .int f, .int y]) ++ List.replicate (3 - (lg_sl ([.ref x0, .int f, .int y])).length) Slot.unset).toArray = ls at hl ⊢
  have hl : lv_has ls 3 [(0, .ref x0), (1, .int f), (2, .int y)] := hl
  generalize hHe : s.heap = H at hP ⊢
  have hS : va_S A s.heap H [] := hHe ▸ hS
  refine lv_aload_n hx hb dX3_size_0 rfl (lv_at hl 0 rfl) ?_
  refine lv_iload_n hx hb dX3_size_1 rfl (lv_at hl 1 rfl) ?_
  have hPc := hP.sub (ws' := [(x0, .inr (3, [.ref z0, .ref h0, .ref g0, .ref w0, .ref v0, .int (nI n), .int P, .int st]))]) [0] rfl
  have hDc := hD.sub (ws' := [(x0, .inr (3, [.ref z0, .ref h0, .ref g0, .ref w0, .ref v0, .int (nI n), .int P, .int st]))]) [0] (by decide) rfl
  have hFc := va_free (wc := [(x0, .inr (3, [.ref z0, .ref h0, .ref g0, .ref w0, .ref v0, .int (nI n), .int P, .int st]))]) hD hS hA [0] rfl
  refine va_calli (va_runV (As := [.int f]) (rest := []) ⟨hx, hb, hml, hown, hts⟩ (ct_X3_isFunction l dC dI cI cJ cZ H.size x0 z0 h0 g0 w0 v0 n P st f ) (cwV 1 hts gX3_size_X3_isFunction rfl rfl rfl (by decide +kernel) ⟨Nat.le_of_ble_eq_true rfl, Nat.le_of_ble_eq_true rfl⟩) (pre_V hK hPc hDc (ci := 3) rfl rfl) rfl rfl hl.1 rfl (lv_room (Nat.le_of_ble_eq_true rfl)) dX3_size_2 ⟨Nat.zero_le _, Nat.zero_le _⟩) hS (fun q _ h => hFc q h) hFc (fun r_1 uu t H1 locs ht hvm hw hB hz1 hk1 hS => ?_)
  obtain ⟨hP1, hK1, hD1⟩ := hB
  rw [ht] at hP1
  try dsimp only at hw
  have hP1 : va_P (dC, dI) vwCl [(x0, .inr (3, [.ref z0, .ref h0, .ref g0, .ref w0, .ref v0, .int (nI n), .int P, .int st]))] H1 := hP1
  obtain ⟨hP, hD⟩ := va_join (wr := [(z0, .inl (cI, 300, .inl z))]) (w1 := [(x0, .inr (3, [.ref z0, .ref h0, .ref g0, .ref w0, .ref v0, .int (nI n), .int P, .int st]))]) hP hD [0] [1] rfl rfl (by decide) (by decide) hk1 hFc hP1 hD1
  have hP := hP.sub (ws' := [(x0, .inr (3, [.ref z0, .ref h0, .ref g0, .ref w0, .ref v0, .int (nI n), .int P, .int st])), (z0, .inl (cI, 300, .inl z))]) [1, 0] rfl
  have hD := hD.sub (ws' := [(x0, .inr (3, [.ref z0, .ref h0, .ref g0, .ref w0, .ref v0, .int (nI n), .int P, .int st])), (z0, .inl (cI, 300, .inl z))]) [1, 0] (by decide) rfl
  generalize H1 = H at hP hS ⊢
  refine lv_if_eq (tgt := 18) hx hb dX3_size_5 (by decide) (fun c_2 => ?_) (fun c_2 => ?_)
  · -- pc 5, side 0
    rw [hw] at c_2
    refine lv_iconst (v := 0) hx hb dX3_size_18 (by decide) ?_
    have hP9 : va_P (dC, dI) vwCl [(x0, .inr (3, [.ref z0, .ref h0, .ref g0, .ref w0, .ref v0, .int (nI n), .int P, .int st])), (z0, .inl (cI, 300, .inl z))] H := hP
    have hD9 : va_D A [(x0, .inr (3, [.ref z0, .ref h0, .ref g0, .ref w0, .ref v0, .int (nI n), .int P, .int st])), (z0, .inl (cI, 300, .inl z))] := hD
    exact W.zret (v := 0) hx hb hr (by decide) (fun t ht hW => ⟨⟨0, (z, st), rfl, Or.inl ⟨rfl, rfl, rfl, Or.inl c_2⟩, by rw [ht]; exact hP9, va_K.moved hW.alike hK, hD9⟩, hS.F ht⟩) hS.2.2 dX3_size_19
  · -- pc 5, side 1
    rw [hw] at c_2
    refine lv_iload_n hx hb dX3_size_8 rfl (lv_at hl 2 rfl) ?_
    refine lv_if_lt (tgt := 18) hx hb dX3_size_9 (by decide) (fun c_3 => ?_) (fun c_3 => ?_)
    · -- pc 9, side 0
      refine lv_iconst (v := 0) hx hb dX3_size_18 (by decide) ?_
      have hP9 : va_P (dC, dI) vwCl [(x0, .inr (3, [.ref z0, .ref h0, .ref g0, .ref w0, .ref v0, .int (nI n), .int P, .int st])), (z0, .inl (cI, 300, .inl z))] H := hP
      have hD9 : va_D A [(x0, .inr (3, [.ref z0, .ref h0, .ref g0, .ref w0, .ref v0, .int (nI n), .int P, .int st])), (z0, .inl (cI, 300, .inl z))] := hD
      exact W.zret (v := 0) hx hb hr (by decide) (fun t ht hW => ⟨⟨0, (z, st), rfl, Or.inl ⟨rfl, rfl, rfl, Or.inr (Or.inl c_3)⟩, by rw [ht]; exact hP9, va_K.moved hW.alike hK, hD9⟩, hS.F ht⟩) hS.2.2 dX3_size_19
    · -- pc 9, side 1
      refine lv_iload_n hx hb dX3_size_12 rfl (lv_at hl 2 rfl) ?_
      refine lv_ldc (v := 1000000) hx hb hown (hts (.constant RX3 61 (1000000)) (by decide +kernel)) dX3_size_13 ?_
      refine lv_icmp_le (tgt := 20) hx hb dX3_size_15 (by decide) (fun c_4 => ?_) (fun c_4 => ?_)
      · -- pc 15, side 0
        refine lv_aload_n hx hb dX3_size_20 rfl (lv_at hl 0 rfl) ?_
        refine va_get (D := (dC, dI)) (ci := 3) (v := .ref z0) (C := RX3) (T := TX3) (N := 8) hx hb hts hin3 hown hK hP 0 rfl rfl 0 (by decide) (hts (.fieldLink RX3 9 "CallClusters" "sizes" "[I") (by decide +kernel)) (fun _ h9 => h9) rfl dX3_size_21 ?_
        refine lv_iload_n hx hb dX3_size_24 rfl (lv_at hl 1 rfl) ?_
        refine lv_iload_n hx hb dX3_size_25 rfl (lv_at hl 2 rfl) ?_
        refine va_iast hx hb hK hP hD hS 1 0 rfl rfl (isFI_v hn c_2) dX3_size_26 (fun H locs hP hD hS => ?_)
        have hP : va_P (dC, dI) vwCl [(x0, .inr (3, [.ref z0, .ref h0, .ref g0, .ref w0, .ref v0, .int (nI n), .int P, .int st])), (z0, .inl (cI, 300, .inl (upd z (f.toNatClampNeg) y)))] H := hP
        have hD : va_D A [(x0, .inr (3, [.ref z0, .ref h0, .ref g0, .ref w0, .ref v0, .int (nI n), .int P, .int st])), (z0, .inl (cI, 300, .inl (upd z (f.toNatClampNeg) y)))] := hD
        refine lv_aload_n hx hb dX3_size_27 rfl (lv_at hl 0 rfl) ?_
        refine lv_iconst (v := 1) hx hb dX3_size_28 (by decide) ?_
        refine va_put (D := (dC, dI)) (ci := 3) (v := .int 1) (ty := .boolean) (C := RX3) (T := TX3) (N := 8) hx hb hts hin3 tyX3 tyX3_ok nmX3 hown hK hP hD hS 0 rfl rfl 7 (by decide) (hts (.fieldLink RX3 44 "CallClusters" "stale" "Z") (by decide +kernel)) (fun _ h9 => h9) rfl (by decide +kernel) (by decide) (by decide) (Nat.le_of_ble_eq_true rfl) dX3_size_29 (fun H locs hP hD hS => ?_)
        have hP : va_P (dC, dI) vwCl [(x0, .inr (3, [.ref z0, .ref h0, .ref g0, .ref w0, .ref v0, .int (nI n), .int P, .int 1])), (z0, .inl (cI, 300, .inl (upd z (f.toNatClampNeg) y)))] H := hP
        have hD : va_D A [(x0, .inr (3, [.ref z0, .ref h0, .ref g0, .ref w0, .ref v0, .int (nI n), .int P, .int 1])), (z0, .inl (cI, 300, .inl (upd z (f.toNatClampNeg) y)))] := hD
        refine lv_iconst (v := 1) hx hb dX3_size_32 (by decide) ?_
        have hP9 : va_P (dC, dI) vwCl [(x0, .inr (3, [.ref z0, .ref h0, .ref g0, .ref w0, .ref v0, .int (nI n), .int P, .int 1])), (z0, .inl (cI, 300, .inl (upd z (f.toNatClampNeg) y)))] H := hP
        have hD9 : va_D A [(x0, .inr (3, [.ref z0, .ref h0, .ref g0, .ref w0, .ref v0, .int (nI n), .int P, .int 1])), (z0, .inl (cI, 300, .inl (upd z (f.toNatClampNeg) y)))] := hD
        exact W.zret (v := 1) hx hb hr (by decide) (fun t ht hW => ⟨⟨1, (upd z (f.toNatClampNeg) y, 1), rfl, Or.inr ⟨rfl, rfl, rfl, c_2, c_3, Int32.not_lt.mpr c_4⟩, by rw [ht]; exact hP9, va_K.moved hW.alike hK, hD9⟩, hS.F ht⟩) hS.2.2 dX3_size_33
      · -- pc 15, side 1
        refine lv_iconst (v := 0) hx hb dX3_size_18 (by decide) ?_
        have hP9 : va_P (dC, dI) vwCl [(x0, .inr (3, [.ref z0, .ref h0, .ref g0, .ref w0, .ref v0, .int (nI n), .int P, .int st])), (z0, .inl (cI, 300, .inl z))] H := hP
        have hD9 : va_D A [(x0, .inr (3, [.ref z0, .ref h0, .ref g0, .ref w0, .ref v0, .int (nI n), .int P, .int st])), (z0, .inl (cI, 300, .inl z))] := hD
        exact W.zret (v := 0) hx hb hr (by decide) (fun t ht hW => ⟨⟨0, (z, st), rfl, Or.inl ⟨rfl, rfl, rfl, Or.inr (Or.inr (Int32.not_le.mp c_4))⟩, by rw [ht]; exact hP9, va_K.moved hW.alike hK, hD9⟩, hS.F ht⟩) hS.2.2 dX3_size_19
set_option maxHeartbeats 4000000 in
set_option maxRecDepth 100000 in
theorem ct_X3_functions (l : Launch) (dC : Nat → ClassId) (dI : Nat → Nat → Nat) (cI cJ cZ : ClassId) (sz : Nat) (x0 : Nat) (z0 : Nat) (h0 : Nat) (h1 : Nat) (h2 : Nat) (h3 : Nat) (h4 : Nat) (h5 : Nat) (g0 w0 v0 : Nat) (n : Nat) (P st : Int32) (z F T : Nat → Int32) (C : Nat → Int64) (u : Nat) (S : Nat → Int32) (y : Int32)  : Met l yX3_functions wsX3_functions ({ frames := 2, cells := 0, slots := 0, locals := 44 }) (va_Pc [.ref x0, .int y] (fun U => U.heap.size = sz ∧ va_P (dC, dI) vwCl [(x0, .inr (3, [.ref z0, .ref h0, .ref g0, .ref w0, .ref v0, .int (nI n), .int P, .int st])), (z0, .inl (cI, 300, .inl z)), (h0, .inr (0, [.ref h1, .ref h2, .ref h3, .ref h4, .ref h5, .int (nI u)])), (h1, .inl (cI, 2000, .inl F)), (h2, .inl (cI, 2000, .inl T)), (h3, .inl (cJ, 2000, .inr (.inl C))), (h4, .inl (cJ, 300, .inr (.inl (hN F T C u)))), (h5, .inl (cI, 300, .inl S))] U.heap ∧ va_K (dC, dI) vwCl [(cI, .int), (cJ, .long), (cZ, .boolean)] U ∧ va_D (fun _ => True) [(x0, .inr (3, [.ref z0, .ref h0, .ref g0, .ref w0, .ref v0, .int (nI n), .int P, .int st])), (z0, .inl (cI, 300, .inl z)), (h0, .inr (0, [.ref h1, .ref h2, .ref h3, .ref h4, .ref h5, .int (nI u)])), (h1, .inl (cI, 2000, .inl F)), (h2, .inl (cI, 2000, .inl T)), (h3, .inl (cJ, 2000, .inr (.inl C))), (h4, .inl (cJ, 300, .inr (.inl (hN F T C u)))), (h5, .inl (cI, 300, .inl S))])) (va_Qi (fun (r : Int32) (uu : Nat × (Nat → Int32) × Nat × Int32) => match uu with | (n', z', u', st') => (r = 0 ∧ n' = n ∧ z' = z ∧ u' = u ∧ st' = st ∧ (y < 1 ∨ 300 < y)) ∨ (r = 1 ∧ nI n' = y ∧ z' = (fun _ => 0) ∧ u' = 0 ∧ st' = 1 ∧ ¬ y < 1 ∧ ¬ 300 < y)) (fun (uu : Nat × (Nat → Int32) × Nat × Int32) (t : State) => match uu with | (n', z', u', st') => va_P (dC, dI) vwCl [(x0, .inr (3, [.ref z0, .ref h0, .ref g0, .ref w0, .ref v0, .int (nI n'), .int P, .int (st')])), (z0, .inl (cI, 300, .inl (z'))), (h0, .inr (0, [.ref h1, .ref h2, .ref h3, .ref h4, .ref h5, .int (nI (u'))])), (h1, .inl (cI, 2000, .inl F)), (h2, .inl (cI, 2000, .inl T)), (h3, .inl (cJ, 2000, .inr (.inl C))), (h4, .inl (cJ, 300, .inr (.inl (hN F T C (u'))))), (h5, .inl (cI, 300, .inl S))] t.heap ∧ va_K (dC, dI) vwCl [(cI, .int), (cJ, .long), (cZ, .boolean)] t ∧ va_D (va_A [(x0, .inr (3, [.ref z0, .ref h0, .ref g0, .ref w0, .ref v0, .int (nI n), .int P, .int st])), (z0, .inl (cI, 300, .inl z)), (h0, .inr (0, [.ref h1, .ref h2, .ref h3, .ref h4, .ref h5, .int (nI u)])), (h1, .inl (cI, 2000, .inl F)), (h2, .inl (cI, 2000, .inl T)), (h3, .inl (cJ, 2000, .inr (.inl C))), (h4, .inl (cJ, 300, .inr (.inl (hN F T C u)))), (h5, .inl (cI, 300, .inl S))] sz) [(x0, .inr (3, [.ref z0, .ref h0, .ref g0, .ref w0, .ref v0, .int (nI n'), .int P, .int (st')])), (z0, .inl (cI, 300, .inl (z'))), (h0, .inr (0, [.ref h1, .ref h2, .ref h3, .ref h4, .ref h5, .int (nI (u'))])), (h1, .inl (cI, 2000, .inl F)), (h2, .inl (cI, 2000, .inl T)), (h3, .inl (cJ, 2000, .inr (.inl C))), (h4, .inl (cJ, 300, .inr (.inl (hN F T C (u'))))), (h5, .inl (cI, 300, .inl S))]) (va_A [(x0, .inr (3, [.ref z0, .ref h0, .ref g0, .ref w0, .ref v0, .int (nI n), .int P, .int st])), (z0, .inl (cI, 300, .inl z)), (h0, .inr (0, [.ref h1, .ref h2, .ref h3, .ref h4, .ref h5, .int (nI u)])), (h1, .inl (cI, 2000, .inl F)), (h2, .inl (cI, 2000, .inl T)), (h3, .inl (cJ, 2000, .inr (.inl C))), (h4, .inl (cJ, 300, .inr (.inl (hN F T C u)))), (h5, .inl (cI, 300, .inl S))] sz)) 0 0 (va_A [(x0, .inr (3, [.ref z0, .ref h0, .ref g0, .ref w0, .ref v0, .int (nI n), .int P, .int st])), (z0, .inl (cI, 300, .inl z)), (h0, .inr (0, [.ref h1, .ref h2, .ref h3, .ref h4, .ref h5, .int (nI u)])), (h1, .inl (cI, 2000, .inl F)), (h2, .inl (cI, 2000, .inl T)), (h3, .inl (cJ, 2000, .inr (.inl C))), (h4, .inl (cJ, 300, .inr (.inl (hN F T C u)))), (h5, .inl (cI, 300, .inl S))] sz) := by
  refine Met.ofW (cc := cX3_functions) (maxL := 2) (ret := (some .boolean)) (by decide) rfl ?_
  intro p ev s m args below meth c s₁ Bd hml hv
  obtain ⟨rfl, hsz, hP, hK, hD0⟩ := hv
  have hx := Bd.exec
  have hb := Bd.bytes
  have hr := Bd.returns
  have hts := atoms_spec (ws := wsX3_functions) Bd.pre
  have hown : s.vm.findClass RX3 = some m.cls := findClass_of_methodNamed Bd.named
  have hlocks := Bd.notSynchronized
  have hin3 : ∀ w ∈ wsX30, w ∈ wsX3_functions := by decide +kernel
  subst hsz
  have hD := hD0.self (sz := s.heap.size)
  generalize hAe : va_A [(x0, .inr (3, [.ref z0, .ref h0, .ref g0, .ref w0, .ref v0, .int (nI n), .int P, .int st])), (z0, .inl (cI, 300, .inl z)), (h0, .inr (0, [.ref h1, .ref h2, .ref h3, .ref h4, .ref h5, .int (nI u)])), (h1, .inl (cI, 2000, .inl F)), (h2, .inl (cI, 2000, .inl T)), (h3, .inl (cJ, 2000, .inr (.inl C))), (h4, .inl (cJ, 300, .inr (.inl (hN F T C u)))), (h5, .inl (cI, 300, .inl S))] s.heap.size = A at hD ⊢
  have hA : ∀ q : Nat, s.heap.size ≤ q → A q := fun q h => by rw [← hAe]; exact Or.inr h
  have hS : va_S A s.heap s.heap [] := va_S.rf
  have hl := lv_entry ([.ref x0, .int y]) (n := 2) (Nat.le_of_ble_eq_true rfl)
  rw [lg_entry_eq]
  generalize (lg_sl ([.ref x0, .int y]) ++ List.replicate (2 - (lg_sl ([.ref x0, .int y])).length) Slot.unset).toArray = ls at hl ⊢
  have hl : lv_has ls 2 [(0, .ref x0), (1, .int y)] := hl
  generalize hHe : s.heap = H at hP ⊢
  have hS : va_S A s.heap H [] := hHe ▸ hS
  refine lv_iload_n hx hb dX3_functions_0 rfl (lv_at hl 1 rfl) ?_
  refine lv_iconst (v := 1) hx hb dX3_functions_1 (by decide) ?_
  refine lv_icmp_lt (tgt := 12) hx hb dX3_functions_2 (by decide) (fun c_1 => ?_) (fun c_1 => ?_)
  · -- pc 2, side 0
    refine lv_iconst (v := 0) hx hb dX3_functions_12 (by decide) ?_
    have hP9 : va_P (dC, dI) vwCl [(x0, .inr (3, [.ref z0, .ref h0, .ref g0, .ref w0, .ref v0, .int (nI n), .int P, .int st])), (z0, .inl (cI, 300, .inl z)), (h0, .inr (0, [.ref h1, .ref h2, .ref h3, .ref h4, .ref h5, .int (nI u)])), (h1, .inl (cI, 2000, .inl F)), (h2, .inl (cI, 2000, .inl T)), (h3, .inl (cJ, 2000, .inr (.inl C))), (h4, .inl (cJ, 300, .inr (.inl (hN F T C u)))), (h5, .inl (cI, 300, .inl S))] H := hP
    have hD9 : va_D A [(x0, .inr (3, [.ref z0, .ref h0, .ref g0, .ref w0, .ref v0, .int (nI n), .int P, .int st])), (z0, .inl (cI, 300, .inl z)), (h0, .inr (0, [.ref h1, .ref h2, .ref h3, .ref h4, .ref h5, .int (nI u)])), (h1, .inl (cI, 2000, .inl F)), (h2, .inl (cI, 2000, .inl T)), (h3, .inl (cJ, 2000, .inr (.inl C))), (h4, .inl (cJ, 300, .inr (.inl (hN F T C u)))), (h5, .inl (cI, 300, .inl S))] := hD
    exact W.zret (v := 0) hx hb hr (by decide) (fun t ht hW => ⟨⟨0, (n, z, u, st), rfl, Or.inl ⟨rfl, rfl, rfl, rfl, rfl, Or.inl c_1⟩, by rw [ht]; exact hP9, va_K.moved hW.alike hK, hD9⟩, hS.F ht⟩) hS.2.2 dX3_functions_13
  · -- pc 2, side 1
    refine lv_iload_n hx hb dX3_functions_5 rfl (lv_at hl 1 rfl) ?_
    refine lv_sipush (v := 300) hx hb dX3_functions_6 (by decide) ?_
    refine lv_icmp_le (tgt := 14) hx hb dX3_functions_9 (by decide) (fun c_2 => ?_) (fun c_2 => ?_)
    · -- pc 9, side 0
      obtain ⟨y9, -, hy9⟩ := nI_of (x := y) (fun h9 => c_1 (Int32.lt_trans h9 (by decide)))
      subst hy9
      refine lv_aload_n hx hb dX3_functions_14 rfl (lv_at hl 0 rfl) ?_
      refine lv_iload_n hx hb dX3_functions_15 rfl (lv_at hl 1 rfl) ?_
      refine va_put (D := (dC, dI)) (ci := 3) (v := .int (nI y9)) (ty := .int) (C := RX3) (T := TX3) (N := 8) hx hb hts hin3 tyX3 tyX3_ok nmX3 hown hK hP hD hS 0 rfl rfl 5 (by decide) (hts (.fieldLink RX3 37 "CallClusters" "functionCount" "I") (by decide +kernel)) (fun _ h9 => h9) rfl (by decide +kernel) (rfl) (rfl) (Nat.le_of_ble_eq_true rfl) dX3_functions_16 (fun H locs hP hD hS => ?_)
      have hP : va_P (dC, dI) vwCl [(x0, .inr (3, [.ref z0, .ref h0, .ref g0, .ref w0, .ref v0, .int (nI y9), .int P, .int st])), (z0, .inl (cI, 300, .inl z)), (h0, .inr (0, [.ref h1, .ref h2, .ref h3, .ref h4, .ref h5, .int (nI u)])), (h1, .inl (cI, 2000, .inl F)), (h2, .inl (cI, 2000, .inl T)), (h3, .inl (cJ, 2000, .inr (.inl C))), (h4, .inl (cJ, 300, .inr (.inl (hN F T C u)))), (h5, .inl (cI, 300, .inl S))] H := hP
      have hD : va_D A [(x0, .inr (3, [.ref z0, .ref h0, .ref g0, .ref w0, .ref v0, .int (nI y9), .int P, .int st])), (z0, .inl (cI, 300, .inl z)), (h0, .inr (0, [.ref h1, .ref h2, .ref h3, .ref h4, .ref h5, .int (nI u)])), (h1, .inl (cI, 2000, .inl F)), (h2, .inl (cI, 2000, .inl T)), (h3, .inl (cJ, 2000, .inr (.inl C))), (h4, .inl (cJ, 300, .inr (.inl (hN F T C u)))), (h5, .inl (cI, 300, .inl S))] := hD
      refine lv_aload_n hx hb dX3_functions_19 rfl (lv_at hl 0 rfl) ?_
      refine va_get (D := (dC, dI)) (ci := 3) (v := .ref z0) (C := RX3) (T := TX3) (N := 8) hx hb hts hin3 hown hK hP 0 rfl rfl 0 (by decide) (hts (.fieldLink RX3 9 "CallClusters" "sizes" "[I") (by decide +kernel)) (fun _ h9 => h9) rfl dX3_functions_20 ?_
      refine lv_iconst (v := 0) hx hb dX3_functions_23 (by decide) ?_
      have hPc := hP.sub (ws' := [(z0, .inl (cI, 300, .inl z))]) [1] rfl
      have hDc := hD.sub (ws' := [(z0, .inl (cI, 300, .inl z))]) [1] (by decide) rfl
      have hFc := va_free (wc := [(z0, .inl (cI, 300, .inl z))]) hD hS hA [1] rfl
      refine va_callv (va_runS (As := [.ref z0, .int 0]) (rest := []) ⟨hx, hb, hml, hown, hts⟩ (ct_J7_fill_53178 l dC dI cI cJ cZ H.size z0 300 z 0 (by decide)) (va_cwS 2 hts gX3_functions_J7_fill_53178 rfl rfl rfl (by decide +kernel) ⟨Nat.le_of_ble_eq_true rfl, Nat.le_of_ble_eq_true rfl⟩) (pre_S hK hPc hDc) rfl rfl hl.1 rfl (lv_room (Nat.le_of_ble_eq_true rfl)) dX3_functions_24 ⟨Nat.zero_le _, Nat.zero_le _⟩) hS (fun q _ h => hFc q h) hFc (fun uu t H1 locs ht hvm hw hB hz1 hk1 hS => ?_)
      obtain ⟨hP1, hK1, hD1⟩ := hB
      rw [ht] at hP1
      try dsimp only at hw
      have hP1 : va_P (dC, dI) vwCl [(z0, .inl (cI, 300, .inl (mix 300 (fun _ => 0) z)))] H1 := hP1
      obtain ⟨hP, hD⟩ := va_join (wr := [(x0, .inr (3, [.ref z0, .ref h0, .ref g0, .ref w0, .ref v0, .int (nI y9), .int P, .int st])), (h0, .inr (0, [.ref h1, .ref h2, .ref h3, .ref h4, .ref h5, .int (nI u)])), (h1, .inl (cI, 2000, .inl F)), (h2, .inl (cI, 2000, .inl T)), (h3, .inl (cJ, 2000, .inr (.inl C))), (h4, .inl (cJ, 300, .inr (.inl (hN F T C u)))), (h5, .inl (cI, 300, .inl S))]) (w1 := [(z0, .inl (cI, 300, .inl (mix 300 (fun _ => 0) z)))]) hP hD [1] [0, 2, 3, 4, 5, 6, 7] rfl rfl (by decide) (by decide) hk1 hFc hP1 hD1
      have hP := hP.sub (ws' := [(x0, .inr (3, [.ref z0, .ref h0, .ref g0, .ref w0, .ref v0, .int (nI y9), .int P, .int st])), (z0, .inl (cI, 300, .inl (mix 300 (fun _ => 0) z))), (h0, .inr (0, [.ref h1, .ref h2, .ref h3, .ref h4, .ref h5, .int (nI u)])), (h1, .inl (cI, 2000, .inl F)), (h2, .inl (cI, 2000, .inl T)), (h3, .inl (cJ, 2000, .inr (.inl C))), (h4, .inl (cJ, 300, .inr (.inl (hN F T C u)))), (h5, .inl (cI, 300, .inl S))]) [0, 7, 1, 2, 3, 4, 5, 6] rfl
      have hD := hD.sub (ws' := [(x0, .inr (3, [.ref z0, .ref h0, .ref g0, .ref w0, .ref v0, .int (nI y9), .int P, .int st])), (z0, .inl (cI, 300, .inl (mix 300 (fun _ => 0) z))), (h0, .inr (0, [.ref h1, .ref h2, .ref h3, .ref h4, .ref h5, .int (nI u)])), (h1, .inl (cI, 2000, .inl F)), (h2, .inl (cI, 2000, .inl T)), (h3, .inl (cJ, 2000, .inr (.inl C))), (h4, .inl (cJ, 300, .inr (.inl (hN F T C u)))), (h5, .inl (cI, 300, .inl S))]) [0, 7, 1, 2, 3, 4, 5, 6] (by decide) rfl
      generalize H1 = H at hP hS ⊢
      refine lv_aload_n hx hb dX3_functions_27 rfl (lv_at hl 0 rfl) ?_
      refine va_get (D := (dC, dI)) (ci := 3) (v := .ref h0) (C := RX3) (T := TX3) (N := 8) hx hb hts hin3 hown hK hP 0 rfl rfl 1 (by decide) (hts (.fieldLink RX3 16 "CallClusters" "table" "LCallClusters$CallTable;") (by decide +kernel)) (fun _ h9 => h9) rfl dX3_functions_28 ?_
      have hPc := hP.sub (ws' := [(h0, .inr (0, [.ref h1, .ref h2, .ref h3, .ref h4, .ref h5, .int (nI u)])), (h1, .inl (cI, 2000, .inl F)), (h2, .inl (cI, 2000, .inl T)), (h3, .inl (cJ, 2000, .inr (.inl C))), (h4, .inl (cJ, 300, .inr (.inl (hN F T C u)))), (h5, .inl (cI, 300, .inl S))]) [2, 3, 4, 5, 6, 7] rfl
      have hDc := hD.sub (ws' := [(h0, .inr (0, [.ref h1, .ref h2, .ref h3, .ref h4, .ref h5, .int (nI u)])), (h1, .inl (cI, 2000, .inl F)), (h2, .inl (cI, 2000, .inl T)), (h3, .inl (cJ, 2000, .inr (.inl C))), (h4, .inl (cJ, 300, .inr (.inl (hN F T C u)))), (h5, .inl (cI, 300, .inl S))]) [2, 3, 4, 5, 6, 7] (by decide) rfl
      have hFc := va_free (wc := [(h0, .inr (0, [.ref h1, .ref h2, .ref h3, .ref h4, .ref h5, .int (nI u)])), (h1, .inl (cI, 2000, .inl F)), (h2, .inl (cI, 2000, .inl T)), (h3, .inl (cJ, 2000, .inr (.inl C))), (h4, .inl (cJ, 300, .inr (.inl (hN F T C u)))), (h5, .inl (cI, 300, .inl S))]) hD hS hA [2, 3, 4, 5, 6, 7] rfl
      refine va_callv (va_runV (As := []) (rest := []) ⟨hx, hb, hml, hown, hts⟩ (ct_X0_forgetAll l dC dI cI cJ cZ H.size h0 h1 h2 h3 h4 h5 F T C (hN F T C u) S u ) (cwV 0 hts gX3_functions_X0_forgetAll rfl rfl rfl (by decide +kernel) ⟨Nat.le_of_ble_eq_true rfl, Nat.le_of_ble_eq_true rfl⟩) (pre_V hK hPc hDc (ci := 0) rfl rfl) rfl rfl hl.1 rfl (lv_room (Nat.le_of_ble_eq_true rfl)) dX3_functions_31 ⟨Nat.zero_le _, Nat.zero_le _⟩) hS (fun q _ h => hFc q h) hFc (fun uu t H1 locs ht hvm hw hB hz1 hk1 hS => ?_)
      obtain ⟨hP1, hK1, hD1⟩ := hB
      rw [ht] at hP1
      try dsimp only at hw
      have hP1 : va_P (dC, dI) vwCl [(h0, .inr (0, [.ref h1, .ref h2, .ref h3, .ref h4, .ref h5, .int 0])), (h1, .inl (cI, 2000, .inl F)), (h2, .inl (cI, 2000, .inl T)), (h3, .inl (cJ, 2000, .inr (.inl C))), (h4, .inl (cJ, 300, .inr (.inl (mix 300 (fun _ => 0) (hN F T C u))))), (h5, .inl (cI, 300, .inl S))] H1 := hP1
      obtain ⟨hP, hD⟩ := va_join (wr := [(x0, .inr (3, [.ref z0, .ref h0, .ref g0, .ref w0, .ref v0, .int (nI y9), .int P, .int st])), (z0, .inl (cI, 300, .inl (mix 300 (fun _ => 0) z)))]) (w1 := [(h0, .inr (0, [.ref h1, .ref h2, .ref h3, .ref h4, .ref h5, .int 0])), (h1, .inl (cI, 2000, .inl F)), (h2, .inl (cI, 2000, .inl T)), (h3, .inl (cJ, 2000, .inr (.inl C))), (h4, .inl (cJ, 300, .inr (.inl (mix 300 (fun _ => 0) (hN F T C u))))), (h5, .inl (cI, 300, .inl S))]) hP hD [2, 3, 4, 5, 6, 7] [0, 1] rfl rfl (by decide) (by decide) hk1 hFc hP1 hD1
      have hP := hP.sub (ws' := [(x0, .inr (3, [.ref z0, .ref h0, .ref g0, .ref w0, .ref v0, .int (nI y9), .int P, .int st])), (z0, .inl (cI, 300, .inl (mix 300 (fun _ => 0) z))), (h0, .inr (0, [.ref h1, .ref h2, .ref h3, .ref h4, .ref h5, .int 0])), (h1, .inl (cI, 2000, .inl F)), (h2, .inl (cI, 2000, .inl T)), (h3, .inl (cJ, 2000, .inr (.inl C))), (h4, .inl (cJ, 300, .inr (.inl (mix 300 (fun _ => 0) (hN F T C u))))), (h5, .inl (cI, 300, .inl S))]) [0, 1, 2, 3, 4, 5, 6, 7] rfl
      have hD := hD.sub (ws' := [(x0, .inr (3, [.ref z0, .ref h0, .ref g0, .ref w0, .ref v0, .int (nI y9), .int P, .int st])), (z0, .inl (cI, 300, .inl (mix 300 (fun _ => 0) z))), (h0, .inr (0, [.ref h1, .ref h2, .ref h3, .ref h4, .ref h5, .int 0])), (h1, .inl (cI, 2000, .inl F)), (h2, .inl (cI, 2000, .inl T)), (h3, .inl (cJ, 2000, .inr (.inl C))), (h4, .inl (cJ, 300, .inr (.inl (mix 300 (fun _ => 0) (hN F T C u))))), (h5, .inl (cI, 300, .inl S))]) [0, 1, 2, 3, 4, 5, 6, 7] (by decide) rfl
      generalize H1 = H at hP hS ⊢
      refine lv_aload_n hx hb dX3_functions_34 rfl (lv_at hl 0 rfl) ?_
      refine lv_iconst (v := 1) hx hb dX3_functions_35 (by decide) ?_
      refine va_put (D := (dC, dI)) (ci := 3) (v := .int 1) (ty := .boolean) (C := RX3) (T := TX3) (N := 8) hx hb hts hin3 tyX3 tyX3_ok nmX3 hown hK hP hD hS 0 rfl rfl 7 (by decide) (hts (.fieldLink RX3 44 "CallClusters" "stale" "Z") (by decide +kernel)) (fun _ h9 => h9) rfl (by decide +kernel) (by decide) (by decide) (Nat.le_of_ble_eq_true rfl) dX3_functions_36 (fun H locs hP hD hS => ?_)
      have hP : va_P (dC, dI) vwCl [(x0, .inr (3, [.ref z0, .ref h0, .ref g0, .ref w0, .ref v0, .int (nI y9), .int P, .int 1])), (z0, .inl (cI, 300, .inl (mix 300 (fun _ => 0) z))), (h0, .inr (0, [.ref h1, .ref h2, .ref h3, .ref h4, .ref h5, .int 0])), (h1, .inl (cI, 2000, .inl F)), (h2, .inl (cI, 2000, .inl T)), (h3, .inl (cJ, 2000, .inr (.inl C))), (h4, .inl (cJ, 300, .inr (.inl (mix 300 (fun _ => 0) (hN F T C u))))), (h5, .inl (cI, 300, .inl S))] H := hP
      have hD : va_D A [(x0, .inr (3, [.ref z0, .ref h0, .ref g0, .ref w0, .ref v0, .int (nI y9), .int P, .int 1])), (z0, .inl (cI, 300, .inl (mix 300 (fun _ => 0) z))), (h0, .inr (0, [.ref h1, .ref h2, .ref h3, .ref h4, .ref h5, .int 0])), (h1, .inl (cI, 2000, .inl F)), (h2, .inl (cI, 2000, .inl T)), (h3, .inl (cJ, 2000, .inr (.inl C))), (h4, .inl (cJ, 300, .inr (.inl (mix 300 (fun _ => 0) (hN F T C u))))), (h5, .inl (cI, 300, .inl S))] := hD
      refine lv_iconst (v := 1) hx hb dX3_functions_39 (by decide) ?_
      have hP := hP.ei 1 (fun _ => 0) rfl (fun j hj => mix_lt _ _ hj)
      have hD := hD.set (p := 1) (e := .inl (cI, 300, .inl (fun _ => 0))) rfl
      have hP := hP.el 6 (hN F T C 0) rfl (fun j hj => mix_lt _ _ hj)
      have hD := hD.set (p := 6) (e := .inl (cJ, 300, .inr (.inl (hN F T C 0)))) rfl
      have hP9 : va_P (dC, dI) vwCl [(x0, .inr (3, [.ref z0, .ref h0, .ref g0, .ref w0, .ref v0, .int (nI y9), .int P, .int 1])), (z0, .inl (cI, 300, .inl (fun _ => 0))), (h0, .inr (0, [.ref h1, .ref h2, .ref h3, .ref h4, .ref h5, .int (nI 0)])), (h1, .inl (cI, 2000, .inl F)), (h2, .inl (cI, 2000, .inl T)), (h3, .inl (cJ, 2000, .inr (.inl C))), (h4, .inl (cJ, 300, .inr (.inl (hN F T C 0)))), (h5, .inl (cI, 300, .inl S))] H := hP
      have hD9 : va_D A [(x0, .inr (3, [.ref z0, .ref h0, .ref g0, .ref w0, .ref v0, .int (nI y9), .int P, .int 1])), (z0, .inl (cI, 300, .inl (fun _ => 0))), (h0, .inr (0, [.ref h1, .ref h2, .ref h3, .ref h4, .ref h5, .int (nI 0)])), (h1, .inl (cI, 2000, .inl F)), (h2, .inl (cI, 2000, .inl T)), (h3, .inl (cJ, 2000, .inr (.inl C))), (h4, .inl (cJ, 300, .inr (.inl (hN F T C 0)))), (h5, .inl (cI, 300, .inl S))] := hD
      exact W.zret (v := 1) hx hb hr (by decide) (fun t ht hW => ⟨⟨1, (y9, fun _ => 0, 0, 1), rfl, Or.inr ⟨rfl, rfl, rfl, rfl, rfl, c_1, Int32.not_lt.mpr c_2⟩, by rw [ht]; exact hP9, va_K.moved hW.alike hK, hD9⟩, hS.F ht⟩) hS.2.2 dX3_functions_40
    · -- pc 9, side 1
      refine lv_iconst (v := 0) hx hb dX3_functions_12 (by decide) ?_
      have hP9 : va_P (dC, dI) vwCl [(x0, .inr (3, [.ref z0, .ref h0, .ref g0, .ref w0, .ref v0, .int (nI n), .int P, .int st])), (z0, .inl (cI, 300, .inl z)), (h0, .inr (0, [.ref h1, .ref h2, .ref h3, .ref h4, .ref h5, .int (nI u)])), (h1, .inl (cI, 2000, .inl F)), (h2, .inl (cI, 2000, .inl T)), (h3, .inl (cJ, 2000, .inr (.inl C))), (h4, .inl (cJ, 300, .inr (.inl (hN F T C u)))), (h5, .inl (cI, 300, .inl S))] H := hP
      have hD9 : va_D A [(x0, .inr (3, [.ref z0, .ref h0, .ref g0, .ref w0, .ref v0, .int (nI n), .int P, .int st])), (z0, .inl (cI, 300, .inl z)), (h0, .inr (0, [.ref h1, .ref h2, .ref h3, .ref h4, .ref h5, .int (nI u)])), (h1, .inl (cI, 2000, .inl F)), (h2, .inl (cI, 2000, .inl T)), (h3, .inl (cJ, 2000, .inr (.inl C))), (h4, .inl (cJ, 300, .inr (.inl (hN F T C u)))), (h5, .inl (cI, 300, .inl S))] := hD
      exact W.zret (v := 0) hx hb hr (by decide) (fun t ht hW => ⟨⟨0, (n, z, u, st), rfl, Or.inl ⟨rfl, rfl, rfl, rfl, rfl, Or.inr (Int32.not_le.mp c_2)⟩, by rw [ht]; exact hP9, va_K.moved hW.alike hK, hD9⟩, hS.F ht⟩) hS.2.2 dX3_functions_13
set_option maxHeartbeats 4000000 in
set_option maxRecDepth 100000 in
theorem ct_X3_call (l : Launch) (dC : Nat → ClassId) (dI : Nat → Nat → Nat) (cI cJ cZ : ClassId) (sz : Nat) (x0 : Nat) (h0 : Nat) (h1 : Nat) (h2 : Nat) (h3 : Nat) (h4 : Nat) (h5 : Nat) (z0 g0 w0 v0 : Nat) (n : Nat) (P st : Int32) (F T : Nat → Int32) (C : Nat → Int64) (S : Nat → Int32) (u : Nat) (f g y : Int32) (hn : n ≤ 300) (hu : u ≤ 2000) (hT : ∀ i, i < u → vp_in (T i) 300) : Met l yX3_call wsX3_call ({ frames := 2, cells := 0, slots := 0, locals := 39 }) (va_Pc [.ref x0, .int f, .int g, .int y] (fun U => U.heap.size = sz ∧ va_P (dC, dI) vwCl [(x0, .inr (3, [.ref z0, .ref h0, .ref g0, .ref w0, .ref v0, .int (nI n), .int P, .int st])), (h0, .inr (0, [.ref h1, .ref h2, .ref h3, .ref h4, .ref h5, .int (nI u)])), (h1, .inl (cI, 2000, .inl F)), (h2, .inl (cI, 2000, .inl T)), (h3, .inl (cJ, 2000, .inr (.inl C))), (h4, .inl (cJ, 300, .inr (.inl (hN F T C u)))), (h5, .inl (cI, 300, .inl S))] U.heap ∧ va_K (dC, dI) vwCl [(cI, .int), (cJ, .long), (cZ, .boolean)] U ∧ va_D (fun _ => True) [(x0, .inr (3, [.ref z0, .ref h0, .ref g0, .ref w0, .ref v0, .int (nI n), .int P, .int st])), (h0, .inr (0, [.ref h1, .ref h2, .ref h3, .ref h4, .ref h5, .int (nI u)])), (h1, .inl (cI, 2000, .inl F)), (h2, .inl (cI, 2000, .inl T)), (h3, .inl (cJ, 2000, .inr (.inl C))), (h4, .inl (cJ, 300, .inr (.inl (hN F T C u)))), (h5, .inl (cI, 300, .inl S))])) (va_Ql (fun (r : Int64) (uu : (Nat → Int32) × (Nat → Int32) × (Nat → Int64) × Nat × Int32) => match uu with | (F', T', C', u', st') => (r = -1 ∧ F' = F ∧ T' = T ∧ C' = C ∧ u' = u ∧ st' = st ∧ (isFI n f = 0 ∨ isFI n g = 0)) ∨ (¬ isFI n f = 0 ∧ ¬ isFI n g = 0 ∧ r = -2 ∧ F' = F ∧ T' = T ∧ C' = C ∧ u' = u ∧ st' = st ∧ (y < 1 ∨ 1000000000 < y)) ∨ (¬ isFI n f = 0 ∧ ¬ isFI n g = 0 ∧ ¬ y < 1 ∧ ¬ 1000000000 < y ∧ ((pfind F T f g u 0 = u ∧ u = 2000 ∧ r = -3 ∧ F' = F ∧ T' = T ∧ C' = C ∧ u' = u ∧ st' = st) ∨ (pfind F T f g u 0 < u ∧ r = capadd (C (pfind F T f g u 0)) y ∧ F' = F ∧ T' = T ∧ C' = vp_updL C (pfind F T f g u 0) (capadd (C (pfind F T f g u 0)) y) ∧ u' = u ∧ st' = 1) ∨ (pfind F T f g u 0 = u ∧ u < 2000 ∧ r = capadd 0 y ∧ F' = upd F u f ∧ T' = upd T u g ∧ C' = vp_updL (vp_updL C u 0) u (capadd 0 y) ∧ u' = u + 1 ∧ st' = 1)))) (fun (uu : (Nat → Int32) × (Nat → Int32) × (Nat → Int64) × Nat × Int32) (t : State) => match uu with | (F', T', C', u', st') => va_P (dC, dI) vwCl [(x0, .inr (3, [.ref z0, .ref h0, .ref g0, .ref w0, .ref v0, .int (nI n), .int P, .int (st')])), (h0, .inr (0, [.ref h1, .ref h2, .ref h3, .ref h4, .ref h5, .int (nI (u'))])), (h1, .inl (cI, 2000, .inl (F'))), (h2, .inl (cI, 2000, .inl (T'))), (h3, .inl (cJ, 2000, .inr (.inl (C')))), (h4, .inl (cJ, 300, .inr (.inl (hN (F') (T') (C') (u'))))), (h5, .inl (cI, 300, .inl S))] t.heap ∧ va_K (dC, dI) vwCl [(cI, .int), (cJ, .long), (cZ, .boolean)] t ∧ va_D (va_A [(x0, .inr (3, [.ref z0, .ref h0, .ref g0, .ref w0, .ref v0, .int (nI n), .int P, .int st])), (h0, .inr (0, [.ref h1, .ref h2, .ref h3, .ref h4, .ref h5, .int (nI u)])), (h1, .inl (cI, 2000, .inl F)), (h2, .inl (cI, 2000, .inl T)), (h3, .inl (cJ, 2000, .inr (.inl C))), (h4, .inl (cJ, 300, .inr (.inl (hN F T C u)))), (h5, .inl (cI, 300, .inl S))] sz) [(x0, .inr (3, [.ref z0, .ref h0, .ref g0, .ref w0, .ref v0, .int (nI n), .int P, .int (st')])), (h0, .inr (0, [.ref h1, .ref h2, .ref h3, .ref h4, .ref h5, .int (nI (u'))])), (h1, .inl (cI, 2000, .inl (F'))), (h2, .inl (cI, 2000, .inl (T'))), (h3, .inl (cJ, 2000, .inr (.inl (C')))), (h4, .inl (cJ, 300, .inr (.inl (hN (F') (T') (C') (u'))))), (h5, .inl (cI, 300, .inl S))]) (va_A [(x0, .inr (3, [.ref z0, .ref h0, .ref g0, .ref w0, .ref v0, .int (nI n), .int P, .int st])), (h0, .inr (0, [.ref h1, .ref h2, .ref h3, .ref h4, .ref h5, .int (nI u)])), (h1, .inl (cI, 2000, .inl F)), (h2, .inl (cI, 2000, .inl T)), (h3, .inl (cJ, 2000, .inr (.inl C))), (h4, .inl (cJ, 300, .inr (.inl (hN F T C u)))), (h5, .inl (cI, 300, .inl S))] sz)) 0 0 (va_A [(x0, .inr (3, [.ref z0, .ref h0, .ref g0, .ref w0, .ref v0, .int (nI n), .int P, .int st])), (h0, .inr (0, [.ref h1, .ref h2, .ref h3, .ref h4, .ref h5, .int (nI u)])), (h1, .inl (cI, 2000, .inl F)), (h2, .inl (cI, 2000, .inl T)), (h3, .inl (cJ, 2000, .inr (.inl C))), (h4, .inl (cJ, 300, .inr (.inl (hN F T C u)))), (h5, .inl (cI, 300, .inl S))] sz) := by
  refine Met.ofW (cc := cX3_call) (maxL := 5) (ret := (some .long)) (by decide) rfl ?_
  intro p ev s m args below meth c s₁ Bd hml hv
  obtain ⟨rfl, hsz, hP, hK, hD0⟩ := hv
  have hx := Bd.exec
  have hb := Bd.bytes
  have hr := Bd.returns
  have hts := atoms_spec (ws := wsX3_call) Bd.pre
  have hown : s.vm.findClass RX3 = some m.cls := findClass_of_methodNamed Bd.named
  have hlocks := Bd.notSynchronized
  have hin3 : ∀ w ∈ wsX30, w ∈ wsX3_call := by decide +kernel
  subst hsz
  have hD := hD0.self (sz := s.heap.size)
  generalize hAe : va_A [(x0, .inr (3, [.ref z0, .ref h0, .ref g0, .ref w0, .ref v0, .int (nI n), .int P, .int st])), (h0, .inr (0, [.ref h1, .ref h2, .ref h3, .ref h4, .ref h5, .int (nI u)])), (h1, .inl (cI, 2000, .inl F)), (h2, .inl (cI, 2000, .inl T)), (h3, .inl (cJ, 2000, .inr (.inl C))), (h4, .inl (cJ, 300, .inr (.inl (hN F T C u)))), (h5, .inl (cI, 300, .inl S))] s.heap.size = A at hD ⊢
  have hA : ∀ q : Nat, s.heap.size ≤ q → A q := fun q h => by rw [← hAe]; exact Or.inr h
  have hS : va_S A s.heap s.heap [] := va_S.rf
  have hl := lv_entry ([.ref x0, .int f, .int g, .int y]) (n := 5) (Nat.le_of_ble_eq_true rfl)
  rw [lg_entry_eq]
  generalize (lg_sl ([.ref x0, .int f, .int g, .int y]) ++ List.replicate (5 - (lg_sl ([.ref x0, .int f, .int g, .int y])).length) Slot.unset).toArray = ls at hl ⊢
  have hl : lv_has ls 5 [(0, .ref x0), (1, .int f), (2, .int g), (3, .int y)] := hl
  generalize hHe : s.heap = H at hP ⊢
  have hS : va_S A s.heap H [] := hHe ▸ hS
  refine lv_aload_n hx hb dX3_call_0 rfl (lv_at hl 0 rfl) ?_
  refine lv_iload_n hx hb dX3_call_1 rfl (lv_at hl 1 rfl) ?_
  have hPc := hP.sub (ws' := [(x0, .inr (3, [.ref z0, .ref h0, .ref g0, .ref w0, .ref v0, .int (nI n), .int P, .int st]))]) [0] rfl
  have hDc := hD.sub (ws' := [(x0, .inr (3, [.ref z0, .ref h0, .ref g0, .ref w0, .ref v0, .int (nI n), .int P, .int st]))]) [0] (by decide) rfl
  have hFc := va_free (wc := [(x0, .inr (3, [.ref z0, .ref h0, .ref g0, .ref w0, .ref v0, .int (nI n), .int P, .int st]))]) hD hS hA [0] rfl
  refine va_calli (va_runV (As := [.int f]) (rest := []) ⟨hx, hb, hml, hown, hts⟩ (ct_X3_isFunction l dC dI cI cJ cZ H.size x0 z0 h0 g0 w0 v0 n P st f ) (cwV 1 hts gX3_call_X3_isFunction rfl rfl rfl (by decide +kernel) ⟨Nat.le_of_ble_eq_true rfl, Nat.le_of_ble_eq_true rfl⟩) (pre_V hK hPc hDc (ci := 3) rfl rfl) rfl rfl hl.1 rfl (lv_room (Nat.le_of_ble_eq_true rfl)) dX3_call_2 ⟨Nat.zero_le _, Nat.zero_le _⟩) hS (fun q _ h => hFc q h) hFc (fun r_1 uu t H1 locs ht hvm hw hB hz1 hk1 hS => ?_)
  obtain ⟨hP1, hK1, hD1⟩ := hB
  rw [ht] at hP1
  try dsimp only at hw
  have hP1 : va_P (dC, dI) vwCl [(x0, .inr (3, [.ref z0, .ref h0, .ref g0, .ref w0, .ref v0, .int (nI n), .int P, .int st]))] H1 := hP1
  obtain ⟨hP, hD⟩ := va_join (wr := [(h0, .inr (0, [.ref h1, .ref h2, .ref h3, .ref h4, .ref h5, .int (nI u)])), (h1, .inl (cI, 2000, .inl F)), (h2, .inl (cI, 2000, .inl T)), (h3, .inl (cJ, 2000, .inr (.inl C))), (h4, .inl (cJ, 300, .inr (.inl (hN F T C u)))), (h5, .inl (cI, 300, .inl S))]) (w1 := [(x0, .inr (3, [.ref z0, .ref h0, .ref g0, .ref w0, .ref v0, .int (nI n), .int P, .int st]))]) hP hD [0] [1, 2, 3, 4, 5, 6] rfl rfl (by decide) (by decide) hk1 hFc hP1 hD1
  have hP := hP.sub (ws' := [(x0, .inr (3, [.ref z0, .ref h0, .ref g0, .ref w0, .ref v0, .int (nI n), .int P, .int st])), (h0, .inr (0, [.ref h1, .ref h2, .ref h3, .ref h4, .ref h5, .int (nI u)])), (h1, .inl (cI, 2000, .inl F)), (h2, .inl (cI, 2000, .inl T)), (h3, .inl (cJ, 2000, .inr (.inl C))), (h4, .inl (cJ, 300, .inr (.inl (hN F T C u)))), (h5, .inl (cI, 300, .inl S))]) [6, 0, 1, 2, 3, 4, 5] rfl
  have hD := hD.sub (ws' := [(x0, .inr (3, [.ref z0, .ref h0, .ref g0, .ref w0, .ref v0, .int (nI n), .int P, .int st])), (h0, .inr (0, [.ref h1, .ref h2, .ref h3, .ref h4, .ref h5, .int (nI u)])), (h1, .inl (cI, 2000, .inl F)), (h2, .inl (cI, 2000, .inl T)), (h3, .inl (cJ, 2000, .inr (.inl C))), (h4, .inl (cJ, 300, .inr (.inl (hN F T C u)))), (h5, .inl (cI, 300, .inl S))]) [6, 0, 1, 2, 3, 4, 5] (by decide) rfl
  generalize H1 = H at hP hS ⊢
  refine lv_if_eq (tgt := 16) hx hb dX3_call_5 (by decide) (fun c_2 => ?_) (fun c_2 => ?_)
  · -- pc 5, side 0
    rw [hw] at c_2
    refine lv_ldc2 (v := (-1)) hx hb hown (hts (.constantLong RX3 62 (-1)) (by decide +kernel)) dX3_call_16 ?_
    have hP9 : va_P (dC, dI) vwCl [(x0, .inr (3, [.ref z0, .ref h0, .ref g0, .ref w0, .ref v0, .int (nI n), .int P, .int st])), (h0, .inr (0, [.ref h1, .ref h2, .ref h3, .ref h4, .ref h5, .int (nI u)])), (h1, .inl (cI, 2000, .inl F)), (h2, .inl (cI, 2000, .inl T)), (h3, .inl (cJ, 2000, .inr (.inl C))), (h4, .inl (cJ, 300, .inr (.inl (hN F T C u)))), (h5, .inl (cI, 300, .inl S))] H := hP
    have hD9 : va_D A [(x0, .inr (3, [.ref z0, .ref h0, .ref g0, .ref w0, .ref v0, .int (nI n), .int P, .int st])), (h0, .inr (0, [.ref h1, .ref h2, .ref h3, .ref h4, .ref h5, .int (nI u)])), (h1, .inl (cI, 2000, .inl F)), (h2, .inl (cI, 2000, .inl T)), (h3, .inl (cJ, 2000, .inr (.inl C))), (h4, .inl (cJ, 300, .inr (.inl (hN F T C u)))), (h5, .inl (cI, 300, .inl S))] := hD
    exact W.lret (v := (-1)) hx hb hr (fun t ht hW => ⟨⟨(-1), (F, T, C, u, st), rfl, Or.inl ⟨rfl, rfl, rfl, rfl, rfl, rfl, Or.inl c_2⟩, by rw [ht]; exact hP9, va_K.moved hW.alike hK, hD9⟩, hS.F ht⟩) hS.2.2 dX3_call_19
  · -- pc 5, side 1
    rw [hw] at c_2
    refine lv_aload_n hx hb dX3_call_8 rfl (lv_at hl 0 rfl) ?_
    refine lv_iload_n hx hb dX3_call_9 rfl (lv_at hl 2 rfl) ?_
    have hPc := hP.sub (ws' := [(x0, .inr (3, [.ref z0, .ref h0, .ref g0, .ref w0, .ref v0, .int (nI n), .int P, .int st]))]) [0] rfl
    have hDc := hD.sub (ws' := [(x0, .inr (3, [.ref z0, .ref h0, .ref g0, .ref w0, .ref v0, .int (nI n), .int P, .int st]))]) [0] (by decide) rfl
    have hFc := va_free (wc := [(x0, .inr (3, [.ref z0, .ref h0, .ref g0, .ref w0, .ref v0, .int (nI n), .int P, .int st]))]) hD hS hA [0] rfl
    refine va_calli (va_runV (As := [.int g]) (rest := []) ⟨hx, hb, hml, hown, hts⟩ (ct_X3_isFunction l dC dI cI cJ cZ H.size x0 z0 h0 g0 w0 v0 n P st g ) (cwV 1 hts gX3_call_X3_isFunction rfl rfl rfl (by decide +kernel) ⟨Nat.le_of_ble_eq_true rfl, Nat.le_of_ble_eq_true rfl⟩) (pre_V hK hPc hDc (ci := 3) rfl rfl) rfl rfl hl.1 rfl (lv_room (Nat.le_of_ble_eq_true rfl)) dX3_call_10 ⟨Nat.zero_le _, Nat.zero_le _⟩) hS (fun q _ h => hFc q h) hFc (fun r_3 uu t H1 locs ht hvm hw hB hz1 hk1 hS => ?_)
    obtain ⟨hP1, hK1, hD1⟩ := hB
    rw [ht] at hP1
    try dsimp only at hw
    have hP1 : va_P (dC, dI) vwCl [(x0, .inr (3, [.ref z0, .ref h0, .ref g0, .ref w0, .ref v0, .int (nI n), .int P, .int st]))] H1 := hP1
    obtain ⟨hP, hD⟩ := va_join (wr := [(h0, .inr (0, [.ref h1, .ref h2, .ref h3, .ref h4, .ref h5, .int (nI u)])), (h1, .inl (cI, 2000, .inl F)), (h2, .inl (cI, 2000, .inl T)), (h3, .inl (cJ, 2000, .inr (.inl C))), (h4, .inl (cJ, 300, .inr (.inl (hN F T C u)))), (h5, .inl (cI, 300, .inl S))]) (w1 := [(x0, .inr (3, [.ref z0, .ref h0, .ref g0, .ref w0, .ref v0, .int (nI n), .int P, .int st]))]) hP hD [0] [1, 2, 3, 4, 5, 6] rfl rfl (by decide) (by decide) hk1 hFc hP1 hD1
    have hP := hP.sub (ws' := [(x0, .inr (3, [.ref z0, .ref h0, .ref g0, .ref w0, .ref v0, .int (nI n), .int P, .int st])), (h0, .inr (0, [.ref h1, .ref h2, .ref h3, .ref h4, .ref h5, .int (nI u)])), (h1, .inl (cI, 2000, .inl F)), (h2, .inl (cI, 2000, .inl T)), (h3, .inl (cJ, 2000, .inr (.inl C))), (h4, .inl (cJ, 300, .inr (.inl (hN F T C u)))), (h5, .inl (cI, 300, .inl S))]) [6, 0, 1, 2, 3, 4, 5] rfl
    have hD := hD.sub (ws' := [(x0, .inr (3, [.ref z0, .ref h0, .ref g0, .ref w0, .ref v0, .int (nI n), .int P, .int st])), (h0, .inr (0, [.ref h1, .ref h2, .ref h3, .ref h4, .ref h5, .int (nI u)])), (h1, .inl (cI, 2000, .inl F)), (h2, .inl (cI, 2000, .inl T)), (h3, .inl (cJ, 2000, .inr (.inl C))), (h4, .inl (cJ, 300, .inr (.inl (hN F T C u)))), (h5, .inl (cI, 300, .inl S))]) [6, 0, 1, 2, 3, 4, 5] (by decide) rfl
    generalize H1 = H at hP hS ⊢
    refine lv_if_ne (tgt := 20) hx hb dX3_call_13 (by decide) (fun c_4 => ?_) (fun c_4 => ?_)
    · -- pc 13, side 0
      rw [hw] at c_4
      refine lv_iload_n hx hb dX3_call_20 rfl (lv_at hl 3 rfl) ?_
      refine lv_iconst (v := 1) hx hb dX3_call_21 (by decide) ?_
      refine lv_icmp_lt (tgt := 31) hx hb dX3_call_22 (by decide) (fun c_5 => ?_) (fun c_5 => ?_)
      · -- pc 22, side 0
        refine lv_ldc2 (v := (-2)) hx hb hown (hts (.constantLong RX3 65 (-2)) (by decide +kernel)) dX3_call_31 ?_
        have hP9 : va_P (dC, dI) vwCl [(x0, .inr (3, [.ref z0, .ref h0, .ref g0, .ref w0, .ref v0, .int (nI n), .int P, .int st])), (h0, .inr (0, [.ref h1, .ref h2, .ref h3, .ref h4, .ref h5, .int (nI u)])), (h1, .inl (cI, 2000, .inl F)), (h2, .inl (cI, 2000, .inl T)), (h3, .inl (cJ, 2000, .inr (.inl C))), (h4, .inl (cJ, 300, .inr (.inl (hN F T C u)))), (h5, .inl (cI, 300, .inl S))] H := hP
        have hD9 : va_D A [(x0, .inr (3, [.ref z0, .ref h0, .ref g0, .ref w0, .ref v0, .int (nI n), .int P, .int st])), (h0, .inr (0, [.ref h1, .ref h2, .ref h3, .ref h4, .ref h5, .int (nI u)])), (h1, .inl (cI, 2000, .inl F)), (h2, .inl (cI, 2000, .inl T)), (h3, .inl (cJ, 2000, .inr (.inl C))), (h4, .inl (cJ, 300, .inr (.inl (hN F T C u)))), (h5, .inl (cI, 300, .inl S))] := hD
        exact W.lret (v := (-2)) hx hb hr (fun t ht hW => ⟨⟨(-2), (F, T, C, u, st), rfl, Or.inr (Or.inl ⟨c_2, c_4, rfl, rfl, rfl, rfl, rfl, rfl, Or.inl c_5⟩), by rw [ht]; exact hP9, va_K.moved hW.alike hK, hD9⟩, hS.F ht⟩) hS.2.2 dX3_call_34
      · -- pc 22, side 1
        refine lv_iload_n hx hb dX3_call_25 rfl (lv_at hl 3 rfl) ?_
        refine lv_ldc (v := 1000000000) hx hb hown (hts (.constant RX3 64 (1000000000)) (by decide +kernel)) dX3_call_26 ?_
        refine lv_icmp_le (tgt := 35) hx hb dX3_call_28 (by decide) (fun c_6 => ?_) (fun c_6 => ?_)
        · -- pc 28, side 0
          refine lv_aload_n hx hb dX3_call_35 rfl (lv_at hl 0 rfl) ?_
          refine va_get (D := (dC, dI)) (ci := 3) (v := .ref h0) (C := RX3) (T := TX3) (N := 8) hx hb hts hin3 hown hK hP 0 rfl rfl 1 (by decide) (hts (.fieldLink RX3 16 "CallClusters" "table" "LCallClusters$CallTable;") (by decide +kernel)) (fun _ h9 => h9) rfl dX3_call_36 ?_
          refine lv_iload_n hx hb dX3_call_39 rfl (lv_at hl 1 rfl) ?_
          refine lv_iload_n hx hb dX3_call_40 rfl (lv_at hl 2 rfl) ?_
          have hPc := hP.sub (ws' := [(h0, .inr (0, [.ref h1, .ref h2, .ref h3, .ref h4, .ref h5, .int (nI u)])), (h1, .inl (cI, 2000, .inl F)), (h2, .inl (cI, 2000, .inl T)), (h3, .inl (cJ, 2000, .inr (.inl C))), (h4, .inl (cJ, 300, .inr (.inl (hN F T C u)))), (h5, .inl (cI, 300, .inl S))]) [1, 2, 3, 4, 5, 6] rfl
          have hDc := hD.sub (ws' := [(h0, .inr (0, [.ref h1, .ref h2, .ref h3, .ref h4, .ref h5, .int (nI u)])), (h1, .inl (cI, 2000, .inl F)), (h2, .inl (cI, 2000, .inl T)), (h3, .inl (cJ, 2000, .inr (.inl C))), (h4, .inl (cJ, 300, .inr (.inl (hN F T C u)))), (h5, .inl (cI, 300, .inl S))]) [1, 2, 3, 4, 5, 6] (by decide) rfl
          have hFc := va_free (wc := [(h0, .inr (0, [.ref h1, .ref h2, .ref h3, .ref h4, .ref h5, .int (nI u)])), (h1, .inl (cI, 2000, .inl F)), (h2, .inl (cI, 2000, .inl T)), (h3, .inl (cJ, 2000, .inr (.inl C))), (h4, .inl (cJ, 300, .inr (.inl (hN F T C u)))), (h5, .inl (cI, 300, .inl S))]) hD hS hA [1, 2, 3, 4, 5, 6] rfl
          refine va_calli (va_runV (As := [.int f, .int g]) (rest := []) ⟨hx, hb, hml, hown, hts⟩ (ct_X0_pairFor l dC dI cI cJ cZ H.size h0 h1 h2 h3 h4 h5 F T C (hN F T C u) S u f g hu) (cwV 2 hts gX3_call_X0_pairFor rfl rfl rfl (by decide +kernel) ⟨Nat.le_of_ble_eq_true rfl, Nat.le_of_ble_eq_true rfl⟩) (pre_V hK hPc hDc (ci := 0) rfl rfl) rfl rfl hl.1 rfl (lv_room (Nat.le_of_ble_eq_true rfl)) dX3_call_41 ⟨Nat.zero_le _, Nat.zero_le _⟩) hS (fun q _ h => hFc q h) hFc (fun r_11 uu t H1 locs ht hvm hw hB hz1 hk1 hS => ?_)
          obtain ⟨F'_7, T'_8, C'_9, u'_10⟩ := uu
          obtain ⟨hP1, hK1, hD1⟩ := hB
          rw [ht] at hP1
          try dsimp only at hw
          have hP1 : va_P (dC, dI) vwCl [(h0, .inr (0, [.ref h1, .ref h2, .ref h3, .ref h4, .ref h5, .int (nI (u'_10))])), (h1, .inl (cI, 2000, .inl (F'_7))), (h2, .inl (cI, 2000, .inl (T'_8))), (h3, .inl (cJ, 2000, .inr (.inl (C'_9)))), (h4, .inl (cJ, 300, .inr (.inl (hN F T C u)))), (h5, .inl (cI, 300, .inl S))] H1 := hP1
          obtain ⟨hP, hD⟩ := va_join (wr := [(x0, .inr (3, [.ref z0, .ref h0, .ref g0, .ref w0, .ref v0, .int (nI n), .int P, .int st]))]) (w1 := [(h0, .inr (0, [.ref h1, .ref h2, .ref h3, .ref h4, .ref h5, .int (nI (u'_10))])), (h1, .inl (cI, 2000, .inl (F'_7))), (h2, .inl (cI, 2000, .inl (T'_8))), (h3, .inl (cJ, 2000, .inr (.inl (C'_9)))), (h4, .inl (cJ, 300, .inr (.inl (hN F T C u)))), (h5, .inl (cI, 300, .inl S))]) hP hD [1, 2, 3, 4, 5, 6] [0] rfl rfl (by decide) (by decide) hk1 hFc hP1 hD1
          have hP := hP.sub (ws' := [(x0, .inr (3, [.ref z0, .ref h0, .ref g0, .ref w0, .ref v0, .int (nI n), .int P, .int st])), (h0, .inr (0, [.ref h1, .ref h2, .ref h3, .ref h4, .ref h5, .int (nI (u'_10))])), (h1, .inl (cI, 2000, .inl (F'_7))), (h2, .inl (cI, 2000, .inl (T'_8))), (h3, .inl (cJ, 2000, .inr (.inl (C'_9)))), (h4, .inl (cJ, 300, .inr (.inl (hN F T C u)))), (h5, .inl (cI, 300, .inl S))]) [0, 1, 2, 3, 4, 5, 6] rfl
          have hD := hD.sub (ws' := [(x0, .inr (3, [.ref z0, .ref h0, .ref g0, .ref w0, .ref v0, .int (nI n), .int P, .int st])), (h0, .inr (0, [.ref h1, .ref h2, .ref h3, .ref h4, .ref h5, .int (nI (u'_10))])), (h1, .inl (cI, 2000, .inl (F'_7))), (h2, .inl (cI, 2000, .inl (T'_8))), (h3, .inl (cJ, 2000, .inr (.inl (C'_9)))), (h4, .inl (cJ, 300, .inr (.inl (hN F T C u)))), (h5, .inl (cI, 300, .inl S))]) [0, 1, 2, 3, 4, 5, 6] (by decide) rfl
          generalize H1 = H at hP hS ⊢
          rcases hw with ⟨hp1, e1, e2, e3, e4, e5⟩ | ⟨hp1, hp2, e1, e2, e3, e4, e5⟩ | ⟨hp1, hp2, e1, e2, e3, e4, e5⟩
          · -- pairFor, case 0
            obtain rfl := e1.symm
            obtain rfl := e2.symm
            obtain rfl := e3.symm
            obtain rfl := e4.symm
            obtain rfl := e5.symm
            have hP : va_P (dC, dI) vwCl [(x0, .inr (3, [.ref z0, .ref h0, .ref g0, .ref w0, .ref v0, .int (nI n), .int P, .int st])), (h0, .inr (0, [.ref h1, .ref h2, .ref h3, .ref h4, .ref h5, .int (nI u)])), (h1, .inl (cI, 2000, .inl F)), (h2, .inl (cI, 2000, .inl T)), (h3, .inl (cJ, 2000, .inr (.inl C))), (h4, .inl (cJ, 300, .inr (.inl (hN F T C u)))), (h5, .inl (cI, 300, .inl S))] H := hP
            have hD : va_D A [(x0, .inr (3, [.ref z0, .ref h0, .ref g0, .ref w0, .ref v0, .int (nI n), .int P, .int st])), (h0, .inr (0, [.ref h1, .ref h2, .ref h3, .ref h4, .ref h5, .int (nI u)])), (h1, .inl (cI, 2000, .inl F)), (h2, .inl (cI, 2000, .inl T)), (h3, .inl (cJ, 2000, .inr (.inl C))), (h4, .inl (cJ, 300, .inr (.inl (hN F T C u)))), (h5, .inl (cI, 300, .inl S))] := hD
            refine lv_istore (lv' := [(4, .int (nI (pfind F T f g u 0))), (0, .ref x0), (1, .int f), (2, .int g), (3, .int y)]) hx hb dX3_call_44 hl (by decide) rfl (fun ls hl => ?_)
            refine lv_iload hx hb dX3_call_46 (lv_at hl 0 rfl) ?_
            refine lv_iconst (v := (-1)) hx hb dX3_call_48 (by decide) ?_
            refine lv_icmp_ne (tgt := 56) hx hb dX3_call_49 (by decide) (fun c_12 => ?_) (fun c_12 => ?_)
            · -- pc 49, side 0
              refine lv_aload_n hx hb dX3_call_56 rfl (lv_at hl 1 rfl) ?_
              refine lv_iconst (v := 1) hx hb dX3_call_57 (by decide) ?_
              refine va_put (D := (dC, dI)) (ci := 3) (v := .int 1) (ty := .boolean) (C := RX3) (T := TX3) (N := 8) hx hb hts hin3 tyX3 tyX3_ok nmX3 hown hK hP hD hS 0 rfl rfl 7 (by decide) (hts (.fieldLink RX3 44 "CallClusters" "stale" "Z") (by decide +kernel)) (fun _ h9 => h9) rfl (by decide +kernel) (by decide) (by decide) (Nat.le_of_ble_eq_true rfl) dX3_call_58 (fun H locs hP hD hS => ?_)
              have hP : va_P (dC, dI) vwCl [(x0, .inr (3, [.ref z0, .ref h0, .ref g0, .ref w0, .ref v0, .int (nI n), .int P, .int 1])), (h0, .inr (0, [.ref h1, .ref h2, .ref h3, .ref h4, .ref h5, .int (nI u)])), (h1, .inl (cI, 2000, .inl F)), (h2, .inl (cI, 2000, .inl T)), (h3, .inl (cJ, 2000, .inr (.inl C))), (h4, .inl (cJ, 300, .inr (.inl (hN F T C u)))), (h5, .inl (cI, 300, .inl S))] H := hP
              have hD : va_D A [(x0, .inr (3, [.ref z0, .ref h0, .ref g0, .ref w0, .ref v0, .int (nI n), .int P, .int 1])), (h0, .inr (0, [.ref h1, .ref h2, .ref h3, .ref h4, .ref h5, .int (nI u)])), (h1, .inl (cI, 2000, .inl F)), (h2, .inl (cI, 2000, .inl T)), (h3, .inl (cJ, 2000, .inr (.inl C))), (h4, .inl (cJ, 300, .inr (.inl (hN F T C u)))), (h5, .inl (cI, 300, .inl S))] := hD
              refine lv_aload_n hx hb dX3_call_61 rfl (lv_at hl 1 rfl) ?_
              refine va_get (D := (dC, dI)) (ci := 3) (v := .ref h0) (C := RX3) (T := TX3) (N := 8) hx hb hts hin3 hown hK hP 0 rfl rfl 1 (by decide) (hts (.fieldLink RX3 16 "CallClusters" "table" "LCallClusters$CallTable;") (by decide +kernel)) (fun _ h9 => h9) rfl dX3_call_62 ?_
              refine lv_iload hx hb dX3_call_65 (lv_at hl 0 rfl) ?_
              refine lv_iload_n hx hb dX3_call_67 rfl (lv_at hl 4 rfl) ?_
              have hPc := hP.sub (ws' := [(h0, .inr (0, [.ref h1, .ref h2, .ref h3, .ref h4, .ref h5, .int (nI u)])), (h1, .inl (cI, 2000, .inl F)), (h2, .inl (cI, 2000, .inl T)), (h3, .inl (cJ, 2000, .inr (.inl C))), (h4, .inl (cJ, 300, .inr (.inl (hN F T C u)))), (h5, .inl (cI, 300, .inl S))]) [1, 2, 3, 4, 5, 6] rfl
              have hDc := hD.sub (ws' := [(h0, .inr (0, [.ref h1, .ref h2, .ref h3, .ref h4, .ref h5, .int (nI u)])), (h1, .inl (cI, 2000, .inl F)), (h2, .inl (cI, 2000, .inl T)), (h3, .inl (cJ, 2000, .inr (.inl C))), (h4, .inl (cJ, 300, .inr (.inl (hN F T C u)))), (h5, .inl (cI, 300, .inl S))]) [1, 2, 3, 4, 5, 6] (by decide) rfl
              have hFc := va_free (wc := [(h0, .inr (0, [.ref h1, .ref h2, .ref h3, .ref h4, .ref h5, .int (nI u)])), (h1, .inl (cI, 2000, .inl F)), (h2, .inl (cI, 2000, .inl T)), (h3, .inl (cJ, 2000, .inr (.inl C))), (h4, .inl (cJ, 300, .inr (.inl (hN F T C u)))), (h5, .inl (cI, 300, .inl S))]) hD hS hA [1, 2, 3, 4, 5, 6] rfl
              refine va_calll (va_runV (As := [.int (nI (pfind F T f g u 0)), .int y]) (rest := []) ⟨hx, hb, hml, hown, hts⟩ (ct_X0_raise l dC dI cI cJ cZ H.size h0 h1 h2 h3 h4 h5 F T C (hN F T C u) S u (pfind F T f g u 0) y (by omega) (hT _ hp1)) (cwV 2 hts gX3_call_X0_raise rfl rfl rfl (by decide +kernel) ⟨Nat.le_of_ble_eq_true rfl, Nat.le_of_ble_eq_true rfl⟩) (pre_V hK hPc hDc (ci := 0) rfl rfl) rfl rfl hl.1 rfl (lv_room (Nat.le_of_ble_eq_true rfl)) dX3_call_68 ⟨Nat.zero_le _, Nat.zero_le _⟩) hS (fun q _ h => hFc q h) hFc (fun r_13 uu t H1 locs ht hvm hw hB hz1 hk1 hS => ?_)
              obtain ⟨hP1, hK1, hD1⟩ := hB
              rw [ht] at hP1
              try dsimp only at hw
              have hP1 : va_P (dC, dI) vwCl [(h0, .inr (0, [.ref h1, .ref h2, .ref h3, .ref h4, .ref h5, .int (nI u)])), (h1, .inl (cI, 2000, .inl F)), (h2, .inl (cI, 2000, .inl T)), (h3, .inl (cJ, 2000, .inr (.inl (vp_updL C (pfind F T f g u 0) (capadd (C (pfind F T f g u 0)) y))))), (h4, .inl (cJ, 300, .inr (.inl (vp_updL (hN F T C u) ((T (pfind F T f g u 0)).toNatClampNeg) ((hN F T C u) ((T (pfind F T f g u 0)).toNatClampNeg) + (capadd (C (pfind F T f g u 0)) y - C (pfind F T f g u 0))))))), (h5, .inl (cI, 300, .inl S))] H1 := hP1
              obtain ⟨hP, hD⟩ := va_join (wr := [(x0, .inr (3, [.ref z0, .ref h0, .ref g0, .ref w0, .ref v0, .int (nI n), .int P, .int 1]))]) (w1 := [(h0, .inr (0, [.ref h1, .ref h2, .ref h3, .ref h4, .ref h5, .int (nI u)])), (h1, .inl (cI, 2000, .inl F)), (h2, .inl (cI, 2000, .inl T)), (h3, .inl (cJ, 2000, .inr (.inl (vp_updL C (pfind F T f g u 0) (capadd (C (pfind F T f g u 0)) y))))), (h4, .inl (cJ, 300, .inr (.inl (vp_updL (hN F T C u) ((T (pfind F T f g u 0)).toNatClampNeg) ((hN F T C u) ((T (pfind F T f g u 0)).toNatClampNeg) + (capadd (C (pfind F T f g u 0)) y - C (pfind F T f g u 0))))))), (h5, .inl (cI, 300, .inl S))]) hP hD [1, 2, 3, 4, 5, 6] [0] rfl rfl (by decide) (by decide) hk1 hFc hP1 hD1
              have hP := hP.sub (ws' := [(x0, .inr (3, [.ref z0, .ref h0, .ref g0, .ref w0, .ref v0, .int (nI n), .int P, .int 1])), (h0, .inr (0, [.ref h1, .ref h2, .ref h3, .ref h4, .ref h5, .int (nI u)])), (h1, .inl (cI, 2000, .inl F)), (h2, .inl (cI, 2000, .inl T)), (h3, .inl (cJ, 2000, .inr (.inl (vp_updL C (pfind F T f g u 0) (capadd (C (pfind F T f g u 0)) y))))), (h4, .inl (cJ, 300, .inr (.inl (vp_updL (hN F T C u) ((T (pfind F T f g u 0)).toNatClampNeg) ((hN F T C u) ((T (pfind F T f g u 0)).toNatClampNeg) + (capadd (C (pfind F T f g u 0)) y - C (pfind F T f g u 0))))))), (h5, .inl (cI, 300, .inl S))]) [0, 1, 2, 3, 4, 5, 6] rfl
              have hD := hD.sub (ws' := [(x0, .inr (3, [.ref z0, .ref h0, .ref g0, .ref w0, .ref v0, .int (nI n), .int P, .int 1])), (h0, .inr (0, [.ref h1, .ref h2, .ref h3, .ref h4, .ref h5, .int (nI u)])), (h1, .inl (cI, 2000, .inl F)), (h2, .inl (cI, 2000, .inl T)), (h3, .inl (cJ, 2000, .inr (.inl (vp_updL C (pfind F T f g u 0) (capadd (C (pfind F T f g u 0)) y))))), (h4, .inl (cJ, 300, .inr (.inl (vp_updL (hN F T C u) ((T (pfind F T f g u 0)).toNatClampNeg) ((hN F T C u) ((T (pfind F T f g u 0)).toNatClampNeg) + (capadd (C (pfind F T f g u 0)) y - C (pfind F T f g u 0))))))), (h5, .inl (cI, 300, .inl S))]) [0, 1, 2, 3, 4, 5, 6] (by decide) rfl
              generalize H1 = H at hP hS ⊢
              subst hw
              rw [hN_raise F T C (pfind F T f g u 0) _ u hp1] at hP hD
              have hP9 : va_P (dC, dI) vwCl [(x0, .inr (3, [.ref z0, .ref h0, .ref g0, .ref w0, .ref v0, .int (nI n), .int P, .int 1])), (h0, .inr (0, [.ref h1, .ref h2, .ref h3, .ref h4, .ref h5, .int (nI u)])), (h1, .inl (cI, 2000, .inl F)), (h2, .inl (cI, 2000, .inl T)), (h3, .inl (cJ, 2000, .inr (.inl (vp_updL C (pfind F T f g u 0) (capadd (C (pfind F T f g u 0)) y))))), (h4, .inl (cJ, 300, .inr (.inl (hN F T (vp_updL C (pfind F T f g u 0) (capadd (C (pfind F T f g u 0)) y)) u)))), (h5, .inl (cI, 300, .inl S))] H := hP
              have hD9 : va_D A [(x0, .inr (3, [.ref z0, .ref h0, .ref g0, .ref w0, .ref v0, .int (nI n), .int P, .int 1])), (h0, .inr (0, [.ref h1, .ref h2, .ref h3, .ref h4, .ref h5, .int (nI u)])), (h1, .inl (cI, 2000, .inl F)), (h2, .inl (cI, 2000, .inl T)), (h3, .inl (cJ, 2000, .inr (.inl (vp_updL C (pfind F T f g u 0) (capadd (C (pfind F T f g u 0)) y))))), (h4, .inl (cJ, 300, .inr (.inl (hN F T (vp_updL C (pfind F T f g u 0) (capadd (C (pfind F T f g u 0)) y)) u)))), (h5, .inl (cI, 300, .inl S))] := hD
              exact W.lret (v := capadd (C (pfind F T f g u 0)) y) hx hb hr (fun t ht hW => ⟨⟨capadd (C (pfind F T f g u 0)) y, (F, T, vp_updL C (pfind F T f g u 0) (capadd (C (pfind F T f g u 0)) y), u, 1), rfl, Or.inr (Or.inr ⟨c_2, c_4, c_5, Int32.not_lt.mpr c_6, Or.inr (Or.inl ⟨hp1, rfl, rfl, rfl, rfl, rfl, rfl⟩)⟩), by rw [ht]; exact hP9, va_K.moved hW.alike hK, hD9⟩, hS.F ht⟩) hS.2.2 dX3_call_71
            · -- pc 49, side 1
              exact absurd c_12 (nI_m1 (by omega))
          · -- pairFor, case 1
            obtain rfl := e1.symm
            obtain rfl := e2.symm
            obtain rfl := e3.symm
            obtain rfl := e4.symm
            obtain rfl := e5.symm
            have hP : va_P (dC, dI) vwCl [(x0, .inr (3, [.ref z0, .ref h0, .ref g0, .ref w0, .ref v0, .int (nI n), .int P, .int st])), (h0, .inr (0, [.ref h1, .ref h2, .ref h3, .ref h4, .ref h5, .int (nI u)])), (h1, .inl (cI, 2000, .inl F)), (h2, .inl (cI, 2000, .inl T)), (h3, .inl (cJ, 2000, .inr (.inl C))), (h4, .inl (cJ, 300, .inr (.inl (hN F T C u)))), (h5, .inl (cI, 300, .inl S))] H := hP
            have hD : va_D A [(x0, .inr (3, [.ref z0, .ref h0, .ref g0, .ref w0, .ref v0, .int (nI n), .int P, .int st])), (h0, .inr (0, [.ref h1, .ref h2, .ref h3, .ref h4, .ref h5, .int (nI u)])), (h1, .inl (cI, 2000, .inl F)), (h2, .inl (cI, 2000, .inl T)), (h3, .inl (cJ, 2000, .inr (.inl C))), (h4, .inl (cJ, 300, .inr (.inl (hN F T C u)))), (h5, .inl (cI, 300, .inl S))] := hD
            refine lv_istore (lv' := [(4, .int ((-1))), (0, .ref x0), (1, .int f), (2, .int g), (3, .int y)]) hx hb dX3_call_44 hl (by decide) rfl (fun ls hl => ?_)
            refine lv_iload hx hb dX3_call_46 (lv_at hl 0 rfl) ?_
            refine lv_iconst (v := (-1)) hx hb dX3_call_48 (by decide) ?_
            refine lv_icmp_ne (tgt := 56) hx hb dX3_call_49 (by decide) (fun c_14 => ?_) (fun c_14 => ?_)
            · -- pc 49, side 0
              exact absurd rfl c_14
            · -- pc 49, side 1
              refine lv_ldc2 (v := (-3)) hx hb hown (hts (.constantLong RX3 71 (-3)) (by decide +kernel)) dX3_call_52 ?_
              have hP9 : va_P (dC, dI) vwCl [(x0, .inr (3, [.ref z0, .ref h0, .ref g0, .ref w0, .ref v0, .int (nI n), .int P, .int st])), (h0, .inr (0, [.ref h1, .ref h2, .ref h3, .ref h4, .ref h5, .int (nI u)])), (h1, .inl (cI, 2000, .inl F)), (h2, .inl (cI, 2000, .inl T)), (h3, .inl (cJ, 2000, .inr (.inl C))), (h4, .inl (cJ, 300, .inr (.inl (hN F T C u)))), (h5, .inl (cI, 300, .inl S))] H := hP
              have hD9 : va_D A [(x0, .inr (3, [.ref z0, .ref h0, .ref g0, .ref w0, .ref v0, .int (nI n), .int P, .int st])), (h0, .inr (0, [.ref h1, .ref h2, .ref h3, .ref h4, .ref h5, .int (nI u)])), (h1, .inl (cI, 2000, .inl F)), (h2, .inl (cI, 2000, .inl T)), (h3, .inl (cJ, 2000, .inr (.inl C))), (h4, .inl (cJ, 300, .inr (.inl (hN F T C u)))), (h5, .inl (cI, 300, .inl S))] := hD
              exact W.lret (v := (-3)) hx hb hr (fun t ht hW => ⟨⟨(-3), (F, T, C, u, st), rfl, Or.inr (Or.inr ⟨c_2, c_4, c_5, Int32.not_lt.mpr c_6, Or.inl ⟨hp1, hp2, rfl, rfl, rfl, rfl, rfl, rfl⟩⟩), by rw [ht]; exact hP9, va_K.moved hW.alike hK, hD9⟩, hS.F ht⟩) hS.2.2 dX3_call_55
          · -- pairFor, case 2
            obtain rfl := e1.symm
            obtain rfl := e2.symm
            obtain rfl := e3.symm
            obtain rfl := e4.symm
            obtain rfl := e5.symm
            rw [← hN_new (F := F) (T := T) (C := C) (u := u) (f := f) (g := g)] at hP hD
            have hP : va_P (dC, dI) vwCl [(x0, .inr (3, [.ref z0, .ref h0, .ref g0, .ref w0, .ref v0, .int (nI n), .int P, .int st])), (h0, .inr (0, [.ref h1, .ref h2, .ref h3, .ref h4, .ref h5, .int (nI (u + 1))])), (h1, .inl (cI, 2000, .inl (upd F u f))), (h2, .inl (cI, 2000, .inl (upd T u g))), (h3, .inl (cJ, 2000, .inr (.inl (vp_updL C u 0)))), (h4, .inl (cJ, 300, .inr (.inl (hN (upd F u f) (upd T u g) (vp_updL C u 0) (u + 1))))), (h5, .inl (cI, 300, .inl S))] H := hP
            have hD : va_D A [(x0, .inr (3, [.ref z0, .ref h0, .ref g0, .ref w0, .ref v0, .int (nI n), .int P, .int st])), (h0, .inr (0, [.ref h1, .ref h2, .ref h3, .ref h4, .ref h5, .int (nI (u + 1))])), (h1, .inl (cI, 2000, .inl (upd F u f))), (h2, .inl (cI, 2000, .inl (upd T u g))), (h3, .inl (cJ, 2000, .inr (.inl (vp_updL C u 0)))), (h4, .inl (cJ, 300, .inr (.inl (hN (upd F u f) (upd T u g) (vp_updL C u 0) (u + 1))))), (h5, .inl (cI, 300, .inl S))] := hD
            refine lv_istore (lv' := [(4, .int (nI u)), (0, .ref x0), (1, .int f), (2, .int g), (3, .int y)]) hx hb dX3_call_44 hl (by decide) rfl (fun ls hl => ?_)
            refine lv_iload hx hb dX3_call_46 (lv_at hl 0 rfl) ?_
            refine lv_iconst (v := (-1)) hx hb dX3_call_48 (by decide) ?_
            refine lv_icmp_ne (tgt := 56) hx hb dX3_call_49 (by decide) (fun c_15 => ?_) (fun c_15 => ?_)
            · -- pc 49, side 0
              refine lv_aload_n hx hb dX3_call_56 rfl (lv_at hl 1 rfl) ?_
              refine lv_iconst (v := 1) hx hb dX3_call_57 (by decide) ?_
              refine va_put (D := (dC, dI)) (ci := 3) (v := .int 1) (ty := .boolean) (C := RX3) (T := TX3) (N := 8) hx hb hts hin3 tyX3 tyX3_ok nmX3 hown hK hP hD hS 0 rfl rfl 7 (by decide) (hts (.fieldLink RX3 44 "CallClusters" "stale" "Z") (by decide +kernel)) (fun _ h9 => h9) rfl (by decide +kernel) (by decide) (by decide) (Nat.le_of_ble_eq_true rfl) dX3_call_58 (fun H locs hP hD hS => ?_)
              have hP : va_P (dC, dI) vwCl [(x0, .inr (3, [.ref z0, .ref h0, .ref g0, .ref w0, .ref v0, .int (nI n), .int P, .int 1])), (h0, .inr (0, [.ref h1, .ref h2, .ref h3, .ref h4, .ref h5, .int (nI (u + 1))])), (h1, .inl (cI, 2000, .inl (upd F u f))), (h2, .inl (cI, 2000, .inl (upd T u g))), (h3, .inl (cJ, 2000, .inr (.inl (vp_updL C u 0)))), (h4, .inl (cJ, 300, .inr (.inl (hN (upd F u f) (upd T u g) (vp_updL C u 0) (u + 1))))), (h5, .inl (cI, 300, .inl S))] H := hP
              have hD : va_D A [(x0, .inr (3, [.ref z0, .ref h0, .ref g0, .ref w0, .ref v0, .int (nI n), .int P, .int 1])), (h0, .inr (0, [.ref h1, .ref h2, .ref h3, .ref h4, .ref h5, .int (nI (u + 1))])), (h1, .inl (cI, 2000, .inl (upd F u f))), (h2, .inl (cI, 2000, .inl (upd T u g))), (h3, .inl (cJ, 2000, .inr (.inl (vp_updL C u 0)))), (h4, .inl (cJ, 300, .inr (.inl (hN (upd F u f) (upd T u g) (vp_updL C u 0) (u + 1))))), (h5, .inl (cI, 300, .inl S))] := hD
              refine lv_aload_n hx hb dX3_call_61 rfl (lv_at hl 1 rfl) ?_
              refine va_get (D := (dC, dI)) (ci := 3) (v := .ref h0) (C := RX3) (T := TX3) (N := 8) hx hb hts hin3 hown hK hP 0 rfl rfl 1 (by decide) (hts (.fieldLink RX3 16 "CallClusters" "table" "LCallClusters$CallTable;") (by decide +kernel)) (fun _ h9 => h9) rfl dX3_call_62 ?_
              refine lv_iload hx hb dX3_call_65 (lv_at hl 0 rfl) ?_
              refine lv_iload_n hx hb dX3_call_67 rfl (lv_at hl 4 rfl) ?_
              have hPc := hP.sub (ws' := [(h0, .inr (0, [.ref h1, .ref h2, .ref h3, .ref h4, .ref h5, .int (nI (u + 1))])), (h1, .inl (cI, 2000, .inl (upd F u f))), (h2, .inl (cI, 2000, .inl (upd T u g))), (h3, .inl (cJ, 2000, .inr (.inl (vp_updL C u 0)))), (h4, .inl (cJ, 300, .inr (.inl (hN (upd F u f) (upd T u g) (vp_updL C u 0) (u + 1))))), (h5, .inl (cI, 300, .inl S))]) [1, 2, 3, 4, 5, 6] rfl
              have hDc := hD.sub (ws' := [(h0, .inr (0, [.ref h1, .ref h2, .ref h3, .ref h4, .ref h5, .int (nI (u + 1))])), (h1, .inl (cI, 2000, .inl (upd F u f))), (h2, .inl (cI, 2000, .inl (upd T u g))), (h3, .inl (cJ, 2000, .inr (.inl (vp_updL C u 0)))), (h4, .inl (cJ, 300, .inr (.inl (hN (upd F u f) (upd T u g) (vp_updL C u 0) (u + 1))))), (h5, .inl (cI, 300, .inl S))]) [1, 2, 3, 4, 5, 6] (by decide) rfl
              have hFc := va_free (wc := [(h0, .inr (0, [.ref h1, .ref h2, .ref h3, .ref h4, .ref h5, .int (nI (u + 1))])), (h1, .inl (cI, 2000, .inl (upd F u f))), (h2, .inl (cI, 2000, .inl (upd T u g))), (h3, .inl (cJ, 2000, .inr (.inl (vp_updL C u 0)))), (h4, .inl (cJ, 300, .inr (.inl (hN (upd F u f) (upd T u g) (vp_updL C u 0) (u + 1))))), (h5, .inl (cI, 300, .inl S))]) hD hS hA [1, 2, 3, 4, 5, 6] rfl
              refine va_calll (va_runV (As := [.int (nI u), .int y]) (rest := []) ⟨hx, hb, hml, hown, hts⟩ (ct_X0_raise l dC dI cI cJ cZ H.size h0 h1 h2 h3 h4 h5 (upd F u f) (upd T u g) (vp_updL C u 0) (hN (upd F u f) (upd T u g) (vp_updL C u 0) (u + 1)) S (u + 1) u y hp2 (by rw [show upd T u g u = g from if_pos rfl]; exact isFI_v hn c_4)) (cwV 2 hts gX3_call_X0_raise rfl rfl rfl (by decide +kernel) ⟨Nat.le_of_ble_eq_true rfl, Nat.le_of_ble_eq_true rfl⟩) (pre_V hK hPc hDc (ci := 0) rfl rfl) rfl rfl hl.1 rfl (lv_room (Nat.le_of_ble_eq_true rfl)) dX3_call_68 ⟨Nat.zero_le _, Nat.zero_le _⟩) hS (fun q _ h => hFc q h) hFc (fun r_16 uu t H1 locs ht hvm hw hB hz1 hk1 hS => ?_)
              obtain ⟨hP1, hK1, hD1⟩ := hB
              rw [ht] at hP1
              try dsimp only at hw
              have hP1 : va_P (dC, dI) vwCl [(h0, .inr (0, [.ref h1, .ref h2, .ref h3, .ref h4, .ref h5, .int (nI (u + 1))])), (h1, .inl (cI, 2000, .inl (upd F u f))), (h2, .inl (cI, 2000, .inl (upd T u g))), (h3, .inl (cJ, 2000, .inr (.inl (vp_updL (vp_updL C u 0) u (capadd ((vp_updL C u 0) u) y))))), (h4, .inl (cJ, 300, .inr (.inl (vp_updL (hN (upd F u f) (upd T u g) (vp_updL C u 0) (u + 1)) (((upd T u g) u).toNatClampNeg) ((hN (upd F u f) (upd T u g) (vp_updL C u 0) (u + 1)) (((upd T u g) u).toNatClampNeg) + (capadd ((vp_updL C u 0) u) y - (vp_updL C u 0) u)))))), (h5, .inl (cI, 300, .inl S))] H1 := hP1
              obtain ⟨hP, hD⟩ := va_join (wr := [(x0, .inr (3, [.ref z0, .ref h0, .ref g0, .ref w0, .ref v0, .int (nI n), .int P, .int 1]))]) (w1 := [(h0, .inr (0, [.ref h1, .ref h2, .ref h3, .ref h4, .ref h5, .int (nI (u + 1))])), (h1, .inl (cI, 2000, .inl (upd F u f))), (h2, .inl (cI, 2000, .inl (upd T u g))), (h3, .inl (cJ, 2000, .inr (.inl (vp_updL (vp_updL C u 0) u (capadd ((vp_updL C u 0) u) y))))), (h4, .inl (cJ, 300, .inr (.inl (vp_updL (hN (upd F u f) (upd T u g) (vp_updL C u 0) (u + 1)) (((upd T u g) u).toNatClampNeg) ((hN (upd F u f) (upd T u g) (vp_updL C u 0) (u + 1)) (((upd T u g) u).toNatClampNeg) + (capadd ((vp_updL C u 0) u) y - (vp_updL C u 0) u)))))), (h5, .inl (cI, 300, .inl S))]) hP hD [1, 2, 3, 4, 5, 6] [0] rfl rfl (by decide) (by decide) hk1 hFc hP1 hD1
              have hP := hP.sub (ws' := [(x0, .inr (3, [.ref z0, .ref h0, .ref g0, .ref w0, .ref v0, .int (nI n), .int P, .int 1])), (h0, .inr (0, [.ref h1, .ref h2, .ref h3, .ref h4, .ref h5, .int (nI (u + 1))])), (h1, .inl (cI, 2000, .inl (upd F u f))), (h2, .inl (cI, 2000, .inl (upd T u g))), (h3, .inl (cJ, 2000, .inr (.inl (vp_updL (vp_updL C u 0) u (capadd ((vp_updL C u 0) u) y))))), (h4, .inl (cJ, 300, .inr (.inl (vp_updL (hN (upd F u f) (upd T u g) (vp_updL C u 0) (u + 1)) (((upd T u g) u).toNatClampNeg) ((hN (upd F u f) (upd T u g) (vp_updL C u 0) (u + 1)) (((upd T u g) u).toNatClampNeg) + (capadd ((vp_updL C u 0) u) y - (vp_updL C u 0) u)))))), (h5, .inl (cI, 300, .inl S))]) [0, 1, 2, 3, 4, 5, 6] rfl
              have hD := hD.sub (ws' := [(x0, .inr (3, [.ref z0, .ref h0, .ref g0, .ref w0, .ref v0, .int (nI n), .int P, .int 1])), (h0, .inr (0, [.ref h1, .ref h2, .ref h3, .ref h4, .ref h5, .int (nI (u + 1))])), (h1, .inl (cI, 2000, .inl (upd F u f))), (h2, .inl (cI, 2000, .inl (upd T u g))), (h3, .inl (cJ, 2000, .inr (.inl (vp_updL (vp_updL C u 0) u (capadd ((vp_updL C u 0) u) y))))), (h4, .inl (cJ, 300, .inr (.inl (vp_updL (hN (upd F u f) (upd T u g) (vp_updL C u 0) (u + 1)) (((upd T u g) u).toNatClampNeg) ((hN (upd F u f) (upd T u g) (vp_updL C u 0) (u + 1)) (((upd T u g) u).toNatClampNeg) + (capadd ((vp_updL C u 0) u) y - (vp_updL C u 0) u)))))), (h5, .inl (cI, 300, .inl S))]) [0, 1, 2, 3, 4, 5, 6] (by decide) rfl
              generalize H1 = H at hP hS ⊢
              rw [show vp_updL C u 0 u = 0 from if_pos rfl] at hw
              subst hw
              rw [hN_raise (upd F u f) (upd T u g) (vp_updL C u 0) u _ (u + 1) (by omega), show vp_updL C u 0 u = 0 from if_pos rfl] at hP hD
              have hP9 : va_P (dC, dI) vwCl [(x0, .inr (3, [.ref z0, .ref h0, .ref g0, .ref w0, .ref v0, .int (nI n), .int P, .int 1])), (h0, .inr (0, [.ref h1, .ref h2, .ref h3, .ref h4, .ref h5, .int (nI (u + 1))])), (h1, .inl (cI, 2000, .inl (upd F u f))), (h2, .inl (cI, 2000, .inl (upd T u g))), (h3, .inl (cJ, 2000, .inr (.inl (vp_updL (vp_updL C u 0) u (capadd 0 y))))), (h4, .inl (cJ, 300, .inr (.inl (hN (upd F u f) (upd T u g) (vp_updL (vp_updL C u 0) u (capadd 0 y)) (u + 1))))), (h5, .inl (cI, 300, .inl S))] H := hP
              have hD9 : va_D A [(x0, .inr (3, [.ref z0, .ref h0, .ref g0, .ref w0, .ref v0, .int (nI n), .int P, .int 1])), (h0, .inr (0, [.ref h1, .ref h2, .ref h3, .ref h4, .ref h5, .int (nI (u + 1))])), (h1, .inl (cI, 2000, .inl (upd F u f))), (h2, .inl (cI, 2000, .inl (upd T u g))), (h3, .inl (cJ, 2000, .inr (.inl (vp_updL (vp_updL C u 0) u (capadd 0 y))))), (h4, .inl (cJ, 300, .inr (.inl (hN (upd F u f) (upd T u g) (vp_updL (vp_updL C u 0) u (capadd 0 y)) (u + 1))))), (h5, .inl (cI, 300, .inl S))] := hD
              exact W.lret (v := capadd 0 y) hx hb hr (fun t ht hW => ⟨⟨capadd 0 y, (upd F u f, upd T u g, vp_updL (vp_updL C u 0) u (capadd 0 y), u + 1, 1), rfl, Or.inr (Or.inr ⟨c_2, c_4, c_5, Int32.not_lt.mpr c_6, Or.inr (Or.inr ⟨hp1, hp2, rfl, rfl, rfl, rfl, rfl, rfl⟩)⟩), by rw [ht]; exact hP9, va_K.moved hW.alike hK, hD9⟩, hS.F ht⟩) hS.2.2 dX3_call_71
            · -- pc 49, side 1
              exact absurd c_15 (nI_m1 (by omega))
        · -- pc 28, side 1
          refine lv_ldc2 (v := (-2)) hx hb hown (hts (.constantLong RX3 65 (-2)) (by decide +kernel)) dX3_call_31 ?_
          have hP9 : va_P (dC, dI) vwCl [(x0, .inr (3, [.ref z0, .ref h0, .ref g0, .ref w0, .ref v0, .int (nI n), .int P, .int st])), (h0, .inr (0, [.ref h1, .ref h2, .ref h3, .ref h4, .ref h5, .int (nI u)])), (h1, .inl (cI, 2000, .inl F)), (h2, .inl (cI, 2000, .inl T)), (h3, .inl (cJ, 2000, .inr (.inl C))), (h4, .inl (cJ, 300, .inr (.inl (hN F T C u)))), (h5, .inl (cI, 300, .inl S))] H := hP
          have hD9 : va_D A [(x0, .inr (3, [.ref z0, .ref h0, .ref g0, .ref w0, .ref v0, .int (nI n), .int P, .int st])), (h0, .inr (0, [.ref h1, .ref h2, .ref h3, .ref h4, .ref h5, .int (nI u)])), (h1, .inl (cI, 2000, .inl F)), (h2, .inl (cI, 2000, .inl T)), (h3, .inl (cJ, 2000, .inr (.inl C))), (h4, .inl (cJ, 300, .inr (.inl (hN F T C u)))), (h5, .inl (cI, 300, .inl S))] := hD
          exact W.lret (v := (-2)) hx hb hr (fun t ht hW => ⟨⟨(-2), (F, T, C, u, st), rfl, Or.inr (Or.inl ⟨c_2, c_4, rfl, rfl, rfl, rfl, rfl, rfl, Or.inr (Int32.not_le.mp c_6)⟩), by rw [ht]; exact hP9, va_K.moved hW.alike hK, hD9⟩, hS.F ht⟩) hS.2.2 dX3_call_34
    · -- pc 13, side 1
      rw [hw] at c_4
      refine lv_ldc2 (v := (-1)) hx hb hown (hts (.constantLong RX3 62 (-1)) (by decide +kernel)) dX3_call_16 ?_
      have hP9 : va_P (dC, dI) vwCl [(x0, .inr (3, [.ref z0, .ref h0, .ref g0, .ref w0, .ref v0, .int (nI n), .int P, .int st])), (h0, .inr (0, [.ref h1, .ref h2, .ref h3, .ref h4, .ref h5, .int (nI u)])), (h1, .inl (cI, 2000, .inl F)), (h2, .inl (cI, 2000, .inl T)), (h3, .inl (cJ, 2000, .inr (.inl C))), (h4, .inl (cJ, 300, .inr (.inl (hN F T C u)))), (h5, .inl (cI, 300, .inl S))] H := hP
      have hD9 : va_D A [(x0, .inr (3, [.ref z0, .ref h0, .ref g0, .ref w0, .ref v0, .int (nI n), .int P, .int st])), (h0, .inr (0, [.ref h1, .ref h2, .ref h3, .ref h4, .ref h5, .int (nI u)])), (h1, .inl (cI, 2000, .inl F)), (h2, .inl (cI, 2000, .inl T)), (h3, .inl (cJ, 2000, .inr (.inl C))), (h4, .inl (cJ, 300, .inr (.inl (hN F T C u)))), (h5, .inl (cI, 300, .inl S))] := hD
      exact W.lret (v := (-1)) hx hb hr (fun t ht hW => ⟨⟨(-1), (F, T, C, u, st), rfl, Or.inl ⟨rfl, rfl, rfl, rfl, rfl, rfl, Or.inr c_4⟩, by rw [ht]; exact hP9, va_K.moved hW.alike hK, hD9⟩, hS.F ht⟩) hS.2.2 dX3_call_19
set_option maxHeartbeats 4000000 in
set_option maxRecDepth 100000 in
theorem lpX3_writeByNumber {p : Program} {l : Launch} {ev : Env} {s : State} {m : MethodId} {args : Array Value} {below : List Frame} {meth : Method} {c : Code} {Q : State → Prop} {A : Nat → Prop} {dC : Nat → ClassId} {dI : Nat → Nat → Nat} {cI cJ cZ : ClassId} (hx : p.tables.exec = Jvm.exec) (hb : c.code = cX3_writeByNumber) (hml : c.maxLocals = 2) (hts : ∀ w ∈ wsX3_writeByNumber, w.before args s = true) (hown : s.vm.findClass RX3 = some m.cls) (hK : va_K (dC, dI) vwCl [(cI, .int), (cJ, .long), (cZ, .boolean)] s) (hA : ∀ q : Nat, s.heap.size ≤ q → A q) {x0 : Nat} {z0 : Nat} {v0 : Nat} {v1 : Nat} {v2 : Nat} {h0 g0 w0 : Nat} {n : Nat} {P st : Int32} {z : Nat → Int32} {M2 : Nat → Int32} (hn : n ≤ 300)  (kn : ∀ (H : Heap) (locs : List Loc) (ls : Array Slot), va_P (dC, dI) vwCl [(x0, .inr (3, [.ref z0, .ref h0, .ref g0, .ref w0, .ref v0, .int (nI n), .int P, .int st])), (z0, .inl (cI, 300, .inl z)), (v0, .inr (2, [.ref v1, .ref v2, .int (nI (rowL z M2 (fun _ => -1) (nLst z n)).2.2.1), .long ((rowL z M2 (fun _ => -1) (nLst z n)).2.2.2)])), (v1, .inl (cI, 300, .inl ((rowL z M2 (fun _ => -1) (nLst z n)).1))), (v2, .inl (cJ, 300, .inr (.inl ((rowL z M2 (fun _ => -1) (nLst z n)).2.1))))] H → va_D A [(x0, .inr (3, [.ref z0, .ref h0, .ref g0, .ref w0, .ref v0, .int (nI n), .int P, .int st])), (z0, .inl (cI, 300, .inl z)), (v0, .inr (2, [.ref v1, .ref v2, .int (nI (rowL z M2 (fun _ => -1) (nLst z n)).2.2.1), .long ((rowL z M2 (fun _ => -1) (nLst z n)).2.2.2)])), (v1, .inl (cI, 300, .inl ((rowL z M2 (fun _ => -1) (nLst z n)).1))), (v2, .inl (cJ, 300, .inr (.inl ((rowL z M2 (fun _ => -1) (nLst z n)).2.1))))] → va_S A s.heap H locs → lv_has ls 2 [(0, .ref x0)] → W p l ev ({ frames := 2, cells := 0, slots := 0, locals := 46 } : Room) s m args below meth c H locs 0 0 Q (F0 m 46 ls [])) : ∀ (n_ : Nat) (k : Nat), k + n_ = n → ∀ (H : Heap) (locs : List Loc) (ls : Array Slot), va_P (dC, dI) vwCl [(x0, .inr (3, [.ref z0, .ref h0, .ref g0, .ref w0, .ref v0, .int (nI n), .int P, .int st])), (z0, .inl (cI, 300, .inl z)), (v0, .inr (2, [.ref v1, .ref v2, .int (nI (rowL z M2 (fun _ => -1) (nLst z k)).2.2.1), .long ((rowL z M2 (fun _ => -1) (nLst z k)).2.2.2)])), (v1, .inl (cI, 300, .inl ((rowL z M2 (fun _ => -1) (nLst z k)).1))), (v2, .inl (cJ, 300, .inr (.inl ((rowL z M2 (fun _ => -1) (nLst z k)).2.1))))] H → va_D A [(x0, .inr (3, [.ref z0, .ref h0, .ref g0, .ref w0, .ref v0, .int (nI n), .int P, .int st])), (z0, .inl (cI, 300, .inl z)), (v0, .inr (2, [.ref v1, .ref v2, .int (nI (rowL z M2 (fun _ => -1) (nLst z k)).2.2.1), .long ((rowL z M2 (fun _ => -1) (nLst z k)).2.2.2)])), (v1, .inl (cI, 300, .inl ((rowL z M2 (fun _ => -1) (nLst z k)).1))), (v2, .inl (cJ, 300, .inr (.inl ((rowL z M2 (fun _ => -1) (nLst z k)).2.1))))] → va_S A s.heap H locs → lv_has ls 2 [(0, .ref x0), (1, .int (nI k))] → W p l ev ({ frames := 2, cells := 0, slots := 0, locals := 46 } : Room) s m args below meth c H locs 0 0 Q (F0 m 9 ls []) := by
  have hin3 : ∀ w ∈ wsX30, w ∈ wsX3_writeByNumber := by decide +kernel
  intro n_
  induction n_ with
  | zero =>
    intro k hk H locs ls hP hD hS hl
    have hk : k = n := by omega
    subst hk
    refine lv_iload_n hx hb dX3_writeByNumber_9 rfl (lv_at hl 1 rfl) ?_
    refine lv_aload_n hx hb dX3_writeByNumber_10 rfl (lv_at hl 0 rfl) ?_
    refine va_get (D := (dC, dI)) (ci := 3) (v := .int (nI k)) (C := RX3) (T := TX3) (N := 8) hx hb hts hin3 hown hK hP 0 rfl rfl 5 (by decide) (hts (.fieldLink RX3 37 "CallClusters" "functionCount" "I") (by decide +kernel)) (fun _ h9 => h9) rfl dX3_writeByNumber_11 ?_
    refine lv_icmp_ge (tgt := 46) hx hb dX3_writeByNumber_14 (by decide) (fun c_1 => ?_) (fun c_1 => ?_)
    · -- pc 14, side 0
      exact kn   H locs ls hP hD hS (lv_sub hl [0] rfl)
    · -- pc 14, side 1
      exact absurd (nI_le (Nat.le_refl _) (by omega)) c_1
  | succ n_ ih =>
    intro k hk H locs ls hP hD hS hl
    have hl9 : (rowL z M2 (fun _ => -1) (nLst z k)).2.2.1 < 300 := by rw [rowL_n]; have := nLst_len z k; omega
    refine lv_iload_n hx hb dX3_writeByNumber_9 rfl (lv_at hl 1 rfl) ?_
    refine lv_aload_n hx hb dX3_writeByNumber_10 rfl (lv_at hl 0 rfl) ?_
    refine va_get (D := (dC, dI)) (ci := 3) (v := .int (nI n)) (C := RX3) (T := TX3) (N := 8) hx hb hts hin3 hown hK hP 0 rfl rfl 5 (by decide) (hts (.fieldLink RX3 37 "CallClusters" "functionCount" "I") (by decide +kernel)) (fun _ h9 => h9) rfl dX3_writeByNumber_11 ?_
    refine lv_icmp_ge (tgt := 46) hx hb dX3_writeByNumber_14 (by decide) (fun c_2 => ?_) (fun c_2 => ?_)
    · -- pc 14, side 0
      exact absurd c_2 (nI_ge (show k < n by omega) (by omega))
    · -- pc 14, side 1
      refine lv_aload_n hx hb dX3_writeByNumber_17 rfl (lv_at hl 0 rfl) ?_
      refine va_get (D := (dC, dI)) (ci := 3) (v := .ref z0) (C := RX3) (T := TX3) (N := 8) hx hb hts hin3 hown hK hP 0 rfl rfl 0 (by decide) (hts (.fieldLink RX3 9 "CallClusters" "sizes" "[I") (by decide +kernel)) (fun _ h9 => h9) rfl dX3_writeByNumber_18 ?_
      refine lv_iload_n hx hb dX3_writeByNumber_21 rfl (lv_at hl 1 rfl) ?_
      refine va_iald hx hb hK hP 1 0 rfl rfl (inn (show k < 300 by omega) (by omega)) dX3_writeByNumber_22 ?_
      refine tp_i (y := z k) (by rw [ix_n (by omega)]) ?_
      refine lv_if_le (tgt := 40) hx hb dX3_writeByNumber_23 (by decide) (fun c_3 => ?_) (fun c_3 => ?_)
      · -- pc 23, side 0
        refine lv_iinc (v := nI (k + 1)) (lv' := [(1, .int (nI (k + 1))), (0, .ref x0)]) hx hb dX3_writeByNumber_40 hl (k := 1) rfl (by exact nI_1 k) (by decide) rfl (fun ls hl => ?_)
        refine lv_goto (tgt := 9) hx hb dX3_writeByNumber_43 (by decide) ?_
        have hq : nLst z k = nLst z (k + 1) := by rw [nLst_s, if_neg (Int32.not_lt.mpr c_3)]
        rw [hq] at hP hD
        exact ih (k + 1) (by omega) H locs ls hP hD hS (lv_sub hl [1, 0] rfl)
      · -- pc 23, side 1
        refine lv_aload_n hx hb dX3_writeByNumber_26 rfl (lv_at hl 0 rfl) ?_
        refine va_get (D := (dC, dI)) (ci := 3) (v := .ref v0) (C := RX3) (T := TX3) (N := 8) hx hb hts hin3 hown hK hP 0 rfl rfl 4 (by decide) (hts (.fieldLink RX3 34 "CallClusters" "numbered" "LCallClusters$Row;") (by decide +kernel)) (fun _ h9 => h9) rfl dX3_writeByNumber_27 ?_
        refine lv_iload_n hx hb dX3_writeByNumber_30 rfl (lv_at hl 1 rfl) ?_
        refine lv_aload_n hx hb dX3_writeByNumber_31 rfl (lv_at hl 0 rfl) ?_
        refine va_get (D := (dC, dI)) (ci := 3) (v := .ref z0) (C := RX3) (T := TX3) (N := 8) hx hb hts hin3 hown hK hP 0 rfl rfl 0 (by decide) (hts (.fieldLink RX3 9 "CallClusters" "sizes" "[I") (by decide +kernel)) (fun _ h9 => h9) rfl dX3_writeByNumber_32 ?_
        refine lv_iload_n hx hb dX3_writeByNumber_35 rfl (lv_at hl 1 rfl) ?_
        refine va_iald hx hb hK hP 1 0 rfl rfl (inn (show k < 300 by omega) (by omega)) dX3_writeByNumber_36 ?_
        refine tp_i (y := z k) (by rw [ix_n (by omega)]) ?_
        have hPc := hP.sub (ws' := [(v0, .inr (2, [.ref v1, .ref v2, .int (nI (rowL z M2 (fun _ => -1) (nLst z k)).2.2.1), .long ((rowL z M2 (fun _ => -1) (nLst z k)).2.2.2)])), (v1, .inl (cI, 300, .inl ((rowL z M2 (fun _ => -1) (nLst z k)).1))), (v2, .inl (cJ, 300, .inr (.inl ((rowL z M2 (fun _ => -1) (nLst z k)).2.1))))]) [2, 3, 4] rfl
        have hDc := hD.sub (ws' := [(v0, .inr (2, [.ref v1, .ref v2, .int (nI (rowL z M2 (fun _ => -1) (nLst z k)).2.2.1), .long ((rowL z M2 (fun _ => -1) (nLst z k)).2.2.2)])), (v1, .inl (cI, 300, .inl ((rowL z M2 (fun _ => -1) (nLst z k)).1))), (v2, .inl (cJ, 300, .inr (.inl ((rowL z M2 (fun _ => -1) (nLst z k)).2.1))))]) [2, 3, 4] (by decide) rfl
        have hFc := va_free (wc := [(v0, .inr (2, [.ref v1, .ref v2, .int (nI (rowL z M2 (fun _ => -1) (nLst z k)).2.2.1), .long ((rowL z M2 (fun _ => -1) (nLst z k)).2.2.2)])), (v1, .inl (cI, 300, .inl ((rowL z M2 (fun _ => -1) (nLst z k)).1))), (v2, .inl (cJ, 300, .inr (.inl ((rowL z M2 (fun _ => -1) (nLst z k)).2.1))))]) hD hS hA [2, 3, 4] rfl
        refine va_callv (va_runV (As := [.int (nI k), .int (z k)]) (rest := []) ⟨hx, hb, hml, hown, hts⟩ (ct_X2_append l dC dI cI cJ cZ H.size v0 v1 v2 ((rowL z M2 (fun _ => -1) (nLst z k)).1) ((rowL z M2 (fun _ => -1) (nLst z k)).2.1) ((rowL z M2 (fun _ => -1) (nLst z k)).2.2.1) ((rowL z M2 (fun _ => -1) (nLst z k)).2.2.2) (nI k) (z k) hl9 (inn (by omega) (by omega))) (cwV 2 hts gX3_writeByNumber_X2_append rfl rfl rfl (by decide +kernel) ⟨Nat.le_of_ble_eq_true rfl, Nat.le_of_ble_eq_true rfl⟩) (pre_V hK hPc hDc (ci := 2) rfl rfl) rfl rfl hl.1 rfl (lv_room (Nat.le_of_ble_eq_true rfl)) dX3_writeByNumber_37 ⟨Nat.zero_le _, Nat.zero_le _⟩) hS (fun q _ h => hFc q h) hFc (fun uu t H1 locs ht hvm hw hB hz1 hk1 hS => ?_)
        obtain ⟨hP1, hK1, hD1⟩ := hB
        rw [ht] at hP1
        try dsimp only at hw
        have hP1 : va_P (dC, dI) vwCl [(v0, .inr (2, [.ref v1, .ref v2, .int (nI (((rowL z M2 (fun _ => -1) (nLst z k)).2.2.1) + 1)), .long (((rowL z M2 (fun _ => -1) (nLst z k)).2.2.2) + (z k).toInt64)])), (v1, .inl (cI, 300, .inl (upd ((rowL z M2 (fun _ => -1) (nLst z k)).1) ((rowL z M2 (fun _ => -1) (nLst z k)).2.2.1) (nI k)))), (v2, .inl (cJ, 300, .inr (.inl (vp_updL ((rowL z M2 (fun _ => -1) (nLst z k)).2.1) ((nI k).toNatClampNeg) ((rowL z M2 (fun _ => -1) (nLst z k)).2.2.2)))))] H1 := hP1
        obtain ⟨hP, hD⟩ := va_join (wr := [(x0, .inr (3, [.ref z0, .ref h0, .ref g0, .ref w0, .ref v0, .int (nI n), .int P, .int st])), (z0, .inl (cI, 300, .inl z))]) (w1 := [(v0, .inr (2, [.ref v1, .ref v2, .int (nI (((rowL z M2 (fun _ => -1) (nLst z k)).2.2.1) + 1)), .long (((rowL z M2 (fun _ => -1) (nLst z k)).2.2.2) + (z k).toInt64)])), (v1, .inl (cI, 300, .inl (upd ((rowL z M2 (fun _ => -1) (nLst z k)).1) ((rowL z M2 (fun _ => -1) (nLst z k)).2.2.1) (nI k)))), (v2, .inl (cJ, 300, .inr (.inl (vp_updL ((rowL z M2 (fun _ => -1) (nLst z k)).2.1) ((nI k).toNatClampNeg) ((rowL z M2 (fun _ => -1) (nLst z k)).2.2.2)))))]) hP hD [2, 3, 4] [0, 1] rfl rfl (by decide) (by decide) hk1 hFc hP1 hD1
        have hP := hP.sub (ws' := [(x0, .inr (3, [.ref z0, .ref h0, .ref g0, .ref w0, .ref v0, .int (nI n), .int P, .int st])), (z0, .inl (cI, 300, .inl z)), (v0, .inr (2, [.ref v1, .ref v2, .int (nI (((rowL z M2 (fun _ => -1) (nLst z k)).2.2.1) + 1)), .long (((rowL z M2 (fun _ => -1) (nLst z k)).2.2.2) + (z k).toInt64)])), (v1, .inl (cI, 300, .inl (upd ((rowL z M2 (fun _ => -1) (nLst z k)).1) ((rowL z M2 (fun _ => -1) (nLst z k)).2.2.1) (nI k)))), (v2, .inl (cJ, 300, .inr (.inl (vp_updL ((rowL z M2 (fun _ => -1) (nLst z k)).2.1) ((nI k).toNatClampNeg) ((rowL z M2 (fun _ => -1) (nLst z k)).2.2.2)))))]) [0, 1, 2, 3, 4] rfl
        have hD := hD.sub (ws' := [(x0, .inr (3, [.ref z0, .ref h0, .ref g0, .ref w0, .ref v0, .int (nI n), .int P, .int st])), (z0, .inl (cI, 300, .inl z)), (v0, .inr (2, [.ref v1, .ref v2, .int (nI (((rowL z M2 (fun _ => -1) (nLst z k)).2.2.1) + 1)), .long (((rowL z M2 (fun _ => -1) (nLst z k)).2.2.2) + (z k).toInt64)])), (v1, .inl (cI, 300, .inl (upd ((rowL z M2 (fun _ => -1) (nLst z k)).1) ((rowL z M2 (fun _ => -1) (nLst z k)).2.2.1) (nI k)))), (v2, .inl (cJ, 300, .inr (.inl (vp_updL ((rowL z M2 (fun _ => -1) (nLst z k)).2.1) ((nI k).toNatClampNeg) ((rowL z M2 (fun _ => -1) (nLst z k)).2.2.2)))))]) [0, 1, 2, 3, 4] (by decide) rfl
        generalize H1 = H at hP hS ⊢
        rw [ix_n (by omega)] at hP hD
        refine lv_iinc (v := nI (k + 1)) (lv' := [(1, .int (nI (k + 1))), (0, .ref x0)]) hx hb dX3_writeByNumber_40 hl (k := 1) rfl (by exact nI_1 k) (by decide) rfl (fun ls hl => ?_)
        refine lv_goto (tgt := 9) hx hb dX3_writeByNumber_43 (by decide) ?_
        have hq : rowL z M2 (fun _ => -1) (nLst z (k + 1)) = rAdd z (rowL z M2 (fun _ => -1) (nLst z k)) k := by rw [nLst_s, if_pos (Int32.not_le.mp c_3)]; unfold rowL; rw [List.foldl_append]; rfl
        have hP : va_P (dC, dI) vwCl [(x0, .inr (3, [.ref z0, .ref h0, .ref g0, .ref w0, .ref v0, .int (nI n), .int P, .int st])), (z0, .inl (cI, 300, .inl z)), (v0, .inr (2, [.ref v1, .ref v2, .int (nI (rAdd z (rowL z M2 (fun _ => -1) (nLst z k)) k).2.2.1), .long ((rAdd z (rowL z M2 (fun _ => -1) (nLst z k)) k).2.2.2)])), (v1, .inl (cI, 300, .inl ((rAdd z (rowL z M2 (fun _ => -1) (nLst z k)) k).1))), (v2, .inl (cJ, 300, .inr (.inl ((rAdd z (rowL z M2 (fun _ => -1) (nLst z k)) k).2.1))))] H := hP
        have hD : va_D A [(x0, .inr (3, [.ref z0, .ref h0, .ref g0, .ref w0, .ref v0, .int (nI n), .int P, .int st])), (z0, .inl (cI, 300, .inl z)), (v0, .inr (2, [.ref v1, .ref v2, .int (nI (rAdd z (rowL z M2 (fun _ => -1) (nLst z k)) k).2.2.1), .long ((rAdd z (rowL z M2 (fun _ => -1) (nLst z k)) k).2.2.2)])), (v1, .inl (cI, 300, .inl ((rAdd z (rowL z M2 (fun _ => -1) (nLst z k)) k).1))), (v2, .inl (cJ, 300, .inr (.inl ((rAdd z (rowL z M2 (fun _ => -1) (nLst z k)) k).2.1))))] := hD
        rw [← hq] at hP hD
        exact ih (k + 1) (by omega) H locs ls hP hD hS (lv_sub hl [1, 0] rfl)
set_option maxHeartbeats 4000000 in
set_option maxRecDepth 100000 in
theorem ct_X3_writeByNumber (l : Launch) (dC : Nat → ClassId) (dI : Nat → Nat → Nat) (cI cJ cZ : ClassId) (sz : Nat) (x0 : Nat) (z0 : Nat) (v0 : Nat) (v1 : Nat) (v2 : Nat) (h0 g0 w0 : Nat) (n : Nat) (P st : Int32) (z : Nat → Int32) (M2 : Nat → Int32) (B2 : Nat → Int64) (nu : Int32) (ne : Int64) (hn : n ≤ 300) : Met l yX3_writeByNumber wsX3_writeByNumber ({ frames := 2, cells := 0, slots := 0, locals := 46 }) (va_Pc [.ref x0] (fun U => U.heap.size = sz ∧ va_P (dC, dI) vwCl [(x0, .inr (3, [.ref z0, .ref h0, .ref g0, .ref w0, .ref v0, .int (nI n), .int P, .int st])), (z0, .inl (cI, 300, .inl z)), (v0, .inr (2, [.ref v1, .ref v2, .int nu, .long ne])), (v1, .inl (cI, 300, .inl M2)), (v2, .inl (cJ, 300, .inr (.inl B2)))] U.heap ∧ va_K (dC, dI) vwCl [(cI, .int), (cJ, .long), (cZ, .boolean)] U ∧ va_D (fun _ => True) [(x0, .inr (3, [.ref z0, .ref h0, .ref g0, .ref w0, .ref v0, .int (nI n), .int P, .int st])), (z0, .inl (cI, 300, .inl z)), (v0, .inr (2, [.ref v1, .ref v2, .int nu, .long ne])), (v1, .inl (cI, 300, .inl M2)), (v2, .inl (cJ, 300, .inr (.inl B2)))])) (va_Qv (fun (uu : Unit) => True) (fun (uu : Unit) (t : State) => va_P (dC, dI) vwCl [(x0, .inr (3, [.ref z0, .ref h0, .ref g0, .ref w0, .ref v0, .int (nI n), .int P, .int st])), (z0, .inl (cI, 300, .inl z)), (v0, .inr (2, [.ref v1, .ref v2, .int (nI (rowL z M2 (fun _ => -1) (nLst z n)).2.2.1), .long ((rowL z M2 (fun _ => -1) (nLst z n)).2.2.2)])), (v1, .inl (cI, 300, .inl ((rowL z M2 (fun _ => -1) (nLst z n)).1))), (v2, .inl (cJ, 300, .inr (.inl ((rowL z M2 (fun _ => -1) (nLst z n)).2.1))))] t.heap ∧ va_K (dC, dI) vwCl [(cI, .int), (cJ, .long), (cZ, .boolean)] t ∧ va_D (va_A [(x0, .inr (3, [.ref z0, .ref h0, .ref g0, .ref w0, .ref v0, .int (nI n), .int P, .int st])), (z0, .inl (cI, 300, .inl z)), (v0, .inr (2, [.ref v1, .ref v2, .int nu, .long ne])), (v1, .inl (cI, 300, .inl M2)), (v2, .inl (cJ, 300, .inr (.inl B2)))] sz) [(x0, .inr (3, [.ref z0, .ref h0, .ref g0, .ref w0, .ref v0, .int (nI n), .int P, .int st])), (z0, .inl (cI, 300, .inl z)), (v0, .inr (2, [.ref v1, .ref v2, .int (nI (rowL z M2 (fun _ => -1) (nLst z n)).2.2.1), .long ((rowL z M2 (fun _ => -1) (nLst z n)).2.2.2)])), (v1, .inl (cI, 300, .inl ((rowL z M2 (fun _ => -1) (nLst z n)).1))), (v2, .inl (cJ, 300, .inr (.inl ((rowL z M2 (fun _ => -1) (nLst z n)).2.1))))]) (va_A [(x0, .inr (3, [.ref z0, .ref h0, .ref g0, .ref w0, .ref v0, .int (nI n), .int P, .int st])), (z0, .inl (cI, 300, .inl z)), (v0, .inr (2, [.ref v1, .ref v2, .int nu, .long ne])), (v1, .inl (cI, 300, .inl M2)), (v2, .inl (cJ, 300, .inr (.inl B2)))] sz)) 0 0 (va_A [(x0, .inr (3, [.ref z0, .ref h0, .ref g0, .ref w0, .ref v0, .int (nI n), .int P, .int st])), (z0, .inl (cI, 300, .inl z)), (v0, .inr (2, [.ref v1, .ref v2, .int nu, .long ne])), (v1, .inl (cI, 300, .inl M2)), (v2, .inl (cJ, 300, .inr (.inl B2)))] sz) := by
  refine Met.ofW (cc := cX3_writeByNumber) (maxL := 2) (ret := none) (by decide) rfl ?_
  intro p ev s m args below meth c s₁ Bd hml hv
  obtain ⟨rfl, hsz, hP, hK, hD0⟩ := hv
  have hx := Bd.exec
  have hb := Bd.bytes
  have hr := Bd.returns
  have hts := atoms_spec (ws := wsX3_writeByNumber) Bd.pre
  have hown : s.vm.findClass RX3 = some m.cls := findClass_of_methodNamed Bd.named
  have hlocks := Bd.notSynchronized
  have hin3 : ∀ w ∈ wsX30, w ∈ wsX3_writeByNumber := by decide +kernel
  subst hsz
  have hD := hD0.self (sz := s.heap.size)
  generalize hAe : va_A [(x0, .inr (3, [.ref z0, .ref h0, .ref g0, .ref w0, .ref v0, .int (nI n), .int P, .int st])), (z0, .inl (cI, 300, .inl z)), (v0, .inr (2, [.ref v1, .ref v2, .int nu, .long ne])), (v1, .inl (cI, 300, .inl M2)), (v2, .inl (cJ, 300, .inr (.inl B2)))] s.heap.size = A at hD ⊢
  have hA : ∀ q : Nat, s.heap.size ≤ q → A q := fun q h => by rw [← hAe]; exact Or.inr h
  have hS : va_S A s.heap s.heap [] := va_S.rf
  have hl := lv_entry ([.ref x0]) (n := 2) (Nat.le_of_ble_eq_true rfl)
  rw [lg_entry_eq]
  generalize (lg_sl ([.ref x0]) ++ List.replicate (2 - (lg_sl ([.ref x0])).length) Slot.unset).toArray = ls at hl ⊢
  have hl : lv_has ls 2 [(0, .ref x0)] := hl
  generalize hHe : s.heap = H at hP ⊢
  have hS : va_S A s.heap H [] := hHe ▸ hS
  refine lv_aload_n hx hb dX3_writeByNumber_0 rfl (lv_at hl 0 rfl) ?_
  refine va_get (D := (dC, dI)) (ci := 3) (v := .ref v0) (C := RX3) (T := TX3) (N := 8) hx hb hts hin3 hown hK hP 0 rfl rfl 4 (by decide) (hts (.fieldLink RX3 34 "CallClusters" "numbered" "LCallClusters$Row;") (by decide +kernel)) (fun _ h9 => h9) rfl dX3_writeByNumber_1 ?_
  have hPc := hP.sub (ws' := [(v0, .inr (2, [.ref v1, .ref v2, .int nu, .long ne])), (v1, .inl (cI, 300, .inl M2)), (v2, .inl (cJ, 300, .inr (.inl B2)))]) [2, 3, 4] rfl
  have hDc := hD.sub (ws' := [(v0, .inr (2, [.ref v1, .ref v2, .int nu, .long ne])), (v1, .inl (cI, 300, .inl M2)), (v2, .inl (cJ, 300, .inr (.inl B2)))]) [2, 3, 4] (by decide) rfl
  have hFc := va_free (wc := [(v0, .inr (2, [.ref v1, .ref v2, .int nu, .long ne])), (v1, .inl (cI, 300, .inl M2)), (v2, .inl (cJ, 300, .inr (.inl B2)))]) hD hS hA [2, 3, 4] rfl
  refine va_callv (va_runV (As := []) (rest := []) ⟨hx, hb, hml, hown, hts⟩ (ct_X2_empty l dC dI cI cJ cZ H.size v0 v1 v2 M2 B2 nu ne ) (cwV 0 hts gX3_writeByNumber_X2_empty rfl rfl rfl (by decide +kernel) ⟨Nat.le_of_ble_eq_true rfl, Nat.le_of_ble_eq_true rfl⟩) (pre_V hK hPc hDc (ci := 2) rfl rfl) rfl rfl hl.1 rfl (lv_room (Nat.le_of_ble_eq_true rfl)) dX3_writeByNumber_4 ⟨Nat.zero_le _, Nat.zero_le _⟩) hS (fun q _ h => hFc q h) hFc (fun uu t H1 locs ht hvm hw hB hz1 hk1 hS => ?_)
  obtain ⟨hP1, hK1, hD1⟩ := hB
  rw [ht] at hP1
  try dsimp only at hw
  have hP1 : va_P (dC, dI) vwCl [(v0, .inr (2, [.ref v1, .ref v2, .int 0, .long 0])), (v1, .inl (cI, 300, .inl M2)), (v2, .inl (cJ, 300, .inr (.inl (mix 300 (fun _ => -1) B2))))] H1 := hP1
  obtain ⟨hP, hD⟩ := va_join (wr := [(x0, .inr (3, [.ref z0, .ref h0, .ref g0, .ref w0, .ref v0, .int (nI n), .int P, .int st])), (z0, .inl (cI, 300, .inl z))]) (w1 := [(v0, .inr (2, [.ref v1, .ref v2, .int 0, .long 0])), (v1, .inl (cI, 300, .inl M2)), (v2, .inl (cJ, 300, .inr (.inl (mix 300 (fun _ => -1) B2))))]) hP hD [2, 3, 4] [0, 1] rfl rfl (by decide) (by decide) hk1 hFc hP1 hD1
  have hP := hP.sub (ws' := [(x0, .inr (3, [.ref z0, .ref h0, .ref g0, .ref w0, .ref v0, .int (nI n), .int P, .int st])), (z0, .inl (cI, 300, .inl z)), (v0, .inr (2, [.ref v1, .ref v2, .int 0, .long 0])), (v1, .inl (cI, 300, .inl M2)), (v2, .inl (cJ, 300, .inr (.inl (mix 300 (fun _ => -1) B2))))]) [0, 1, 2, 3, 4] rfl
  have hD := hD.sub (ws' := [(x0, .inr (3, [.ref z0, .ref h0, .ref g0, .ref w0, .ref v0, .int (nI n), .int P, .int st])), (z0, .inl (cI, 300, .inl z)), (v0, .inr (2, [.ref v1, .ref v2, .int 0, .long 0])), (v1, .inl (cI, 300, .inl M2)), (v2, .inl (cJ, 300, .inr (.inl (mix 300 (fun _ => -1) B2))))]) [0, 1, 2, 3, 4] (by decide) rfl
  generalize H1 = H at hP hS ⊢
  refine lv_iconst (v := 0) hx hb dX3_writeByNumber_7 (by decide) ?_
  refine tp_i (y := nI 0) (nI_0.symm) ?_
  refine lv_istore_n (lv' := [(1, .int (nI 0)), (0, .ref x0)]) hx hb dX3_writeByNumber_8 rfl hl (by decide) rfl (fun ls hl => ?_)
  have hP := hP.el 4 (fun _ => -1) rfl (fun j hj => mix_lt _ _ hj)
  have hD := hD.set (p := 4) (e := .inl (cJ, 300, .inr (.inl (fun _ => -1)))) rfl
  have hP : va_P (dC, dI) vwCl [(x0, .inr (3, [.ref z0, .ref h0, .ref g0, .ref w0, .ref v0, .int (nI n), .int P, .int st])), (z0, .inl (cI, 300, .inl z)), (v0, .inr (2, [.ref v1, .ref v2, .int (nI (rowL z M2 (fun _ => -1) (nLst z 0)).2.2.1), .long ((rowL z M2 (fun _ => -1) (nLst z 0)).2.2.2)])), (v1, .inl (cI, 300, .inl ((rowL z M2 (fun _ => -1) (nLst z 0)).1))), (v2, .inl (cJ, 300, .inr (.inl ((rowL z M2 (fun _ => -1) (nLst z 0)).2.1))))] H := hP
  have hD : va_D A [(x0, .inr (3, [.ref z0, .ref h0, .ref g0, .ref w0, .ref v0, .int (nI n), .int P, .int st])), (z0, .inl (cI, 300, .inl z)), (v0, .inr (2, [.ref v1, .ref v2, .int (nI (rowL z M2 (fun _ => -1) (nLst z 0)).2.2.1), .long ((rowL z M2 (fun _ => -1) (nLst z 0)).2.2.2)])), (v1, .inl (cI, 300, .inl ((rowL z M2 (fun _ => -1) (nLst z 0)).1))), (v2, .inl (cJ, 300, .inr (.inl ((rowL z M2 (fun _ => -1) (nLst z 0)).2.1))))] := hD
  refine lpX3_writeByNumber (n := n) (z := z) (M2 := M2) hx hb hml hts hown hK hA hn (fun  H locs ls hP hD hS hl => ?_) (n) 0 (by omega) H _ ls hP hD hS (lv_sub hl [1, 0] rfl)
  · -- kn
    have hP9 : va_P (dC, dI) vwCl [(x0, .inr (3, [.ref z0, .ref h0, .ref g0, .ref w0, .ref v0, .int (nI n), .int P, .int st])), (z0, .inl (cI, 300, .inl z)), (v0, .inr (2, [.ref v1, .ref v2, .int (nI (rowL z M2 (fun _ => -1) (nLst z n)).2.2.1), .long ((rowL z M2 (fun _ => -1) (nLst z n)).2.2.2)])), (v1, .inl (cI, 300, .inl ((rowL z M2 (fun _ => -1) (nLst z n)).1))), (v2, .inl (cJ, 300, .inr (.inl ((rowL z M2 (fun _ => -1) (nLst z n)).2.1))))] H := hP
    have hD9 : va_D A [(x0, .inr (3, [.ref z0, .ref h0, .ref g0, .ref w0, .ref v0, .int (nI n), .int P, .int st])), (z0, .inl (cI, 300, .inl z)), (v0, .inr (2, [.ref v1, .ref v2, .int (nI (rowL z M2 (fun _ => -1) (nLst z n)).2.2.1), .long ((rowL z M2 (fun _ => -1) (nLst z n)).2.2.2)])), (v1, .inl (cI, 300, .inl ((rowL z M2 (fun _ => -1) (nLst z n)).1))), (v2, .inl (cJ, 300, .inr (.inl ((rowL z M2 (fun _ => -1) (nLst z n)).2.1))))] := hD
    exact W.vret hx hb hr (fun t ht hW => ⟨⟨(), rfl, trivial, by rw [ht]; exact hP9, va_K.moved hW.alike hK, hD9⟩, hS.F ht⟩) hS.2.2 dX3_writeByNumber_46
end
section
set_option maxHeartbeats 4000000 in
set_option maxRecDepth 100000 in
theorem ct_X3_refresh (l : Launch) (dC : Nat → ClassId) (dI : Nat → Nat → Nat) (cI cJ cZ : ClassId) (sz : Nat) (x0 : Nat) (z0 : Nat) (h0 : Nat) (h1 : Nat) (h2 : Nat) (h3 : Nat) (h4 : Nat) (h5 : Nat) (g0 : Nat) (g1 : Nat) (g2 : Nat) (g3 : Nat) (g4 : Nat) (g5 : Nat) (g6 : Nat) (g7 : Nat) (g8 : Nat) (w0 : Nat) (w1 : Nat) (w2 : Nat) (v0 : Nat) (v1 : Nat) (v2 : Nat) (n : Nat) (P st : Int32) (z F T : Nat → Int32) (C : Nat → Int64) (u : Nat) (S : Nat → Int32) (fi nx la le : Nat → Int32) (by_ he : Nat → Int64) (lo rk : Nat → Int32) (rc : Int32) (M : Nat → Int32) (B : Nat → Int64) (pu : Int32) (pe : Int64) (M2 : Nat → Int32) (B2 : Nat → Int64) (nu : Int32) (ne : Int64) (hn : n ≤ 300) (hu : u ≤ 2000) (hF : ∀ i, i < u → vp_in (F i) 300) (hT : ∀ i, i < u → vp_in (T i) 300) (hst : st = 0 ∨ st = 1) (hder : st = 0 → DerC n P z F T C u S fi rc M B pu B2) : Met l yX3_refresh wsX3_refresh ({ frames := 3, cells := 0, slots := 0, locals := 75 }) (va_Pc [.ref x0] (fun U => U.heap.size = sz ∧ va_P (dC, dI) vwCl [(x0, .inr (3, [.ref z0, .ref h0, .ref g0, .ref w0, .ref v0, .int (nI n), .int P, .int st])), (z0, .inl (cI, 300, .inl z)), (h0, .inr (0, [.ref h1, .ref h2, .ref h3, .ref h4, .ref h5, .int (nI u)])), (h1, .inl (cI, 2000, .inl F)), (h2, .inl (cI, 2000, .inl T)), (h3, .inl (cJ, 2000, .inr (.inl C))), (h4, .inl (cJ, 300, .inr (.inl (hN F T C u)))), (h5, .inl (cI, 300, .inl S)), (g0, .inr (1, [.ref g1, .ref g2, .ref g3, .ref g4, .ref g5, .ref g6, .ref g7, .ref g8, .int rc])), (g1, .inl (cI, 300, .inl fi)), (g2, .inl (cI, 300, .inl nx)), (g3, .inl (cI, 300, .inl la)), (g4, .inl (cI, 300, .inl le)), (g5, .inl (cJ, 300, .inr (.inl by_))), (g6, .inl (cJ, 300, .inr (.inl he))), (g7, .inl (cI, 300, .inl lo)), (g8, .inl (cI, 300, .inl rk)), (w0, .inr (2, [.ref w1, .ref w2, .int pu, .long pe])), (w1, .inl (cI, 300, .inl M)), (w2, .inl (cJ, 300, .inr (.inl B))), (v0, .inr (2, [.ref v1, .ref v2, .int nu, .long ne])), (v1, .inl (cI, 300, .inl M2)), (v2, .inl (cJ, 300, .inr (.inl B2)))] U.heap ∧ va_K (dC, dI) vwCl [(cI, .int), (cJ, .long), (cZ, .boolean)] U ∧ va_D (fun _ => True) [(x0, .inr (3, [.ref z0, .ref h0, .ref g0, .ref w0, .ref v0, .int (nI n), .int P, .int st])), (z0, .inl (cI, 300, .inl z)), (h0, .inr (0, [.ref h1, .ref h2, .ref h3, .ref h4, .ref h5, .int (nI u)])), (h1, .inl (cI, 2000, .inl F)), (h2, .inl (cI, 2000, .inl T)), (h3, .inl (cJ, 2000, .inr (.inl C))), (h4, .inl (cJ, 300, .inr (.inl (hN F T C u)))), (h5, .inl (cI, 300, .inl S)), (g0, .inr (1, [.ref g1, .ref g2, .ref g3, .ref g4, .ref g5, .ref g6, .ref g7, .ref g8, .int rc])), (g1, .inl (cI, 300, .inl fi)), (g2, .inl (cI, 300, .inl nx)), (g3, .inl (cI, 300, .inl la)), (g4, .inl (cI, 300, .inl le)), (g5, .inl (cJ, 300, .inr (.inl by_))), (g6, .inl (cJ, 300, .inr (.inl he))), (g7, .inl (cI, 300, .inl lo)), (g8, .inl (cI, 300, .inl rk)), (w0, .inr (2, [.ref w1, .ref w2, .int pu, .long pe])), (w1, .inl (cI, 300, .inl M)), (w2, .inl (cJ, 300, .inr (.inl B))), (v0, .inr (2, [.ref v1, .ref v2, .int nu, .long ne])), (v1, .inl (cI, 300, .inl M2)), (v2, .inl (cJ, 300, .inr (.inl B2)))])) (va_Qv (fun (uu : (Nat → Int32) × (Nat → Int32) × (Nat → Int32) × (Nat → Int32) × (Nat → Int32) × (Nat → Int64) × (Nat → Int64) × (Nat → Int32) × (Nat → Int32) × (Int32) × (Nat → Int32) × (Nat → Int64) × (Int32) × (Int64) × (Nat → Int32) × (Nat → Int64) × (Int32) × (Int64)) => match uu with | (S', fi', nx', la', le', by_', he', lo', rk', rc', M', B', pu', pe', M2', B2', nu', ne') => DerC n P z F T C u S' fi' rc' M' B' pu' B2') (fun (uu : (Nat → Int32) × (Nat → Int32) × (Nat → Int32) × (Nat → Int32) × (Nat → Int32) × (Nat → Int64) × (Nat → Int64) × (Nat → Int32) × (Nat → Int32) × (Int32) × (Nat → Int32) × (Nat → Int64) × (Int32) × (Int64) × (Nat → Int32) × (Nat → Int64) × (Int32) × (Int64)) (t : State) => match uu with | (S', fi', nx', la', le', by_', he', lo', rk', rc', M', B', pu', pe', M2', B2', nu', ne') => va_P (dC, dI) vwCl [(x0, .inr (3, [.ref z0, .ref h0, .ref g0, .ref w0, .ref v0, .int (nI n), .int P, .int 0])), (z0, .inl (cI, 300, .inl z)), (h0, .inr (0, [.ref h1, .ref h2, .ref h3, .ref h4, .ref h5, .int (nI u)])), (h1, .inl (cI, 2000, .inl F)), (h2, .inl (cI, 2000, .inl T)), (h3, .inl (cJ, 2000, .inr (.inl C))), (h4, .inl (cJ, 300, .inr (.inl (hN F T C u)))), (h5, .inl (cI, 300, .inl (S'))), (g0, .inr (1, [.ref g1, .ref g2, .ref g3, .ref g4, .ref g5, .ref g6, .ref g7, .ref g8, .int (rc')])), (g1, .inl (cI, 300, .inl (fi'))), (g2, .inl (cI, 300, .inl (nx'))), (g3, .inl (cI, 300, .inl (la'))), (g4, .inl (cI, 300, .inl (le'))), (g5, .inl (cJ, 300, .inr (.inl (by_')))), (g6, .inl (cJ, 300, .inr (.inl (he')))), (g7, .inl (cI, 300, .inl (lo'))), (g8, .inl (cI, 300, .inl (rk'))), (w0, .inr (2, [.ref w1, .ref w2, .int (pu'), .long (pe')])), (w1, .inl (cI, 300, .inl (M'))), (w2, .inl (cJ, 300, .inr (.inl (B')))), (v0, .inr (2, [.ref v1, .ref v2, .int (nu'), .long (ne')])), (v1, .inl (cI, 300, .inl (M2'))), (v2, .inl (cJ, 300, .inr (.inl (B2'))))] t.heap ∧ va_K (dC, dI) vwCl [(cI, .int), (cJ, .long), (cZ, .boolean)] t ∧ va_D (va_A [(x0, .inr (3, [.ref z0, .ref h0, .ref g0, .ref w0, .ref v0, .int (nI n), .int P, .int st])), (z0, .inl (cI, 300, .inl z)), (h0, .inr (0, [.ref h1, .ref h2, .ref h3, .ref h4, .ref h5, .int (nI u)])), (h1, .inl (cI, 2000, .inl F)), (h2, .inl (cI, 2000, .inl T)), (h3, .inl (cJ, 2000, .inr (.inl C))), (h4, .inl (cJ, 300, .inr (.inl (hN F T C u)))), (h5, .inl (cI, 300, .inl S)), (g0, .inr (1, [.ref g1, .ref g2, .ref g3, .ref g4, .ref g5, .ref g6, .ref g7, .ref g8, .int rc])), (g1, .inl (cI, 300, .inl fi)), (g2, .inl (cI, 300, .inl nx)), (g3, .inl (cI, 300, .inl la)), (g4, .inl (cI, 300, .inl le)), (g5, .inl (cJ, 300, .inr (.inl by_))), (g6, .inl (cJ, 300, .inr (.inl he))), (g7, .inl (cI, 300, .inl lo)), (g8, .inl (cI, 300, .inl rk)), (w0, .inr (2, [.ref w1, .ref w2, .int pu, .long pe])), (w1, .inl (cI, 300, .inl M)), (w2, .inl (cJ, 300, .inr (.inl B))), (v0, .inr (2, [.ref v1, .ref v2, .int nu, .long ne])), (v1, .inl (cI, 300, .inl M2)), (v2, .inl (cJ, 300, .inr (.inl B2)))] sz) [(x0, .inr (3, [.ref z0, .ref h0, .ref g0, .ref w0, .ref v0, .int (nI n), .int P, .int 0])), (z0, .inl (cI, 300, .inl z)), (h0, .inr (0, [.ref h1, .ref h2, .ref h3, .ref h4, .ref h5, .int (nI u)])), (h1, .inl (cI, 2000, .inl F)), (h2, .inl (cI, 2000, .inl T)), (h3, .inl (cJ, 2000, .inr (.inl C))), (h4, .inl (cJ, 300, .inr (.inl (hN F T C u)))), (h5, .inl (cI, 300, .inl (S'))), (g0, .inr (1, [.ref g1, .ref g2, .ref g3, .ref g4, .ref g5, .ref g6, .ref g7, .ref g8, .int (rc')])), (g1, .inl (cI, 300, .inl (fi'))), (g2, .inl (cI, 300, .inl (nx'))), (g3, .inl (cI, 300, .inl (la'))), (g4, .inl (cI, 300, .inl (le'))), (g5, .inl (cJ, 300, .inr (.inl (by_')))), (g6, .inl (cJ, 300, .inr (.inl (he')))), (g7, .inl (cI, 300, .inl (lo'))), (g8, .inl (cI, 300, .inl (rk'))), (w0, .inr (2, [.ref w1, .ref w2, .int (pu'), .long (pe')])), (w1, .inl (cI, 300, .inl (M'))), (w2, .inl (cJ, 300, .inr (.inl (B')))), (v0, .inr (2, [.ref v1, .ref v2, .int (nu'), .long (ne')])), (v1, .inl (cI, 300, .inl (M2'))), (v2, .inl (cJ, 300, .inr (.inl (B2'))))]) (va_A [(x0, .inr (3, [.ref z0, .ref h0, .ref g0, .ref w0, .ref v0, .int (nI n), .int P, .int st])), (z0, .inl (cI, 300, .inl z)), (h0, .inr (0, [.ref h1, .ref h2, .ref h3, .ref h4, .ref h5, .int (nI u)])), (h1, .inl (cI, 2000, .inl F)), (h2, .inl (cI, 2000, .inl T)), (h3, .inl (cJ, 2000, .inr (.inl C))), (h4, .inl (cJ, 300, .inr (.inl (hN F T C u)))), (h5, .inl (cI, 300, .inl S)), (g0, .inr (1, [.ref g1, .ref g2, .ref g3, .ref g4, .ref g5, .ref g6, .ref g7, .ref g8, .int rc])), (g1, .inl (cI, 300, .inl fi)), (g2, .inl (cI, 300, .inl nx)), (g3, .inl (cI, 300, .inl la)), (g4, .inl (cI, 300, .inl le)), (g5, .inl (cJ, 300, .inr (.inl by_))), (g6, .inl (cJ, 300, .inr (.inl he))), (g7, .inl (cI, 300, .inl lo)), (g8, .inl (cI, 300, .inl rk)), (w0, .inr (2, [.ref w1, .ref w2, .int pu, .long pe])), (w1, .inl (cI, 300, .inl M)), (w2, .inl (cJ, 300, .inr (.inl B))), (v0, .inr (2, [.ref v1, .ref v2, .int nu, .long ne])), (v1, .inl (cI, 300, .inl M2)), (v2, .inl (cJ, 300, .inr (.inl B2)))] sz)) 0 0 (va_A [(x0, .inr (3, [.ref z0, .ref h0, .ref g0, .ref w0, .ref v0, .int (nI n), .int P, .int st])), (z0, .inl (cI, 300, .inl z)), (h0, .inr (0, [.ref h1, .ref h2, .ref h3, .ref h4, .ref h5, .int (nI u)])), (h1, .inl (cI, 2000, .inl F)), (h2, .inl (cI, 2000, .inl T)), (h3, .inl (cJ, 2000, .inr (.inl C))), (h4, .inl (cJ, 300, .inr (.inl (hN F T C u)))), (h5, .inl (cI, 300, .inl S)), (g0, .inr (1, [.ref g1, .ref g2, .ref g3, .ref g4, .ref g5, .ref g6, .ref g7, .ref g8, .int rc])), (g1, .inl (cI, 300, .inl fi)), (g2, .inl (cI, 300, .inl nx)), (g3, .inl (cI, 300, .inl la)), (g4, .inl (cI, 300, .inl le)), (g5, .inl (cJ, 300, .inr (.inl by_))), (g6, .inl (cJ, 300, .inr (.inl he))), (g7, .inl (cI, 300, .inl lo)), (g8, .inl (cI, 300, .inl rk)), (w0, .inr (2, [.ref w1, .ref w2, .int pu, .long pe])), (w1, .inl (cI, 300, .inl M)), (w2, .inl (cJ, 300, .inr (.inl B))), (v0, .inr (2, [.ref v1, .ref v2, .int nu, .long ne])), (v1, .inl (cI, 300, .inl M2)), (v2, .inl (cJ, 300, .inr (.inl B2)))] sz) := by
  refine Met.ofW (cc := cX3_refresh) (maxL := 1) (ret := none) (by decide) rfl ?_
  intro p ev s m args below meth c s₁ Bd hml hv
  obtain ⟨rfl, hsz, hP, hK, hD0⟩ := hv
  have hx := Bd.exec
  have hb := Bd.bytes
  have hr := Bd.returns
  have hts := atoms_spec (ws := wsX3_refresh) Bd.pre
  have hown : s.vm.findClass RX3 = some m.cls := findClass_of_methodNamed Bd.named
  have hlocks := Bd.notSynchronized
  have hin3 : ∀ w ∈ wsX30, w ∈ wsX3_refresh := by decide +kernel
  subst hsz
  have hD := hD0.self (sz := s.heap.size)
  generalize hAe : va_A [(x0, .inr (3, [.ref z0, .ref h0, .ref g0, .ref w0, .ref v0, .int (nI n), .int P, .int st])), (z0, .inl (cI, 300, .inl z)), (h0, .inr (0, [.ref h1, .ref h2, .ref h3, .ref h4, .ref h5, .int (nI u)])), (h1, .inl (cI, 2000, .inl F)), (h2, .inl (cI, 2000, .inl T)), (h3, .inl (cJ, 2000, .inr (.inl C))), (h4, .inl (cJ, 300, .inr (.inl (hN F T C u)))), (h5, .inl (cI, 300, .inl S)), (g0, .inr (1, [.ref g1, .ref g2, .ref g3, .ref g4, .ref g5, .ref g6, .ref g7, .ref g8, .int rc])), (g1, .inl (cI, 300, .inl fi)), (g2, .inl (cI, 300, .inl nx)), (g3, .inl (cI, 300, .inl la)), (g4, .inl (cI, 300, .inl le)), (g5, .inl (cJ, 300, .inr (.inl by_))), (g6, .inl (cJ, 300, .inr (.inl he))), (g7, .inl (cI, 300, .inl lo)), (g8, .inl (cI, 300, .inl rk)), (w0, .inr (2, [.ref w1, .ref w2, .int pu, .long pe])), (w1, .inl (cI, 300, .inl M)), (w2, .inl (cJ, 300, .inr (.inl B))), (v0, .inr (2, [.ref v1, .ref v2, .int nu, .long ne])), (v1, .inl (cI, 300, .inl M2)), (v2, .inl (cJ, 300, .inr (.inl B2)))] s.heap.size = A at hD ⊢
  have hA : ∀ q : Nat, s.heap.size ≤ q → A q := fun q h => by rw [← hAe]; exact Or.inr h
  have hS : va_S A s.heap s.heap [] := va_S.rf
  have hl := lv_entry ([.ref x0]) (n := 1) (Nat.le_of_ble_eq_true rfl)
  rw [lg_entry_eq]
  generalize (lg_sl ([.ref x0]) ++ List.replicate (1 - (lg_sl ([.ref x0])).length) Slot.unset).toArray = ls at hl ⊢
  have hl : lv_has ls 1 [(0, .ref x0)] := hl
  generalize hHe : s.heap = H at hP ⊢
  have hS : va_S A s.heap H [] := hHe ▸ hS
  have hs9 : ∀ j, j < 300 → fcN F T C z u j = -1 ∨ vp_in (fcN F T C z u j) 2000 := fun j _ => fcN_vin j hu
  have hcf : ∀ f, f < 300 → cof (fcN F T C z u) F f = -1 ∨ ∃ c, c < 300 ∧ cof (fcN F T C z u) F f = nI c ∧ ¬ z c ≤ 0 := fun f _ => fcN_cof hu hF f
  have hI : CInv z (bldX P z (fcN F T C z u) F (hN F T C u) lo) := bldX_inv hcf
  refine lv_aload_n hx hb dX3_refresh_0 rfl (lv_at hl 0 rfl) ?_
  refine va_get (D := (dC, dI)) (ci := 3) (v := .int st) (C := RX3) (T := TX3) (N := 8) hx hb hts hin3 hown hK hP 0 rfl rfl 7 (by decide) (hts (.fieldLink RX3 44 "CallClusters" "stale" "Z") (by decide +kernel)) (fun _ h9 => h9) rfl dX3_refresh_1 ?_
  refine lv_if_ne (tgt := 8) hx hb dX3_refresh_4 (by decide) (fun c_1 => ?_) (fun c_1 => ?_)
  · -- pc 4, side 0
    refine lv_aload_n hx hb dX3_refresh_8 rfl (lv_at hl 0 rfl) ?_
    refine va_get (D := (dC, dI)) (ci := 3) (v := .ref h0) (C := RX3) (T := TX3) (N := 8) hx hb hts hin3 hown hK hP 0 rfl rfl 1 (by decide) (hts (.fieldLink RX3 16 "CallClusters" "table" "LCallClusters$CallTable;") (by decide +kernel)) (fun _ h9 => h9) rfl dX3_refresh_9 ?_
    refine lv_aload_n hx hb dX3_refresh_12 rfl (lv_at hl 0 rfl) ?_
    refine va_get (D := (dC, dI)) (ci := 3) (v := .ref z0) (C := RX3) (T := TX3) (N := 8) hx hb hts hin3 hown hK hP 0 rfl rfl 0 (by decide) (hts (.fieldLink RX3 9 "CallClusters" "sizes" "[I") (by decide +kernel)) (fun _ h9 => h9) rfl dX3_refresh_13 ?_
    have hPc := hP.sub (ws' := [(h0, .inr (0, [.ref h1, .ref h2, .ref h3, .ref h4, .ref h5, .int (nI u)])), (h1, .inl (cI, 2000, .inl F)), (h2, .inl (cI, 2000, .inl T)), (h3, .inl (cJ, 2000, .inr (.inl C))), (h4, .inl (cJ, 300, .inr (.inl (hN F T C u)))), (h5, .inl (cI, 300, .inl S)), (z0, .inl (cI, 300, .inl z))]) [2, 3, 4, 5, 6, 7, 1] rfl
    have hDc := hD.sub (ws' := [(h0, .inr (0, [.ref h1, .ref h2, .ref h3, .ref h4, .ref h5, .int (nI u)])), (h1, .inl (cI, 2000, .inl F)), (h2, .inl (cI, 2000, .inl T)), (h3, .inl (cJ, 2000, .inr (.inl C))), (h4, .inl (cJ, 300, .inr (.inl (hN F T C u)))), (h5, .inl (cI, 300, .inl S)), (z0, .inl (cI, 300, .inl z))]) [2, 3, 4, 5, 6, 7, 1] (by decide) rfl
    have hFc := va_free (wc := [(h0, .inr (0, [.ref h1, .ref h2, .ref h3, .ref h4, .ref h5, .int (nI u)])), (h1, .inl (cI, 2000, .inl F)), (h2, .inl (cI, 2000, .inl T)), (h3, .inl (cJ, 2000, .inr (.inl C))), (h4, .inl (cJ, 300, .inr (.inl (hN F T C u)))), (h5, .inl (cI, 300, .inl S)), (z0, .inl (cI, 300, .inl z))]) hD hS hA [2, 3, 4, 5, 6, 7, 1] rfl
    refine va_callv (va_runV (As := [.ref z0]) (rest := []) ⟨hx, hb, hml, hown, hts⟩ (ct_X0_findCallers l dC dI cI cJ cZ H.size h0 h1 h2 h3 h4 h5 z0 F T C (hN F T C u) S u z hu hF hT) (cwV 1 hts gX3_refresh_X0_findCallers rfl rfl rfl (by decide +kernel) ⟨Nat.le_of_ble_eq_true rfl, Nat.le_of_ble_eq_true rfl⟩) (pre_V hK hPc hDc (ci := 0) rfl rfl) rfl rfl hl.1 rfl (lv_room (Nat.le_of_ble_eq_true rfl)) dX3_refresh_16 ⟨Nat.zero_le _, Nat.zero_le _⟩) hS (fun q _ h => hFc q h) hFc (fun uu t H1 locs ht hvm hw hB hz1 hk1 hS => ?_)
    obtain ⟨hP1, hK1, hD1⟩ := hB
    rw [ht] at hP1
    try dsimp only at hw
    have hP1 : va_P (dC, dI) vwCl [(h0, .inr (0, [.ref h1, .ref h2, .ref h3, .ref h4, .ref h5, .int (nI u)])), (h1, .inl (cI, 2000, .inl F)), (h2, .inl (cI, 2000, .inl T)), (h3, .inl (cJ, 2000, .inr (.inl C))), (h4, .inl (cJ, 300, .inr (.inl (hN F T C u)))), (h5, .inl (cI, 300, .inl (fcN F T C z u))), (z0, .inl (cI, 300, .inl z))] H1 := hP1
    obtain ⟨hP, hD⟩ := va_join (wr := [(x0, .inr (3, [.ref z0, .ref h0, .ref g0, .ref w0, .ref v0, .int (nI n), .int P, .int st])), (g0, .inr (1, [.ref g1, .ref g2, .ref g3, .ref g4, .ref g5, .ref g6, .ref g7, .ref g8, .int rc])), (g1, .inl (cI, 300, .inl fi)), (g2, .inl (cI, 300, .inl nx)), (g3, .inl (cI, 300, .inl la)), (g4, .inl (cI, 300, .inl le)), (g5, .inl (cJ, 300, .inr (.inl by_))), (g6, .inl (cJ, 300, .inr (.inl he))), (g7, .inl (cI, 300, .inl lo)), (g8, .inl (cI, 300, .inl rk)), (w0, .inr (2, [.ref w1, .ref w2, .int pu, .long pe])), (w1, .inl (cI, 300, .inl M)), (w2, .inl (cJ, 300, .inr (.inl B))), (v0, .inr (2, [.ref v1, .ref v2, .int nu, .long ne])), (v1, .inl (cI, 300, .inl M2)), (v2, .inl (cJ, 300, .inr (.inl B2)))]) (w1 := [(h0, .inr (0, [.ref h1, .ref h2, .ref h3, .ref h4, .ref h5, .int (nI u)])), (h1, .inl (cI, 2000, .inl F)), (h2, .inl (cI, 2000, .inl T)), (h3, .inl (cJ, 2000, .inr (.inl C))), (h4, .inl (cJ, 300, .inr (.inl (hN F T C u)))), (h5, .inl (cI, 300, .inl (fcN F T C z u))), (z0, .inl (cI, 300, .inl z))]) hP hD [2, 3, 4, 5, 6, 7, 1] [0, 8, 9, 10, 11, 12, 13, 14, 15, 16, 17, 18, 19, 20, 21, 22] rfl rfl (by decide) (by decide) hk1 hFc hP1 hD1
    have hP := hP.sub (ws' := [(x0, .inr (3, [.ref z0, .ref h0, .ref g0, .ref w0, .ref v0, .int (nI n), .int P, .int st])), (z0, .inl (cI, 300, .inl z)), (h0, .inr (0, [.ref h1, .ref h2, .ref h3, .ref h4, .ref h5, .int (nI u)])), (h1, .inl (cI, 2000, .inl F)), (h2, .inl (cI, 2000, .inl T)), (h3, .inl (cJ, 2000, .inr (.inl C))), (h4, .inl (cJ, 300, .inr (.inl (hN F T C u)))), (h5, .inl (cI, 300, .inl (fcN F T C z u))), (g0, .inr (1, [.ref g1, .ref g2, .ref g3, .ref g4, .ref g5, .ref g6, .ref g7, .ref g8, .int rc])), (g1, .inl (cI, 300, .inl fi)), (g2, .inl (cI, 300, .inl nx)), (g3, .inl (cI, 300, .inl la)), (g4, .inl (cI, 300, .inl le)), (g5, .inl (cJ, 300, .inr (.inl by_))), (g6, .inl (cJ, 300, .inr (.inl he))), (g7, .inl (cI, 300, .inl lo)), (g8, .inl (cI, 300, .inl rk)), (w0, .inr (2, [.ref w1, .ref w2, .int pu, .long pe])), (w1, .inl (cI, 300, .inl M)), (w2, .inl (cJ, 300, .inr (.inl B))), (v0, .inr (2, [.ref v1, .ref v2, .int nu, .long ne])), (v1, .inl (cI, 300, .inl M2)), (v2, .inl (cJ, 300, .inr (.inl B2)))]) [0, 22, 16, 17, 18, 19, 20, 21, 1, 2, 3, 4, 5, 6, 7, 8, 9, 10, 11, 12, 13, 14, 15] rfl
    have hD := hD.sub (ws' := [(x0, .inr (3, [.ref z0, .ref h0, .ref g0, .ref w0, .ref v0, .int (nI n), .int P, .int st])), (z0, .inl (cI, 300, .inl z)), (h0, .inr (0, [.ref h1, .ref h2, .ref h3, .ref h4, .ref h5, .int (nI u)])), (h1, .inl (cI, 2000, .inl F)), (h2, .inl (cI, 2000, .inl T)), (h3, .inl (cJ, 2000, .inr (.inl C))), (h4, .inl (cJ, 300, .inr (.inl (hN F T C u)))), (h5, .inl (cI, 300, .inl (fcN F T C z u))), (g0, .inr (1, [.ref g1, .ref g2, .ref g3, .ref g4, .ref g5, .ref g6, .ref g7, .ref g8, .int rc])), (g1, .inl (cI, 300, .inl fi)), (g2, .inl (cI, 300, .inl nx)), (g3, .inl (cI, 300, .inl la)), (g4, .inl (cI, 300, .inl le)), (g5, .inl (cJ, 300, .inr (.inl by_))), (g6, .inl (cJ, 300, .inr (.inl he))), (g7, .inl (cI, 300, .inl lo)), (g8, .inl (cI, 300, .inl rk)), (w0, .inr (2, [.ref w1, .ref w2, .int pu, .long pe])), (w1, .inl (cI, 300, .inl M)), (w2, .inl (cJ, 300, .inr (.inl B))), (v0, .inr (2, [.ref v1, .ref v2, .int nu, .long ne])), (v1, .inl (cI, 300, .inl M2)), (v2, .inl (cJ, 300, .inr (.inl B2)))]) [0, 22, 16, 17, 18, 19, 20, 21, 1, 2, 3, 4, 5, 6, 7, 8, 9, 10, 11, 12, 13, 14, 15] (by decide) rfl
    generalize H1 = H at hP hS ⊢
    refine lv_aload_n hx hb dX3_refresh_19 rfl (lv_at hl 0 rfl) ?_
    refine va_get (D := (dC, dI)) (ci := 3) (v := .ref g0) (C := RX3) (T := TX3) (N := 8) hx hb hts hin3 hown hK hP 0 rfl rfl 2 (by decide) (hts (.fieldLink RX3 23 "CallClusters" "clustering" "LCallClusters$Clustering;") (by decide +kernel)) (fun _ h9 => h9) rfl dX3_refresh_20 ?_
    refine lv_aload_n hx hb dX3_refresh_23 rfl (lv_at hl 0 rfl) ?_
    refine va_get (D := (dC, dI)) (ci := 3) (v := .ref z0) (C := RX3) (T := TX3) (N := 8) hx hb hts hin3 hown hK hP 0 rfl rfl 0 (by decide) (hts (.fieldLink RX3 9 "CallClusters" "sizes" "[I") (by decide +kernel)) (fun _ h9 => h9) rfl dX3_refresh_24 ?_
    refine lv_aload_n hx hb dX3_refresh_27 rfl (lv_at hl 0 rfl) ?_
    refine va_get (D := (dC, dI)) (ci := 3) (v := .ref h0) (C := RX3) (T := TX3) (N := 8) hx hb hts hin3 hown hK hP 0 rfl rfl 1 (by decide) (hts (.fieldLink RX3 16 "CallClusters" "table" "LCallClusters$CallTable;") (by decide +kernel)) (fun _ h9 => h9) rfl dX3_refresh_28 ?_
    refine lv_aload_n hx hb dX3_refresh_31 rfl (lv_at hl 0 rfl) ?_
    refine va_get (D := (dC, dI)) (ci := 3) (v := .int P) (C := RX3) (T := TX3) (N := 8) hx hb hts hin3 hown hK hP 0 rfl rfl 6 (by decide) (hts (.fieldLink RX3 41 "CallClusters" "pageBytes" "I") (by decide +kernel)) (fun _ h9 => h9) rfl dX3_refresh_32 ?_
    have hPc := hP.sub (ws' := [(g0, .inr (1, [.ref g1, .ref g2, .ref g3, .ref g4, .ref g5, .ref g6, .ref g7, .ref g8, .int rc])), (g1, .inl (cI, 300, .inl fi)), (g2, .inl (cI, 300, .inl nx)), (g3, .inl (cI, 300, .inl la)), (g4, .inl (cI, 300, .inl le)), (g5, .inl (cJ, 300, .inr (.inl by_))), (g6, .inl (cJ, 300, .inr (.inl he))), (g7, .inl (cI, 300, .inl lo)), (g8, .inl (cI, 300, .inl rk)), (z0, .inl (cI, 300, .inl z)), (h0, .inr (0, [.ref h1, .ref h2, .ref h3, .ref h4, .ref h5, .int (nI u)])), (h1, .inl (cI, 2000, .inl F)), (h2, .inl (cI, 2000, .inl T)), (h3, .inl (cJ, 2000, .inr (.inl C))), (h4, .inl (cJ, 300, .inr (.inl (hN F T C u)))), (h5, .inl (cI, 300, .inl (fcN F T C z u)))]) [8, 9, 10, 11, 12, 13, 14, 15, 16, 1, 2, 3, 4, 5, 6, 7] rfl
    have hDc := hD.sub (ws' := [(g0, .inr (1, [.ref g1, .ref g2, .ref g3, .ref g4, .ref g5, .ref g6, .ref g7, .ref g8, .int rc])), (g1, .inl (cI, 300, .inl fi)), (g2, .inl (cI, 300, .inl nx)), (g3, .inl (cI, 300, .inl la)), (g4, .inl (cI, 300, .inl le)), (g5, .inl (cJ, 300, .inr (.inl by_))), (g6, .inl (cJ, 300, .inr (.inl he))), (g7, .inl (cI, 300, .inl lo)), (g8, .inl (cI, 300, .inl rk)), (z0, .inl (cI, 300, .inl z)), (h0, .inr (0, [.ref h1, .ref h2, .ref h3, .ref h4, .ref h5, .int (nI u)])), (h1, .inl (cI, 2000, .inl F)), (h2, .inl (cI, 2000, .inl T)), (h3, .inl (cJ, 2000, .inr (.inl C))), (h4, .inl (cJ, 300, .inr (.inl (hN F T C u)))), (h5, .inl (cI, 300, .inl (fcN F T C z u)))]) [8, 9, 10, 11, 12, 13, 14, 15, 16, 1, 2, 3, 4, 5, 6, 7] (by decide) rfl
    have hFc := va_free (wc := [(g0, .inr (1, [.ref g1, .ref g2, .ref g3, .ref g4, .ref g5, .ref g6, .ref g7, .ref g8, .int rc])), (g1, .inl (cI, 300, .inl fi)), (g2, .inl (cI, 300, .inl nx)), (g3, .inl (cI, 300, .inl la)), (g4, .inl (cI, 300, .inl le)), (g5, .inl (cJ, 300, .inr (.inl by_))), (g6, .inl (cJ, 300, .inr (.inl he))), (g7, .inl (cI, 300, .inl lo)), (g8, .inl (cI, 300, .inl rk)), (z0, .inl (cI, 300, .inl z)), (h0, .inr (0, [.ref h1, .ref h2, .ref h3, .ref h4, .ref h5, .int (nI u)])), (h1, .inl (cI, 2000, .inl F)), (h2, .inl (cI, 2000, .inl T)), (h3, .inl (cJ, 2000, .inr (.inl C))), (h4, .inl (cJ, 300, .inr (.inl (hN F T C u)))), (h5, .inl (cI, 300, .inl (fcN F T C z u)))]) hD hS hA [8, 9, 10, 11, 12, 13, 14, 15, 16, 1, 2, 3, 4, 5, 6, 7] rfl
    refine va_callv (va_runV (As := [.ref z0, .ref h0, .int P]) (rest := []) ⟨hx, hb, hml, hown, hts⟩ (ct_X1_build l dC dI cI cJ cZ H.size g0 g1 g2 g3 g4 g5 g6 g7 g8 z0 h0 h1 h2 h3 h4 h5 fi nx la le by_ he lo rk rc F T C (hN F T C u) (fcN F T C z u) u z P hs9 hcf) (cwV 3 hts gX3_refresh_X1_build rfl rfl rfl (by decide +kernel) ⟨Nat.le_of_ble_eq_true rfl, Nat.le_of_ble_eq_true rfl⟩) (pre_V hK hPc hDc (ci := 1) rfl rfl) rfl rfl hl.1 rfl (lv_room (Nat.le_of_ble_eq_true rfl)) dX3_refresh_35 ⟨Nat.zero_le _, Nat.zero_le _⟩) hS (fun q _ h => hFc q h) hFc (fun uu t H1 locs ht hvm hw hB hz1 hk1 hS => ?_)
    obtain ⟨hP1, hK1, hD1⟩ := hB
    rw [ht] at hP1
    try dsimp only at hw
    have hP1 : va_P (dC, dI) vwCl [(g0, .inr (1, [.ref g1, .ref g2, .ref g3, .ref g4, .ref g5, .ref g6, .ref g7, .ref g8, .int (nI (rkN (cFi (bldX P z (fcN F T C z u) F (hN F T C u) lo)) (cLe (bldX P z (fcN F T C z u) F (hN F T C u) lo)) (cBy (bldX P z (fcN F T C z u) F (hN F T C u) lo)) (cHe (bldX P z (fcN F T C z u) F (hN F T C u) lo)) rk 300).1)])), (g1, .inl (cI, 300, .inl (cFi (bldX P z (fcN F T C z u) F (hN F T C u) lo)))), (g2, .inl (cI, 300, .inl (cNx (bldX P z (fcN F T C z u) F (hN F T C u) lo)))), (g3, .inl (cI, 300, .inl (cLa (bldX P z (fcN F T C z u) F (hN F T C u) lo)))), (g4, .inl (cI, 300, .inl (cLe (bldX P z (fcN F T C z u) F (hN F T C u) lo)))), (g5, .inl (cJ, 300, .inr (.inl (cBy (bldX P z (fcN F T C z u) F (hN F T C u) lo))))), (g6, .inl (cJ, 300, .inr (.inl (cHe (bldX P z (fcN F T C z u) F (hN F T C u) lo))))), (g7, .inl (cI, 300, .inl ((obhN (bFi0 z) (fcN F T C z u) F (hN F T C u) lo 300).2))), (g8, .inl (cI, 300, .inl ((rkN (cFi (bldX P z (fcN F T C z u) F (hN F T C u) lo)) (cLe (bldX P z (fcN F T C z u) F (hN F T C u) lo)) (cBy (bldX P z (fcN F T C z u) F (hN F T C u) lo)) (cHe (bldX P z (fcN F T C z u) F (hN F T C u) lo)) rk 300).2))), (z0, .inl (cI, 300, .inl z)), (h0, .inr (0, [.ref h1, .ref h2, .ref h3, .ref h4, .ref h5, .int (nI u)])), (h1, .inl (cI, 2000, .inl F)), (h2, .inl (cI, 2000, .inl T)), (h3, .inl (cJ, 2000, .inr (.inl C))), (h4, .inl (cJ, 300, .inr (.inl (hN F T C u)))), (h5, .inl (cI, 300, .inl (fcN F T C z u)))] H1 := hP1
    obtain ⟨hP, hD⟩ := va_join (wr := [(x0, .inr (3, [.ref z0, .ref h0, .ref g0, .ref w0, .ref v0, .int (nI n), .int P, .int st])), (w0, .inr (2, [.ref w1, .ref w2, .int pu, .long pe])), (w1, .inl (cI, 300, .inl M)), (w2, .inl (cJ, 300, .inr (.inl B))), (v0, .inr (2, [.ref v1, .ref v2, .int nu, .long ne])), (v1, .inl (cI, 300, .inl M2)), (v2, .inl (cJ, 300, .inr (.inl B2)))]) (w1 := [(g0, .inr (1, [.ref g1, .ref g2, .ref g3, .ref g4, .ref g5, .ref g6, .ref g7, .ref g8, .int (nI (rkN (cFi (bldX P z (fcN F T C z u) F (hN F T C u) lo)) (cLe (bldX P z (fcN F T C z u) F (hN F T C u) lo)) (cBy (bldX P z (fcN F T C z u) F (hN F T C u) lo)) (cHe (bldX P z (fcN F T C z u) F (hN F T C u) lo)) rk 300).1)])), (g1, .inl (cI, 300, .inl (cFi (bldX P z (fcN F T C z u) F (hN F T C u) lo)))), (g2, .inl (cI, 300, .inl (cNx (bldX P z (fcN F T C z u) F (hN F T C u) lo)))), (g3, .inl (cI, 300, .inl (cLa (bldX P z (fcN F T C z u) F (hN F T C u) lo)))), (g4, .inl (cI, 300, .inl (cLe (bldX P z (fcN F T C z u) F (hN F T C u) lo)))), (g5, .inl (cJ, 300, .inr (.inl (cBy (bldX P z (fcN F T C z u) F (hN F T C u) lo))))), (g6, .inl (cJ, 300, .inr (.inl (cHe (bldX P z (fcN F T C z u) F (hN F T C u) lo))))), (g7, .inl (cI, 300, .inl ((obhN (bFi0 z) (fcN F T C z u) F (hN F T C u) lo 300).2))), (g8, .inl (cI, 300, .inl ((rkN (cFi (bldX P z (fcN F T C z u) F (hN F T C u) lo)) (cLe (bldX P z (fcN F T C z u) F (hN F T C u) lo)) (cBy (bldX P z (fcN F T C z u) F (hN F T C u) lo)) (cHe (bldX P z (fcN F T C z u) F (hN F T C u) lo)) rk 300).2))), (z0, .inl (cI, 300, .inl z)), (h0, .inr (0, [.ref h1, .ref h2, .ref h3, .ref h4, .ref h5, .int (nI u)])), (h1, .inl (cI, 2000, .inl F)), (h2, .inl (cI, 2000, .inl T)), (h3, .inl (cJ, 2000, .inr (.inl C))), (h4, .inl (cJ, 300, .inr (.inl (hN F T C u)))), (h5, .inl (cI, 300, .inl (fcN F T C z u)))]) hP hD [8, 9, 10, 11, 12, 13, 14, 15, 16, 1, 2, 3, 4, 5, 6, 7] [0, 17, 18, 19, 20, 21, 22] rfl rfl (by decide) (by decide) hk1 hFc hP1 hD1
    have hP := hP.sub (ws' := [(x0, .inr (3, [.ref z0, .ref h0, .ref g0, .ref w0, .ref v0, .int (nI n), .int P, .int st])), (z0, .inl (cI, 300, .inl z)), (h0, .inr (0, [.ref h1, .ref h2, .ref h3, .ref h4, .ref h5, .int (nI u)])), (h1, .inl (cI, 2000, .inl F)), (h2, .inl (cI, 2000, .inl T)), (h3, .inl (cJ, 2000, .inr (.inl C))), (h4, .inl (cJ, 300, .inr (.inl (hN F T C u)))), (h5, .inl (cI, 300, .inl (fcN F T C z u))), (g0, .inr (1, [.ref g1, .ref g2, .ref g3, .ref g4, .ref g5, .ref g6, .ref g7, .ref g8, .int (nI (rkN (cFi (bldX P z (fcN F T C z u) F (hN F T C u) lo)) (cLe (bldX P z (fcN F T C z u) F (hN F T C u) lo)) (cBy (bldX P z (fcN F T C z u) F (hN F T C u) lo)) (cHe (bldX P z (fcN F T C z u) F (hN F T C u) lo)) rk 300).1)])), (g1, .inl (cI, 300, .inl (cFi (bldX P z (fcN F T C z u) F (hN F T C u) lo)))), (g2, .inl (cI, 300, .inl (cNx (bldX P z (fcN F T C z u) F (hN F T C u) lo)))), (g3, .inl (cI, 300, .inl (cLa (bldX P z (fcN F T C z u) F (hN F T C u) lo)))), (g4, .inl (cI, 300, .inl (cLe (bldX P z (fcN F T C z u) F (hN F T C u) lo)))), (g5, .inl (cJ, 300, .inr (.inl (cBy (bldX P z (fcN F T C z u) F (hN F T C u) lo))))), (g6, .inl (cJ, 300, .inr (.inl (cHe (bldX P z (fcN F T C z u) F (hN F T C u) lo))))), (g7, .inl (cI, 300, .inl ((obhN (bFi0 z) (fcN F T C z u) F (hN F T C u) lo 300).2))), (g8, .inl (cI, 300, .inl ((rkN (cFi (bldX P z (fcN F T C z u) F (hN F T C u) lo)) (cLe (bldX P z (fcN F T C z u) F (hN F T C u) lo)) (cBy (bldX P z (fcN F T C z u) F (hN F T C u) lo)) (cHe (bldX P z (fcN F T C z u) F (hN F T C u) lo)) rk 300).2))), (w0, .inr (2, [.ref w1, .ref w2, .int pu, .long pe])), (w1, .inl (cI, 300, .inl M)), (w2, .inl (cJ, 300, .inr (.inl B))), (v0, .inr (2, [.ref v1, .ref v2, .int nu, .long ne])), (v1, .inl (cI, 300, .inl M2)), (v2, .inl (cJ, 300, .inr (.inl B2)))]) [0, 16, 17, 18, 19, 20, 21, 22, 7, 8, 9, 10, 11, 12, 13, 14, 15, 1, 2, 3, 4, 5, 6] rfl
    have hD := hD.sub (ws' := [(x0, .inr (3, [.ref z0, .ref h0, .ref g0, .ref w0, .ref v0, .int (nI n), .int P, .int st])), (z0, .inl (cI, 300, .inl z)), (h0, .inr (0, [.ref h1, .ref h2, .ref h3, .ref h4, .ref h5, .int (nI u)])), (h1, .inl (cI, 2000, .inl F)), (h2, .inl (cI, 2000, .inl T)), (h3, .inl (cJ, 2000, .inr (.inl C))), (h4, .inl (cJ, 300, .inr (.inl (hN F T C u)))), (h5, .inl (cI, 300, .inl (fcN F T C z u))), (g0, .inr (1, [.ref g1, .ref g2, .ref g3, .ref g4, .ref g5, .ref g6, .ref g7, .ref g8, .int (nI (rkN (cFi (bldX P z (fcN F T C z u) F (hN F T C u) lo)) (cLe (bldX P z (fcN F T C z u) F (hN F T C u) lo)) (cBy (bldX P z (fcN F T C z u) F (hN F T C u) lo)) (cHe (bldX P z (fcN F T C z u) F (hN F T C u) lo)) rk 300).1)])), (g1, .inl (cI, 300, .inl (cFi (bldX P z (fcN F T C z u) F (hN F T C u) lo)))), (g2, .inl (cI, 300, .inl (cNx (bldX P z (fcN F T C z u) F (hN F T C u) lo)))), (g3, .inl (cI, 300, .inl (cLa (bldX P z (fcN F T C z u) F (hN F T C u) lo)))), (g4, .inl (cI, 300, .inl (cLe (bldX P z (fcN F T C z u) F (hN F T C u) lo)))), (g5, .inl (cJ, 300, .inr (.inl (cBy (bldX P z (fcN F T C z u) F (hN F T C u) lo))))), (g6, .inl (cJ, 300, .inr (.inl (cHe (bldX P z (fcN F T C z u) F (hN F T C u) lo))))), (g7, .inl (cI, 300, .inl ((obhN (bFi0 z) (fcN F T C z u) F (hN F T C u) lo 300).2))), (g8, .inl (cI, 300, .inl ((rkN (cFi (bldX P z (fcN F T C z u) F (hN F T C u) lo)) (cLe (bldX P z (fcN F T C z u) F (hN F T C u) lo)) (cBy (bldX P z (fcN F T C z u) F (hN F T C u) lo)) (cHe (bldX P z (fcN F T C z u) F (hN F T C u) lo)) rk 300).2))), (w0, .inr (2, [.ref w1, .ref w2, .int pu, .long pe])), (w1, .inl (cI, 300, .inl M)), (w2, .inl (cJ, 300, .inr (.inl B))), (v0, .inr (2, [.ref v1, .ref v2, .int nu, .long ne])), (v1, .inl (cI, 300, .inl M2)), (v2, .inl (cJ, 300, .inr (.inl B2)))]) [0, 16, 17, 18, 19, 20, 21, 22, 7, 8, 9, 10, 11, 12, 13, 14, 15, 1, 2, 3, 4, 5, 6] (by decide) rfl
    generalize H1 = H at hP hS ⊢
    refine lv_aload_n hx hb dX3_refresh_38 rfl (lv_at hl 0 rfl) ?_
    refine va_get (D := (dC, dI)) (ci := 3) (v := .ref g0) (C := RX3) (T := TX3) (N := 8) hx hb hts hin3 hown hK hP 0 rfl rfl 2 (by decide) (hts (.fieldLink RX3 23 "CallClusters" "clustering" "LCallClusters$Clustering;") (by decide +kernel)) (fun _ h9 => h9) rfl dX3_refresh_39 ?_
    refine lv_aload_n hx hb dX3_refresh_42 rfl (lv_at hl 0 rfl) ?_
    refine va_get (D := (dC, dI)) (ci := 3) (v := .ref w0) (C := RX3) (T := TX3) (N := 8) hx hb hts hin3 hown hK hP 0 rfl rfl 3 (by decide) (hts (.fieldLink RX3 30 "CallClusters" "placed" "LCallClusters$Row;") (by decide +kernel)) (fun _ h9 => h9) rfl dX3_refresh_43 ?_
    refine lv_aload_n hx hb dX3_refresh_46 rfl (lv_at hl 0 rfl) ?_
    refine va_get (D := (dC, dI)) (ci := 3) (v := .ref z0) (C := RX3) (T := TX3) (N := 8) hx hb hts hin3 hown hK hP 0 rfl rfl 0 (by decide) (hts (.fieldLink RX3 9 "CallClusters" "sizes" "[I") (by decide +kernel)) (fun _ h9 => h9) rfl dX3_refresh_47 ?_
    have hPc := hP.sub (ws' := [(g0, .inr (1, [.ref g1, .ref g2, .ref g3, .ref g4, .ref g5, .ref g6, .ref g7, .ref g8, .int (nI (rkN (cFi (bldX P z (fcN F T C z u) F (hN F T C u) lo)) (cLe (bldX P z (fcN F T C z u) F (hN F T C u) lo)) (cBy (bldX P z (fcN F T C z u) F (hN F T C u) lo)) (cHe (bldX P z (fcN F T C z u) F (hN F T C u) lo)) rk 300).1)])), (g1, .inl (cI, 300, .inl (cFi (bldX P z (fcN F T C z u) F (hN F T C u) lo)))), (g2, .inl (cI, 300, .inl (cNx (bldX P z (fcN F T C z u) F (hN F T C u) lo)))), (g3, .inl (cI, 300, .inl (cLa (bldX P z (fcN F T C z u) F (hN F T C u) lo)))), (g4, .inl (cI, 300, .inl (cLe (bldX P z (fcN F T C z u) F (hN F T C u) lo)))), (g5, .inl (cJ, 300, .inr (.inl (cBy (bldX P z (fcN F T C z u) F (hN F T C u) lo))))), (g6, .inl (cJ, 300, .inr (.inl (cHe (bldX P z (fcN F T C z u) F (hN F T C u) lo))))), (g7, .inl (cI, 300, .inl ((obhN (bFi0 z) (fcN F T C z u) F (hN F T C u) lo 300).2))), (g8, .inl (cI, 300, .inl ((rkN (cFi (bldX P z (fcN F T C z u) F (hN F T C u) lo)) (cLe (bldX P z (fcN F T C z u) F (hN F T C u) lo)) (cBy (bldX P z (fcN F T C z u) F (hN F T C u) lo)) (cHe (bldX P z (fcN F T C z u) F (hN F T C u) lo)) rk 300).2))), (z0, .inl (cI, 300, .inl z)), (w0, .inr (2, [.ref w1, .ref w2, .int pu, .long pe])), (w1, .inl (cI, 300, .inl M)), (w2, .inl (cJ, 300, .inr (.inl B)))]) [8, 9, 10, 11, 12, 13, 14, 15, 16, 1, 17, 18, 19] rfl
    have hDc := hD.sub (ws' := [(g0, .inr (1, [.ref g1, .ref g2, .ref g3, .ref g4, .ref g5, .ref g6, .ref g7, .ref g8, .int (nI (rkN (cFi (bldX P z (fcN F T C z u) F (hN F T C u) lo)) (cLe (bldX P z (fcN F T C z u) F (hN F T C u) lo)) (cBy (bldX P z (fcN F T C z u) F (hN F T C u) lo)) (cHe (bldX P z (fcN F T C z u) F (hN F T C u) lo)) rk 300).1)])), (g1, .inl (cI, 300, .inl (cFi (bldX P z (fcN F T C z u) F (hN F T C u) lo)))), (g2, .inl (cI, 300, .inl (cNx (bldX P z (fcN F T C z u) F (hN F T C u) lo)))), (g3, .inl (cI, 300, .inl (cLa (bldX P z (fcN F T C z u) F (hN F T C u) lo)))), (g4, .inl (cI, 300, .inl (cLe (bldX P z (fcN F T C z u) F (hN F T C u) lo)))), (g5, .inl (cJ, 300, .inr (.inl (cBy (bldX P z (fcN F T C z u) F (hN F T C u) lo))))), (g6, .inl (cJ, 300, .inr (.inl (cHe (bldX P z (fcN F T C z u) F (hN F T C u) lo))))), (g7, .inl (cI, 300, .inl ((obhN (bFi0 z) (fcN F T C z u) F (hN F T C u) lo 300).2))), (g8, .inl (cI, 300, .inl ((rkN (cFi (bldX P z (fcN F T C z u) F (hN F T C u) lo)) (cLe (bldX P z (fcN F T C z u) F (hN F T C u) lo)) (cBy (bldX P z (fcN F T C z u) F (hN F T C u) lo)) (cHe (bldX P z (fcN F T C z u) F (hN F T C u) lo)) rk 300).2))), (z0, .inl (cI, 300, .inl z)), (w0, .inr (2, [.ref w1, .ref w2, .int pu, .long pe])), (w1, .inl (cI, 300, .inl M)), (w2, .inl (cJ, 300, .inr (.inl B)))]) [8, 9, 10, 11, 12, 13, 14, 15, 16, 1, 17, 18, 19] (by decide) rfl
    have hFc := va_free (wc := [(g0, .inr (1, [.ref g1, .ref g2, .ref g3, .ref g4, .ref g5, .ref g6, .ref g7, .ref g8, .int (nI (rkN (cFi (bldX P z (fcN F T C z u) F (hN F T C u) lo)) (cLe (bldX P z (fcN F T C z u) F (hN F T C u) lo)) (cBy (bldX P z (fcN F T C z u) F (hN F T C u) lo)) (cHe (bldX P z (fcN F T C z u) F (hN F T C u) lo)) rk 300).1)])), (g1, .inl (cI, 300, .inl (cFi (bldX P z (fcN F T C z u) F (hN F T C u) lo)))), (g2, .inl (cI, 300, .inl (cNx (bldX P z (fcN F T C z u) F (hN F T C u) lo)))), (g3, .inl (cI, 300, .inl (cLa (bldX P z (fcN F T C z u) F (hN F T C u) lo)))), (g4, .inl (cI, 300, .inl (cLe (bldX P z (fcN F T C z u) F (hN F T C u) lo)))), (g5, .inl (cJ, 300, .inr (.inl (cBy (bldX P z (fcN F T C z u) F (hN F T C u) lo))))), (g6, .inl (cJ, 300, .inr (.inl (cHe (bldX P z (fcN F T C z u) F (hN F T C u) lo))))), (g7, .inl (cI, 300, .inl ((obhN (bFi0 z) (fcN F T C z u) F (hN F T C u) lo 300).2))), (g8, .inl (cI, 300, .inl ((rkN (cFi (bldX P z (fcN F T C z u) F (hN F T C u) lo)) (cLe (bldX P z (fcN F T C z u) F (hN F T C u) lo)) (cBy (bldX P z (fcN F T C z u) F (hN F T C u) lo)) (cHe (bldX P z (fcN F T C z u) F (hN F T C u) lo)) rk 300).2))), (z0, .inl (cI, 300, .inl z)), (w0, .inr (2, [.ref w1, .ref w2, .int pu, .long pe])), (w1, .inl (cI, 300, .inl M)), (w2, .inl (cJ, 300, .inr (.inl B)))]) hD hS hA [8, 9, 10, 11, 12, 13, 14, 15, 16, 1, 17, 18, 19] rfl
    refine va_callv (va_runV (As := [.ref w0, .ref z0]) (rest := []) ⟨hx, hb, hml, hown, hts⟩ (ct_X1_writeTo l dC dI cI cJ cZ H.size g0 g1 g2 g3 g4 g5 g6 g7 g8 z0 w0 w1 w2 (cFi (bldX P z (fcN F T C z u) F (hN F T C u) lo)) (cNx (bldX P z (fcN F T C z u) F (hN F T C u) lo)) (cLa (bldX P z (fcN F T C z u) F (hN F T C u) lo)) (cLe (bldX P z (fcN F T C z u) F (hN F T C u) lo)) (cBy (bldX P z (fcN F T C z u) F (hN F T C u) lo)) (cHe (bldX P z (fcN F T C z u) F (hN F T C u) lo)) ((obhN (bFi0 z) (fcN F T C z u) F (hN F T C u) lo 300).2) ((rkN (cFi (bldX P z (fcN F T C z u) F (hN F T C u) lo)) (cLe (bldX P z (fcN F T C z u) F (hN F T C u) lo)) (cBy (bldX P z (fcN F T C z u) F (hN F T C u) lo)) (cHe (bldX P z (fcN F T C z u) F (hN F T C u) lo)) rk 300).2) ((rkN (cFi (bldX P z (fcN F T C z u) F (hN F T C u) lo)) (cLe (bldX P z (fcN F T C z u) F (hN F T C u) lo)) (cBy (bldX P z (fcN F T C z u) F (hN F T C u) lo)) (cHe (bldX P z (fcN F T C z u) F (hN F T C u) lo)) rk 300).1) z M B pu pe (rLst (bldX P z (fcN F T C z u) F (hN F T C u) lo) rk) (cCh (bldX P z (fcN F T C z u) F (hN F T C u) lo)) (rLst_len _ rk) (wLst_len hI) (rkN_in _ _ _ _ _ 300).1 (fun j hj => rLst_get hI j hj) (fun h hh => have h1 := rLst_head hI h hh; ⟨(hI.2.2 h h1.1 h1.2).1, fun y hy => ((hI.2.2 h h1.1 h1.2).2.2.1 y hy).1⟩)) (cwV 2 hts gX3_refresh_X1_writeTo rfl rfl rfl (by decide +kernel) ⟨Nat.le_of_ble_eq_true rfl, Nat.le_of_ble_eq_true rfl⟩) (pre_V hK hPc hDc (ci := 1) rfl rfl) rfl rfl hl.1 rfl (lv_room (Nat.le_of_ble_eq_true rfl)) dX3_refresh_50 ⟨Nat.zero_le _, Nat.zero_le _⟩) hS (fun q _ h => hFc q h) hFc (fun uu t H1 locs ht hvm hw hB hz1 hk1 hS => ?_)
    obtain ⟨hP1, hK1, hD1⟩ := hB
    rw [ht] at hP1
    try dsimp only at hw
    have hP1 : va_P (dC, dI) vwCl [(g0, .inr (1, [.ref g1, .ref g2, .ref g3, .ref g4, .ref g5, .ref g6, .ref g7, .ref g8, .int (nI ((rkN (cFi (bldX P z (fcN F T C z u) F (hN F T C u) lo)) (cLe (bldX P z (fcN F T C z u) F (hN F T C u) lo)) (cBy (bldX P z (fcN F T C z u) F (hN F T C u) lo)) (cHe (bldX P z (fcN F T C z u) F (hN F T C u) lo)) rk 300).1))])), (g1, .inl (cI, 300, .inl (cFi (bldX P z (fcN F T C z u) F (hN F T C u) lo)))), (g2, .inl (cI, 300, .inl (cNx (bldX P z (fcN F T C z u) F (hN F T C u) lo)))), (g3, .inl (cI, 300, .inl (cLa (bldX P z (fcN F T C z u) F (hN F T C u) lo)))), (g4, .inl (cI, 300, .inl (cLe (bldX P z (fcN F T C z u) F (hN F T C u) lo)))), (g5, .inl (cJ, 300, .inr (.inl (cBy (bldX P z (fcN F T C z u) F (hN F T C u) lo))))), (g6, .inl (cJ, 300, .inr (.inl (cHe (bldX P z (fcN F T C z u) F (hN F T C u) lo))))), (g7, .inl (cI, 300, .inl ((obhN (bFi0 z) (fcN F T C z u) F (hN F T C u) lo 300).2))), (g8, .inl (cI, 300, .inl ((rkN (cFi (bldX P z (fcN F T C z u) F (hN F T C u) lo)) (cLe (bldX P z (fcN F T C z u) F (hN F T C u) lo)) (cBy (bldX P z (fcN F T C z u) F (hN F T C u) lo)) (cHe (bldX P z (fcN F T C z u) F (hN F T C u) lo)) rk 300).2))), (z0, .inl (cI, 300, .inl z)), (w0, .inr (2, [.ref w1, .ref w2, .int (nI (rowL z M (fun _ => -1) ((rLst (bldX P z (fcN F T C z u) F (hN F T C u) lo) rk).flatMap (cCh (bldX P z (fcN F T C z u) F (hN F T C u) lo)))).2.2.1), .long ((rowL z M (fun _ => -1) ((rLst (bldX P z (fcN F T C z u) F (hN F T C u) lo) rk).flatMap (cCh (bldX P z (fcN F T C z u) F (hN F T C u) lo)))).2.2.2)])), (w1, .inl (cI, 300, .inl ((rowL z M (fun _ => -1) ((rLst (bldX P z (fcN F T C z u) F (hN F T C u) lo) rk).flatMap (cCh (bldX P z (fcN F T C z u) F (hN F T C u) lo)))).1))), (w2, .inl (cJ, 300, .inr (.inl ((rowL z M (fun _ => -1) ((rLst (bldX P z (fcN F T C z u) F (hN F T C u) lo) rk).flatMap (cCh (bldX P z (fcN F T C z u) F (hN F T C u) lo)))).2.1))))] H1 := hP1
    obtain ⟨hP, hD⟩ := va_join (wr := [(x0, .inr (3, [.ref z0, .ref h0, .ref g0, .ref w0, .ref v0, .int (nI n), .int P, .int st])), (h0, .inr (0, [.ref h1, .ref h2, .ref h3, .ref h4, .ref h5, .int (nI u)])), (h1, .inl (cI, 2000, .inl F)), (h2, .inl (cI, 2000, .inl T)), (h3, .inl (cJ, 2000, .inr (.inl C))), (h4, .inl (cJ, 300, .inr (.inl (hN F T C u)))), (h5, .inl (cI, 300, .inl (fcN F T C z u))), (v0, .inr (2, [.ref v1, .ref v2, .int nu, .long ne])), (v1, .inl (cI, 300, .inl M2)), (v2, .inl (cJ, 300, .inr (.inl B2)))]) (w1 := [(g0, .inr (1, [.ref g1, .ref g2, .ref g3, .ref g4, .ref g5, .ref g6, .ref g7, .ref g8, .int (nI ((rkN (cFi (bldX P z (fcN F T C z u) F (hN F T C u) lo)) (cLe (bldX P z (fcN F T C z u) F (hN F T C u) lo)) (cBy (bldX P z (fcN F T C z u) F (hN F T C u) lo)) (cHe (bldX P z (fcN F T C z u) F (hN F T C u) lo)) rk 300).1))])), (g1, .inl (cI, 300, .inl (cFi (bldX P z (fcN F T C z u) F (hN F T C u) lo)))), (g2, .inl (cI, 300, .inl (cNx (bldX P z (fcN F T C z u) F (hN F T C u) lo)))), (g3, .inl (cI, 300, .inl (cLa (bldX P z (fcN F T C z u) F (hN F T C u) lo)))), (g4, .inl (cI, 300, .inl (cLe (bldX P z (fcN F T C z u) F (hN F T C u) lo)))), (g5, .inl (cJ, 300, .inr (.inl (cBy (bldX P z (fcN F T C z u) F (hN F T C u) lo))))), (g6, .inl (cJ, 300, .inr (.inl (cHe (bldX P z (fcN F T C z u) F (hN F T C u) lo))))), (g7, .inl (cI, 300, .inl ((obhN (bFi0 z) (fcN F T C z u) F (hN F T C u) lo 300).2))), (g8, .inl (cI, 300, .inl ((rkN (cFi (bldX P z (fcN F T C z u) F (hN F T C u) lo)) (cLe (bldX P z (fcN F T C z u) F (hN F T C u) lo)) (cBy (bldX P z (fcN F T C z u) F (hN F T C u) lo)) (cHe (bldX P z (fcN F T C z u) F (hN F T C u) lo)) rk 300).2))), (z0, .inl (cI, 300, .inl z)), (w0, .inr (2, [.ref w1, .ref w2, .int (nI (rowL z M (fun _ => -1) ((rLst (bldX P z (fcN F T C z u) F (hN F T C u) lo) rk).flatMap (cCh (bldX P z (fcN F T C z u) F (hN F T C u) lo)))).2.2.1), .long ((rowL z M (fun _ => -1) ((rLst (bldX P z (fcN F T C z u) F (hN F T C u) lo) rk).flatMap (cCh (bldX P z (fcN F T C z u) F (hN F T C u) lo)))).2.2.2)])), (w1, .inl (cI, 300, .inl ((rowL z M (fun _ => -1) ((rLst (bldX P z (fcN F T C z u) F (hN F T C u) lo) rk).flatMap (cCh (bldX P z (fcN F T C z u) F (hN F T C u) lo)))).1))), (w2, .inl (cJ, 300, .inr (.inl ((rowL z M (fun _ => -1) ((rLst (bldX P z (fcN F T C z u) F (hN F T C u) lo) rk).flatMap (cCh (bldX P z (fcN F T C z u) F (hN F T C u) lo)))).2.1))))]) hP hD [8, 9, 10, 11, 12, 13, 14, 15, 16, 1, 17, 18, 19] [0, 2, 3, 4, 5, 6, 7, 20, 21, 22] rfl rfl (by decide) (by decide) hk1 hFc hP1 hD1
    have hP := hP.sub (ws' := [(x0, .inr (3, [.ref z0, .ref h0, .ref g0, .ref w0, .ref v0, .int (nI n), .int P, .int st])), (z0, .inl (cI, 300, .inl z)), (h0, .inr (0, [.ref h1, .ref h2, .ref h3, .ref h4, .ref h5, .int (nI u)])), (h1, .inl (cI, 2000, .inl F)), (h2, .inl (cI, 2000, .inl T)), (h3, .inl (cJ, 2000, .inr (.inl C))), (h4, .inl (cJ, 300, .inr (.inl (hN F T C u)))), (h5, .inl (cI, 300, .inl (fcN F T C z u))), (g0, .inr (1, [.ref g1, .ref g2, .ref g3, .ref g4, .ref g5, .ref g6, .ref g7, .ref g8, .int (nI ((rkN (cFi (bldX P z (fcN F T C z u) F (hN F T C u) lo)) (cLe (bldX P z (fcN F T C z u) F (hN F T C u) lo)) (cBy (bldX P z (fcN F T C z u) F (hN F T C u) lo)) (cHe (bldX P z (fcN F T C z u) F (hN F T C u) lo)) rk 300).1))])), (g1, .inl (cI, 300, .inl (cFi (bldX P z (fcN F T C z u) F (hN F T C u) lo)))), (g2, .inl (cI, 300, .inl (cNx (bldX P z (fcN F T C z u) F (hN F T C u) lo)))), (g3, .inl (cI, 300, .inl (cLa (bldX P z (fcN F T C z u) F (hN F T C u) lo)))), (g4, .inl (cI, 300, .inl (cLe (bldX P z (fcN F T C z u) F (hN F T C u) lo)))), (g5, .inl (cJ, 300, .inr (.inl (cBy (bldX P z (fcN F T C z u) F (hN F T C u) lo))))), (g6, .inl (cJ, 300, .inr (.inl (cHe (bldX P z (fcN F T C z u) F (hN F T C u) lo))))), (g7, .inl (cI, 300, .inl ((obhN (bFi0 z) (fcN F T C z u) F (hN F T C u) lo 300).2))), (g8, .inl (cI, 300, .inl ((rkN (cFi (bldX P z (fcN F T C z u) F (hN F T C u) lo)) (cLe (bldX P z (fcN F T C z u) F (hN F T C u) lo)) (cBy (bldX P z (fcN F T C z u) F (hN F T C u) lo)) (cHe (bldX P z (fcN F T C z u) F (hN F T C u) lo)) rk 300).2))), (w0, .inr (2, [.ref w1, .ref w2, .int (nI (rowL z M (fun _ => -1) ((rLst (bldX P z (fcN F T C z u) F (hN F T C u) lo) rk).flatMap (cCh (bldX P z (fcN F T C z u) F (hN F T C u) lo)))).2.2.1), .long ((rowL z M (fun _ => -1) ((rLst (bldX P z (fcN F T C z u) F (hN F T C u) lo) rk).flatMap (cCh (bldX P z (fcN F T C z u) F (hN F T C u) lo)))).2.2.2)])), (w1, .inl (cI, 300, .inl ((rowL z M (fun _ => -1) ((rLst (bldX P z (fcN F T C z u) F (hN F T C u) lo) rk).flatMap (cCh (bldX P z (fcN F T C z u) F (hN F T C u) lo)))).1))), (w2, .inl (cJ, 300, .inr (.inl ((rowL z M (fun _ => -1) ((rLst (bldX P z (fcN F T C z u) F (hN F T C u) lo) rk).flatMap (cCh (bldX P z (fcN F T C z u) F (hN F T C u) lo)))).2.1)))), (v0, .inr (2, [.ref v1, .ref v2, .int nu, .long ne])), (v1, .inl (cI, 300, .inl M2)), (v2, .inl (cJ, 300, .inr (.inl B2)))]) [0, 19, 1, 2, 3, 4, 5, 6, 10, 11, 12, 13, 14, 15, 16, 17, 18, 20, 21, 22, 7, 8, 9] rfl
    have hD := hD.sub (ws' := [(x0, .inr (3, [.ref z0, .ref h0, .ref g0, .ref w0, .ref v0, .int (nI n), .int P, .int st])), (z0, .inl (cI, 300, .inl z)), (h0, .inr (0, [.ref h1, .ref h2, .ref h3, .ref h4, .ref h5, .int (nI u)])), (h1, .inl (cI, 2000, .inl F)), (h2, .inl (cI, 2000, .inl T)), (h3, .inl (cJ, 2000, .inr (.inl C))), (h4, .inl (cJ, 300, .inr (.inl (hN F T C u)))), (h5, .inl (cI, 300, .inl (fcN F T C z u))), (g0, .inr (1, [.ref g1, .ref g2, .ref g3, .ref g4, .ref g5, .ref g6, .ref g7, .ref g8, .int (nI ((rkN (cFi (bldX P z (fcN F T C z u) F (hN F T C u) lo)) (cLe (bldX P z (fcN F T C z u) F (hN F T C u) lo)) (cBy (bldX P z (fcN F T C z u) F (hN F T C u) lo)) (cHe (bldX P z (fcN F T C z u) F (hN F T C u) lo)) rk 300).1))])), (g1, .inl (cI, 300, .inl (cFi (bldX P z (fcN F T C z u) F (hN F T C u) lo)))), (g2, .inl (cI, 300, .inl (cNx (bldX P z (fcN F T C z u) F (hN F T C u) lo)))), (g3, .inl (cI, 300, .inl (cLa (bldX P z (fcN F T C z u) F (hN F T C u) lo)))), (g4, .inl (cI, 300, .inl (cLe (bldX P z (fcN F T C z u) F (hN F T C u) lo)))), (g5, .inl (cJ, 300, .inr (.inl (cBy (bldX P z (fcN F T C z u) F (hN F T C u) lo))))), (g6, .inl (cJ, 300, .inr (.inl (cHe (bldX P z (fcN F T C z u) F (hN F T C u) lo))))), (g7, .inl (cI, 300, .inl ((obhN (bFi0 z) (fcN F T C z u) F (hN F T C u) lo 300).2))), (g8, .inl (cI, 300, .inl ((rkN (cFi (bldX P z (fcN F T C z u) F (hN F T C u) lo)) (cLe (bldX P z (fcN F T C z u) F (hN F T C u) lo)) (cBy (bldX P z (fcN F T C z u) F (hN F T C u) lo)) (cHe (bldX P z (fcN F T C z u) F (hN F T C u) lo)) rk 300).2))), (w0, .inr (2, [.ref w1, .ref w2, .int (nI (rowL z M (fun _ => -1) ((rLst (bldX P z (fcN F T C z u) F (hN F T C u) lo) rk).flatMap (cCh (bldX P z (fcN F T C z u) F (hN F T C u) lo)))).2.2.1), .long ((rowL z M (fun _ => -1) ((rLst (bldX P z (fcN F T C z u) F (hN F T C u) lo) rk).flatMap (cCh (bldX P z (fcN F T C z u) F (hN F T C u) lo)))).2.2.2)])), (w1, .inl (cI, 300, .inl ((rowL z M (fun _ => -1) ((rLst (bldX P z (fcN F T C z u) F (hN F T C u) lo) rk).flatMap (cCh (bldX P z (fcN F T C z u) F (hN F T C u) lo)))).1))), (w2, .inl (cJ, 300, .inr (.inl ((rowL z M (fun _ => -1) ((rLst (bldX P z (fcN F T C z u) F (hN F T C u) lo) rk).flatMap (cCh (bldX P z (fcN F T C z u) F (hN F T C u) lo)))).2.1)))), (v0, .inr (2, [.ref v1, .ref v2, .int nu, .long ne])), (v1, .inl (cI, 300, .inl M2)), (v2, .inl (cJ, 300, .inr (.inl B2)))]) [0, 19, 1, 2, 3, 4, 5, 6, 10, 11, 12, 13, 14, 15, 16, 17, 18, 20, 21, 22, 7, 8, 9] (by decide) rfl
    generalize H1 = H at hP hS ⊢
    refine lv_aload_n hx hb dX3_refresh_53 rfl (lv_at hl 0 rfl) ?_
    have hPc := hP.sub (ws' := [(x0, .inr (3, [.ref z0, .ref h0, .ref g0, .ref w0, .ref v0, .int (nI n), .int P, .int st])), (z0, .inl (cI, 300, .inl z)), (v0, .inr (2, [.ref v1, .ref v2, .int nu, .long ne])), (v1, .inl (cI, 300, .inl M2)), (v2, .inl (cJ, 300, .inr (.inl B2)))]) [0, 1, 20, 21, 22] rfl
    have hDc := hD.sub (ws' := [(x0, .inr (3, [.ref z0, .ref h0, .ref g0, .ref w0, .ref v0, .int (nI n), .int P, .int st])), (z0, .inl (cI, 300, .inl z)), (v0, .inr (2, [.ref v1, .ref v2, .int nu, .long ne])), (v1, .inl (cI, 300, .inl M2)), (v2, .inl (cJ, 300, .inr (.inl B2)))]) [0, 1, 20, 21, 22] (by decide) rfl
    have hFc := va_free (wc := [(x0, .inr (3, [.ref z0, .ref h0, .ref g0, .ref w0, .ref v0, .int (nI n), .int P, .int st])), (z0, .inl (cI, 300, .inl z)), (v0, .inr (2, [.ref v1, .ref v2, .int nu, .long ne])), (v1, .inl (cI, 300, .inl M2)), (v2, .inl (cJ, 300, .inr (.inl B2)))]) hD hS hA [0, 1, 20, 21, 22] rfl
    refine va_callv (va_runV (As := []) (rest := []) ⟨hx, hb, hml, hown, hts⟩ (ct_X3_writeByNumber l dC dI cI cJ cZ H.size x0 z0 v0 v1 v2 h0 g0 w0 n P st z M2 B2 nu ne hn) (cwV 0 hts gX3_refresh_X3_writeByNumber rfl rfl rfl (by decide +kernel) ⟨Nat.le_of_ble_eq_true rfl, Nat.le_of_ble_eq_true rfl⟩) (pre_V hK hPc hDc (ci := 3) rfl rfl) rfl rfl hl.1 rfl (lv_room (Nat.le_of_ble_eq_true rfl)) dX3_refresh_54 ⟨Nat.zero_le _, Nat.zero_le _⟩) hS (fun q _ h => hFc q h) hFc (fun uu t H1 locs ht hvm hw hB hz1 hk1 hS => ?_)
    obtain ⟨hP1, hK1, hD1⟩ := hB
    rw [ht] at hP1
    try dsimp only at hw
    have hP1 : va_P (dC, dI) vwCl [(x0, .inr (3, [.ref z0, .ref h0, .ref g0, .ref w0, .ref v0, .int (nI n), .int P, .int st])), (z0, .inl (cI, 300, .inl z)), (v0, .inr (2, [.ref v1, .ref v2, .int (nI (rowL z M2 (fun _ => -1) (nLst z n)).2.2.1), .long ((rowL z M2 (fun _ => -1) (nLst z n)).2.2.2)])), (v1, .inl (cI, 300, .inl ((rowL z M2 (fun _ => -1) (nLst z n)).1))), (v2, .inl (cJ, 300, .inr (.inl ((rowL z M2 (fun _ => -1) (nLst z n)).2.1))))] H1 := hP1
    obtain ⟨hP, hD⟩ := va_join (wr := [(h0, .inr (0, [.ref h1, .ref h2, .ref h3, .ref h4, .ref h5, .int (nI u)])), (h1, .inl (cI, 2000, .inl F)), (h2, .inl (cI, 2000, .inl T)), (h3, .inl (cJ, 2000, .inr (.inl C))), (h4, .inl (cJ, 300, .inr (.inl (hN F T C u)))), (h5, .inl (cI, 300, .inl (fcN F T C z u))), (g0, .inr (1, [.ref g1, .ref g2, .ref g3, .ref g4, .ref g5, .ref g6, .ref g7, .ref g8, .int (nI ((rkN (cFi (bldX P z (fcN F T C z u) F (hN F T C u) lo)) (cLe (bldX P z (fcN F T C z u) F (hN F T C u) lo)) (cBy (bldX P z (fcN F T C z u) F (hN F T C u) lo)) (cHe (bldX P z (fcN F T C z u) F (hN F T C u) lo)) rk 300).1))])), (g1, .inl (cI, 300, .inl (cFi (bldX P z (fcN F T C z u) F (hN F T C u) lo)))), (g2, .inl (cI, 300, .inl (cNx (bldX P z (fcN F T C z u) F (hN F T C u) lo)))), (g3, .inl (cI, 300, .inl (cLa (bldX P z (fcN F T C z u) F (hN F T C u) lo)))), (g4, .inl (cI, 300, .inl (cLe (bldX P z (fcN F T C z u) F (hN F T C u) lo)))), (g5, .inl (cJ, 300, .inr (.inl (cBy (bldX P z (fcN F T C z u) F (hN F T C u) lo))))), (g6, .inl (cJ, 300, .inr (.inl (cHe (bldX P z (fcN F T C z u) F (hN F T C u) lo))))), (g7, .inl (cI, 300, .inl ((obhN (bFi0 z) (fcN F T C z u) F (hN F T C u) lo 300).2))), (g8, .inl (cI, 300, .inl ((rkN (cFi (bldX P z (fcN F T C z u) F (hN F T C u) lo)) (cLe (bldX P z (fcN F T C z u) F (hN F T C u) lo)) (cBy (bldX P z (fcN F T C z u) F (hN F T C u) lo)) (cHe (bldX P z (fcN F T C z u) F (hN F T C u) lo)) rk 300).2))), (w0, .inr (2, [.ref w1, .ref w2, .int (nI (rowL z M (fun _ => -1) ((rLst (bldX P z (fcN F T C z u) F (hN F T C u) lo) rk).flatMap (cCh (bldX P z (fcN F T C z u) F (hN F T C u) lo)))).2.2.1), .long ((rowL z M (fun _ => -1) ((rLst (bldX P z (fcN F T C z u) F (hN F T C u) lo) rk).flatMap (cCh (bldX P z (fcN F T C z u) F (hN F T C u) lo)))).2.2.2)])), (w1, .inl (cI, 300, .inl ((rowL z M (fun _ => -1) ((rLst (bldX P z (fcN F T C z u) F (hN F T C u) lo) rk).flatMap (cCh (bldX P z (fcN F T C z u) F (hN F T C u) lo)))).1))), (w2, .inl (cJ, 300, .inr (.inl ((rowL z M (fun _ => -1) ((rLst (bldX P z (fcN F T C z u) F (hN F T C u) lo) rk).flatMap (cCh (bldX P z (fcN F T C z u) F (hN F T C u) lo)))).2.1))))]) (w1 := [(x0, .inr (3, [.ref z0, .ref h0, .ref g0, .ref w0, .ref v0, .int (nI n), .int P, .int st])), (z0, .inl (cI, 300, .inl z)), (v0, .inr (2, [.ref v1, .ref v2, .int (nI (rowL z M2 (fun _ => -1) (nLst z n)).2.2.1), .long ((rowL z M2 (fun _ => -1) (nLst z n)).2.2.2)])), (v1, .inl (cI, 300, .inl ((rowL z M2 (fun _ => -1) (nLst z n)).1))), (v2, .inl (cJ, 300, .inr (.inl ((rowL z M2 (fun _ => -1) (nLst z n)).2.1))))]) hP hD [0, 1, 20, 21, 22] [2, 3, 4, 5, 6, 7, 8, 9, 10, 11, 12, 13, 14, 15, 16, 17, 18, 19] rfl rfl (by decide) (by decide) hk1 hFc hP1 hD1
    have hP := hP.sub (ws' := [(x0, .inr (3, [.ref z0, .ref h0, .ref g0, .ref w0, .ref v0, .int (nI n), .int P, .int st])), (z0, .inl (cI, 300, .inl z)), (h0, .inr (0, [.ref h1, .ref h2, .ref h3, .ref h4, .ref h5, .int (nI u)])), (h1, .inl (cI, 2000, .inl F)), (h2, .inl (cI, 2000, .inl T)), (h3, .inl (cJ, 2000, .inr (.inl C))), (h4, .inl (cJ, 300, .inr (.inl (hN F T C u)))), (h5, .inl (cI, 300, .inl (fcN F T C z u))), (g0, .inr (1, [.ref g1, .ref g2, .ref g3, .ref g4, .ref g5, .ref g6, .ref g7, .ref g8, .int (nI ((rkN (cFi (bldX P z (fcN F T C z u) F (hN F T C u) lo)) (cLe (bldX P z (fcN F T C z u) F (hN F T C u) lo)) (cBy (bldX P z (fcN F T C z u) F (hN F T C u) lo)) (cHe (bldX P z (fcN F T C z u) F (hN F T C u) lo)) rk 300).1))])), (g1, .inl (cI, 300, .inl (cFi (bldX P z (fcN F T C z u) F (hN F T C u) lo)))), (g2, .inl (cI, 300, .inl (cNx (bldX P z (fcN F T C z u) F (hN F T C u) lo)))), (g3, .inl (cI, 300, .inl (cLa (bldX P z (fcN F T C z u) F (hN F T C u) lo)))), (g4, .inl (cI, 300, .inl (cLe (bldX P z (fcN F T C z u) F (hN F T C u) lo)))), (g5, .inl (cJ, 300, .inr (.inl (cBy (bldX P z (fcN F T C z u) F (hN F T C u) lo))))), (g6, .inl (cJ, 300, .inr (.inl (cHe (bldX P z (fcN F T C z u) F (hN F T C u) lo))))), (g7, .inl (cI, 300, .inl ((obhN (bFi0 z) (fcN F T C z u) F (hN F T C u) lo 300).2))), (g8, .inl (cI, 300, .inl ((rkN (cFi (bldX P z (fcN F T C z u) F (hN F T C u) lo)) (cLe (bldX P z (fcN F T C z u) F (hN F T C u) lo)) (cBy (bldX P z (fcN F T C z u) F (hN F T C u) lo)) (cHe (bldX P z (fcN F T C z u) F (hN F T C u) lo)) rk 300).2))), (w0, .inr (2, [.ref w1, .ref w2, .int (nI (rowL z M (fun _ => -1) ((rLst (bldX P z (fcN F T C z u) F (hN F T C u) lo) rk).flatMap (cCh (bldX P z (fcN F T C z u) F (hN F T C u) lo)))).2.2.1), .long ((rowL z M (fun _ => -1) ((rLst (bldX P z (fcN F T C z u) F (hN F T C u) lo) rk).flatMap (cCh (bldX P z (fcN F T C z u) F (hN F T C u) lo)))).2.2.2)])), (w1, .inl (cI, 300, .inl ((rowL z M (fun _ => -1) ((rLst (bldX P z (fcN F T C z u) F (hN F T C u) lo) rk).flatMap (cCh (bldX P z (fcN F T C z u) F (hN F T C u) lo)))).1))), (w2, .inl (cJ, 300, .inr (.inl ((rowL z M (fun _ => -1) ((rLst (bldX P z (fcN F T C z u) F (hN F T C u) lo) rk).flatMap (cCh (bldX P z (fcN F T C z u) F (hN F T C u) lo)))).2.1)))), (v0, .inr (2, [.ref v1, .ref v2, .int (nI (rowL z M2 (fun _ => -1) (nLst z n)).2.2.1), .long ((rowL z M2 (fun _ => -1) (nLst z n)).2.2.2)])), (v1, .inl (cI, 300, .inl ((rowL z M2 (fun _ => -1) (nLst z n)).1))), (v2, .inl (cJ, 300, .inr (.inl ((rowL z M2 (fun _ => -1) (nLst z n)).2.1))))]) [18, 19, 0, 1, 2, 3, 4, 5, 6, 7, 8, 9, 10, 11, 12, 13, 14, 15, 16, 17, 20, 21, 22] rfl
    have hD := hD.sub (ws' := [(x0, .inr (3, [.ref z0, .ref h0, .ref g0, .ref w0, .ref v0, .int (nI n), .int P, .int st])), (z0, .inl (cI, 300, .inl z)), (h0, .inr (0, [.ref h1, .ref h2, .ref h3, .ref h4, .ref h5, .int (nI u)])), (h1, .inl (cI, 2000, .inl F)), (h2, .inl (cI, 2000, .inl T)), (h3, .inl (cJ, 2000, .inr (.inl C))), (h4, .inl (cJ, 300, .inr (.inl (hN F T C u)))), (h5, .inl (cI, 300, .inl (fcN F T C z u))), (g0, .inr (1, [.ref g1, .ref g2, .ref g3, .ref g4, .ref g5, .ref g6, .ref g7, .ref g8, .int (nI ((rkN (cFi (bldX P z (fcN F T C z u) F (hN F T C u) lo)) (cLe (bldX P z (fcN F T C z u) F (hN F T C u) lo)) (cBy (bldX P z (fcN F T C z u) F (hN F T C u) lo)) (cHe (bldX P z (fcN F T C z u) F (hN F T C u) lo)) rk 300).1))])), (g1, .inl (cI, 300, .inl (cFi (bldX P z (fcN F T C z u) F (hN F T C u) lo)))), (g2, .inl (cI, 300, .inl (cNx (bldX P z (fcN F T C z u) F (hN F T C u) lo)))), (g3, .inl (cI, 300, .inl (cLa (bldX P z (fcN F T C z u) F (hN F T C u) lo)))), (g4, .inl (cI, 300, .inl (cLe (bldX P z (fcN F T C z u) F (hN F T C u) lo)))), (g5, .inl (cJ, 300, .inr (.inl (cBy (bldX P z (fcN F T C z u) F (hN F T C u) lo))))), (g6, .inl (cJ, 300, .inr (.inl (cHe (bldX P z (fcN F T C z u) F (hN F T C u) lo))))), (g7, .inl (cI, 300, .inl ((obhN (bFi0 z) (fcN F T C z u) F (hN F T C u) lo 300).2))), (g8, .inl (cI, 300, .inl ((rkN (cFi (bldX P z (fcN F T C z u) F (hN F T C u) lo)) (cLe (bldX P z (fcN F T C z u) F (hN F T C u) lo)) (cBy (bldX P z (fcN F T C z u) F (hN F T C u) lo)) (cHe (bldX P z (fcN F T C z u) F (hN F T C u) lo)) rk 300).2))), (w0, .inr (2, [.ref w1, .ref w2, .int (nI (rowL z M (fun _ => -1) ((rLst (bldX P z (fcN F T C z u) F (hN F T C u) lo) rk).flatMap (cCh (bldX P z (fcN F T C z u) F (hN F T C u) lo)))).2.2.1), .long ((rowL z M (fun _ => -1) ((rLst (bldX P z (fcN F T C z u) F (hN F T C u) lo) rk).flatMap (cCh (bldX P z (fcN F T C z u) F (hN F T C u) lo)))).2.2.2)])), (w1, .inl (cI, 300, .inl ((rowL z M (fun _ => -1) ((rLst (bldX P z (fcN F T C z u) F (hN F T C u) lo) rk).flatMap (cCh (bldX P z (fcN F T C z u) F (hN F T C u) lo)))).1))), (w2, .inl (cJ, 300, .inr (.inl ((rowL z M (fun _ => -1) ((rLst (bldX P z (fcN F T C z u) F (hN F T C u) lo) rk).flatMap (cCh (bldX P z (fcN F T C z u) F (hN F T C u) lo)))).2.1)))), (v0, .inr (2, [.ref v1, .ref v2, .int (nI (rowL z M2 (fun _ => -1) (nLst z n)).2.2.1), .long ((rowL z M2 (fun _ => -1) (nLst z n)).2.2.2)])), (v1, .inl (cI, 300, .inl ((rowL z M2 (fun _ => -1) (nLst z n)).1))), (v2, .inl (cJ, 300, .inr (.inl ((rowL z M2 (fun _ => -1) (nLst z n)).2.1))))]) [18, 19, 0, 1, 2, 3, 4, 5, 6, 7, 8, 9, 10, 11, 12, 13, 14, 15, 16, 17, 20, 21, 22] (by decide) rfl
    generalize H1 = H at hP hS ⊢
    refine lv_aload_n hx hb dX3_refresh_57 rfl (lv_at hl 0 rfl) ?_
    refine lv_iconst (v := 0) hx hb dX3_refresh_58 (by decide) ?_
    refine va_put (D := (dC, dI)) (ci := 3) (v := .int 0) (ty := .boolean) (C := RX3) (T := TX3) (N := 8) hx hb hts hin3 tyX3 tyX3_ok nmX3 hown hK hP hD hS 0 rfl rfl 7 (by decide) (hts (.fieldLink RX3 44 "CallClusters" "stale" "Z") (by decide +kernel)) (fun _ h9 => h9) rfl (by decide +kernel) (by decide) (by decide) (Nat.le_of_ble_eq_true rfl) dX3_refresh_59 (fun H locs hP hD hS => ?_)
    have hP : va_P (dC, dI) vwCl [(x0, .inr (3, [.ref z0, .ref h0, .ref g0, .ref w0, .ref v0, .int (nI n), .int P, .int 0])), (z0, .inl (cI, 300, .inl z)), (h0, .inr (0, [.ref h1, .ref h2, .ref h3, .ref h4, .ref h5, .int (nI u)])), (h1, .inl (cI, 2000, .inl F)), (h2, .inl (cI, 2000, .inl T)), (h3, .inl (cJ, 2000, .inr (.inl C))), (h4, .inl (cJ, 300, .inr (.inl (hN F T C u)))), (h5, .inl (cI, 300, .inl (fcN F T C z u))), (g0, .inr (1, [.ref g1, .ref g2, .ref g3, .ref g4, .ref g5, .ref g6, .ref g7, .ref g8, .int (nI ((rkN (cFi (bldX P z (fcN F T C z u) F (hN F T C u) lo)) (cLe (bldX P z (fcN F T C z u) F (hN F T C u) lo)) (cBy (bldX P z (fcN F T C z u) F (hN F T C u) lo)) (cHe (bldX P z (fcN F T C z u) F (hN F T C u) lo)) rk 300).1))])), (g1, .inl (cI, 300, .inl (cFi (bldX P z (fcN F T C z u) F (hN F T C u) lo)))), (g2, .inl (cI, 300, .inl (cNx (bldX P z (fcN F T C z u) F (hN F T C u) lo)))), (g3, .inl (cI, 300, .inl (cLa (bldX P z (fcN F T C z u) F (hN F T C u) lo)))), (g4, .inl (cI, 300, .inl (cLe (bldX P z (fcN F T C z u) F (hN F T C u) lo)))), (g5, .inl (cJ, 300, .inr (.inl (cBy (bldX P z (fcN F T C z u) F (hN F T C u) lo))))), (g6, .inl (cJ, 300, .inr (.inl (cHe (bldX P z (fcN F T C z u) F (hN F T C u) lo))))), (g7, .inl (cI, 300, .inl ((obhN (bFi0 z) (fcN F T C z u) F (hN F T C u) lo 300).2))), (g8, .inl (cI, 300, .inl ((rkN (cFi (bldX P z (fcN F T C z u) F (hN F T C u) lo)) (cLe (bldX P z (fcN F T C z u) F (hN F T C u) lo)) (cBy (bldX P z (fcN F T C z u) F (hN F T C u) lo)) (cHe (bldX P z (fcN F T C z u) F (hN F T C u) lo)) rk 300).2))), (w0, .inr (2, [.ref w1, .ref w2, .int (nI (rowL z M (fun _ => -1) ((rLst (bldX P z (fcN F T C z u) F (hN F T C u) lo) rk).flatMap (cCh (bldX P z (fcN F T C z u) F (hN F T C u) lo)))).2.2.1), .long ((rowL z M (fun _ => -1) ((rLst (bldX P z (fcN F T C z u) F (hN F T C u) lo) rk).flatMap (cCh (bldX P z (fcN F T C z u) F (hN F T C u) lo)))).2.2.2)])), (w1, .inl (cI, 300, .inl ((rowL z M (fun _ => -1) ((rLst (bldX P z (fcN F T C z u) F (hN F T C u) lo) rk).flatMap (cCh (bldX P z (fcN F T C z u) F (hN F T C u) lo)))).1))), (w2, .inl (cJ, 300, .inr (.inl ((rowL z M (fun _ => -1) ((rLst (bldX P z (fcN F T C z u) F (hN F T C u) lo) rk).flatMap (cCh (bldX P z (fcN F T C z u) F (hN F T C u) lo)))).2.1)))), (v0, .inr (2, [.ref v1, .ref v2, .int (nI (rowL z M2 (fun _ => -1) (nLst z n)).2.2.1), .long ((rowL z M2 (fun _ => -1) (nLst z n)).2.2.2)])), (v1, .inl (cI, 300, .inl ((rowL z M2 (fun _ => -1) (nLst z n)).1))), (v2, .inl (cJ, 300, .inr (.inl ((rowL z M2 (fun _ => -1) (nLst z n)).2.1))))] H := hP
    have hD : va_D A [(x0, .inr (3, [.ref z0, .ref h0, .ref g0, .ref w0, .ref v0, .int (nI n), .int P, .int 0])), (z0, .inl (cI, 300, .inl z)), (h0, .inr (0, [.ref h1, .ref h2, .ref h3, .ref h4, .ref h5, .int (nI u)])), (h1, .inl (cI, 2000, .inl F)), (h2, .inl (cI, 2000, .inl T)), (h3, .inl (cJ, 2000, .inr (.inl C))), (h4, .inl (cJ, 300, .inr (.inl (hN F T C u)))), (h5, .inl (cI, 300, .inl (fcN F T C z u))), (g0, .inr (1, [.ref g1, .ref g2, .ref g3, .ref g4, .ref g5, .ref g6, .ref g7, .ref g8, .int (nI ((rkN (cFi (bldX P z (fcN F T C z u) F (hN F T C u) lo)) (cLe (bldX P z (fcN F T C z u) F (hN F T C u) lo)) (cBy (bldX P z (fcN F T C z u) F (hN F T C u) lo)) (cHe (bldX P z (fcN F T C z u) F (hN F T C u) lo)) rk 300).1))])), (g1, .inl (cI, 300, .inl (cFi (bldX P z (fcN F T C z u) F (hN F T C u) lo)))), (g2, .inl (cI, 300, .inl (cNx (bldX P z (fcN F T C z u) F (hN F T C u) lo)))), (g3, .inl (cI, 300, .inl (cLa (bldX P z (fcN F T C z u) F (hN F T C u) lo)))), (g4, .inl (cI, 300, .inl (cLe (bldX P z (fcN F T C z u) F (hN F T C u) lo)))), (g5, .inl (cJ, 300, .inr (.inl (cBy (bldX P z (fcN F T C z u) F (hN F T C u) lo))))), (g6, .inl (cJ, 300, .inr (.inl (cHe (bldX P z (fcN F T C z u) F (hN F T C u) lo))))), (g7, .inl (cI, 300, .inl ((obhN (bFi0 z) (fcN F T C z u) F (hN F T C u) lo 300).2))), (g8, .inl (cI, 300, .inl ((rkN (cFi (bldX P z (fcN F T C z u) F (hN F T C u) lo)) (cLe (bldX P z (fcN F T C z u) F (hN F T C u) lo)) (cBy (bldX P z (fcN F T C z u) F (hN F T C u) lo)) (cHe (bldX P z (fcN F T C z u) F (hN F T C u) lo)) rk 300).2))), (w0, .inr (2, [.ref w1, .ref w2, .int (nI (rowL z M (fun _ => -1) ((rLst (bldX P z (fcN F T C z u) F (hN F T C u) lo) rk).flatMap (cCh (bldX P z (fcN F T C z u) F (hN F T C u) lo)))).2.2.1), .long ((rowL z M (fun _ => -1) ((rLst (bldX P z (fcN F T C z u) F (hN F T C u) lo) rk).flatMap (cCh (bldX P z (fcN F T C z u) F (hN F T C u) lo)))).2.2.2)])), (w1, .inl (cI, 300, .inl ((rowL z M (fun _ => -1) ((rLst (bldX P z (fcN F T C z u) F (hN F T C u) lo) rk).flatMap (cCh (bldX P z (fcN F T C z u) F (hN F T C u) lo)))).1))), (w2, .inl (cJ, 300, .inr (.inl ((rowL z M (fun _ => -1) ((rLst (bldX P z (fcN F T C z u) F (hN F T C u) lo) rk).flatMap (cCh (bldX P z (fcN F T C z u) F (hN F T C u) lo)))).2.1)))), (v0, .inr (2, [.ref v1, .ref v2, .int (nI (rowL z M2 (fun _ => -1) (nLst z n)).2.2.1), .long ((rowL z M2 (fun _ => -1) (nLst z n)).2.2.2)])), (v1, .inl (cI, 300, .inl ((rowL z M2 (fun _ => -1) (nLst z n)).1))), (v2, .inl (cJ, 300, .inr (.inl ((rowL z M2 (fun _ => -1) (nLst z n)).2.1))))] := hD
    have hP9 : va_P (dC, dI) vwCl [(x0, .inr (3, [.ref z0, .ref h0, .ref g0, .ref w0, .ref v0, .int (nI n), .int P, .int 0])), (z0, .inl (cI, 300, .inl z)), (h0, .inr (0, [.ref h1, .ref h2, .ref h3, .ref h4, .ref h5, .int (nI u)])), (h1, .inl (cI, 2000, .inl F)), (h2, .inl (cI, 2000, .inl T)), (h3, .inl (cJ, 2000, .inr (.inl C))), (h4, .inl (cJ, 300, .inr (.inl (hN F T C u)))), (h5, .inl (cI, 300, .inl (fcN F T C z u))), (g0, .inr (1, [.ref g1, .ref g2, .ref g3, .ref g4, .ref g5, .ref g6, .ref g7, .ref g8, .int (nI ((rkN (cFi (bldX P z (fcN F T C z u) F (hN F T C u) lo)) (cLe (bldX P z (fcN F T C z u) F (hN F T C u) lo)) (cBy (bldX P z (fcN F T C z u) F (hN F T C u) lo)) (cHe (bldX P z (fcN F T C z u) F (hN F T C u) lo)) rk 300).1))])), (g1, .inl (cI, 300, .inl (cFi (bldX P z (fcN F T C z u) F (hN F T C u) lo)))), (g2, .inl (cI, 300, .inl (cNx (bldX P z (fcN F T C z u) F (hN F T C u) lo)))), (g3, .inl (cI, 300, .inl (cLa (bldX P z (fcN F T C z u) F (hN F T C u) lo)))), (g4, .inl (cI, 300, .inl (cLe (bldX P z (fcN F T C z u) F (hN F T C u) lo)))), (g5, .inl (cJ, 300, .inr (.inl (cBy (bldX P z (fcN F T C z u) F (hN F T C u) lo))))), (g6, .inl (cJ, 300, .inr (.inl (cHe (bldX P z (fcN F T C z u) F (hN F T C u) lo))))), (g7, .inl (cI, 300, .inl ((obhN (bFi0 z) (fcN F T C z u) F (hN F T C u) lo 300).2))), (g8, .inl (cI, 300, .inl ((rkN (cFi (bldX P z (fcN F T C z u) F (hN F T C u) lo)) (cLe (bldX P z (fcN F T C z u) F (hN F T C u) lo)) (cBy (bldX P z (fcN F T C z u) F (hN F T C u) lo)) (cHe (bldX P z (fcN F T C z u) F (hN F T C u) lo)) rk 300).2))), (w0, .inr (2, [.ref w1, .ref w2, .int (nI (rowL z M (fun _ => -1) ((rLst (bldX P z (fcN F T C z u) F (hN F T C u) lo) rk).flatMap (cCh (bldX P z (fcN F T C z u) F (hN F T C u) lo)))).2.2.1), .long ((rowL z M (fun _ => -1) ((rLst (bldX P z (fcN F T C z u) F (hN F T C u) lo) rk).flatMap (cCh (bldX P z (fcN F T C z u) F (hN F T C u) lo)))).2.2.2)])), (w1, .inl (cI, 300, .inl ((rowL z M (fun _ => -1) ((rLst (bldX P z (fcN F T C z u) F (hN F T C u) lo) rk).flatMap (cCh (bldX P z (fcN F T C z u) F (hN F T C u) lo)))).1))), (w2, .inl (cJ, 300, .inr (.inl ((rowL z M (fun _ => -1) ((rLst (bldX P z (fcN F T C z u) F (hN F T C u) lo) rk).flatMap (cCh (bldX P z (fcN F T C z u) F (hN F T C u) lo)))).2.1)))), (v0, .inr (2, [.ref v1, .ref v2, .int (nI (rowL z M2 (fun _ => -1) (nLst z n)).2.2.1), .long ((rowL z M2 (fun _ => -1) (nLst z n)).2.2.2)])), (v1, .inl (cI, 300, .inl ((rowL z M2 (fun _ => -1) (nLst z n)).1))), (v2, .inl (cJ, 300, .inr (.inl ((rowL z M2 (fun _ => -1) (nLst z n)).2.1))))] H := hP
    have hD9 : va_D A [(x0, .inr (3, [.ref z0, .ref h0, .ref g0, .ref w0, .ref v0, .int (nI n), .int P, .int 0])), (z0, .inl (cI, 300, .inl z)), (h0, .inr (0, [.ref h1, .ref h2, .ref h3, .ref h4, .ref h5, .int (nI u)])), (h1, .inl (cI, 2000, .inl F)), (h2, .inl (cI, 2000, .inl T)), (h3, .inl (cJ, 2000, .inr (.inl C))), (h4, .inl (cJ, 300, .inr (.inl (hN F T C u)))), (h5, .inl (cI, 300, .inl (fcN F T C z u))), (g0, .inr (1, [.ref g1, .ref g2, .ref g3, .ref g4, .ref g5, .ref g6, .ref g7, .ref g8, .int (nI ((rkN (cFi (bldX P z (fcN F T C z u) F (hN F T C u) lo)) (cLe (bldX P z (fcN F T C z u) F (hN F T C u) lo)) (cBy (bldX P z (fcN F T C z u) F (hN F T C u) lo)) (cHe (bldX P z (fcN F T C z u) F (hN F T C u) lo)) rk 300).1))])), (g1, .inl (cI, 300, .inl (cFi (bldX P z (fcN F T C z u) F (hN F T C u) lo)))), (g2, .inl (cI, 300, .inl (cNx (bldX P z (fcN F T C z u) F (hN F T C u) lo)))), (g3, .inl (cI, 300, .inl (cLa (bldX P z (fcN F T C z u) F (hN F T C u) lo)))), (g4, .inl (cI, 300, .inl (cLe (bldX P z (fcN F T C z u) F (hN F T C u) lo)))), (g5, .inl (cJ, 300, .inr (.inl (cBy (bldX P z (fcN F T C z u) F (hN F T C u) lo))))), (g6, .inl (cJ, 300, .inr (.inl (cHe (bldX P z (fcN F T C z u) F (hN F T C u) lo))))), (g7, .inl (cI, 300, .inl ((obhN (bFi0 z) (fcN F T C z u) F (hN F T C u) lo 300).2))), (g8, .inl (cI, 300, .inl ((rkN (cFi (bldX P z (fcN F T C z u) F (hN F T C u) lo)) (cLe (bldX P z (fcN F T C z u) F (hN F T C u) lo)) (cBy (bldX P z (fcN F T C z u) F (hN F T C u) lo)) (cHe (bldX P z (fcN F T C z u) F (hN F T C u) lo)) rk 300).2))), (w0, .inr (2, [.ref w1, .ref w2, .int (nI (rowL z M (fun _ => -1) ((rLst (bldX P z (fcN F T C z u) F (hN F T C u) lo) rk).flatMap (cCh (bldX P z (fcN F T C z u) F (hN F T C u) lo)))).2.2.1), .long ((rowL z M (fun _ => -1) ((rLst (bldX P z (fcN F T C z u) F (hN F T C u) lo) rk).flatMap (cCh (bldX P z (fcN F T C z u) F (hN F T C u) lo)))).2.2.2)])), (w1, .inl (cI, 300, .inl ((rowL z M (fun _ => -1) ((rLst (bldX P z (fcN F T C z u) F (hN F T C u) lo) rk).flatMap (cCh (bldX P z (fcN F T C z u) F (hN F T C u) lo)))).1))), (w2, .inl (cJ, 300, .inr (.inl ((rowL z M (fun _ => -1) ((rLst (bldX P z (fcN F T C z u) F (hN F T C u) lo) rk).flatMap (cCh (bldX P z (fcN F T C z u) F (hN F T C u) lo)))).2.1)))), (v0, .inr (2, [.ref v1, .ref v2, .int (nI (rowL z M2 (fun _ => -1) (nLst z n)).2.2.1), .long ((rowL z M2 (fun _ => -1) (nLst z n)).2.2.2)])), (v1, .inl (cI, 300, .inl ((rowL z M2 (fun _ => -1) (nLst z n)).1))), (v2, .inl (cJ, 300, .inr (.inl ((rowL z M2 (fun _ => -1) (nLst z n)).2.1))))] := hD
    exact W.vret hx hb hr (fun t ht hW => ⟨⟨(fcN F T C z u, cFi (bldX P z (fcN F T C z u) F (hN F T C u) lo), cNx (bldX P z (fcN F T C z u) F (hN F T C u) lo), cLa (bldX P z (fcN F T C z u) F (hN F T C u) lo), cLe (bldX P z (fcN F T C z u) F (hN F T C u) lo), cBy (bldX P z (fcN F T C z u) F (hN F T C u) lo), cHe (bldX P z (fcN F T C z u) F (hN F T C u) lo), (obhN (bFi0 z) (fcN F T C z u) F (hN F T C u) lo 300).2, (rkN (cFi (bldX P z (fcN F T C z u) F (hN F T C u) lo)) (cLe (bldX P z (fcN F T C z u) F (hN F T C u) lo)) (cBy (bldX P z (fcN F T C z u) F (hN F T C u) lo)) (cHe (bldX P z (fcN F T C z u) F (hN F T C u) lo)) rk 300).2, nI ((rkN (cFi (bldX P z (fcN F T C z u) F (hN F T C u) lo)) (cLe (bldX P z (fcN F T C z u) F (hN F T C u) lo)) (cBy (bldX P z (fcN F T C z u) F (hN F T C u) lo)) (cHe (bldX P z (fcN F T C z u) F (hN F T C u) lo)) rk 300).1), (rowL z M (fun _ => -1) ((rLst (bldX P z (fcN F T C z u) F (hN F T C u) lo) rk).flatMap (cCh (bldX P z (fcN F T C z u) F (hN F T C u) lo)))).1, (rowL z M (fun _ => -1) ((rLst (bldX P z (fcN F T C z u) F (hN F T C u) lo) rk).flatMap (cCh (bldX P z (fcN F T C z u) F (hN F T C u) lo)))).2.1, nI (rowL z M (fun _ => -1) ((rLst (bldX P z (fcN F T C z u) F (hN F T C u) lo) rk).flatMap (cCh (bldX P z (fcN F T C z u) F (hN F T C u) lo)))).2.2.1, (rowL z M (fun _ => -1) ((rLst (bldX P z (fcN F T C z u) F (hN F T C u) lo) rk).flatMap (cCh (bldX P z (fcN F T C z u) F (hN F T C u) lo)))).2.2.2, (rowL z M2 (fun _ => -1) (nLst z n)).1, (rowL z M2 (fun _ => -1) (nLst z n)).2.1, nI (rowL z M2 (fun _ => -1) (nLst z n)).2.2.1, (rowL z M2 (fun _ => -1) (nLst z n)).2.2.2), rfl, DerC.made2 n P z F T C u lo rk M M2 (bldX P z (fcN F T C z u) F (hN F T C u) lo) rfl, by rw [ht]; exact hP9, va_K.moved hW.alike hK, hD9⟩, hS.F ht⟩) hS.2.2 dX3_refresh_62
  · -- pc 4, side 1
    subst c_1
    have hP9 : va_P (dC, dI) vwCl [(x0, .inr (3, [.ref z0, .ref h0, .ref g0, .ref w0, .ref v0, .int (nI n), .int P, .int 0])), (z0, .inl (cI, 300, .inl z)), (h0, .inr (0, [.ref h1, .ref h2, .ref h3, .ref h4, .ref h5, .int (nI u)])), (h1, .inl (cI, 2000, .inl F)), (h2, .inl (cI, 2000, .inl T)), (h3, .inl (cJ, 2000, .inr (.inl C))), (h4, .inl (cJ, 300, .inr (.inl (hN F T C u)))), (h5, .inl (cI, 300, .inl S)), (g0, .inr (1, [.ref g1, .ref g2, .ref g3, .ref g4, .ref g5, .ref g6, .ref g7, .ref g8, .int rc])), (g1, .inl (cI, 300, .inl fi)), (g2, .inl (cI, 300, .inl nx)), (g3, .inl (cI, 300, .inl la)), (g4, .inl (cI, 300, .inl le)), (g5, .inl (cJ, 300, .inr (.inl by_))), (g6, .inl (cJ, 300, .inr (.inl he))), (g7, .inl (cI, 300, .inl lo)), (g8, .inl (cI, 300, .inl rk)), (w0, .inr (2, [.ref w1, .ref w2, .int pu, .long pe])), (w1, .inl (cI, 300, .inl M)), (w2, .inl (cJ, 300, .inr (.inl B))), (v0, .inr (2, [.ref v1, .ref v2, .int nu, .long ne])), (v1, .inl (cI, 300, .inl M2)), (v2, .inl (cJ, 300, .inr (.inl B2)))] H := hP
    have hD9 : va_D A [(x0, .inr (3, [.ref z0, .ref h0, .ref g0, .ref w0, .ref v0, .int (nI n), .int P, .int 0])), (z0, .inl (cI, 300, .inl z)), (h0, .inr (0, [.ref h1, .ref h2, .ref h3, .ref h4, .ref h5, .int (nI u)])), (h1, .inl (cI, 2000, .inl F)), (h2, .inl (cI, 2000, .inl T)), (h3, .inl (cJ, 2000, .inr (.inl C))), (h4, .inl (cJ, 300, .inr (.inl (hN F T C u)))), (h5, .inl (cI, 300, .inl S)), (g0, .inr (1, [.ref g1, .ref g2, .ref g3, .ref g4, .ref g5, .ref g6, .ref g7, .ref g8, .int rc])), (g1, .inl (cI, 300, .inl fi)), (g2, .inl (cI, 300, .inl nx)), (g3, .inl (cI, 300, .inl la)), (g4, .inl (cI, 300, .inl le)), (g5, .inl (cJ, 300, .inr (.inl by_))), (g6, .inl (cJ, 300, .inr (.inl he))), (g7, .inl (cI, 300, .inl lo)), (g8, .inl (cI, 300, .inl rk)), (w0, .inr (2, [.ref w1, .ref w2, .int pu, .long pe])), (w1, .inl (cI, 300, .inl M)), (w2, .inl (cJ, 300, .inr (.inl B))), (v0, .inr (2, [.ref v1, .ref v2, .int nu, .long ne])), (v1, .inl (cI, 300, .inl M2)), (v2, .inl (cJ, 300, .inr (.inl B2)))] := hD
    exact W.vret hx hb hr (fun t ht hW => ⟨⟨(S, fi, nx, la, le, by_, he, lo, rk, rc, M, B, pu, pe, M2, B2, nu, ne), rfl, hder rfl, by rw [ht]; exact hP9, va_K.moved hW.alike hK, hD9⟩, hS.F ht⟩) hS.2.2 dX3_refresh_7
end
