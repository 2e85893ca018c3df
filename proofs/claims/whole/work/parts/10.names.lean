-- ===== PART A: goes FIRST, ahead of the names: the tables' words, and 'selects' of the private methods out of them =====
/-- a private method of a class that the tables say can be made, by its rows of tables_1 -/
def lw_okq (q : MethodName × Nat) : Prop := (q.1.cls ≠ "java/lang/invoke/MethodHandle" ∧ q.1.cls ≠ "java/lang/invoke/VarHandle") ∧ Cond.instantiable q.1.cls q.2 ∈ tables_1 ∧ Cond.privateMethod q.1 ∈ tables_1 ∧ Cond.instanceMethod q.1 ∈ tables_1
theorem lw_p0 : lw_okq (⟨"FactorDesk", "solve", "()V"⟩, 4) := ⟨⟨by decide +kernel, by decide +kernel⟩, List.mem_of_getElem? (i := 9) (by decide +kernel), List.mem_of_getElem? (i := 236) (by decide +kernel), List.mem_of_getElem? (i := 237) (by decide +kernel)⟩
theorem lw_p1 : lw_okq (⟨"FactorDesk$Search", "take", "(II)V"⟩, 9) := ⟨⟨by decide +kernel, by decide +kernel⟩, List.mem_of_getElem? (i := 54) (by decide +kernel), List.mem_of_getElem? (i := 250) (by decide +kernel), List.mem_of_getElem? (i := 251) (by decide +kernel)⟩
theorem lw_p2 : lw_okq (⟨"FactorDesk$Search", "hope", "()I"⟩, 9) := ⟨⟨by decide +kernel, by decide +kernel⟩, List.mem_of_getElem? (i := 54) (by decide +kernel), List.mem_of_getElem? (i := 261) (by decide +kernel), List.mem_of_getElem? (i := 262) (by decide +kernel)⟩
theorem lw_p3 : lw_okq (⟨"FactorDesk$Search", "mayAdd", "(II)Z"⟩, 9) := ⟨⟨by decide +kernel, by decide +kernel⟩, List.mem_of_getElem? (i := 54) (by decide +kernel), List.mem_of_getElem? (i := 265) (by decide +kernel), List.mem_of_getElem? (i := 266) (by decide +kernel)⟩
theorem lw_p4 : lw_okq (⟨"FactorDesk", "reachesWith", "(III)Z"⟩, 4) := ⟨⟨by decide +kernel, by decide +kernel⟩, List.mem_of_getElem? (i := 9) (by decide +kernel), List.mem_of_getElem? (i := 297) (by decide +kernel), List.mem_of_getElem? (i := 298) (by decide +kernel)⟩
theorem lw_p5 : lw_okq (⟨"FactorDesk", "tabulate", "()V"⟩, 4) := ⟨⟨by decide +kernel, by decide +kernel⟩, List.mem_of_getElem? (i := 9) (by decide +kernel), List.mem_of_getElem? (i := 309) (by decide +kernel), List.mem_of_getElem? (i := 310) (by decide +kernel)⟩
theorem lw_p6 : lw_okq (⟨"FactorDesk$Bounds", "countInside", "(LFactorDesk$Graph;)V"⟩, 8) := ⟨⟨by decide +kernel, by decide +kernel⟩, List.mem_of_getElem? (i := 91) (by decide +kernel), List.mem_of_getElem? (i := 317) (by decide +kernel), List.mem_of_getElem? (i := 318) (by decide +kernel)⟩
theorem lw_p7 : lw_okq (⟨"FactorDesk$Bounds", "partOf", "(II)I"⟩, 8) := ⟨⟨by decide +kernel, by decide +kernel⟩, List.mem_of_getElem? (i := 91) (by decide +kernel), List.mem_of_getElem? (i := 321) (by decide +kernel), List.mem_of_getElem? (i := 322) (by decide +kernel)⟩
theorem lw_p8 : lw_okq (⟨"FactorDesk", "explain", "()V"⟩, 4) := ⟨⟨by decide +kernel, by decide +kernel⟩, List.mem_of_getElem? (i := 9) (by decide +kernel), List.mem_of_getElem? (i := 333) (by decide +kernel), List.mem_of_getElem? (i := 334) (by decide +kernel)⟩
theorem lw_p9 : lw_okq (⟨"FactorDesk$Bounds", "findFor", "(II)Z"⟩, 8) := ⟨⟨by decide +kernel, by decide +kernel⟩, List.mem_of_getElem? (i := 91) (by decide +kernel), List.mem_of_getElem? (i := 341) (by decide +kernel), List.mem_of_getElem? (i := 342) (by decide +kernel)⟩
theorem lw_p10 : lw_okq (⟨"FactorDeskModel", "isVertex", "(I)Z"⟩, 6) := ⟨⟨by decide +kernel, by decide +kernel⟩, List.mem_of_getElem? (i := 346) (by decide +kernel), List.mem_of_getElem? (i := 379) (by decide +kernel), List.mem_of_getElem? (i := 380) (by decide +kernel)⟩
theorem lw_p11 : lw_okq (⟨"FactorDeskModel", "isEdge", "(I)Z"⟩, 6) := ⟨⟨by decide +kernel, by decide +kernel⟩, List.mem_of_getElem? (i := 346) (by decide +kernel), List.mem_of_getElem? (i := 387) (by decide +kernel), List.mem_of_getElem? (i := 388) (by decide +kernel)⟩
theorem lw_p12 : lw_okq (⟨"FactorDeskModel", "allEdges", "()I"⟩, 6) := ⟨⟨by decide +kernel, by decide +kernel⟩, List.mem_of_getElem? (i := 346) (by decide +kernel), List.mem_of_getElem? (i := 415) (by decide +kernel), List.mem_of_getElem? (i := 416) (by decide +kernel)⟩
theorem lw_p13 : lw_okq (⟨"FactorDeskModel", "isFactor", "(I)Z"⟩, 6) := ⟨⟨by decide +kernel, by decide +kernel⟩, List.mem_of_getElem? (i := 346) (by decide +kernel), List.mem_of_getElem? (i := 419) (by decide +kernel), List.mem_of_getElem? (i := 420) (by decide +kernel)⟩
theorem lw_p14 : lw_okq (⟨"FactorDeskModel", "degree", "(II)I"⟩, 6) := ⟨⟨by decide +kernel, by decide +kernel⟩, List.mem_of_getElem? (i := 346) (by decide +kernel), List.mem_of_getElem? (i := 423) (by decide +kernel), List.mem_of_getElem? (i := 424) (by decide +kernel)⟩
theorem lw_p15 : lw_okq (⟨"FactorDeskModel", "isFair", "(I)Z"⟩, 6) := ⟨⟨by decide +kernel, by decide +kernel⟩, List.mem_of_getElem? (i := 346) (by decide +kernel), List.mem_of_getElem? (i := 430) (by decide +kernel), List.mem_of_getElem? (i := 431) (by decide +kernel)⟩
def lw_privs_1 : List (MethodName × Nat) := [(⟨"FactorDesk", "solve", "()V"⟩, 4), (⟨"FactorDesk$Search", "take", "(II)V"⟩, 9), (⟨"FactorDesk$Search", "hope", "()I"⟩, 9), (⟨"FactorDesk$Search", "mayAdd", "(II)Z"⟩, 9), (⟨"FactorDesk", "reachesWith", "(III)Z"⟩, 4), (⟨"FactorDesk", "tabulate", "()V"⟩, 4), (⟨"FactorDesk$Bounds", "countInside", "(LFactorDesk$Graph;)V"⟩, 8), (⟨"FactorDesk$Bounds", "partOf", "(II)I"⟩, 8), (⟨"FactorDesk", "explain", "()V"⟩, 4), (⟨"FactorDesk$Bounds", "findFor", "(II)Z"⟩, 8), (⟨"FactorDeskModel", "isVertex", "(I)Z"⟩, 6), (⟨"FactorDeskModel", "isEdge", "(I)Z"⟩, 6), (⟨"FactorDeskModel", "allEdges", "()I"⟩, 6), (⟨"FactorDeskModel", "isFactor", "(I)Z"⟩, 6), (⟨"FactorDeskModel", "degree", "(II)I"⟩, 6), (⟨"FactorDeskModel", "isFair", "(I)Z"⟩, 6)]
theorem lw_r1 : ∀ q ∈ lw_privs_1, lw_okq q := List.forall_mem_cons.mpr ⟨lw_p0, List.forall_mem_cons.mpr ⟨lw_p1, List.forall_mem_cons.mpr ⟨lw_p2, List.forall_mem_cons.mpr ⟨lw_p3, List.forall_mem_cons.mpr ⟨lw_p4, List.forall_mem_cons.mpr ⟨lw_p5, List.forall_mem_cons.mpr ⟨lw_p6, List.forall_mem_cons.mpr ⟨lw_p7, List.forall_mem_cons.mpr ⟨lw_p8, List.forall_mem_cons.mpr ⟨lw_p9, List.forall_mem_cons.mpr ⟨lw_p10, List.forall_mem_cons.mpr ⟨lw_p11, List.forall_mem_cons.mpr ⟨lw_p12, List.forall_mem_cons.mpr ⟨lw_p13, List.forall_mem_cons.mpr ⟨lw_p14, List.forall_mem_cons.mpr ⟨lw_p15, fun _ h => absurd h List.not_mem_nil⟩⟩⟩⟩⟩⟩⟩⟩⟩⟩⟩⟩⟩⟩⟩⟩
theorem lw_p16 : lw_okq (⟨"FactorDeskModel", "mostWith", "(II)I"⟩, 6) := ⟨⟨by decide +kernel, by decide +kernel⟩, List.mem_of_getElem? (i := 346) (by decide +kernel), List.mem_of_getElem? (i := 462) (by decide +kernel), List.mem_of_getElem? (i := 463) (by decide +kernel)⟩
theorem lw_p17 : lw_okq (⟨"FactorDeskModel", "areSets", "(II)Z"⟩, 6) := ⟨⟨by decide +kernel, by decide +kernel⟩, List.mem_of_getElem? (i := 346) (by decide +kernel), List.mem_of_getElem? (i := 474) (by decide +kernel), List.mem_of_getElem? (i := 475) (by decide +kernel)⟩
theorem lw_p18 : lw_okq (⟨"FactorDeskModel", "partition", "(II)I"⟩, 6) := ⟨⟨by decide +kernel, by decide +kernel⟩, List.mem_of_getElem? (i := 346) (by decide +kernel), List.mem_of_getElem? (i := 478) (by decide +kernel), List.mem_of_getElem? (i := 479) (by decide +kernel)⟩
theorem lw_p19 : lw_okq (⟨"FactorDeskModel", "half", "(II)I"⟩, 6) := ⟨⟨by decide +kernel, by decide +kernel⟩, List.mem_of_getElem? (i := 346) (by decide +kernel), List.mem_of_getElem? (i := 482) (by decide +kernel), List.mem_of_getElem? (i := 483) (by decide +kernel)⟩
def lw_privs_2 : List (MethodName × Nat) := [(⟨"FactorDeskModel", "mostWith", "(II)I"⟩, 6), (⟨"FactorDeskModel", "areSets", "(II)Z"⟩, 6), (⟨"FactorDeskModel", "partition", "(II)I"⟩, 6), (⟨"FactorDeskModel", "half", "(II)I"⟩, 6)]
theorem lw_r2 : ∀ q ∈ lw_privs_2, lw_okq q := List.forall_mem_cons.mpr ⟨lw_p16, List.forall_mem_cons.mpr ⟨lw_p17, List.forall_mem_cons.mpr ⟨lw_p18, List.forall_mem_cons.mpr ⟨lw_p19, fun _ h => absurd h List.not_mem_nil⟩⟩⟩⟩
def lw_privs : List (MethodName × Nat) := lw_privs_1 ++ (lw_privs_2)
def lw_tbl : List Cond := k2_sels lw_privs ++ tables_1
theorem lw_privs_ok : ∀ q ∈ lw_privs, lw_okq q := by
  show ∀ q ∈ lw_privs_1 ++ (lw_privs_2), lw_okq q
  exact List.forall_mem_append.mpr ⟨lw_r1, lw_r2⟩

def bigW : List Cond := lw_tbl.filter goodWord
theorem big_in : ∀ w ∈ bigW, w ∈ lw_tbl := fun w h => (List.mem_filter.mp h).1
theorem big_gd : ∀ w ∈ bigW, (w.onTables && w.keeps) = true ∨ ∃ ty, w = .arrayClass ty := fun w h => good_of_word (List.mem_filter.mp h).2
theorem kw {w : Cond} {k : Nat} (h : lw_tbl[k]? = some w) (g : goodWord w = true) : w ∈ bigW := List.mem_filter.mpr ⟨List.mem_of_getElem? h, g⟩
theorem gV {own C : String} {i : Nat} {y : MethodName} {cd : Cond} (h1 : .methodLink own i y ∈ bigW) (h2 : .instanceMethod y ∈ bigW) (h3 : .selects C y y ∈ bigW) (h4 : .initialized C ∈ bigW) (h5 : cd ∈ bigW) : GoodIn bigW (wsV own i C y (cd :: bigW)) := by
  intro w hw
  unfold wsV at hw
  simp only [List.cons_append, List.nil_append, List.mem_cons] at hw
  have hm : w ∈ bigW := by rcases hw with rfl | rfl | rfl | rfl | rfl | h <;> assumption
  exact ⟨hm, big_gd w hm⟩
theorem gS {own : String} {i : Nat} {y : MethodName} {cd : Cond} (h1 : .methodLink own i y ∈ bigW) (h2 : .static y ∈ bigW) (h4 : .initialized own ∈ bigW) (h5 : cd ∈ bigW) : GoodIn bigW (wsS own i y (cd :: bigW)) := by
  intro w hw
  unfold wsS at hw
  simp only [List.cons_append, List.nil_append, List.mem_cons] at hw
  have hm : w ∈ bigW := by rcases hw with rfl | rfl | rfl | rfl | h <;> assumption
  exact ⟨hm, big_gd w hm⟩
theorem gI {cd : Cond} (h5 : cd ∈ bigW) : GoodIn bigW (cd :: bigW) := by
  intro w hw
  simp only [List.mem_cons] at hw
  have hm : w ∈ bigW := by rcases hw with rfl | h <;> assumption
  exact ⟨hm, big_gd w hm⟩
theorem ws_in {cd : Cond} {args : Array Value} {s : State} (h : ∀ w ∈ cd :: bigW, w.before args s = true) : ∀ w ∈ bigW, w.before args s = true := fun w hw => h w (List.mem_cons_of_mem _ hw)
abbrev rA : String := "FactorDesk$Answers"
abbrev rB : String := "FactorDesk$Bounds"
abbrev rG : String := "FactorDesk$Graph"
abbrev rS : String := "FactorDesk$Search"
abbrev rF : String := "FactorDesk"
abbrev rM : String := "FactorDeskModel"
abbrev rL : String := "FactorDeskLaw"
def TA : u_T := fun k => match k with
  | 0 => ("FactorDesk$Answers", "solved", "Z", false)
  | 1 => ("FactorDesk$Answers", "tabulated", "Z", false)
  | 2 => ("FactorDesk$Answers", "explained", "Z", false)
  | 3 => ("FactorDesk$Answers", "bestSet", "I", false)
  | 4 => ("FactorDesk$Answers", "bestCount", "I", false)
  | 5 => ("FactorDesk$Answers", "witnessU", "I", false)
  | _ => ("FactorDesk$Answers", "witnessW", "I", false)
def tyA : Nat → FieldType := fun k => match k with
  | 0 => .boolean
  | 1 => .boolean
  | 2 => .boolean
  | 3 => .int
  | 4 => .int
  | 5 => .int
  | _ => .int
theorem nmA : ∀ a, a < 7 → ∀ b, b < 7 → a ≠ b → (TA a).2.1 ≠ (TA b).2.1 := by decide +kernel
theorem tyA_ok : ∀ k, k < 7 → parseFieldDescriptor (TA k).2.2.1 = some (tyA k) := by decide +kernel
theorem inA : ∀ w ∈ u_ws rA TA 7, w ∈ bigW := by decide +kernel
def TB : u_T := fun k => match k with
  | 0 => ("FactorDesk$Bounds", "order", "[I", true)
  | 1 => ("FactorDesk$Bounds", "near", "[I", true)
  | 2 => ("FactorDesk$Bounds", "wants", "[I", true)
  | 3 => ("FactorDesk$Bounds", "inside", "[I", true)
  | 4 => ("FactorDesk$Bounds", "part", "[I", true)
  | 5 => ("FactorDesk$Bounds", "all", "I", false)
  | 6 => ("FactorDesk$Bounds", "foundU", "I", false)
  | _ => ("FactorDesk$Bounds", "foundW", "I", false)
def tyB : Nat → FieldType := fun k => match k with
  | 0 => .array .int
  | 1 => .array .int
  | 2 => .array .int
  | 3 => .array .int
  | 4 => .array .int
  | 5 => .int
  | 6 => .int
  | _ => .int
theorem nmB : ∀ a, a < 8 → ∀ b, b < 8 → a ≠ b → (TB a).2.1 ≠ (TB b).2.1 := by decide +kernel
theorem tyB_ok : ∀ k, k < 8 → parseFieldDescriptor (TB k).2.2.1 = some (tyB k) := by decide +kernel
theorem inB : ∀ w ∈ u_ws rB TB 8, w ∈ bigW := by decide +kernel
def TG : u_T := fun k => match k with
  | 0 => ("FactorDesk$Graph", "vertexCount", "I", false)
  | 1 => ("FactorDesk$Graph", "edgeCount", "I", false)
  | 2 => ("FactorDesk$Graph", "first", "[I", true)
  | 3 => ("FactorDesk$Graph", "second", "[I", true)
  | _ => ("FactorDesk$Graph", "wanted", "[I", true)
def tyG : Nat → FieldType := fun k => match k with
  | 0 => .int
  | 1 => .int
  | 2 => .array .int
  | 3 => .array .int
  | _ => .array .int
theorem nmG : ∀ a, a < 5 → ∀ b, b < 5 → a ≠ b → (TG a).2.1 ≠ (TG b).2.1 := by decide +kernel
theorem tyG_ok : ∀ k, k < 5 → parseFieldDescriptor (TG k).2.2.1 = some (tyG k) := by decide +kernel
theorem inG : ∀ w ∈ u_ws rG TG 5, w ∈ bigW := by decide +kernel
def TS : u_T := fun k => match k with
  | 0 => ("FactorDesk$Search", "size", "I", false)
  | 1 => ("FactorDesk$Search", "head", "[I", true)
  | 2 => ("FactorDesk$Search", "tail", "[I", true)
  | 3 => ("FactorDesk$Search", "twin", "[I", true)
  | 4 => ("FactorDesk$Search", "left", "[I", true)
  | 5 => ("FactorDesk$Search", "ahead", "[I", true)
  | 6 => ("FactorDesk$Search", "enough", "I", false)
  | 7 => ("FactorDesk$Search", "foundSet", "I", false)
  | _ => ("FactorDesk$Search", "foundCount", "I", false)
def tyS : Nat → FieldType := fun k => match k with
  | 0 => .int
  | 1 => .array .int
  | 2 => .array .int
  | 3 => .array .int
  | 4 => .array .int
  | 5 => .array .int
  | 6 => .int
  | 7 => .int
  | _ => .int
theorem nmS : ∀ a, a < 9 → ∀ b, b < 9 → a ≠ b → (TS a).2.1 ≠ (TS b).2.1 := by decide +kernel
theorem tyS_ok : ∀ k, k < 9 → parseFieldDescriptor (TS k).2.2.1 = some (tyS k) := by decide +kernel
theorem inS : ∀ w ∈ u_ws rS TS 9, w ∈ bigW := by decide +kernel
def TF : u_T := fun k => match k with
  | 0 => ("FactorDesk", "graph", "LFactorDesk$Graph;", true)
  | 1 => ("FactorDesk", "search", "LFactorDesk$Search;", true)
  | 2 => ("FactorDesk", "bounds", "LFactorDesk$Bounds;", true)
  | _ => ("FactorDesk", "known", "LFactorDesk$Answers;", true)
def tyF : Nat → FieldType := fun k => match k with
  | 0 => .object "FactorDesk$Graph"
  | 1 => .object "FactorDesk$Search"
  | 2 => .object "FactorDesk$Bounds"
  | _ => .object "FactorDesk$Answers"
theorem nmF : ∀ a, a < 4 → ∀ b, b < 4 → a ≠ b → (TF a).2.1 ≠ (TF b).2.1 := by decide +kernel
theorem tyF_ok : ∀ k, k < 4 → parseFieldDescriptor (TF k).2.2.1 = some (tyF k) := by decide +kernel
theorem inF : ∀ w ∈ u_ws rF TF 4, w ∈ bigW := by decide +kernel
def TM : u_T := fun k => match k with
  | 0 => ("FactorDeskModel", "n", "I", false)
  | 1 => ("FactorDeskModel", "count", "I", false)
  | 2 => ("FactorDeskModel", "first", "[I", true)
  | 3 => ("FactorDeskModel", "second", "[I", true)
  | 4 => ("FactorDeskModel", "demands", "[I", true)
  | _ => ("FactorDeskModel", "parts", "[I", true)
def tyM : Nat → FieldType := fun k => match k with
  | 0 => .int
  | 1 => .int
  | 2 => .array .int
  | 3 => .array .int
  | 4 => .array .int
  | _ => .array .int
theorem nmM : ∀ a, a < 6 → ∀ b, b < 6 → a ≠ b → (TM a).2.1 ≠ (TM b).2.1 := by decide +kernel
theorem tyM_ok : ∀ k, k < 6 → parseFieldDescriptor (TM k).2.2.1 = some (tyM k) := by decide +kernel
theorem inM : ∀ w ∈ u_ws rM TM 6, w ∈ bigW := by decide +kernel
abbrev cls : List vw_C := [(rA, TA, 7), (rB, TB, 8), (rG, TG, 5), (rS, TS, 9), (rF, TF, 4), (rM, TM, 6)]
theorem iniA : Cond.initialized rA ∈ bigW := kw (k := 25) (by decide +kernel) rfl
theorem iniB : Cond.initialized rB ∈ bigW := kw (k := 24) (by decide +kernel) rfl
theorem iniG : Cond.initialized rG ∈ bigW := kw (k := 22) (by decide +kernel) rfl
theorem iniS : Cond.initialized rS ∈ bigW := kw (k := 23) (by decide +kernel) rfl
theorem iniF : Cond.initialized rF ∈ bigW := kw (k := 21) (by decide +kernel) rfl
theorem iniM : Cond.initialized rM ∈ bigW := kw (k := 26) (by decide +kernel) rfl
theorem iniL : Cond.initialized rL ∈ bigW := kw (k := 20) (by decide +kernel) rfl
theorem iniJ : Cond.initialized "java/lang/Math" ∈ bigW := kw (k := 27) (by decide +kernel) rfl
theorem arrI : Cond.arrayClass .int ∈ bigW := kw (k := 72) (by decide +kernel) rfl
theorem insA : Cond.instantiable rA 7 ∈ bigW := kw (k := 144) (by decide +kernel) rfl
theorem insB : Cond.instantiable rB 8 ∈ bigW := kw (k := 111) (by decide +kernel) rfl
theorem insG : Cond.instantiable rG 5 ∈ bigW := kw (k := 37) (by decide +kernel) rfl
theorem insS : Cond.instantiable rS 9 ∈ bigW := kw (k := 74) (by decide +kernel) rfl
theorem insF : Cond.instantiable rF 4 ∈ bigW := kw (k := 29) (by decide +kernel) rfl
theorem insM : Cond.instantiable rM 6 ∈ bigW := kw (k := 366) (by decide +kernel) rfl
theorem clL_7 : Cond.classLink rL 7 rF ∈ bigW := kw (k := 28) (by decide +kernel) rfl
theorem clF_9 : Cond.classLink rF 9 rG ∈ bigW := kw (k := 36) (by decide +kernel) rfl
theorem flG_9 : Cond.fieldLink rG 9 rG "vertexCount" "I" ∈ bigW := kw (k := 42) (by decide +kernel) rfl
theorem flB_27 : Cond.fieldLink rB 27 rG "vertexCount" "I" ∈ bigW := kw (k := 43) (by decide +kernel) rfl
theorem flF_66 : Cond.fieldLink rF 66 rG "vertexCount" "I" ∈ bigW := kw (k := 44) (by decide +kernel) rfl
theorem flG_25 : Cond.fieldLink rG 25 rG "edgeCount" "I" ∈ bigW := kw (k := 45) (by decide +kernel) rfl
theorem flS_36 : Cond.fieldLink rS 36 rG "edgeCount" "I" ∈ bigW := kw (k := 46) (by decide +kernel) rfl
theorem flF_44 : Cond.fieldLink rF 44 rG "edgeCount" "I" ∈ bigW := kw (k := 47) (by decide +kernel) rfl
theorem flB_47 : Cond.fieldLink rB 47 rG "edgeCount" "I" ∈ bigW := kw (k := 48) (by decide +kernel) rfl
theorem flG_15 : Cond.fieldLink rG 15 rG "first" "[I" ∈ bigW := kw (k := 49) (by decide +kernel) rfl
theorem flS_39 : Cond.fieldLink rS 39 rG "first" "[I" ∈ bigW := kw (k := 50) (by decide +kernel) rfl
theorem flB_50 : Cond.fieldLink rB 50 rG "first" "[I" ∈ bigW := kw (k := 51) (by decide +kernel) rfl
theorem flF_69 : Cond.fieldLink rF 69 rG "first" "[I" ∈ bigW := kw (k := 52) (by decide +kernel) rfl
theorem flG_19 : Cond.fieldLink rG 19 rG "second" "[I" ∈ bigW := kw (k := 53) (by decide +kernel) rfl
theorem flS_42 : Cond.fieldLink rS 42 rG "second" "[I" ∈ bigW := kw (k := 54) (by decide +kernel) rfl
theorem flB_53 : Cond.fieldLink rB 53 rG "second" "[I" ∈ bigW := kw (k := 55) (by decide +kernel) rfl
theorem flF_72 : Cond.fieldLink rF 72 rG "second" "[I" ∈ bigW := kw (k := 56) (by decide +kernel) rfl
theorem flG_22 : Cond.fieldLink rG 22 rG "wanted" "[I" ∈ bigW := kw (k := 57) (by decide +kernel) rfl
theorem flS_31 : Cond.fieldLink rS 31 rG "wanted" "[I" ∈ bigW := kw (k := 58) (by decide +kernel) rfl
theorem flB_40 : Cond.fieldLink rB 40 rG "wanted" "[I" ∈ bigW := kw (k := 59) (by decide +kernel) rfl
theorem flF_62 : Cond.fieldLink rF 62 rG "wanted" "[I" ∈ bigW := kw (k := 60) (by decide +kernel) rfl
theorem clF_16 : Cond.classLink rF 16 rS ∈ bigW := kw (k := 73) (by decide +kernel) rfl
theorem flS_27 : Cond.fieldLink rS 27 rS "size" "I" ∈ bigW := kw (k := 79) (by decide +kernel) rfl
theorem flS_9 : Cond.fieldLink rS 9 rS "head" "[I" ∈ bigW := kw (k := 80) (by decide +kernel) rfl
theorem flS_15 : Cond.fieldLink rS 15 rS "tail" "[I" ∈ bigW := kw (k := 81) (by decide +kernel) rfl
theorem flS_18 : Cond.fieldLink rS 18 rS "twin" "[I" ∈ bigW := kw (k := 82) (by decide +kernel) rfl
theorem flS_21 : Cond.fieldLink rS 21 rS "left" "[I" ∈ bigW := kw (k := 83) (by decide +kernel) rfl
theorem flF_152 : Cond.fieldLink rF 152 rS "left" "[I" ∈ bigW := kw (k := 84) (by decide +kernel) rfl
theorem flS_24 : Cond.fieldLink rS 24 rS "ahead" "[I" ∈ bigW := kw (k := 85) (by decide +kernel) rfl
theorem flS_64 : Cond.fieldLink rS 64 rS "enough" "I" ∈ bigW := kw (k := 86) (by decide +kernel) rfl
theorem flS_58 : Cond.fieldLink rS 58 rS "foundSet" "I" ∈ bigW := kw (k := 87) (by decide +kernel) rfl
theorem flF_128 : Cond.fieldLink rF 128 rS "foundSet" "I" ∈ bigW := kw (k := 88) (by decide +kernel) rfl
theorem flS_61 : Cond.fieldLink rS 61 rS "foundCount" "I" ∈ bigW := kw (k := 89) (by decide +kernel) rfl
theorem flF_131 : Cond.fieldLink rF 131 rS "foundCount" "I" ∈ bigW := kw (k := 90) (by decide +kernel) rfl
theorem clF_23 : Cond.classLink rF 23 rB ∈ bigW := kw (k := 110) (by decide +kernel) rfl
theorem flB_9 : Cond.fieldLink rB 9 rB "order" "[I" ∈ bigW := kw (k := 116) (by decide +kernel) rfl
theorem flB_15 : Cond.fieldLink rB 15 rB "near" "[I" ∈ bigW := kw (k := 117) (by decide +kernel) rfl
theorem flB_18 : Cond.fieldLink rB 18 rB "wants" "[I" ∈ bigW := kw (k := 118) (by decide +kernel) rfl
theorem flB_21 : Cond.fieldLink rB 21 rB "inside" "[I" ∈ bigW := kw (k := 119) (by decide +kernel) rfl
theorem flB_24 : Cond.fieldLink rB 24 rB "part" "[I" ∈ bigW := kw (k := 120) (by decide +kernel) rfl
theorem flB_33 : Cond.fieldLink rB 33 rB "all" "I" ∈ bigW := kw (k := 121) (by decide +kernel) rfl
theorem flB_63 : Cond.fieldLink rB 63 rB "foundU" "I" ∈ bigW := kw (k := 122) (by decide +kernel) rfl
theorem flF_146 : Cond.fieldLink rF 146 rB "foundU" "I" ∈ bigW := kw (k := 123) (by decide +kernel) rfl
theorem flB_66 : Cond.fieldLink rB 66 rB "foundW" "I" ∈ bigW := kw (k := 124) (by decide +kernel) rfl
theorem flF_149 : Cond.fieldLink rF 149 rB "foundW" "I" ∈ bigW := kw (k := 125) (by decide +kernel) rfl
theorem clF_30 : Cond.classLink rF 30 rA ∈ bigW := kw (k := 143) (by decide +kernel) rfl
theorem flA_7 : Cond.fieldLink rA 7 rA "solved" "Z" ∈ bigW := kw (k := 149) (by decide +kernel) rfl
theorem flF_121 : Cond.fieldLink rF 121 rA "solved" "Z" ∈ bigW := kw (k := 150) (by decide +kernel) rfl
theorem flA_13 : Cond.fieldLink rA 13 rA "tabulated" "Z" ∈ bigW := kw (k := 151) (by decide +kernel) rfl
theorem flF_134 : Cond.fieldLink rF 134 rA "tabulated" "Z" ∈ bigW := kw (k := 152) (by decide +kernel) rfl
theorem flA_16 : Cond.fieldLink rA 16 rA "explained" "Z" ∈ bigW := kw (k := 153) (by decide +kernel) rfl
theorem flF_140 : Cond.fieldLink rF 140 rA "explained" "Z" ∈ bigW := kw (k := 154) (by decide +kernel) rfl
theorem flF_85 : Cond.fieldLink rF 85 rA "bestSet" "I" ∈ bigW := kw (k := 155) (by decide +kernel) rfl
theorem flF_82 : Cond.fieldLink rF 82 rA "bestCount" "I" ∈ bigW := kw (k := 156) (by decide +kernel) rfl
theorem flF_115 : Cond.fieldLink rF 115 rA "witnessU" "I" ∈ bigW := kw (k := 157) (by decide +kernel) rfl
theorem flF_118 : Cond.fieldLink rF 118 rA "witnessW" "I" ∈ bigW := kw (k := 158) (by decide +kernel) rfl
theorem flF_12 : Cond.fieldLink rF 12 rF "graph" "LFactorDesk$Graph;" ∈ bigW := kw (k := 174) (by decide +kernel) rfl
theorem flF_19 : Cond.fieldLink rF 19 rF "search" "LFactorDesk$Search;" ∈ bigW := kw (k := 175) (by decide +kernel) rfl
theorem flF_26 : Cond.fieldLink rF 26 rF "bounds" "LFactorDesk$Bounds;" ∈ bigW := kw (k := 176) (by decide +kernel) rfl
theorem flF_33 : Cond.fieldLink rF 33 rF "known" "LFactorDesk$Answers;" ∈ bigW := kw (k := 177) (by decide +kernel) rfl
theorem clL_10 : Cond.classLink rL 10 rM ∈ bigW := kw (k := 365) (by decide +kernel) rfl
theorem flM_7 : Cond.fieldLink rM 7 rM "n" "I" ∈ bigW := kw (k := 371) (by decide +kernel) rfl
theorem flM_26 : Cond.fieldLink rM 26 rM "count" "I" ∈ bigW := kw (k := 372) (by decide +kernel) rfl
theorem flM_13 : Cond.fieldLink rM 13 rM "first" "[I" ∈ bigW := kw (k := 373) (by decide +kernel) rfl
theorem flM_17 : Cond.fieldLink rM 17 rM "second" "[I" ∈ bigW := kw (k := 374) (by decide +kernel) rfl
theorem flM_20 : Cond.fieldLink rM 20 rM "demands" "[I" ∈ bigW := kw (k := 375) (by decide +kernel) rfl
theorem flM_23 : Cond.fieldLink rM 23 rM "parts" "[I" ∈ bigW := kw (k := 376) (by decide +kernel) rfl
abbrev cF_init : ByteArray := prog_1_method_1_code
def yF_init : MethodName := ⟨rF, "<init>", "()V"⟩
def wF_init : List Cond := .code yF_init cF_init 1 none :: bigW
theorem kcF_init : Cond.code yF_init cF_init 1 none ∈ bigW := kw (k := 32) (by decide +kernel) rfl
theorem imF_init : Cond.instanceMethod yF_init ∈ bigW := kw (k := 31) (by decide +kernel) rfl
abbrev cG_init : ByteArray := prog_4_method_1_code
def yG_init : MethodName := ⟨rG, "<init>", "()V"⟩
def wG_init : List Cond := .code yG_init cG_init 1 none :: bigW
theorem kcG_init : Cond.code yG_init cG_init 1 none ∈ bigW := kw (k := 40) (by decide +kernel) rfl
theorem imG_init : Cond.instanceMethod yG_init ∈ bigW := kw (k := 39) (by decide +kernel) rfl
abbrev cS_init : ByteArray := prog_5_method_1_code
def yS_init : MethodName := ⟨rS, "<init>", "()V"⟩
def wS_init : List Cond := .code yS_init cS_init 1 none :: bigW
theorem kcS_init : Cond.code yS_init cS_init 1 none ∈ bigW := kw (k := 77) (by decide +kernel) rfl
theorem imS_init : Cond.instanceMethod yS_init ∈ bigW := kw (k := 76) (by decide +kernel) rfl
abbrev cB_init : ByteArray := prog_3_method_1_code
def yB_init : MethodName := ⟨rB, "<init>", "()V"⟩
def wB_init : List Cond := .code yB_init cB_init 4 none :: bigW
theorem kcB_init : Cond.code yB_init cB_init 4 none ∈ bigW := kw (k := 114) (by decide +kernel) rfl
theorem imB_init : Cond.instanceMethod yB_init ∈ bigW := kw (k := 113) (by decide +kernel) rfl
abbrev cA_init : ByteArray := prog_2_method_1_code
def yA_init : MethodName := ⟨rA, "<init>", "()V"⟩
def wA_init : List Cond := .code yA_init cA_init 1 none :: bigW
theorem kcA_init : Cond.code yA_init cA_init 1 none ∈ bigW := kw (k := 147) (by decide +kernel) rfl
theorem imA_init : Cond.instanceMethod yA_init ∈ bigW := kw (k := 146) (by decide +kernel) rfl
abbrev cF_begin : ByteArray := prog_1_method_2_code
def yF_begin : MethodName := ⟨rF, "begin", "(I)Z"⟩
def wF_begin : List Cond := .code yF_begin cF_begin 2 (some .boolean) :: bigW
theorem kcF_begin : Cond.code yF_begin cF_begin 2 (some .boolean) ∈ bigW := kw (k := 190) (by decide +kernel) rfl
theorem imF_begin : Cond.instanceMethod yF_begin ∈ bigW := kw (k := 188) (by decide +kernel) rfl
theorem seF_begin : Cond.selects rF yF_begin yF_begin ∈ bigW := kw (k := 189) (by decide +kernel) rfl
abbrev cG_clear : ByteArray := prog_4_method_2_code
def yG_clear : MethodName := ⟨rG, "clear", "(I)V"⟩
def wG_clear : List Cond := .code yG_clear cG_clear 3 none :: bigW
theorem kcG_clear : Cond.code yG_clear cG_clear 3 none ∈ bigW := kw (k := 194) (by decide +kernel) rfl
theorem imG_clear : Cond.instanceMethod yG_clear ∈ bigW := kw (k := 192) (by decide +kernel) rfl
theorem seG_clear : Cond.selects rG yG_clear yG_clear ∈ bigW := kw (k := 193) (by decide +kernel) rfl
abbrev cA_forget : ByteArray := prog_2_method_2_code
def yA_forget : MethodName := ⟨rA, "forget", "()V"⟩
def wA_forget : List Cond := .code yA_forget cA_forget 1 none :: bigW
theorem kcA_forget : Cond.code yA_forget cA_forget 1 none ∈ bigW := kw (k := 198) (by decide +kernel) rfl
theorem imA_forget : Cond.instanceMethod yA_forget ∈ bigW := kw (k := 196) (by decide +kernel) rfl
theorem seA_forget : Cond.selects rA yA_forget yA_forget ∈ bigW := kw (k := 197) (by decide +kernel) rfl
abbrev cF_edge : ByteArray := prog_1_method_3_code
def yF_edge : MethodName := ⟨rF, "edge", "(II)I"⟩
def wF_edge : List Cond := .code yF_edge cF_edge 3 (some .int) :: bigW
theorem kcF_edge : Cond.code yF_edge cF_edge 3 (some .int) ∈ bigW := kw (k := 202) (by decide +kernel) rfl
theorem imF_edge : Cond.instanceMethod yF_edge ∈ bigW := kw (k := 200) (by decide +kernel) rfl
theorem seF_edge : Cond.selects rF yF_edge yF_edge ∈ bigW := kw (k := 201) (by decide +kernel) rfl
abbrev cG_hasVertex : ByteArray := prog_4_method_3_code
def yG_hasVertex : MethodName := ⟨rG, "hasVertex", "(I)Z"⟩
def wG_hasVertex : List Cond := .code yG_hasVertex cG_hasVertex 2 (some .boolean) :: bigW
theorem kcG_hasVertex : Cond.code yG_hasVertex cG_hasVertex 2 (some .boolean) ∈ bigW := kw (k := 206) (by decide +kernel) rfl
theorem imG_hasVertex : Cond.instanceMethod yG_hasVertex ∈ bigW := kw (k := 204) (by decide +kernel) rfl
theorem seG_hasVertex : Cond.selects rG yG_hasVertex yG_hasVertex ∈ bigW := kw (k := 205) (by decide +kernel) rfl
abbrev cG_append : ByteArray := prog_4_method_5_code
def yG_append : MethodName := ⟨rG, "append", "(II)V"⟩
def wG_append : List Cond := .code yG_append cG_append 3 none :: bigW
theorem kcG_append : Cond.code yG_append cG_append 3 none ∈ bigW := kw (k := 210) (by decide +kernel) rfl
theorem imG_append : Cond.instanceMethod yG_append ∈ bigW := kw (k := 208) (by decide +kernel) rfl
theorem seG_append : Cond.selects rG yG_append yG_append ∈ bigW := kw (k := 209) (by decide +kernel) rfl
abbrev cF_drop : ByteArray := prog_1_method_4_code
def yF_drop : MethodName := ⟨rF, "drop", "(I)Z"⟩
def wF_drop : List Cond := .code yF_drop cF_drop 2 (some .boolean) :: bigW
theorem kcF_drop : Cond.code yF_drop cF_drop 2 (some .boolean) ∈ bigW := kw (k := 214) (by decide +kernel) rfl
theorem imF_drop : Cond.instanceMethod yF_drop ∈ bigW := kw (k := 212) (by decide +kernel) rfl
theorem seF_drop : Cond.selects rF yF_drop yF_drop ∈ bigW := kw (k := 213) (by decide +kernel) rfl
abbrev cG_hasEdge : ByteArray := prog_4_method_4_code
def yG_hasEdge : MethodName := ⟨rG, "hasEdge", "(I)Z"⟩
def wG_hasEdge : List Cond := .code yG_hasEdge cG_hasEdge 2 (some .boolean) :: bigW
theorem kcG_hasEdge : Cond.code yG_hasEdge cG_hasEdge 2 (some .boolean) ∈ bigW := kw (k := 218) (by decide +kernel) rfl
theorem imG_hasEdge : Cond.instanceMethod yG_hasEdge ∈ bigW := kw (k := 216) (by decide +kernel) rfl
theorem seG_hasEdge : Cond.selects rG yG_hasEdge yG_hasEdge ∈ bigW := kw (k := 217) (by decide +kernel) rfl
abbrev cG_remove : ByteArray := prog_4_method_6_code
def yG_remove : MethodName := ⟨rG, "remove", "(I)V"⟩
def wG_remove : List Cond := .code yG_remove cG_remove 3 none :: bigW
theorem kcG_remove : Cond.code yG_remove cG_remove 3 none ∈ bigW := kw (k := 222) (by decide +kernel) rfl
theorem imG_remove : Cond.instanceMethod yG_remove ∈ bigW := kw (k := 220) (by decide +kernel) rfl
theorem seG_remove : Cond.selects rG yG_remove yG_remove ∈ bigW := kw (k := 221) (by decide +kernel) rfl
abbrev cF_ask : ByteArray := prog_1_method_5_code
def yF_ask : MethodName := ⟨rF, "ask", "(II)Z"⟩
def wF_ask : List Cond := .code yF_ask cF_ask 3 (some .boolean) :: bigW
theorem kcF_ask : Cond.code yF_ask cF_ask 3 (some .boolean) ∈ bigW := kw (k := 226) (by decide +kernel) rfl
theorem imF_ask : Cond.instanceMethod yF_ask ∈ bigW := kw (k := 224) (by decide +kernel) rfl
theorem seF_ask : Cond.selects rF yF_ask yF_ask ∈ bigW := kw (k := 225) (by decide +kernel) rfl
abbrev cF_vertices : ByteArray := prog_1_method_6_code
def yF_vertices : MethodName := ⟨rF, "vertices", "()I"⟩
def wF_vertices : List Cond := .code yF_vertices cF_vertices 1 (some .int) :: bigW
theorem kcF_vertices : Cond.code yF_vertices cF_vertices 1 (some .int) ∈ bigW := kw (k := 230) (by decide +kernel) rfl
theorem imF_vertices : Cond.instanceMethod yF_vertices ∈ bigW := kw (k := 228) (by decide +kernel) rfl
theorem seF_vertices : Cond.selects rF yF_vertices yF_vertices ∈ bigW := kw (k := 229) (by decide +kernel) rfl
abbrev cF_edges : ByteArray := prog_1_method_7_code
def yF_edges : MethodName := ⟨rF, "edges", "()I"⟩
def wF_edges : List Cond := .code yF_edges cF_edges 1 (some .int) :: bigW
theorem kcF_edges : Cond.code yF_edges cF_edges 1 (some .int) ∈ bigW := kw (k := 234) (by decide +kernel) rfl
theorem imF_edges : Cond.instanceMethod yF_edges ∈ bigW := kw (k := 232) (by decide +kernel) rfl
theorem seF_edges : Cond.selects rF yF_edges yF_edges ∈ bigW := kw (k := 233) (by decide +kernel) rfl
abbrev cF_end : ByteArray := prog_1_method_8_code
def yF_end : MethodName := ⟨rF, "end", "(II)I"⟩
def wF_end : List Cond := .code yF_end cF_end 3 (some .int) :: bigW
theorem kcF_end : Cond.code yF_end cF_end 3 (some .int) ∈ bigW := kw (k := 238) (by decide +kernel) rfl
theorem imF_end : Cond.instanceMethod yF_end ∈ bigW := kw (k := 236) (by decide +kernel) rfl
theorem seF_end : Cond.selects rF yF_end yF_end ∈ bigW := kw (k := 237) (by decide +kernel) rfl
abbrev cF_demand : ByteArray := prog_1_method_9_code
def yF_demand : MethodName := ⟨rF, "demand", "(I)I"⟩
def wF_demand : List Cond := .code yF_demand cF_demand 2 (some .int) :: bigW
theorem kcF_demand : Cond.code yF_demand cF_demand 2 (some .int) ∈ bigW := kw (k := 242) (by decide +kernel) rfl
theorem imF_demand : Cond.instanceMethod yF_demand ∈ bigW := kw (k := 240) (by decide +kernel) rfl
theorem seF_demand : Cond.selects rF yF_demand yF_demand ∈ bigW := kw (k := 241) (by decide +kernel) rfl
abbrev cF_judge : ByteArray := prog_1_method_10_code
def yF_judge : MethodName := ⟨rF, "judge", "(I)I"⟩
def wF_judge : List Cond := .code yF_judge cF_judge 5 (some .int) :: bigW
theorem kcF_judge : Cond.code yF_judge cF_judge 5 (some .int) ∈ bigW := kw (k := 246) (by decide +kernel) rfl
theorem imF_judge : Cond.instanceMethod yF_judge ∈ bigW := kw (k := 244) (by decide +kernel) rfl
theorem seF_judge : Cond.selects rF yF_judge yF_judge ∈ bigW := kw (k := 245) (by decide +kernel) rfl
abbrev cG_degree : ByteArray := prog_4_method_7_code
def yG_degree : MethodName := ⟨rG, "degree", "(II)I"⟩
def wG_degree : List Cond := .code yG_degree cG_degree 5 (some .int) :: bigW
theorem kcG_degree : Cond.code yG_degree cG_degree 5 (some .int) ∈ bigW := kw (k := 250) (by decide +kernel) rfl
theorem imG_degree : Cond.instanceMethod yG_degree ∈ bigW := kw (k := 248) (by decide +kernel) rfl
theorem seG_degree : Cond.selects rG yG_degree yG_degree ∈ bigW := kw (k := 249) (by decide +kernel) rfl
abbrev cF_most : ByteArray := prog_1_method_11_code
def yF_most : MethodName := ⟨rF, "most", "()I"⟩
def wF_most : List Cond := .code yF_most cF_most 1 (some .int) :: bigW
theorem kcF_most : Cond.code yF_most cF_most 1 (some .int) ∈ bigW := kw (k := 254) (by decide +kernel) rfl
theorem imF_most : Cond.instanceMethod yF_most ∈ bigW := kw (k := 252) (by decide +kernel) rfl
theorem seF_most : Cond.selects rF yF_most yF_most ∈ bigW := kw (k := 253) (by decide +kernel) rfl
abbrev cF_solve : ByteArray := prog_1_method_19_code
def yF_solve : MethodName := ⟨rF, "solve", "()V"⟩
def wF_solve : List Cond := .code yF_solve cF_solve 1 none :: bigW
theorem kcF_solve : Cond.code yF_solve cF_solve 1 none ∈ bigW := kw (k := 258) (by decide +kernel) rfl
theorem imF_solve : Cond.instanceMethod yF_solve ∈ bigW := kw (k := 257) (by decide +kernel) rfl
theorem seF_solve : Cond.selects rF yF_solve yF_solve ∈ bigW := kw (k := 0) (by decide +kernel) rfl
abbrev cS_load : ByteArray := prog_5_method_2_code
def yS_load : MethodName := ⟨rS, "load", "(LFactorDesk$Graph;I)V"⟩
def wS_load : List Cond := .code yS_load cS_load 4 none :: bigW
theorem kcS_load : Cond.code yS_load cS_load 4 none ∈ bigW := kw (k := 262) (by decide +kernel) rfl
theorem imS_load : Cond.instanceMethod yS_load ∈ bigW := kw (k := 260) (by decide +kernel) rfl
theorem seS_load : Cond.selects rS yS_load yS_load ∈ bigW := kw (k := 261) (by decide +kernel) rfl
abbrev cS_take : ByteArray := prog_5_method_3_code
def yS_take : MethodName := ⟨rS, "take", "(II)V"⟩
def wS_take : List Cond := .code yS_take cS_take 4 none :: bigW
theorem kcS_take : Cond.code yS_take cS_take 4 none ∈ bigW := kw (k := 272) (by decide +kernel) rfl
theorem imS_take : Cond.instanceMethod yS_take ∈ bigW := kw (k := 271) (by decide +kernel) rfl
theorem seS_take : Cond.selects rS yS_take yS_take ∈ bigW := kw (k := 1) (by decide +kernel) rfl
abbrev cS_maximize : ByteArray := prog_5_method_5_code
def yS_maximize : MethodName := ⟨rS, "maximize", "()V"⟩
def wS_maximize : List Cond := .code yS_maximize cS_maximize 1 none :: bigW
theorem kcS_maximize : Cond.code yS_maximize cS_maximize 1 none ∈ bigW := kw (k := 276) (by decide +kernel) rfl
theorem imS_maximize : Cond.instanceMethod yS_maximize ∈ bigW := kw (k := 274) (by decide +kernel) rfl
theorem seS_maximize : Cond.selects rS yS_maximize yS_maximize ∈ bigW := kw (k := 275) (by decide +kernel) rfl
abbrev cS_explore : ByteArray := prog_5_method_7_code
def yS_explore : MethodName := ⟨rS, "explore", "(LFactorDesk$Search;III)V"⟩
def wS_explore : List Cond := .code yS_explore cS_explore 6 none :: bigW
theorem kcS_explore : Cond.code yS_explore cS_explore 6 none ∈ bigW := kw (k := 279) (by decide +kernel) rfl
theorem stS_explore : Cond.static yS_explore ∈ bigW := kw (k := 278) (by decide +kernel) rfl
abbrev cS_hope : ByteArray := prog_5_method_9_code
def yS_hope : MethodName := ⟨rS, "hope", "()I"⟩
def wS_hope : List Cond := .code yS_hope cS_hope 3 (some .int) :: bigW
theorem kcS_hope : Cond.code yS_hope cS_hope 3 (some .int) ∈ bigW := kw (k := 283) (by decide +kernel) rfl
theorem imS_hope : Cond.instanceMethod yS_hope ∈ bigW := kw (k := 282) (by decide +kernel) rfl
theorem seS_hope : Cond.selects rS yS_hope yS_hope ∈ bigW := kw (k := 2) (by decide +kernel) rfl
abbrev cS_mayAdd : ByteArray := prog_5_method_8_code
def yS_mayAdd : MethodName := ⟨rS, "mayAdd", "(II)Z"⟩
def wS_mayAdd : List Cond := .code yS_mayAdd cS_mayAdd 4 (some .boolean) :: bigW
theorem kcS_mayAdd : Cond.code yS_mayAdd cS_mayAdd 4 (some .boolean) ∈ bigW := kw (k := 287) (by decide +kernel) rfl
theorem imS_mayAdd : Cond.instanceMethod yS_mayAdd ∈ bigW := kw (k := 286) (by decide +kernel) rfl
theorem seS_mayAdd : Cond.selects rS yS_mayAdd yS_mayAdd ∈ bigW := kw (k := 3) (by decide +kernel) rfl
abbrev cF_best : ByteArray := prog_1_method_12_code
def yF_best : MethodName := ⟨rF, "best", "()I"⟩
def wF_best : List Cond := .code yF_best cF_best 1 (some .int) :: bigW
theorem kcF_best : Cond.code yF_best cF_best 1 (some .int) ∈ bigW := kw (k := 291) (by decide +kernel) rfl
theorem imF_best : Cond.instanceMethod yF_best ∈ bigW := kw (k := 289) (by decide +kernel) rfl
theorem seF_best : Cond.selects rF yF_best yF_best ∈ bigW := kw (k := 290) (by decide +kernel) rfl
abbrev cF_factor : ByteArray := prog_1_method_13_code
def yF_factor : MethodName := ⟨rF, "factor", "()I"⟩
def wF_factor : List Cond := .code yF_factor cF_factor 1 (some .int) :: bigW
theorem kcF_factor : Cond.code yF_factor cF_factor 1 (some .int) ∈ bigW := kw (k := 295) (by decide +kernel) rfl
theorem imF_factor : Cond.instanceMethod yF_factor ∈ bigW := kw (k := 293) (by decide +kernel) rfl
theorem seF_factor : Cond.selects rF yF_factor yF_factor ∈ bigW := kw (k := 294) (by decide +kernel) rfl
abbrev cG_wantedByAll : ByteArray := prog_4_method_8_code
def yG_wantedByAll : MethodName := ⟨rG, "wantedByAll", "()I"⟩
def wG_wantedByAll : List Cond := .code yG_wantedByAll cG_wantedByAll 3 (some .int) :: bigW
theorem kcG_wantedByAll : Cond.code yG_wantedByAll cG_wantedByAll 3 (some .int) ∈ bigW := kw (k := 299) (by decide +kernel) rfl
theorem imG_wantedByAll : Cond.instanceMethod yG_wantedByAll ∈ bigW := kw (k := 297) (by decide +kernel) rfl
theorem seG_wantedByAll : Cond.selects rG yG_wantedByAll yG_wantedByAll ∈ bigW := kw (k := 298) (by decide +kernel) rfl
abbrev cF_role : ByteArray := prog_1_method_14_code
def yF_role : MethodName := ⟨rF, "role", "(I)I"⟩
def wF_role : List Cond := .code yF_role cF_role 3 (some .int) :: bigW
theorem kcF_role : Cond.code yF_role cF_role 3 (some .int) ∈ bigW := kw (k := 303) (by decide +kernel) rfl
theorem imF_role : Cond.instanceMethod yF_role ∈ bigW := kw (k := 301) (by decide +kernel) rfl
theorem seF_role : Cond.selects rF yF_role yF_role ∈ bigW := kw (k := 302) (by decide +kernel) rfl
abbrev cS_reaches : ByteArray := prog_5_method_6_code
def yS_reaches : MethodName := ⟨rS, "reaches", "(I)Z"⟩
def wS_reaches : List Cond := .code yS_reaches cS_reaches 2 (some .boolean) :: bigW
theorem kcS_reaches : Cond.code yS_reaches cS_reaches 2 (some .boolean) ∈ bigW := kw (k := 307) (by decide +kernel) rfl
theorem imS_reaches : Cond.instanceMethod yS_reaches ∈ bigW := kw (k := 305) (by decide +kernel) rfl
theorem seS_reaches : Cond.selects rS yS_reaches yS_reaches ∈ bigW := kw (k := 306) (by decide +kernel) rfl
abbrev cS_lend : ByteArray := prog_5_method_4_code
def yS_lend : MethodName := ⟨rS, "lend", "(I)Z"⟩
def wS_lend : List Cond := .code yS_lend cS_lend 2 (some .boolean) :: bigW
theorem kcS_lend : Cond.code yS_lend cS_lend 2 (some .boolean) ∈ bigW := kw (k := 311) (by decide +kernel) rfl
theorem imS_lend : Cond.instanceMethod yS_lend ∈ bigW := kw (k := 309) (by decide +kernel) rfl
theorem seS_lend : Cond.selects rS yS_lend yS_lend ∈ bigW := kw (k := 310) (by decide +kernel) rfl
abbrev cF_slack : ByteArray := prog_1_method_15_code
def yF_slack : MethodName := ⟨rF, "slack", "(I)I"⟩
def wF_slack : List Cond := .code yF_slack cF_slack 3 (some .int) :: bigW
theorem kcF_slack : Cond.code yF_slack cF_slack 3 (some .int) ∈ bigW := kw (k := 315) (by decide +kernel) rfl
theorem imF_slack : Cond.instanceMethod yF_slack ∈ bigW := kw (k := 313) (by decide +kernel) rfl
theorem seF_slack : Cond.selects rF yF_slack yF_slack ∈ bigW := kw (k := 314) (by decide +kernel) rfl
abbrev cF_reachesWith : ByteArray := prog_1_method_22_code
def yF_reachesWith : MethodName := ⟨rF, "reachesWith", "(III)Z"⟩
def wF_reachesWith : List Cond := .code yF_reachesWith cF_reachesWith 4 (some .boolean) :: bigW
theorem kcF_reachesWith : Cond.code yF_reachesWith cF_reachesWith 4 (some .boolean) ∈ bigW := kw (k := 319) (by decide +kernel) rfl
theorem imF_reachesWith : Cond.instanceMethod yF_reachesWith ∈ bigW := kw (k := 318) (by decide +kernel) rfl
theorem seF_reachesWith : Cond.selects rF yF_reachesWith yF_reachesWith ∈ bigW := kw (k := 4) (by decide +kernel) rfl
abbrev cF_gain : ByteArray := prog_1_method_16_code
def yF_gain : MethodName := ⟨rF, "gain", "(I)I"⟩
def wF_gain : List Cond := .code yF_gain cF_gain 2 (some .int) :: bigW
theorem kcF_gain : Cond.code yF_gain cF_gain 2 (some .int) ∈ bigW := kw (k := 323) (by decide +kernel) rfl
theorem imF_gain : Cond.instanceMethod yF_gain ∈ bigW := kw (k := 321) (by decide +kernel) rfl
theorem seF_gain : Cond.selects rF yF_gain yF_gain ∈ bigW := kw (k := 322) (by decide +kernel) rfl
abbrev cF_bound : ByteArray := prog_1_method_17_code
def yF_bound : MethodName := ⟨rF, "bound", "(II)I"⟩
def wF_bound : List Cond := .code yF_bound cF_bound 3 (some .int) :: bigW
theorem kcF_bound : Cond.code yF_bound cF_bound 3 (some .int) ∈ bigW := kw (k := 327) (by decide +kernel) rfl
theorem imF_bound : Cond.instanceMethod yF_bound ∈ bigW := kw (k := 325) (by decide +kernel) rfl
theorem seF_bound : Cond.selects rF yF_bound yF_bound ∈ bigW := kw (k := 326) (by decide +kernel) rfl
abbrev cF_tabulate : ByteArray := prog_1_method_20_code
def yF_tabulate : MethodName := ⟨rF, "tabulate", "()V"⟩
def wF_tabulate : List Cond := .code yF_tabulate cF_tabulate 1 none :: bigW
theorem kcF_tabulate : Cond.code yF_tabulate cF_tabulate 1 none ∈ bigW := kw (k := 331) (by decide +kernel) rfl
theorem imF_tabulate : Cond.instanceMethod yF_tabulate ∈ bigW := kw (k := 330) (by decide +kernel) rfl
theorem seF_tabulate : Cond.selects rF yF_tabulate yF_tabulate ∈ bigW := kw (k := 5) (by decide +kernel) rfl
abbrev cB_load : ByteArray := prog_3_method_2_code
def yB_load : MethodName := ⟨rB, "load", "(LFactorDesk$Graph;)V"⟩
def wB_load : List Cond := .code yB_load cB_load 4 none :: bigW
theorem kcB_load : Cond.code yB_load cB_load 4 none ∈ bigW := kw (k := 335) (by decide +kernel) rfl
theorem imB_load : Cond.instanceMethod yB_load ∈ bigW := kw (k := 333) (by decide +kernel) rfl
theorem seB_load : Cond.selects rB yB_load yB_load ∈ bigW := kw (k := 334) (by decide +kernel) rfl
abbrev cB_countInside : ByteArray := prog_3_method_3_code
def yB_countInside : MethodName := ⟨rB, "countInside", "(LFactorDesk$Graph;)V"⟩
def wB_countInside : List Cond := .code yB_countInside cB_countInside 5 none :: bigW
theorem kcB_countInside : Cond.code yB_countInside cB_countInside 5 none ∈ bigW := kw (k := 339) (by decide +kernel) rfl
theorem imB_countInside : Cond.instanceMethod yB_countInside ∈ bigW := kw (k := 338) (by decide +kernel) rfl
theorem seB_countInside : Cond.selects rB yB_countInside yB_countInside ∈ bigW := kw (k := 6) (by decide +kernel) rfl
abbrev cB_partOf : ByteArray := prog_3_method_4_code
def yB_partOf : MethodName := ⟨rB, "partOf", "(II)I"⟩
def wB_partOf : List Cond := .code yB_partOf cB_partOf 7 (some .int) :: bigW
theorem kcB_partOf : Cond.code yB_partOf cB_partOf 7 (some .int) ∈ bigW := kw (k := 343) (by decide +kernel) rfl
theorem imB_partOf : Cond.instanceMethod yB_partOf ∈ bigW := kw (k := 342) (by decide +kernel) rfl
theorem seB_partOf : Cond.selects rB yB_partOf yB_partOf ∈ bigW := kw (k := 7) (by decide +kernel) rfl
abbrev cB_value : ByteArray := prog_3_method_5_code
def yB_value : MethodName := ⟨rB, "value", "(II)I"⟩
def wB_value : List Cond := .code yB_value cB_value 8 (some .int) :: bigW
theorem kcB_value : Cond.code yB_value cB_value 8 (some .int) ∈ bigW := kw (k := 347) (by decide +kernel) rfl
theorem imB_value : Cond.instanceMethod yB_value ∈ bigW := kw (k := 345) (by decide +kernel) rfl
theorem seB_value : Cond.selects rB yB_value yB_value ∈ bigW := kw (k := 346) (by decide +kernel) rfl
abbrev cF_witness : ByteArray := prog_1_method_18_code
def yF_witness : MethodName := ⟨rF, "witness", "(I)I"⟩
def wF_witness : List Cond := .code yF_witness cF_witness 2 (some .int) :: bigW
theorem kcF_witness : Cond.code yF_witness cF_witness 2 (some .int) ∈ bigW := kw (k := 351) (by decide +kernel) rfl
theorem imF_witness : Cond.instanceMethod yF_witness ∈ bigW := kw (k := 349) (by decide +kernel) rfl
theorem seF_witness : Cond.selects rF yF_witness yF_witness ∈ bigW := kw (k := 350) (by decide +kernel) rfl
abbrev cF_explain : ByteArray := prog_1_method_21_code
def yF_explain : MethodName := ⟨rF, "explain", "()V"⟩
def wF_explain : List Cond := .code yF_explain cF_explain 1 none :: bigW
theorem kcF_explain : Cond.code yF_explain cF_explain 1 none ∈ bigW := kw (k := 355) (by decide +kernel) rfl
theorem imF_explain : Cond.instanceMethod yF_explain ∈ bigW := kw (k := 354) (by decide +kernel) rfl
theorem seF_explain : Cond.selects rF yF_explain yF_explain ∈ bigW := kw (k := 8) (by decide +kernel) rfl
abbrev cB_find : ByteArray := prog_3_method_6_code
def yB_find : MethodName := ⟨rB, "find", "(I)V"⟩
def wB_find : List Cond := .code yB_find cB_find 4 none :: bigW
theorem kcB_find : Cond.code yB_find cB_find 4 none ∈ bigW := kw (k := 359) (by decide +kernel) rfl
theorem imB_find : Cond.instanceMethod yB_find ∈ bigW := kw (k := 357) (by decide +kernel) rfl
theorem seB_find : Cond.selects rB yB_find yB_find ∈ bigW := kw (k := 358) (by decide +kernel) rfl
abbrev cB_findFor : ByteArray := prog_3_method_7_code
def yB_findFor : MethodName := ⟨rB, "findFor", "(II)Z"⟩
def wB_findFor : List Cond := .code yB_findFor cB_findFor 6 (some .boolean) :: bigW
theorem kcB_findFor : Cond.code yB_findFor cB_findFor 6 (some .boolean) ∈ bigW := kw (k := 363) (by decide +kernel) rfl
theorem imB_findFor : Cond.instanceMethod yB_findFor ∈ bigW := kw (k := 362) (by decide +kernel) rfl
theorem seB_findFor : Cond.selects rB yB_findFor yB_findFor ∈ bigW := kw (k := 9) (by decide +kernel) rfl
abbrev cM_init : ByteArray := prog_7_method_1_code
def yM_init : MethodName := ⟨rM, "<init>", "()V"⟩
def wM_init : List Cond := .code yM_init cM_init 1 none :: bigW
theorem kcM_init : Cond.code yM_init cM_init 1 none ∈ bigW := kw (k := 369) (by decide +kernel) rfl
theorem imM_init : Cond.instanceMethod yM_init ∈ bigW := kw (k := 368) (by decide +kernel) rfl
abbrev cM_begin : ByteArray := prog_7_method_5_code
def yM_begin : MethodName := ⟨rM, "begin", "(I)Z"⟩
def wM_begin : List Cond := .code yM_begin cM_begin 3 (some .boolean) :: bigW
theorem kcM_begin : Cond.code yM_begin cM_begin 3 (some .boolean) ∈ bigW := kw (k := 393) (by decide +kernel) rfl
theorem imM_begin : Cond.instanceMethod yM_begin ∈ bigW := kw (k := 391) (by decide +kernel) rfl
theorem seM_begin : Cond.selects rM yM_begin yM_begin ∈ bigW := kw (k := 392) (by decide +kernel) rfl
abbrev cM_edge : ByteArray := prog_7_method_6_code
def yM_edge : MethodName := ⟨rM, "edge", "(II)I"⟩
def wM_edge : List Cond := .code yM_edge cM_edge 3 (some .int) :: bigW
theorem kcM_edge : Cond.code yM_edge cM_edge 3 (some .int) ∈ bigW := kw (k := 397) (by decide +kernel) rfl
theorem imM_edge : Cond.instanceMethod yM_edge ∈ bigW := kw (k := 395) (by decide +kernel) rfl
theorem seM_edge : Cond.selects rM yM_edge yM_edge ∈ bigW := kw (k := 396) (by decide +kernel) rfl
abbrev cM_isVertex : ByteArray := prog_7_method_3_code
def yM_isVertex : MethodName := ⟨rM, "isVertex", "(I)Z"⟩
def wM_isVertex : List Cond := .code yM_isVertex cM_isVertex 2 (some .boolean) :: bigW
theorem kcM_isVertex : Cond.code yM_isVertex cM_isVertex 2 (some .boolean) ∈ bigW := kw (k := 401) (by decide +kernel) rfl
theorem imM_isVertex : Cond.instanceMethod yM_isVertex ∈ bigW := kw (k := 400) (by decide +kernel) rfl
theorem seM_isVertex : Cond.selects rM yM_isVertex yM_isVertex ∈ bigW := kw (k := 10) (by decide +kernel) rfl
abbrev cM_drop : ByteArray := prog_7_method_7_code
def yM_drop : MethodName := ⟨rM, "drop", "(I)Z"⟩
def wM_drop : List Cond := .code yM_drop cM_drop 3 (some .boolean) :: bigW
theorem kcM_drop : Cond.code yM_drop cM_drop 3 (some .boolean) ∈ bigW := kw (k := 405) (by decide +kernel) rfl
theorem imM_drop : Cond.instanceMethod yM_drop ∈ bigW := kw (k := 403) (by decide +kernel) rfl
theorem seM_drop : Cond.selects rM yM_drop yM_drop ∈ bigW := kw (k := 404) (by decide +kernel) rfl
abbrev cM_isEdge : ByteArray := prog_7_method_4_code
def yM_isEdge : MethodName := ⟨rM, "isEdge", "(I)Z"⟩
def wM_isEdge : List Cond := .code yM_isEdge cM_isEdge 2 (some .boolean) :: bigW
theorem kcM_isEdge : Cond.code yM_isEdge cM_isEdge 2 (some .boolean) ∈ bigW := kw (k := 409) (by decide +kernel) rfl
theorem imM_isEdge : Cond.instanceMethod yM_isEdge ∈ bigW := kw (k := 408) (by decide +kernel) rfl
theorem seM_isEdge : Cond.selects rM yM_isEdge yM_isEdge ∈ bigW := kw (k := 11) (by decide +kernel) rfl
abbrev cM_ask : ByteArray := prog_7_method_8_code
def yM_ask : MethodName := ⟨rM, "ask", "(II)Z"⟩
def wM_ask : List Cond := .code yM_ask cM_ask 3 (some .boolean) :: bigW
theorem kcM_ask : Cond.code yM_ask cM_ask 3 (some .boolean) ∈ bigW := kw (k := 413) (by decide +kernel) rfl
theorem imM_ask : Cond.instanceMethod yM_ask ∈ bigW := kw (k := 411) (by decide +kernel) rfl
theorem seM_ask : Cond.selects rM yM_ask yM_ask ∈ bigW := kw (k := 412) (by decide +kernel) rfl
abbrev cM_vertices : ByteArray := prog_7_method_9_code
def yM_vertices : MethodName := ⟨rM, "vertices", "()I"⟩
def wM_vertices : List Cond := .code yM_vertices cM_vertices 1 (some .int) :: bigW
theorem kcM_vertices : Cond.code yM_vertices cM_vertices 1 (some .int) ∈ bigW := kw (k := 417) (by decide +kernel) rfl
theorem imM_vertices : Cond.instanceMethod yM_vertices ∈ bigW := kw (k := 415) (by decide +kernel) rfl
theorem seM_vertices : Cond.selects rM yM_vertices yM_vertices ∈ bigW := kw (k := 416) (by decide +kernel) rfl
abbrev cM_edges : ByteArray := prog_7_method_10_code
def yM_edges : MethodName := ⟨rM, "edges", "()I"⟩
def wM_edges : List Cond := .code yM_edges cM_edges 1 (some .int) :: bigW
theorem kcM_edges : Cond.code yM_edges cM_edges 1 (some .int) ∈ bigW := kw (k := 421) (by decide +kernel) rfl
theorem imM_edges : Cond.instanceMethod yM_edges ∈ bigW := kw (k := 419) (by decide +kernel) rfl
theorem seM_edges : Cond.selects rM yM_edges yM_edges ∈ bigW := kw (k := 420) (by decide +kernel) rfl
abbrev cM_end : ByteArray := prog_7_method_11_code
def yM_end : MethodName := ⟨rM, "end", "(II)I"⟩
def wM_end : List Cond := .code yM_end cM_end 3 (some .int) :: bigW
theorem kcM_end : Cond.code yM_end cM_end 3 (some .int) ∈ bigW := kw (k := 425) (by decide +kernel) rfl
theorem imM_end : Cond.instanceMethod yM_end ∈ bigW := kw (k := 423) (by decide +kernel) rfl
theorem seM_end : Cond.selects rM yM_end yM_end ∈ bigW := kw (k := 424) (by decide +kernel) rfl
abbrev cM_demand : ByteArray := prog_7_method_12_code
def yM_demand : MethodName := ⟨rM, "demand", "(I)I"⟩
def wM_demand : List Cond := .code yM_demand cM_demand 2 (some .int) :: bigW
theorem kcM_demand : Cond.code yM_demand cM_demand 2 (some .int) ∈ bigW := kw (k := 429) (by decide +kernel) rfl
theorem imM_demand : Cond.instanceMethod yM_demand ∈ bigW := kw (k := 427) (by decide +kernel) rfl
theorem seM_demand : Cond.selects rM yM_demand yM_demand ∈ bigW := kw (k := 428) (by decide +kernel) rfl
abbrev cM_judge : ByteArray := prog_7_method_20_code
def yM_judge : MethodName := ⟨rM, "judge", "(I)I"⟩
def wM_judge : List Cond := .code yM_judge cM_judge 2 (some .int) :: bigW
theorem kcM_judge : Cond.code yM_judge cM_judge 2 (some .int) ∈ bigW := kw (k := 433) (by decide +kernel) rfl
theorem imM_judge : Cond.instanceMethod yM_judge ∈ bigW := kw (k := 431) (by decide +kernel) rfl
theorem seM_judge : Cond.selects rM yM_judge yM_judge ∈ bigW := kw (k := 432) (by decide +kernel) rfl
abbrev cM_allEdges : ByteArray := prog_7_method_19_code
def yM_allEdges : MethodName := ⟨rM, "allEdges", "()I"⟩
def wM_allEdges : List Cond := .code yM_allEdges cM_allEdges 1 (some .int) :: bigW
theorem kcM_allEdges : Cond.code yM_allEdges cM_allEdges 1 (some .int) ∈ bigW := kw (k := 437) (by decide +kernel) rfl
theorem imM_allEdges : Cond.instanceMethod yM_allEdges ∈ bigW := kw (k := 436) (by decide +kernel) rfl
theorem seM_allEdges : Cond.selects rM yM_allEdges yM_allEdges ∈ bigW := kw (k := 12) (by decide +kernel) rfl
abbrev cM_isFactor : ByteArray := prog_7_method_18_code
def yM_isFactor : MethodName := ⟨rM, "isFactor", "(I)Z"⟩
def wM_isFactor : List Cond := .code yM_isFactor cM_isFactor 3 (some .boolean) :: bigW
theorem kcM_isFactor : Cond.code yM_isFactor cM_isFactor 3 (some .boolean) ∈ bigW := kw (k := 441) (by decide +kernel) rfl
theorem imM_isFactor : Cond.instanceMethod yM_isFactor ∈ bigW := kw (k := 440) (by decide +kernel) rfl
theorem seM_isFactor : Cond.selects rM yM_isFactor yM_isFactor ∈ bigW := kw (k := 13) (by decide +kernel) rfl
abbrev cM_degree : ByteArray := prog_7_method_16_code
def yM_degree : MethodName := ⟨rM, "degree", "(II)I"⟩
def wM_degree : List Cond := .code yM_degree cM_degree 5 (some .int) :: bigW
theorem kcM_degree : Cond.code yM_degree cM_degree 5 (some .int) ∈ bigW := kw (k := 445) (by decide +kernel) rfl
theorem imM_degree : Cond.instanceMethod yM_degree ∈ bigW := kw (k := 444) (by decide +kernel) rfl
theorem seM_degree : Cond.selects rM yM_degree yM_degree ∈ bigW := kw (k := 14) (by decide +kernel) rfl
abbrev cM_has : ByteArray := prog_7_method_13_code
def yM_has : MethodName := ⟨rM, "has", "(II)Z"⟩
def wM_has : List Cond := .code yM_has cM_has 2 (some .boolean) :: bigW
theorem kcM_has : Cond.code yM_has cM_has 2 (some .boolean) ∈ bigW := kw (k := 448) (by decide +kernel) rfl
theorem stM_has : Cond.static yM_has ∈ bigW := kw (k := 447) (by decide +kernel) rfl
abbrev cM_isFair : ByteArray := prog_7_method_17_code
def yM_isFair : MethodName := ⟨rM, "isFair", "(I)Z"⟩
def wM_isFair : List Cond := .code yM_isFair cM_isFair 3 (some .boolean) :: bigW
theorem kcM_isFair : Cond.code yM_isFair cM_isFair 3 (some .boolean) ∈ bigW := kw (k := 452) (by decide +kernel) rfl
theorem imM_isFair : Cond.instanceMethod yM_isFair ∈ bigW := kw (k := 451) (by decide +kernel) rfl
theorem seM_isFair : Cond.selects rM yM_isFair yM_isFair ∈ bigW := kw (k := 15) (by decide +kernel) rfl
abbrev cM_best : ByteArray := prog_7_method_21_code
def yM_best : MethodName := ⟨rM, "best", "()I"⟩
def wM_best : List Cond := .code yM_best cM_best 4 (some .int) :: bigW
theorem kcM_best : Cond.code yM_best cM_best 4 (some .int) ∈ bigW := kw (k := 456) (by decide +kernel) rfl
theorem imM_best : Cond.instanceMethod yM_best ∈ bigW := kw (k := 454) (by decide +kernel) rfl
theorem seM_best : Cond.selects rM yM_best yM_best ∈ bigW := kw (k := 455) (by decide +kernel) rfl
abbrev cM_size : ByteArray := prog_7_method_14_code
def yM_size : MethodName := ⟨rM, "size", "(I)I"⟩
def wM_size : List Cond := .code yM_size cM_size 3 (some .int) :: bigW
theorem kcM_size : Cond.code yM_size cM_size 3 (some .int) ∈ bigW := kw (k := 459) (by decide +kernel) rfl
theorem stM_size : Cond.static yM_size ∈ bigW := kw (k := 458) (by decide +kernel) rfl
abbrev cM_isBefore : ByteArray := prog_7_method_15_code
def yM_isBefore : MethodName := ⟨rM, "isBefore", "(II)Z"⟩
def wM_isBefore : List Cond := .code yM_isBefore cM_isBefore 3 (some .boolean) :: bigW
theorem kcM_isBefore : Cond.code yM_isBefore cM_isBefore 3 (some .boolean) ∈ bigW := kw (k := 462) (by decide +kernel) rfl
theorem stM_isBefore : Cond.static yM_isBefore ∈ bigW := kw (k := 461) (by decide +kernel) rfl
abbrev cM_most : ByteArray := prog_7_method_22_code
def yM_most : MethodName := ⟨rM, "most", "()I"⟩
def wM_most : List Cond := .code yM_most cM_most 1 (some .int) :: bigW
theorem kcM_most : Cond.code yM_most cM_most 1 (some .int) ∈ bigW := kw (k := 466) (by decide +kernel) rfl
theorem imM_most : Cond.instanceMethod yM_most ∈ bigW := kw (k := 464) (by decide +kernel) rfl
theorem seM_most : Cond.selects rM yM_most yM_most ∈ bigW := kw (k := 465) (by decide +kernel) rfl
abbrev cM_factor : ByteArray := prog_7_method_23_code
def yM_factor : MethodName := ⟨rM, "factor", "()I"⟩
def wM_factor : List Cond := .code yM_factor cM_factor 3 (some .int) :: bigW
theorem kcM_factor : Cond.code yM_factor cM_factor 3 (some .int) ∈ bigW := kw (k := 471) (by decide +kernel) rfl
theorem imM_factor : Cond.instanceMethod yM_factor ∈ bigW := kw (k := 469) (by decide +kernel) rfl
theorem seM_factor : Cond.selects rM yM_factor yM_factor ∈ bigW := kw (k := 470) (by decide +kernel) rfl
abbrev cM_role : ByteArray := prog_7_method_24_code
def yM_role : MethodName := ⟨rM, "role", "(I)I"⟩
def wM_role : List Cond := .code yM_role cM_role 6 (some .int) :: bigW
theorem kcM_role : Cond.code yM_role cM_role 6 (some .int) ∈ bigW := kw (k := 475) (by decide +kernel) rfl
theorem imM_role : Cond.instanceMethod yM_role ∈ bigW := kw (k := 473) (by decide +kernel) rfl
theorem seM_role : Cond.selects rM yM_role yM_role ∈ bigW := kw (k := 474) (by decide +kernel) rfl
abbrev cM_slack : ByteArray := prog_7_method_26_code
def yM_slack : MethodName := ⟨rM, "slack", "(I)I"⟩
def wM_slack : List Cond := .code yM_slack cM_slack 4 (some .int) :: bigW
theorem kcM_slack : Cond.code yM_slack cM_slack 4 (some .int) ∈ bigW := kw (k := 480) (by decide +kernel) rfl
theorem imM_slack : Cond.instanceMethod yM_slack ∈ bigW := kw (k := 478) (by decide +kernel) rfl
theorem seM_slack : Cond.selects rM yM_slack yM_slack ∈ bigW := kw (k := 479) (by decide +kernel) rfl
abbrev cM_mostWith : ByteArray := prog_7_method_25_code
def yM_mostWith : MethodName := ⟨rM, "mostWith", "(II)I"⟩
def wM_mostWith : List Cond := .code yM_mostWith cM_mostWith 5 (some .int) :: bigW
theorem kcM_mostWith : Cond.code yM_mostWith cM_mostWith 5 (some .int) ∈ bigW := kw (k := 484) (by decide +kernel) rfl
theorem imM_mostWith : Cond.instanceMethod yM_mostWith ∈ bigW := kw (k := 483) (by decide +kernel) rfl
theorem seM_mostWith : Cond.selects rM yM_mostWith yM_mostWith ∈ bigW := kw (k := 16) (by decide +kernel) rfl
abbrev cM_gain : ByteArray := prog_7_method_27_code
def yM_gain : MethodName := ⟨rM, "gain", "(I)I"⟩
def wM_gain : List Cond := .code yM_gain cM_gain 2 (some .int) :: bigW
theorem kcM_gain : Cond.code yM_gain cM_gain 2 (some .int) ∈ bigW := kw (k := 488) (by decide +kernel) rfl
theorem imM_gain : Cond.instanceMethod yM_gain ∈ bigW := kw (k := 486) (by decide +kernel) rfl
theorem seM_gain : Cond.selects rM yM_gain yM_gain ∈ bigW := kw (k := 487) (by decide +kernel) rfl
abbrev cM_bound : ByteArray := prog_7_method_31_code
def yM_bound : MethodName := ⟨rM, "bound", "(II)I"⟩
def wM_bound : List Cond := .code yM_bound cM_bound 5 (some .int) :: bigW
theorem kcM_bound : Cond.code yM_bound cM_bound 5 (some .int) ∈ bigW := kw (k := 492) (by decide +kernel) rfl
theorem imM_bound : Cond.instanceMethod yM_bound ∈ bigW := kw (k := 490) (by decide +kernel) rfl
theorem seM_bound : Cond.selects rM yM_bound yM_bound ∈ bigW := kw (k := 491) (by decide +kernel) rfl
abbrev cM_areSets : ByteArray := prog_7_method_30_code
def yM_areSets : MethodName := ⟨rM, "areSets", "(II)Z"⟩
def wM_areSets : List Cond := .code yM_areSets cM_areSets 4 (some .boolean) :: bigW
theorem kcM_areSets : Cond.code yM_areSets cM_areSets 4 (some .boolean) ∈ bigW := kw (k := 496) (by decide +kernel) rfl
theorem imM_areSets : Cond.instanceMethod yM_areSets ∈ bigW := kw (k := 495) (by decide +kernel) rfl
theorem seM_areSets : Cond.selects rM yM_areSets yM_areSets ∈ bigW := kw (k := 17) (by decide +kernel) rfl
abbrev cM_partition : ByteArray := prog_7_method_28_code
def yM_partition : MethodName := ⟨rM, "partition", "(II)I"⟩
def wM_partition : List Cond := .code yM_partition cM_partition 7 (some .int) :: bigW
theorem kcM_partition : Cond.code yM_partition cM_partition 7 (some .int) ∈ bigW := kw (k := 500) (by decide +kernel) rfl
theorem imM_partition : Cond.instanceMethod yM_partition ∈ bigW := kw (k := 499) (by decide +kernel) rfl
theorem seM_partition : Cond.selects rM yM_partition yM_partition ∈ bigW := kw (k := 18) (by decide +kernel) rfl
abbrev cM_half : ByteArray := prog_7_method_29_code
def yM_half : MethodName := ⟨rM, "half", "(II)I"⟩
def wM_half : List Cond := .code yM_half cM_half 6 (some .int) :: bigW
theorem kcM_half : Cond.code yM_half cM_half 6 (some .int) ∈ bigW := kw (k := 504) (by decide +kernel) rfl
theorem imM_half : Cond.instanceMethod yM_half ∈ bigW := kw (k := 503) (by decide +kernel) rfl
theorem seM_half : Cond.selects rM yM_half yM_half ∈ bigW := kw (k := 19) (by decide +kernel) rfl
abbrev cM_witness : ByteArray := prog_7_method_32_code
def yM_witness : MethodName := ⟨rM, "witness", "(I)I"⟩
def wM_witness : List Cond := .code yM_witness cM_witness 9 (some .int) :: bigW
theorem kcM_witness : Cond.code yM_witness cM_witness 9 (some .int) ∈ bigW := kw (k := 508) (by decide +kernel) rfl
theorem imM_witness : Cond.instanceMethod yM_witness ∈ bigW := kw (k := 506) (by decide +kernel) rfl
theorem seM_witness : Cond.selects rM yM_witness yM_witness ∈ bigW := kw (k := 507) (by decide +kernel) rfl
theorem imO : Cond.instanceMethod objectInit ∈ bigW := kw (k := 34) (by decide +kernel) rfl
theorem kcO : Cond.code objectInit ⟨#[0xb1]⟩ 1 none ∈ bigW := kw (k := 35) (by decide +kernel) rfl
theorem st_min : Cond.static Lib.Math.min.name ∈ bigW := kw (k := 264) (by decide +kernel) rfl
theorem kc_min : Cond.code Lib.Math.min.name Lib.Math.min.code 2 (some .int) ∈ bigW := kw (k := 265) (by decide +kernel) rfl
theorem st_max : Cond.static Lib.Math.max.name ∈ bigW := kw (k := 267) (by decide +kernel) rfl
theorem kc_max : Cond.code Lib.Math.max.name Lib.Math.max.code 2 (some .int) ∈ bigW := kw (k := 268) (by decide +kernel) rfl
theorem mlL_9 : Cond.methodLink rL 9 yF_init ∈ bigW := kw (k := 30) (by decide +kernel) rfl
theorem mlF_3 : Cond.methodLink rF 3 objectInit ∈ bigW := kw (k := 33) (by decide +kernel) rfl
theorem mlG_3 : Cond.methodLink rG 3 objectInit ∈ bigW := kw (k := 41) (by decide +kernel) rfl
theorem mlS_3 : Cond.methodLink rS 3 objectInit ∈ bigW := kw (k := 78) (by decide +kernel) rfl
theorem mlF_25 : Cond.methodLink rF 25 yB_init ∈ bigW := kw (k := 112) (by decide +kernel) rfl
theorem mlB_3 : Cond.methodLink rB 3 objectInit ∈ bigW := kw (k := 115) (by decide +kernel) rfl
theorem mlA_1 : Cond.methodLink rA 1 objectInit ∈ bigW := kw (k := 148) (by decide +kernel) rfl
theorem mlL_13 : Cond.methodLink rL 13 yF_begin ∈ bigW := kw (k := 187) (by decide +kernel) rfl
theorem gL_13 : GoodIn bigW (wsV rL 13 rF yF_begin wF_begin) := gV mlL_13 imF_begin seF_begin iniF kcF_begin
theorem mlF_37 : Cond.methodLink rF 37 yG_clear ∈ bigW := kw (k := 191) (by decide +kernel) rfl
theorem gF_37 : GoodIn bigW (wsV rF 37 rG yG_clear wG_clear) := gV mlF_37 imG_clear seG_clear iniG kcG_clear
theorem mlF_41 : Cond.methodLink rF 41 yA_forget ∈ bigW := kw (k := 195) (by decide +kernel) rfl
theorem gF_41 : GoodIn bigW (wsV rF 41 rA yA_forget wA_forget) := gV mlF_41 imA_forget seA_forget iniA kcA_forget
theorem mlL_18 : Cond.methodLink rL 18 yF_edge ∈ bigW := kw (k := 199) (by decide +kernel) rfl
theorem gL_18 : GoodIn bigW (wsV rL 18 rF yF_edge wF_edge) := gV mlL_18 imF_edge seF_edge iniF kcF_edge
theorem mlF_48 : Cond.methodLink rF 48 yG_hasVertex ∈ bigW := kw (k := 203) (by decide +kernel) rfl
theorem gF_48 : GoodIn bigW (wsV rF 48 rG yG_hasVertex wG_hasVertex) := gV mlF_48 imG_hasVertex seG_hasVertex iniG kcG_hasVertex
theorem mlF_52 : Cond.methodLink rF 52 yG_append ∈ bigW := kw (k := 207) (by decide +kernel) rfl
theorem gF_52 : GoodIn bigW (wsV rF 52 rG yG_append wG_append) := gV mlF_52 imG_append seG_append iniG kcG_append
theorem mlL_23 : Cond.methodLink rL 23 yF_drop ∈ bigW := kw (k := 211) (by decide +kernel) rfl
theorem gL_23 : GoodIn bigW (wsV rL 23 rF yF_drop wF_drop) := gV mlL_23 imF_drop seF_drop iniF kcF_drop
theorem mlF_56 : Cond.methodLink rF 56 yG_hasEdge ∈ bigW := kw (k := 215) (by decide +kernel) rfl
theorem gF_56 : GoodIn bigW (wsV rF 56 rG yG_hasEdge wG_hasEdge) := gV mlF_56 imG_hasEdge seG_hasEdge iniG kcG_hasEdge
theorem mlF_59 : Cond.methodLink rF 59 yG_remove ∈ bigW := kw (k := 219) (by decide +kernel) rfl
theorem gF_59 : GoodIn bigW (wsV rF 59 rG yG_remove wG_remove) := gV mlF_59 imG_remove seG_remove iniG kcG_remove
theorem mlL_27 : Cond.methodLink rL 27 yF_ask ∈ bigW := kw (k := 223) (by decide +kernel) rfl
theorem gL_27 : GoodIn bigW (wsV rL 27 rF yF_ask wF_ask) := gV mlL_27 imF_ask seF_ask iniF kcF_ask
theorem mlL_32 : Cond.methodLink rL 32 yF_vertices ∈ bigW := kw (k := 227) (by decide +kernel) rfl
theorem gL_32 : GoodIn bigW (wsV rL 32 rF yF_vertices wF_vertices) := gV mlL_32 imF_vertices seF_vertices iniF kcF_vertices
theorem mlL_37 : Cond.methodLink rL 37 yF_edges ∈ bigW := kw (k := 231) (by decide +kernel) rfl
theorem gL_37 : GoodIn bigW (wsV rL 37 rF yF_edges wF_edges) := gV mlL_37 imF_edges seF_edges iniF kcF_edges
theorem mlL_41 : Cond.methodLink rL 41 yF_end ∈ bigW := kw (k := 235) (by decide +kernel) rfl
theorem gL_41 : GoodIn bigW (wsV rL 41 rF yF_end wF_end) := gV mlL_41 imF_end seF_end iniF kcF_end
theorem mlL_45 : Cond.methodLink rL 45 yF_demand ∈ bigW := kw (k := 239) (by decide +kernel) rfl
theorem gL_45 : GoodIn bigW (wsV rL 45 rF yF_demand wF_demand) := gV mlL_45 imF_demand seF_demand iniF kcF_demand
theorem mlL_50 : Cond.methodLink rL 50 yF_judge ∈ bigW := kw (k := 243) (by decide +kernel) rfl
theorem gL_50 : GoodIn bigW (wsV rL 50 rF yF_judge wF_judge) := gV mlL_50 imF_judge seF_judge iniF kcF_judge
theorem mlF_75 : Cond.methodLink rF 75 yG_degree ∈ bigW := kw (k := 247) (by decide +kernel) rfl
theorem gF_75 : GoodIn bigW (wsV rF 75 rG yG_degree wG_degree) := gV mlF_75 imG_degree seG_degree iniG kcG_degree
theorem mlL_54 : Cond.methodLink rL 54 yF_most ∈ bigW := kw (k := 251) (by decide +kernel) rfl
theorem gL_54 : GoodIn bigW (wsV rL 54 rF yF_most wF_most) := gV mlL_54 imF_most seF_most iniF kcF_most
theorem mlF_79 : Cond.methodLink rF 79 yF_solve ∈ bigW := kw (k := 255) (by decide +kernel) rfl
theorem gF_79 : GoodIn bigW (wsV rF 79 rF yF_solve wF_solve) := gV mlF_79 imF_solve seF_solve iniF kcF_solve
theorem mlF_92 : Cond.methodLink rF 92 yS_load ∈ bigW := kw (k := 259) (by decide +kernel) rfl
theorem gF_92 : GoodIn bigW (wsV rF 92 rS yS_load wS_load) := gV mlF_92 imS_load seS_load iniS kcS_load
theorem mlS_45 : Cond.methodLink rS 45 Lib.Math.min.name ∈ bigW := kw (k := 263) (by decide +kernel) rfl
theorem mlS_51 : Cond.methodLink rS 51 Lib.Math.max.name ∈ bigW := kw (k := 266) (by decide +kernel) rfl
theorem mlS_54 : Cond.methodLink rS 54 yS_take ∈ bigW := kw (k := 269) (by decide +kernel) rfl
theorem gS_54 : GoodIn bigW (wsV rS 54 rS yS_take wS_take) := gV mlS_54 imS_take seS_take iniS kcS_take
theorem mlF_125 : Cond.methodLink rF 125 yS_maximize ∈ bigW := kw (k := 273) (by decide +kernel) rfl
theorem gF_125 : GoodIn bigW (wsV rF 125 rS yS_maximize wS_maximize) := gV mlF_125 imS_maximize seS_maximize iniS kcS_maximize
theorem mlS_67 : Cond.methodLink rS 67 yS_explore ∈ bigW := kw (k := 277) (by decide +kernel) rfl
theorem gS_67 : GoodIn bigW (wsS rS 67 yS_explore wS_explore) := gS mlS_67 stS_explore iniS kcS_explore
theorem mlS_71 : Cond.methodLink rS 71 yS_hope ∈ bigW := kw (k := 280) (by decide +kernel) rfl
theorem gS_71 : GoodIn bigW (wsV rS 71 rS yS_hope wS_hope) := gV mlS_71 imS_hope seS_hope iniS kcS_hope
theorem mlS_75 : Cond.methodLink rS 75 yS_mayAdd ∈ bigW := kw (k := 284) (by decide +kernel) rfl
theorem gS_75 : GoodIn bigW (wsV rS 75 rS yS_mayAdd wS_mayAdd) := gV mlS_75 imS_mayAdd seS_mayAdd iniS kcS_mayAdd
theorem mlL_58 : Cond.methodLink rL 58 yF_best ∈ bigW := kw (k := 288) (by decide +kernel) rfl
theorem gL_58 : GoodIn bigW (wsV rL 58 rF yF_best wF_best) := gV mlL_58 imF_best seF_best iniF kcF_best
theorem mlL_62 : Cond.methodLink rL 62 yF_factor ∈ bigW := kw (k := 292) (by decide +kernel) rfl
theorem gL_62 : GoodIn bigW (wsV rL 62 rF yF_factor wF_factor) := gV mlL_62 imF_factor seF_factor iniF kcF_factor
theorem mlF_88 : Cond.methodLink rF 88 yG_wantedByAll ∈ bigW := kw (k := 296) (by decide +kernel) rfl
theorem gF_88 : GoodIn bigW (wsV rF 88 rG yG_wantedByAll wG_wantedByAll) := gV mlF_88 imG_wantedByAll seG_wantedByAll iniG kcG_wantedByAll
theorem mlL_66 : Cond.methodLink rL 66 yF_role ∈ bigW := kw (k := 300) (by decide +kernel) rfl
theorem gL_66 : GoodIn bigW (wsV rL 66 rF yF_role wF_role) := gV mlL_66 imF_role seF_role iniF kcF_role
theorem mlF_96 : Cond.methodLink rF 96 yS_reaches ∈ bigW := kw (k := 304) (by decide +kernel) rfl
theorem gF_96 : GoodIn bigW (wsV rF 96 rS yS_reaches wS_reaches) := gV mlF_96 imS_reaches seS_reaches iniS kcS_reaches
theorem mlF_99 : Cond.methodLink rF 99 yS_lend ∈ bigW := kw (k := 308) (by decide +kernel) rfl
theorem gF_99 : GoodIn bigW (wsV rF 99 rS yS_lend wS_lend) := gV mlF_99 imS_lend seS_lend iniS kcS_lend
theorem mlL_70 : Cond.methodLink rL 70 yF_slack ∈ bigW := kw (k := 312) (by decide +kernel) rfl
theorem gL_70 : GoodIn bigW (wsV rL 70 rF yF_slack wF_slack) := gV mlL_70 imF_slack seF_slack iniF kcF_slack
theorem mlF_102 : Cond.methodLink rF 102 yF_reachesWith ∈ bigW := kw (k := 316) (by decide +kernel) rfl
theorem gF_102 : GoodIn bigW (wsV rF 102 rF yF_reachesWith wF_reachesWith) := gV mlF_102 imF_reachesWith seF_reachesWith iniF kcF_reachesWith
theorem mlL_74 : Cond.methodLink rL 74 yF_gain ∈ bigW := kw (k := 320) (by decide +kernel) rfl
theorem gL_74 : GoodIn bigW (wsV rL 74 rF yF_gain wF_gain) := gV mlL_74 imF_gain seF_gain iniF kcF_gain
theorem mlL_78 : Cond.methodLink rL 78 yF_bound ∈ bigW := kw (k := 324) (by decide +kernel) rfl
theorem gL_78 : GoodIn bigW (wsV rL 78 rF yF_bound wF_bound) := gV mlL_78 imF_bound seF_bound iniF kcF_bound
theorem mlF_106 : Cond.methodLink rF 106 yF_tabulate ∈ bigW := kw (k := 328) (by decide +kernel) rfl
theorem gF_106 : GoodIn bigW (wsV rF 106 rF yF_tabulate wF_tabulate) := gV mlF_106 imF_tabulate seF_tabulate iniF kcF_tabulate
theorem mlF_137 : Cond.methodLink rF 137 yB_load ∈ bigW := kw (k := 332) (by decide +kernel) rfl
theorem gF_137 : GoodIn bigW (wsV rF 137 rB yB_load wB_load) := gV mlF_137 imB_load seB_load iniB kcB_load
theorem mlB_36 : Cond.methodLink rB 36 yB_countInside ∈ bigW := kw (k := 336) (by decide +kernel) rfl
theorem gB_36 : GoodIn bigW (wsV rB 36 rB yB_countInside wB_countInside) := gV mlB_36 imB_countInside seB_countInside iniB kcB_countInside
theorem mlB_43 : Cond.methodLink rB 43 yB_partOf ∈ bigW := kw (k := 340) (by decide +kernel) rfl
theorem gB_43 : GoodIn bigW (wsV rB 43 rB yB_partOf wB_partOf) := gV mlB_43 imB_partOf seB_partOf iniB kcB_partOf
theorem mlF_109 : Cond.methodLink rF 109 yB_value ∈ bigW := kw (k := 344) (by decide +kernel) rfl
theorem gF_109 : GoodIn bigW (wsV rF 109 rB yB_value wB_value) := gV mlF_109 imB_value seB_value iniB kcB_value
theorem mlL_82 : Cond.methodLink rL 82 yF_witness ∈ bigW := kw (k := 348) (by decide +kernel) rfl
theorem gL_82 : GoodIn bigW (wsV rL 82 rF yF_witness wF_witness) := gV mlL_82 imF_witness seF_witness iniF kcF_witness
theorem mlF_112 : Cond.methodLink rF 112 yF_explain ∈ bigW := kw (k := 352) (by decide +kernel) rfl
theorem gF_112 : GoodIn bigW (wsV rF 112 rF yF_explain wF_explain) := gV mlF_112 imF_explain seF_explain iniF kcF_explain
theorem mlF_143 : Cond.methodLink rF 143 yB_find ∈ bigW := kw (k := 356) (by decide +kernel) rfl
theorem gF_143 : GoodIn bigW (wsV rF 143 rB yB_find wB_find) := gV mlF_143 imB_find seB_find iniB kcB_find
theorem mlB_56 : Cond.methodLink rB 56 yB_findFor ∈ bigW := kw (k := 360) (by decide +kernel) rfl
theorem gB_56 : GoodIn bigW (wsV rB 56 rB yB_findFor wB_findFor) := gV mlB_56 imB_findFor seB_findFor iniB kcB_findFor
theorem mlB_60 : Cond.methodLink rB 60 yB_value ∈ bigW := kw (k := 364) (by decide +kernel) rfl
theorem gB_60 : GoodIn bigW (wsV rB 60 rB yB_value wB_value) := gV mlB_60 imB_value seB_value iniB kcB_value
theorem mlL_12 : Cond.methodLink rL 12 yM_init ∈ bigW := kw (k := 367) (by decide +kernel) rfl
theorem mlM_1 : Cond.methodLink rM 1 objectInit ∈ bigW := kw (k := 370) (by decide +kernel) rfl
theorem mlL_17 : Cond.methodLink rL 17 yM_begin ∈ bigW := kw (k := 390) (by decide +kernel) rfl
theorem gL_17 : GoodIn bigW (wsV rL 17 rM yM_begin wM_begin) := gV mlL_17 imM_begin seM_begin iniM kcM_begin
theorem mlL_22 : Cond.methodLink rL 22 yM_edge ∈ bigW := kw (k := 394) (by decide +kernel) rfl
theorem gL_22 : GoodIn bigW (wsV rL 22 rM yM_edge wM_edge) := gV mlL_22 imM_edge seM_edge iniM kcM_edge
theorem mlM_29 : Cond.methodLink rM 29 yM_isVertex ∈ bigW := kw (k := 398) (by decide +kernel) rfl
theorem gM_29 : GoodIn bigW (wsV rM 29 rM yM_isVertex wM_isVertex) := gV mlM_29 imM_isVertex seM_isVertex iniM kcM_isVertex
theorem mlL_26 : Cond.methodLink rL 26 yM_drop ∈ bigW := kw (k := 402) (by decide +kernel) rfl
theorem gL_26 : GoodIn bigW (wsV rL 26 rM yM_drop wM_drop) := gV mlL_26 imM_drop seM_drop iniM kcM_drop
theorem mlM_33 : Cond.methodLink rM 33 yM_isEdge ∈ bigW := kw (k := 406) (by decide +kernel) rfl
theorem gM_33 : GoodIn bigW (wsV rM 33 rM yM_isEdge wM_isEdge) := gV mlM_33 imM_isEdge seM_isEdge iniM kcM_isEdge
theorem mlL_31 : Cond.methodLink rL 31 yM_ask ∈ bigW := kw (k := 410) (by decide +kernel) rfl
theorem gL_31 : GoodIn bigW (wsV rL 31 rM yM_ask wM_ask) := gV mlL_31 imM_ask seM_ask iniM kcM_ask
theorem mlL_36 : Cond.methodLink rL 36 yM_vertices ∈ bigW := kw (k := 414) (by decide +kernel) rfl
theorem gL_36 : GoodIn bigW (wsV rL 36 rM yM_vertices wM_vertices) := gV mlL_36 imM_vertices seM_vertices iniM kcM_vertices
theorem mlL_40 : Cond.methodLink rL 40 yM_edges ∈ bigW := kw (k := 418) (by decide +kernel) rfl
theorem gL_40 : GoodIn bigW (wsV rL 40 rM yM_edges wM_edges) := gV mlL_40 imM_edges seM_edges iniM kcM_edges
theorem mlL_44 : Cond.methodLink rL 44 yM_end ∈ bigW := kw (k := 422) (by decide +kernel) rfl
theorem gL_44 : GoodIn bigW (wsV rL 44 rM yM_end wM_end) := gV mlL_44 imM_end seM_end iniM kcM_end
theorem mlL_49 : Cond.methodLink rL 49 yM_demand ∈ bigW := kw (k := 426) (by decide +kernel) rfl
theorem gL_49 : GoodIn bigW (wsV rL 49 rM yM_demand wM_demand) := gV mlL_49 imM_demand seM_demand iniM kcM_demand
theorem mlL_53 : Cond.methodLink rL 53 yM_judge ∈ bigW := kw (k := 430) (by decide +kernel) rfl
theorem gL_53 : GoodIn bigW (wsV rL 53 rM yM_judge wM_judge) := gV mlL_53 imM_judge seM_judge iniM kcM_judge
theorem mlM_48 : Cond.methodLink rM 48 yM_allEdges ∈ bigW := kw (k := 434) (by decide +kernel) rfl
theorem gM_48 : GoodIn bigW (wsV rM 48 rM yM_allEdges wM_allEdges) := gV mlM_48 imM_allEdges seM_allEdges iniM kcM_allEdges
theorem mlM_52 : Cond.methodLink rM 52 yM_isFactor ∈ bigW := kw (k := 438) (by decide +kernel) rfl
theorem gM_52 : GoodIn bigW (wsV rM 52 rM yM_isFactor wM_isFactor) := gV mlM_52 imM_isFactor seM_isFactor iniM kcM_isFactor
theorem mlM_44 : Cond.methodLink rM 44 yM_degree ∈ bigW := kw (k := 442) (by decide +kernel) rfl
theorem gM_44 : GoodIn bigW (wsV rM 44 rM yM_degree wM_degree) := gV mlM_44 imM_degree seM_degree iniM kcM_degree
theorem mlM_36 : Cond.methodLink rM 36 yM_has ∈ bigW := kw (k := 446) (by decide +kernel) rfl
theorem gM_36 : GoodIn bigW (wsS rM 36 yM_has wM_has) := gS mlM_36 stM_has iniM kcM_has
theorem mlM_55 : Cond.methodLink rM 55 yM_isFair ∈ bigW := kw (k := 449) (by decide +kernel) rfl
theorem gM_55 : GoodIn bigW (wsV rM 55 rM yM_isFair wM_isFair) := gV mlM_55 imM_isFair seM_isFair iniM kcM_isFair
theorem mlL_61 : Cond.methodLink rL 61 yM_best ∈ bigW := kw (k := 453) (by decide +kernel) rfl
theorem gL_61 : GoodIn bigW (wsV rL 61 rM yM_best wM_best) := gV mlL_61 imM_best seM_best iniM kcM_best
theorem mlM_40 : Cond.methodLink rM 40 yM_size ∈ bigW := kw (k := 457) (by decide +kernel) rfl
theorem gM_40 : GoodIn bigW (wsS rM 40 yM_size wM_size) := gS mlM_40 stM_size iniM kcM_size
theorem mlM_58 : Cond.methodLink rM 58 yM_isBefore ∈ bigW := kw (k := 460) (by decide +kernel) rfl
theorem gM_58 : GoodIn bigW (wsS rM 58 yM_isBefore wM_isBefore) := gS mlM_58 stM_isBefore iniM kcM_isBefore
theorem mlL_57 : Cond.methodLink rL 57 yM_most ∈ bigW := kw (k := 463) (by decide +kernel) rfl
theorem gL_57 : GoodIn bigW (wsV rL 57 rM yM_most wM_most) := gV mlL_57 imM_most seM_most iniM kcM_most
theorem mlM_61 : Cond.methodLink rM 61 yM_best ∈ bigW := kw (k := 467) (by decide +kernel) rfl
theorem gM_61 : GoodIn bigW (wsV rM 61 rM yM_best wM_best) := gV mlM_61 imM_best seM_best iniM kcM_best
theorem mlL_65 : Cond.methodLink rL 65 yM_factor ∈ bigW := kw (k := 468) (by decide +kernel) rfl
theorem gL_65 : GoodIn bigW (wsV rL 65 rM yM_factor wM_factor) := gV mlL_65 imM_factor seM_factor iniM kcM_factor
theorem mlL_69 : Cond.methodLink rL 69 yM_role ∈ bigW := kw (k := 472) (by decide +kernel) rfl
theorem gL_69 : GoodIn bigW (wsV rL 69 rM yM_role wM_role) := gV mlL_69 imM_role seM_role iniM kcM_role
theorem mlM_64 : Cond.methodLink rM 64 yM_most ∈ bigW := kw (k := 476) (by decide +kernel) rfl
theorem gM_64 : GoodIn bigW (wsV rM 64 rM yM_most wM_most) := gV mlM_64 imM_most seM_most iniM kcM_most
theorem mlL_73 : Cond.methodLink rL 73 yM_slack ∈ bigW := kw (k := 477) (by decide +kernel) rfl
theorem gL_73 : GoodIn bigW (wsV rL 73 rM yM_slack wM_slack) := gV mlL_73 imM_slack seM_slack iniM kcM_slack
theorem mlM_67 : Cond.methodLink rM 67 yM_mostWith ∈ bigW := kw (k := 481) (by decide +kernel) rfl
theorem gM_67 : GoodIn bigW (wsV rM 67 rM yM_mostWith wM_mostWith) := gV mlM_67 imM_mostWith seM_mostWith iniM kcM_mostWith
theorem mlL_77 : Cond.methodLink rL 77 yM_gain ∈ bigW := kw (k := 485) (by decide +kernel) rfl
theorem gL_77 : GoodIn bigW (wsV rL 77 rM yM_gain wM_gain) := gV mlL_77 imM_gain seM_gain iniM kcM_gain
theorem mlL_81 : Cond.methodLink rL 81 yM_bound ∈ bigW := kw (k := 489) (by decide +kernel) rfl
theorem gL_81 : GoodIn bigW (wsV rL 81 rM yM_bound wM_bound) := gV mlL_81 imM_bound seM_bound iniM kcM_bound
theorem mlM_70 : Cond.methodLink rM 70 yM_areSets ∈ bigW := kw (k := 493) (by decide +kernel) rfl
theorem gM_70 : GoodIn bigW (wsV rM 70 rM yM_areSets wM_areSets) := gV mlM_70 imM_areSets seM_areSets iniM kcM_areSets
theorem mlM_73 : Cond.methodLink rM 73 yM_partition ∈ bigW := kw (k := 497) (by decide +kernel) rfl
theorem gM_73 : GoodIn bigW (wsV rM 73 rM yM_partition wM_partition) := gV mlM_73 imM_partition seM_partition iniM kcM_partition
theorem mlM_76 : Cond.methodLink rM 76 yM_half ∈ bigW := kw (k := 501) (by decide +kernel) rfl
theorem gM_76 : GoodIn bigW (wsV rM 76 rM yM_half wM_half) := gV mlM_76 imM_half seM_half iniM kcM_half
theorem mlL_85 : Cond.methodLink rL 85 yM_witness ∈ bigW := kw (k := 505) (by decide +kernel) rfl
theorem gL_85 : GoodIn bigW (wsV rL 85 rM yM_witness wM_witness) := gV mlL_85 imM_witness seM_witness iniM kcM_witness
theorem mlM_79 : Cond.methodLink rM 79 yM_bound ∈ bigW := kw (k := 509) (by decide +kernel) rfl
theorem gM_79 : GoodIn bigW (wsV rM 79 rM yM_bound wM_bound) := gV mlM_79 imM_bound seM_bound iniM kcM_bound
