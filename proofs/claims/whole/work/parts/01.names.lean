/-! NAMES: classes with their fields in the order of the tables, array kinds, what else the tables say -/
def F_TT : u_T := fun k => match k with
  | 0 => ("TestText", "signs", "[B", true)
  | 1 => ("TestText", "signCount", "I", false)
  | 2 => ("TestText", "plan", "LTestText$Plan;", false)
  | 3 => ("TestText", "wrongLine", "I", false)
  | 4 => ("TestText", "answers", "LTestText$Answers;", true)
  | 5 => ("TestText", "planted", "I", false)
  | 6 => ("TestText", "seedOfRuns", "J", false)
  | 7 => ("TestText", "traces", "[LTestText$Trace;", true)
  | _ => ("TestText", "runCount", "I", false)
def t_TT : Nat → FieldType := fun k => match k with
  | 0 => .array (.byte)
  | 1 => .int
  | 2 => .object "TestText$Plan"
  | 3 => .int
  | 4 => .object "TestText$Answers"
  | 5 => .int
  | 6 => .long
  | 7 => .array (.object "TestText$Trace")
  | _ => .int
def F_Plan : u_T := fun k => match k with
  | 0 => ("TestText$Plan", "valueKeys", "[J", true)
  | 1 => ("TestText$Plan", "valueCount", "I", false)
  | 2 => ("TestText$Plan", "tests", "Ljava/util/ArrayList;", true)
  | 3 => ("TestText$Plan", "steps", "Ljava/util/ArrayList;", true)
  | 4 => ("TestText$Plan", "least", "[I", true)
  | _ => ("TestText$Plan", "leastCount", "I", false)
def t_Plan : Nat → FieldType := fun k => match k with
  | 0 => .array (.long)
  | 1 => .int
  | 2 => .object "java/util/ArrayList"
  | 3 => .object "java/util/ArrayList"
  | 4 => .array (.int)
  | _ => .int
def F_Ans : u_T := fun k => match k with
  | 0 => ("TestText$Answers", "keys", "[I", true)
  | 1 => ("TestText$Answers", "values", "[I", true)
  | 2 => ("TestText$Answers", "count", "I", false)
  | _ => ("TestText$Answers", "told", "I", false)
def t_Ans : Nat → FieldType := fun k => match k with
  | 0 => .array (.int)
  | 1 => .array (.int)
  | 2 => .int
  | _ => .int
def F_Rd : u_T := fun k => match k with
  | 0 => ("TestText$Reader", "plan", "LTestText$Plan;", true)
  | 1 => ("TestText$Reader", "signs", "[B", true)
  | 2 => ("TestText$Reader", "words", "LTestText$Words;", true)
  | 3 => ("TestText$Reader", "test", "LTestText$Test;", false)
  | 4 => ("TestText$Reader", "open", "[I", true)
  | _ => ("TestText$Reader", "depth", "I", false)
def t_Rd : Nat → FieldType := fun k => match k with
  | 0 => .object "TestText$Plan"
  | 1 => .array (.byte)
  | 2 => .object "TestText$Words"
  | 3 => .object "TestText$Test"
  | 4 => .array (.int)
  | _ => .int
def F_Run : u_T := fun k => match k with
  | 0 => ("TestText$Runner", "plan", "LTestText$Plan;", true)
  | 1 => ("TestText$Runner", "answers", "LTestText$Answers;", true)
  | 2 => ("TestText$Runner", "trace", "LTestText$Trace;", true)
  | 3 => ("TestText$Runner", "drawn", "J", false)
  | 4 => ("TestText$Runner", "planted", "I", true)
  | 5 => ("TestText$Runner", "faults", "I", false)
  | 6 => ("TestText$Runner", "now", "I", false)
  | 7 => ("TestText$Runner", "setTimes", "[I", true)
  | 8 => ("TestText$Runner", "setValues", "[I", true)
  | _ => ("TestText$Runner", "tooManySteps", "Z", false)
def t_Run : Nat → FieldType := fun k => match k with
  | 0 => .object "TestText$Plan"
  | 1 => .object "TestText$Answers"
  | 2 => .object "TestText$Trace"
  | 3 => .long
  | 4 => .int
  | 5 => .int
  | 6 => .int
  | 7 => .array (.int)
  | 8 => .array (.int)
  | _ => .boolean
def F_Step : u_T := fun k => match k with
  | 0 => ("TestText$Step", "kind", "I", true)
  | 1 => ("TestText$Step", "line", "I", true)
  | 2 => ("TestText$Step", "value", "I", false)
  | 3 => ("TestText$Step", "op", "I", false)
  | 4 => ("TestText$Step", "number", "I", false)
  | 5 => ("TestText$Step", "second", "I", false)
  | 6 => ("TestText$Step", "numbers", "[I", false)
  | 7 => ("TestText$Step", "behind", "I", false)
  | _ => ("TestText$Step", "begun", "Z", false)
def t_Step : Nat → FieldType := fun k => match k with
  | 0 => .int
  | 1 => .int
  | 2 => .int
  | 3 => .int
  | 4 => .int
  | 5 => .int
  | 6 => .array (.int)
  | 7 => .int
  | _ => .boolean
def F_Test : u_T := fun k => match k with
  | 0 => ("TestText$Test", "key", "J", true)
  | 1 => ("TestText$Test", "first", "I", true)
  | 2 => ("TestText$Test", "behind", "I", false)
  | 3 => ("TestText$Test", "always", "I", false)
  | 4 => ("TestText$Test", "named", "I", false)
  | 5 => ("TestText$Test", "alwaysBegun", "I", false)
  | 6 => ("TestText$Test", "verdict", "I", false)
  | 7 => ("TestText$Test", "leftLine", "I", false)
  | _ => ("TestText$Test", "leftTime", "I", false)
def t_Test : Nat → FieldType := fun k => match k with
  | 0 => .long
  | 1 => .int
  | 2 => .int
  | 3 => .int
  | 4 => .int
  | 5 => .int
  | 6 => .int
  | 7 => .int
  | _ => .int
def F_Tr : u_T := fun k => match k with
  | 0 => ("TestText$Trace", "lines", "[I", true)
  | 1 => ("TestText$Trace", "times", "[I", true)
  | 2 => ("TestText$Trace", "values", "[I", true)
  | 3 => ("TestText$Trace", "count", "I", false)
  | 4 => ("TestText$Trace", "undone", "[I", true)
  | 5 => ("TestText$Trace", "undoneCount", "I", false)
  | _ => ("TestText$Trace", "firstLeft", "I", false)
def t_Tr : Nat → FieldType := fun k => match k with
  | 0 => .array (.int)
  | 1 => .array (.int)
  | 2 => .array (.int)
  | 3 => .int
  | 4 => .array (.int)
  | 5 => .int
  | _ => .int
def F_Wd : u_T := fun k => match k with
  | 0 => ("TestText$Words", "signs", "[B", true)
  | 1 => ("TestText$Words", "begins", "[I", true)
  | 2 => ("TestText$Words", "ends", "[I", true)
  | _ => ("TestText$Words", "count", "I", false)
def t_Wd : Nat → FieldType := fun k => match k with
  | 0 => .array (.byte)
  | 1 => .array (.int)
  | 2 => .array (.int)
  | _ => .int
def F_Mo : u_T := fun k => match k with
  | 0 => ("TestTextModel", "code", "I", false)
  | 1 => ("TestTextModel", "length", "I", false)
  | 2 => ("TestTextModel", "text", "[I", true)
  | 3 => ("TestTextModel", "size", "I", false)
  | 4 => ("TestTextModel", "kept", "[I", true)
  | 5 => ("TestTextModel", "at", "I", false)
  | 6 => ("TestTextModel", "end", "I", false)
  | 7 => ("TestTextModel", "from", "I", false)
  | 8 => ("TestTextModel", "to", "I", false)
  | 9 => ("TestTextModel", "number", "J", false)
  | 10 => ("TestTextModel", "wrong", "I", false)
  | 11 => ("TestTextModel", "names", "I", false)
  | 12 => ("TestTextModel", "nameFrom", "[I", true)
  | 13 => ("TestTextModel", "nameTo", "[I", true)
  | 14 => ("TestTextModel", "tests", "I", false)
  | 15 => ("TestTextModel", "testFrom", "[I", true)
  | 16 => ("TestTextModel", "testTo", "[I", true)
  | 17 => ("TestTextModel", "first", "[I", true)
  | 18 => ("TestTextModel", "always", "[I", true)
  | 19 => ("TestTextModel", "alwaysBegun", "[I", true)
  | 20 => ("TestTextModel", "verdict", "[I", true)
  | 21 => ("TestTextModel", "leftLine", "[I", true)
  | 22 => ("TestTextModel", "leftTime", "[J", true)
  | 23 => ("TestTextModel", "steps", "I", false)
  | 24 => ("TestTextModel", "kind", "[I", true)
  | 25 => ("TestTextModel", "line", "[I", true)
  | 26 => ("TestTextModel", "name", "[I", true)
  | 27 => ("TestTextModel", "low", "[J", true)
  | 28 => ("TestTextModel", "high", "[J", true)
  | 29 => ("TestTextModel", "op", "[I", true)
  | 30 => ("TestTextModel", "times", "[I", true)
  | 31 => ("TestTextModel", "stop", "[I", true)
  | 32 => ("TestTextModel", "firstCase", "[I", true)
  | 33 => ("TestTextModel", "begun", "[Z", true)
  | 34 => ("TestTextModel", "cases", "I", false)
  | 35 => ("TestTextModel", "caseValue", "[J", true)
  | 36 => ("TestTextModel", "open", "I", false)
  | 37 => ("TestTextModel", "openAt", "[I", true)
  | 38 => ("TestTextModel", "answers", "I", false)
  | 39 => ("TestTextModel", "answerName", "[I", true)
  | 40 => ("TestTextModel", "answerValue", "[J", true)
  | 41 => ("TestTextModel", "answerTime", "[J", true)
  | 42 => ("TestTextModel", "outside", "[Z", true)
  | 43 => ("TestTextModel", "seed", "J", false)
  | 44 => ("TestTextModel", "runs", "I", false)
  | 45 => ("TestTextModel", "rows", "[I", true)
  | 46 => ("TestTextModel", "rowLine", "[I", true)
  | 47 => ("TestTextModel", "rowTime", "[J", true)
  | 48 => ("TestTextModel", "rowValue", "[J", true)
  | 49 => ("TestTextModel", "undones", "I", false)
  | 50 => ("TestTextModel", "undone", "[I", true)
  | 51 => ("TestTextModel", "before", "I", false)
  | 52 => ("TestTextModel", "time", "J", false)
  | 53 => ("TestTextModel", "drawn", "J", false)
  | 54 => ("TestTextModel", "lineNow", "I", false)
  | 55 => ("TestTextModel", "outcome", "I", false)
  | 56 => ("TestTextModel", "fault", "[Z", true)
  | 57 => ("TestTextModel", "set", "[J", true)
  | 58 => ("TestTextModel", "setAt", "[J", true)
  | _ => ("TestTextModel", "turn", "[I", true)
def t_Mo : Nat → FieldType := fun k => match k with
  | 0 => .int
  | 1 => .int
  | 2 => .array (.int)
  | 3 => .int
  | 4 => .array (.int)
  | 5 => .int
  | 6 => .int
  | 7 => .int
  | 8 => .int
  | 9 => .long
  | 10 => .int
  | 11 => .int
  | 12 => .array (.int)
  | 13 => .array (.int)
  | 14 => .int
  | 15 => .array (.int)
  | 16 => .array (.int)
  | 17 => .array (.int)
  | 18 => .array (.int)
  | 19 => .array (.int)
  | 20 => .array (.int)
  | 21 => .array (.int)
  | 22 => .array (.long)
  | 23 => .int
  | 24 => .array (.int)
  | 25 => .array (.int)
  | 26 => .array (.int)
  | 27 => .array (.long)
  | 28 => .array (.long)
  | 29 => .array (.int)
  | 30 => .array (.int)
  | 31 => .array (.int)
  | 32 => .array (.int)
  | 33 => .array (.boolean)
  | 34 => .int
  | 35 => .array (.long)
  | 36 => .int
  | 37 => .array (.int)
  | 38 => .int
  | 39 => .array (.int)
  | 40 => .array (.long)
  | 41 => .array (.long)
  | 42 => .array (.boolean)
  | 43 => .long
  | 44 => .int
  | 45 => .array (.int)
  | 46 => .array (.int)
  | 47 => .array (.long)
  | 48 => .array (.long)
  | 49 => .int
  | 50 => .array (.int)
  | 51 => .int
  | 52 => .long
  | 53 => .long
  | 54 => .int
  | 55 => .int
  | 56 => .array (.boolean)
  | 57 => .array (.long)
  | 58 => .array (.long)
  | _ => .array (.int)
def F_AL : u_T := fun k => match k with
  | 0 => ("java/util/ArrayList", "elementData", "[Ljava/lang/Object;", false)
  | 1 => ("java/util/ArrayList", "size", "I", false)
  | _ => ("java/util/AbstractList", "modCount", "I", false)
def t_AL : Nat → FieldType := fun k => match k with
  | 0 => .array (.object "java/lang/Object")
  | 1 => .int
  | _ => .int
abbrev classes : List vw_C := [("TestText", F_TT, 9), ("TestText$Plan", F_Plan, 6), ("TestText$Answers", F_Ans, 4), ("TestText$Reader", F_Rd, 6), ("TestText$Runner", F_Run, 10), ("TestText$Step", F_Step, 9), ("TestText$Test", F_Test, 9), ("TestText$Trace", F_Tr, 7), ("TestText$Words", F_Wd, 4), ("TestTextModel", F_Mo, 60), ("java/util/ArrayList", F_AL, 3)]
theorem nm_TT : ∀ a, a < 9 → ∀ b, b < 9 → a ≠ b → (F_TT a).2.1 ≠ (F_TT b).2.1 := by decide +kernel
theorem ty_TT : ∀ k, k < 9 → parseFieldDescriptor (F_TT k).2.2.1 = some (t_TT k) := by decide +kernel
theorem nm_Plan : ∀ a, a < 6 → ∀ b, b < 6 → a ≠ b → (F_Plan a).2.1 ≠ (F_Plan b).2.1 := by decide +kernel
theorem ty_Plan : ∀ k, k < 6 → parseFieldDescriptor (F_Plan k).2.2.1 = some (t_Plan k) := by decide +kernel
theorem nm_Ans : ∀ a, a < 4 → ∀ b, b < 4 → a ≠ b → (F_Ans a).2.1 ≠ (F_Ans b).2.1 := by decide +kernel
theorem ty_Ans : ∀ k, k < 4 → parseFieldDescriptor (F_Ans k).2.2.1 = some (t_Ans k) := by decide +kernel
theorem nm_Rd : ∀ a, a < 6 → ∀ b, b < 6 → a ≠ b → (F_Rd a).2.1 ≠ (F_Rd b).2.1 := by decide +kernel
theorem ty_Rd : ∀ k, k < 6 → parseFieldDescriptor (F_Rd k).2.2.1 = some (t_Rd k) := by decide +kernel
theorem nm_Run : ∀ a, a < 10 → ∀ b, b < 10 → a ≠ b → (F_Run a).2.1 ≠ (F_Run b).2.1 := by decide +kernel
theorem ty_Run : ∀ k, k < 10 → parseFieldDescriptor (F_Run k).2.2.1 = some (t_Run k) := by decide +kernel
theorem nm_Step : ∀ a, a < 9 → ∀ b, b < 9 → a ≠ b → (F_Step a).2.1 ≠ (F_Step b).2.1 := by decide +kernel
theorem ty_Step : ∀ k, k < 9 → parseFieldDescriptor (F_Step k).2.2.1 = some (t_Step k) := by decide +kernel
theorem nm_Test : ∀ a, a < 9 → ∀ b, b < 9 → a ≠ b → (F_Test a).2.1 ≠ (F_Test b).2.1 := by decide +kernel
theorem ty_Test : ∀ k, k < 9 → parseFieldDescriptor (F_Test k).2.2.1 = some (t_Test k) := by decide +kernel
theorem nm_Tr : ∀ a, a < 7 → ∀ b, b < 7 → a ≠ b → (F_Tr a).2.1 ≠ (F_Tr b).2.1 := by decide +kernel
theorem ty_Tr : ∀ k, k < 7 → parseFieldDescriptor (F_Tr k).2.2.1 = some (t_Tr k) := by decide +kernel
theorem nm_Wd : ∀ a, a < 4 → ∀ b, b < 4 → a ≠ b → (F_Wd a).2.1 ≠ (F_Wd b).2.1 := by decide +kernel
theorem ty_Wd : ∀ k, k < 4 → parseFieldDescriptor (F_Wd k).2.2.1 = some (t_Wd k) := by decide +kernel
theorem nm_Mo : ∀ a, a < 60 → ∀ b, b < 60 → a ≠ b → (F_Mo a).2.1 ≠ (F_Mo b).2.1 := by decide +kernel
theorem ty_Mo : ∀ k, k < 60 → parseFieldDescriptor (F_Mo k).2.2.1 = some (t_Mo k) := by decide +kernel
theorem nm_AL : ∀ a, a < 3 → ∀ b, b < 3 → a ≠ b → (F_AL a).2.1 ≠ (F_AL b).2.1 := by decide +kernel
theorem ty_AL : ∀ k, k < 3 → parseFieldDescriptor (F_AL k).2.2.1 = some (t_AL k) := by decide +kernel
def pm_kt : List FieldType := [.int, .long, .byte, .boolean, .object "TestText$Trace", .object "java/lang/Object"]
def pm_NW : List Cond := [.castable "TestText$Test" "TestText$Test", .castable "TestText$Step" "TestText$Step", .castable "TestText$Test" "java/lang/Object", .castable "TestText$Step" "java/lang/Object", .declares ⟨"java/lang/Object", "getClass", "()Ljava/lang/Class;"⟩, .castable "java/lang/IllegalStateException" "java/lang/IllegalStateException", .declares ⟨"java/lang/RuntimeException", "<init>", "(Ljava/lang/String;)V"⟩, .declares ⟨"java/lang/Exception", "<init>", "(Ljava/lang/String;)V"⟩, .declares ⟨"java/lang/Throwable", "<init>", "(Ljava/lang/String;)V"⟩]
def pm_nwk : Cond → Bool
  | .castable _ _ => true
  | .declares _ => true
  | .fieldLinkNest _ _ _ _ _ _ => true
  | .methodLinkNest _ _ _ _ => true
  | _ => false
theorem pm_NW_ok : ∀ w ∈ pm_NW, pm_nwk w = true := by decide +kernel
theorem pm_NW_tab : ∀ w ∈ pm_NW, w.onTables = true := by decide +kernel
theorem pm_NW_in : ∀ w ∈ pm_NW, w ∈ tables_1 := by decide +kernel
def pm_AO : List String := ["TestText$Trace", "java/lang/Object"]
/-- the classes' numbers and slots; the classes of the array kinds; the first address that may be written; the addresses of what is there before; a static of which only its kind is said -/
abbrev pm_X : Type := va_G × (Nat → ClassId) × Nat × (Nat → Nat) × Option Nat
def pm_A (X : pm_X) : Nat → Prop := fun q => X.2.2.1 ≤ q
/-- the String constants: class, entry, text; their bytes -/
def pm_sk : List (String × Nat × String) := [("TestText$Reader", 47, "name"), ("TestText$Reader", 57, "test"), ("TestText$Reader", 62, "end"), ("TestText$Reader", 136, "set"), ("TestText$Reader", 138, "draw"), ("TestText$Reader", 140, "wait"), ("TestText$Reader", 142, "check"), ("TestText$Reader", 144, "fault"), ("TestText$Reader", 146, "loop"), ("TestText$Reader", 148, "cases"), ("TestText$Reader", 150, "always"), ("TestText$Words", 43, "="), ("TestText$Words", 49, "<"), ("TestText$Words", 51, ">"), ("TestText$Words", 53, "!"), ("TestText$Reader", 209, "on"), ("TestText$Reader", 211, "off"), ("TestText", 68, "a line is wrong")]
def pm_sl : List Nat := [4, 4, 3, 3, 4, 4, 5, 5, 4, 5, 6, 1, 1, 1, 1, 2, 3, 15]
def pm_sb : List (List Int32) := [[110, 97, 109, 101], [116, 101, 115, 116], [101, 110, 100], [115, 101, 116], [100, 114, 97, 119], [119, 97, 105, 116], [99, 104, 101, 99, 107], [102, 97, 117, 108, 116], [108, 111, 111, 112], [99, 97, 115, 101, 115], [97, 108, 119, 97, 121, 115], [61], [60], [62], [33], [111, 110], [111, 102, 102], [97, 32, 108, 105, 110, 101, 32, 105, 115, 32, 119, 114, 111, 110, 103]]
/-- a static of Throwable's that stays -/
def pm_Ls (n d : String) (A : Nat → Prop) (U : State) (H : Heap) : Prop := ∃ (c : ClassId) (k : Class) (i : Nat) (f : Field) (a : Nat) (cell : Cell), U.vm.findClass "java/lang/Throwable" = some c ∧ U.fieldFound? "java/lang/Throwable" n d = some (c, k, i, f) ∧ f.isStatic = true ∧ k.statics = some a ∧ H[a]? = some cell ∧ cell.vm.isStatics = true ∧ cell.cls = c ∧ f.slot < cell.slots.size ∧ k.staticTypes[f.slot]? = some f.type ∧ (∃ v, cell.slots[f.slot]? = some v ∧ v.isRef = true) ∧ ¬ A a
theorem pm_Ls.moved {n d : String} {A : Nat → Prop} {u U : State} {H : Heap} (hvm : u.vm.Alike U.vm) (h : pm_Ls n d A u H) : pm_Ls n d A U H := by
  obtain ⟨c, k, i, f, a, cell, h1, h2, h3, h4, h5, h6, h7, h8, h9, h10⟩ := h
  obtain ⟨k', hi', he⟩ := State.fieldFound?_setVm hvm h2
  exact ⟨c, k', i, f, a, cell, by rw [hvm.findClass]; exact h1, hi', h3, by rw [he]; exact h4, h5, h6, h7, h8, by rw [he]; exact h9, h10⟩
theorem pm_Ls.kept {n d : String} {A : Nat → Prop} {U : State} {H H1 : Heap} (h : pm_Ls n d A U H) (hq : ∀ a : Nat, a < H.size → ¬ A a → H1[a]? = H[a]?) : pm_Ls n d A U H1 := by
  obtain ⟨c, k, i, f, a, cell, h1, h2, h3, h4, h5, h6, h7, h8, h9, h10, h11⟩ := h
  exact ⟨c, k, i, f, a, cell, h1, h2, h3, h4, by rw [hq a (Array.getElem?_eq_some_iff.mp h5).1 h11]; exact h5, h6, h7, h8, h9, h10, h11⟩
/-- what is there before and stays: the texts, ArrayList's empty array, the class object of Object[], two statics, two of Throwable's; the script -/
def pm_RO (X : pm_X) (U : State) (H : Heap) : Prop :=
  vk_S 18 pm_sl pm_sb (fun i => X.2.2.2.1 (2 * i + 2)) (fun i => X.2.2.2.1 (2 * i + 3)) (pm_A X) U H ∧ (∀ i, i < 18 → vk_R (pm_sk.getD i ("", 0, "")).1 (pm_sk.getD i ("", 0, "")).2.1 (pm_sk.getD i ("", 0, "")).2.2 (X.2.2.2.1 (2 * i + 2)) U) ∧
  va_Z "java/util/ArrayList" "DEFAULTCAPACITY_EMPTY_ELEMENTDATA" "[Ljava/lang/Object;" (.ref (X.2.2.2.1 0)) (pm_A X) U H ∧ va_T (.object "java/lang/Object") (X.2.2.2.1 0) 0 (fun _ => .null) (pm_A X) U H ∧ va_Mi "[Ljava/lang/Object;" (X.2.2.2.1 1) U ∧
  va_Z "java/lang/String" "COMPACT_STRINGS" "Z" (.int 1) (pm_A X) U H ∧ va_Z "jdk/internal/util/Preconditions" "SIOOBE_FORMATTER" "Ljava/util/function/BiFunction;" (va_rf X.2.2.2.2) (pm_A X) U H ∧ pm_Ls "UNASSIGNED_STACK" "[Ljava/lang/StackTraceElement;" (pm_A X) U H ∧ pm_Ls "SUPPRESSED_SENTINEL" "Ljava/util/List;" (pm_A X) U H ∧ va_T .int (X.2.2.2.1 38) (X.2.2.2.1 39) (fun j => .int (Int32.ofNat (X.2.2.2.1 (40 + j)))) (pm_A X) U H
theorem pm_RO.to {X : pm_X} {s U : State} {locs : List Loc} (h : pm_RO X s s.heap) (hW : s.WarmedH U.vm) (hS : va_S (pm_A X) s.heap U.heap locs) : pm_RO X U U.heap := by
  obtain ⟨h1, h2, h3, h4, h5, h6, h7, h8, h9, h10⟩ := h
  have hq : ∀ a : Nat, a < s.heap.size → ¬ pm_A X a → U.heap[a]? = s.heap[a]? := hS.2.1
  exact ⟨(h1.moved hW.alike).kept hq, fun i hi => (h2 i hi).warm hW, (h3.moved hW.alike).kept hq, (h4.moved hW.alike).kept hq, h5.moved hW.alike, (h6.moved hW.alike).kept hq, (h7.moved hW.alike).kept hq, (h8.moved hW.alike).kept hq, (h9.moved hW.alike).kept hq, (h10.moved hW.alike).kept hq⟩
theorem pm_RO.same {X : pm_X} {u U : State} (hv : U.vm = u.vm) (hh : U.heap = u.heap) (h : pm_RO X u u.heap) : pm_RO X U U.heap := by
  obtain ⟨h1, h2, h3, h4, h5, h6, h7, h8, h9, h10⟩ := h
  have ha : u.vm.Alike U.vm := by rw [hv]; exact Vm.Alike.refl u.vm
  rw [hh]
  exact ⟨h1.moved ha, fun i hi => (h2 i hi).same hv, h3.moved ha, h4.moved ha, h5.moved ha, h6.moved ha, h7.moved ha, h8.moved ha, h9.moved ha, h10.moved ha⟩
