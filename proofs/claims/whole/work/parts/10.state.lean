abbrev Q_A : String := "java/util/ArrayList"
def F_A : u_T := fun k => match k with
  | 0 => ("java/util/AbstractList", "modCount", "I", false)
  | 1 => ("java/util/ArrayList", "elementData", "[Ljava/lang/Object;", false)
  | _ => ("java/util/ArrayList", "size", "I", false)
def tq_A : Nat → FieldType := fun k => match k with
  | 0 => .int
  | 1 => .array (.object "java/lang/Object")
  | _ => .int
theorem n_A : ∀ a, a < 3 → ∀ b, b < 3 → a ≠ b → (F_A a).2.1 ≠ (F_A b).2.1 := by decide +kernel
theorem tq_A_ok : ∀ k, k < 3 → parseFieldDescriptor (F_A k).2.2.1 = some (tq_A k) := by decide +kernel
theorem in_A : ∀ w ∈ u_ws Q_A F_A 3, w ∈ GT := by decide +kernel
abbrev Q_B : String := "RubbingMirrors$Best"
def F_B : u_T := fun k => match k with
  | 0 => ("RubbingMirrors$Best", "found", "Z", false)
  | 1 => ("RubbingMirrors$Best", "which", "I", false)
  | 2 => ("RubbingMirrors$Best", "at", "I", false)
  | 3 => ("RubbingMirrors$Best", "total", "I", false)
  | _ => ("RubbingMirrors$Best", "count", "I", false)
def tq_B : Nat → FieldType := fun k => match k with
  | 0 => .boolean
  | 1 => .int
  | 2 => .int
  | 3 => .int
  | _ => .int
theorem n_B : ∀ a, a < 5 → ∀ b, b < 5 → a ≠ b → (F_B a).2.1 ≠ (F_B b).2.1 := by decide +kernel
theorem tq_B_ok : ∀ k, k < 5 → parseFieldDescriptor (F_B k).2.2.1 = some (tq_B k) := by decide +kernel
theorem in_B : ∀ w ∈ u_ws Q_B F_B 5, w ∈ GT := by decide +kernel
abbrev Q_R : String := "RubbingMirrors$Row"
def F_R : u_T := fun k => match k with
  | 0 => ("RubbingMirrors$Row", "depths", "[I", true)
  | _ => ("RubbingMirrors$Row", "guesses", "[Z", true)
def tq_R : Nat → FieldType := fun k => match k with
  | 0 => .array .int
  | _ => .array .boolean
theorem n_R : ∀ a, a < 2 → ∀ b, b < 2 → a ≠ b → (F_R a).2.1 ≠ (F_R b).2.1 := by decide +kernel
theorem tq_R_ok : ∀ k, k < 2 → parseFieldDescriptor (F_R k).2.2.1 = some (tq_R k) := by decide +kernel
theorem in_R : ∀ w ∈ u_ws Q_R F_R 2, w ∈ GT := by decide +kernel
abbrev Q_M : String := "RubbingMirrors"
def F_M : u_T := fun k => match k with
  | 0 => ("RubbingMirrors", "row", "LRubbingMirrors$Row;", true)
  | 1 => ("RubbingMirrors", "shapes", "Ljava/util/ArrayList;", true)
  | 2 => ("RubbingMirrors", "nodes", "Ljava/util/ArrayList;", true)
  | 3 => ("RubbingMirrors", "rules", "Ljava/util/ArrayList;", true)
  | _ => ("RubbingMirrors", "best", "LRubbingMirrors$Best;", true)
def tq_M : Nat → FieldType := fun k => match k with
  | 0 => .object "RubbingMirrors$Row"
  | 1 => .object "java/util/ArrayList"
  | 2 => .object "java/util/ArrayList"
  | 3 => .object "java/util/ArrayList"
  | _ => .object "RubbingMirrors$Best"
theorem n_M : ∀ a, a < 5 → ∀ b, b < 5 → a ≠ b → (F_M a).2.1 ≠ (F_M b).2.1 := by decide +kernel
theorem tq_M_ok : ∀ k, k < 5 → parseFieldDescriptor (F_M k).2.2.1 = some (tq_M k) := by decide +kernel
theorem in_M : ∀ w ∈ u_ws Q_M F_M 5, w ∈ GT := by decide +kernel
abbrev Q_S : String := "RubbingMirrors$Shape"
def F_S : u_T := fun k => match k with
  | _ => ("RubbingMirrors$Shape", "depths", "[I", true)
def tq_S : Nat → FieldType := fun k => match k with
  | _ => .array .int
theorem n_S : ∀ a, a < 1 → ∀ b, b < 1 → a ≠ b → (F_S a).2.1 ≠ (F_S b).2.1 := by decide +kernel
theorem tq_S_ok : ∀ k, k < 1 → parseFieldDescriptor (F_S k).2.2.1 = some (tq_S k) := by decide +kernel
theorem in_S : ∀ w ∈ u_ws Q_S F_S 1, w ∈ GT := by decide +kernel
abbrev Q_N : String := "RubbingMirrors$Node"
def F_N : u_T := fun k => match k with
  | 0 => ("RubbingMirrors$Node", "asked", "I", true)
  | 1 => ("RubbingMirrors$Node", "named", "I", true)
  | 2 => ("RubbingMirrors$Node", "no", "I", true)
  | _ => ("RubbingMirrors$Node", "yes", "I", true)
def tq_N : Nat → FieldType := fun k => match k with
  | 0 => .int
  | 1 => .int
  | 2 => .int
  | _ => .int
theorem n_N : ∀ a, a < 4 → ∀ b, b < 4 → a ≠ b → (F_N a).2.1 ≠ (F_N b).2.1 := by decide +kernel
theorem tq_N_ok : ∀ k, k < 4 → parseFieldDescriptor (F_N k).2.2.1 = some (tq_N k) := by decide +kernel
theorem in_N : ∀ w ∈ u_ws Q_N F_N 4, w ∈ GT := by decide +kernel
abbrev Q_U : String := "RubbingMirrors$Rule"
def F_U : u_T := fun k => match k with
  | 0 => ("RubbingMirrors$Rule", "from", "I", true)
  | 1 => ("RubbingMirrors$Rule", "to", "I", true)
  | 2 => ("RubbingMirrors$Rule", "least", "I", true)
  | 3 => ("RubbingMirrors$Rule", "greatest", "I", true)
  | 4 => ("RubbingMirrors$Rule", "year", "I", true)
  | _ => ("RubbingMirrors$Rule", "until", "I", true)
def tq_U : Nat → FieldType := fun k => match k with
  | 0 => .int
  | 1 => .int
  | 2 => .int
  | 3 => .int
  | 4 => .int
  | _ => .int
theorem n_U : ∀ a, a < 6 → ∀ b, b < 6 → a ≠ b → (F_U a).2.1 ≠ (F_U b).2.1 := by decide +kernel
theorem tq_U_ok : ∀ k, k < 6 → parseFieldDescriptor (F_U k).2.2.1 = some (tq_U k) := by decide +kernel
theorem in_U : ∀ w ∈ u_ws Q_U F_U 6, w ∈ GT := by decide +kernel
abbrev Q_T : String := "RubbingMirrorsModel"
def F_T : u_T := fun k => match k with
  | 0 => ("RubbingMirrorsModel", "thrown", "I", false)
  | 1 => ("RubbingMirrorsModel", "n", "I", true)
  | 2 => ("RubbingMirrorsModel", "depths", "[I", true)
  | 3 => ("RubbingMirrorsModel", "guesses", "[Z", true)
  | 4 => ("RubbingMirrorsModel", "shapes", "I", false)
  | 5 => ("RubbingMirrorsModel", "lengths", "[I", true)
  | 6 => ("RubbingMirrorsModel", "carved", "[I", true)
  | 7 => ("RubbingMirrorsModel", "nodes", "I", false)
  | 8 => ("RubbingMirrorsModel", "asks", "[I", true)
  | 9 => ("RubbingMirrorsModel", "noes", "[I", true)
  | 10 => ("RubbingMirrorsModel", "yeses", "[I", true)
  | 11 => ("RubbingMirrorsModel", "rules", "I", false)
  | 12 => ("RubbingMirrorsModel", "told", "[I", true)
  | 13 => ("RubbingMirrorsModel", "best", "I", false)
  | 14 => ("RubbingMirrorsModel", "bestPlace", "I", false)
  | 15 => ("RubbingMirrorsModel", "bestOff", "J", false)
  | _ => ("RubbingMirrorsModel", "bestMany", "I", false)
def tq_T : Nat → FieldType := fun k => match k with
  | 0 => .int
  | 1 => .int
  | 2 => .array .int
  | 3 => .array .boolean
  | 4 => .int
  | 5 => .array .int
  | 6 => .array .int
  | 7 => .int
  | 8 => .array .int
  | 9 => .array .int
  | 10 => .array .int
  | 11 => .int
  | 12 => .array .int
  | 13 => .int
  | 14 => .int
  | 15 => .long
  | _ => .int
theorem n_T : ∀ a, a < 17 → ∀ b, b < 17 → a ≠ b → (F_T a).2.1 ≠ (F_T b).2.1 := by decide +kernel
theorem tq_T_ok : ∀ k, k < 17 → parseFieldDescriptor (F_T k).2.2.1 = some (tq_T k) := by decide +kernel
theorem in_T : ∀ w ∈ u_ws Q_T F_T 17, w ∈ GT := by decide +kernel
abbrev cls : List vw_C := [(Q_A, F_A, 3), (Q_B, F_B, 5), (Q_R, F_R, 2), (Q_M, F_M, 5), (Q_S, F_S, 1), (Q_N, F_N, 4), (Q_U, F_U, 6), (Q_T, F_T, 17)]
/-- words that are kept by calls, but not among the good ones -/
def NWL : List Cond := [(Cond.methodLinkNest "RubbingMirrors" 24 y_B_init "RubbingMirrors"), (Cond.fieldLinkNest "RubbingMirrors" 83 "RubbingMirrors$Best" "found" "Z" "RubbingMirrors"), (Cond.fieldLinkNest "RubbingMirrors" 92 "RubbingMirrors$Best" "which" "I" "RubbingMirrors"), (Cond.fieldLinkNest "RubbingMirrors" 156 "RubbingMirrors$Best" "at" "I" "RubbingMirrors"), (Cond.fieldLinkNest "RubbingMirrors" 96 "RubbingMirrors$Best" "total" "I" "RubbingMirrors"), (Cond.fieldLinkNest "RubbingMirrors" 99 "RubbingMirrors$Best" "count" "I" "RubbingMirrors"), (Cond.castable "java/lang/IndexOutOfBoundsException" "java/lang/IndexOutOfBoundsException"), (Cond.declares ⟨"java/lang/RuntimeException", "<init>", "()V"⟩), (Cond.declares ⟨"java/lang/RuntimeException", "<init>", "(Ljava/lang/String;)V"⟩), (Cond.declares ⟨"java/lang/Exception", "<init>", "()V"⟩), (Cond.declares ⟨"java/lang/Exception", "<init>", "(Ljava/lang/String;)V"⟩), (Cond.declares ⟨"java/lang/Throwable", "<init>", "()V"⟩), (Cond.declares ⟨"java/lang/Throwable", "<init>", "(Ljava/lang/String;)V"⟩), (Cond.castable "java/lang/IllegalArgumentException" "java/lang/IllegalArgumentException"), (Cond.castable "java/lang/IllegalStateException" "java/lang/IllegalStateException"), (Cond.fieldLinkNest "RubbingMirrors" 188 "RubbingMirrors$Node" "asked" "I" "RubbingMirrors"), (Cond.fieldLinkNest "RubbingMirrors" 191 "RubbingMirrors$Node" "named" "I" "RubbingMirrors"), (Cond.fieldLinkNest "RubbingMirrors" 213 "RubbingMirrors$Rule" "year" "I" "RubbingMirrors"), (Cond.fieldLinkNest "RubbingMirrors" 216 "RubbingMirrors$Rule" "until" "I" "RubbingMirrors"), (Cond.methodLinkNest "RubbingMirrors$Rule" 34 y_M_isWithin "RubbingMirrors"), (Cond.castable "RubbingMirrors$Shape" "RubbingMirrors$Shape"), (Cond.castable "RubbingMirrors$Node" "RubbingMirrors$Node"), (Cond.castable "RubbingMirrors$Rule" "RubbingMirrors$Rule"), (Cond.declares ⟨"java/lang/Object", "getClass", "()Ljava/lang/Class;"⟩), (Cond.castable "RubbingMirrors" "java/lang/Object"), (Cond.castable "RubbingMirrors$Best" "java/lang/Object"), (Cond.castable "RubbingMirrors$Row" "java/lang/Object"), (Cond.castable "RubbingMirrorsModel" "java/lang/Object"), (Cond.castable "RubbingMirrors$Shape" "java/lang/Object"), (Cond.castable "RubbingMirrors$Node" "java/lang/Object"), (Cond.castable "RubbingMirrors$Rule" "java/lang/Object"), (Cond.castable "java/lang/String" "java/lang/Object")]
def STL : List (Nat × String) := [(53, "no such place"), (64, "v is not NONE .. 255"), (71, "no such what"), (89, "no mirror counts"), (106, "step is not 1 .. n - 1"), (112, "from is not 1 .. n - 1, or to not from .. n - 1"), (114, "step is not 0 .. n - 1"), (119, "mirror is not NONE .. 2 n - 2"), (127, "length is not 2 .. 16"), (130, "there are 8 shapes"), (139, "no such shape"), (146, "no such place in the shape"), (148, "v is not 0 .. 255"), (154, "no shape counts anywhere"), (159, "kind is not 0 .. 1000"), (161, "there are 16 nodes"), (168, "no such node"), (170, "q is not 0 .. 15"), (173, "bits or known is not 0 .. 65535"), (179, "there are no nodes"), (194, "from or to is no place"), (196, "to is below from"), (198, "least is not 0 .. 255, or greatest not least .. 255"), (200, "year is not -10000 .. 10000, or until not year .. 10000"), (202, "there are 8 rules"), (219, "no rule holds"), (221, "there is no common part")]
def NCL : List (String × String) := [("java/lang/IndexOutOfBoundsException", "java/lang/IllegalArgumentException"), ("java/lang/IndexOutOfBoundsException", "java/lang/IllegalStateException"), ("java/lang/IllegalArgumentException", "java/lang/IndexOutOfBoundsException"), ("java/lang/IllegalArgumentException", "java/lang/IllegalStateException"), ("java/lang/IllegalStateException", "java/lang/IndexOutOfBoundsException"), ("java/lang/IllegalStateException", "java/lang/IllegalArgumentException")]
theorem nw_0 : Cond.methodLinkNest "RubbingMirrors" 24 y_B_init "RubbingMirrors" ∈ NWL := List.mem_of_getElem? (i := 0) rfl
theorem nw_1 : Cond.fieldLinkNest "RubbingMirrors" 83 "RubbingMirrors$Best" "found" "Z" "RubbingMirrors" ∈ NWL := List.mem_of_getElem? (i := 1) rfl
theorem nw_2 : Cond.fieldLinkNest "RubbingMirrors" 92 "RubbingMirrors$Best" "which" "I" "RubbingMirrors" ∈ NWL := List.mem_of_getElem? (i := 2) rfl
theorem nw_3 : Cond.fieldLinkNest "RubbingMirrors" 156 "RubbingMirrors$Best" "at" "I" "RubbingMirrors" ∈ NWL := List.mem_of_getElem? (i := 3) rfl
theorem nw_4 : Cond.fieldLinkNest "RubbingMirrors" 96 "RubbingMirrors$Best" "total" "I" "RubbingMirrors" ∈ NWL := List.mem_of_getElem? (i := 4) rfl
theorem nw_5 : Cond.fieldLinkNest "RubbingMirrors" 99 "RubbingMirrors$Best" "count" "I" "RubbingMirrors" ∈ NWL := List.mem_of_getElem? (i := 5) rfl
theorem nw_6 : Cond.castable "java/lang/IndexOutOfBoundsException" "java/lang/IndexOutOfBoundsException" ∈ NWL := List.mem_of_getElem? (i := 6) rfl
theorem nw_7 : Cond.declares ⟨"java/lang/RuntimeException", "<init>", "()V"⟩ ∈ NWL := List.mem_of_getElem? (i := 7) rfl
theorem nw_8 : Cond.declares ⟨"java/lang/RuntimeException", "<init>", "(Ljava/lang/String;)V"⟩ ∈ NWL := List.mem_of_getElem? (i := 8) rfl
theorem nw_9 : Cond.declares ⟨"java/lang/Exception", "<init>", "()V"⟩ ∈ NWL := List.mem_of_getElem? (i := 9) rfl
theorem nw_10 : Cond.declares ⟨"java/lang/Exception", "<init>", "(Ljava/lang/String;)V"⟩ ∈ NWL := List.mem_of_getElem? (i := 10) rfl
theorem nw_11 : Cond.declares ⟨"java/lang/Throwable", "<init>", "()V"⟩ ∈ NWL := List.mem_of_getElem? (i := 11) rfl
theorem nw_12 : Cond.declares ⟨"java/lang/Throwable", "<init>", "(Ljava/lang/String;)V"⟩ ∈ NWL := List.mem_of_getElem? (i := 12) rfl
theorem nw_13 : Cond.castable "java/lang/IllegalArgumentException" "java/lang/IllegalArgumentException" ∈ NWL := List.mem_of_getElem? (i := 13) rfl
theorem nw_14 : Cond.castable "java/lang/IllegalStateException" "java/lang/IllegalStateException" ∈ NWL := List.mem_of_getElem? (i := 14) rfl
theorem nw_15 : Cond.fieldLinkNest "RubbingMirrors" 188 "RubbingMirrors$Node" "asked" "I" "RubbingMirrors" ∈ NWL := List.mem_of_getElem? (i := 15) rfl
theorem nw_16 : Cond.fieldLinkNest "RubbingMirrors" 191 "RubbingMirrors$Node" "named" "I" "RubbingMirrors" ∈ NWL := List.mem_of_getElem? (i := 16) rfl
theorem nw_17 : Cond.fieldLinkNest "RubbingMirrors" 213 "RubbingMirrors$Rule" "year" "I" "RubbingMirrors" ∈ NWL := List.mem_of_getElem? (i := 17) rfl
theorem nw_18 : Cond.fieldLinkNest "RubbingMirrors" 216 "RubbingMirrors$Rule" "until" "I" "RubbingMirrors" ∈ NWL := List.mem_of_getElem? (i := 18) rfl
theorem nw_19 : Cond.methodLinkNest "RubbingMirrors$Rule" 34 y_M_isWithin "RubbingMirrors" ∈ NWL := List.mem_of_getElem? (i := 19) rfl
theorem nw_20 : Cond.castable "RubbingMirrors$Shape" "RubbingMirrors$Shape" ∈ NWL := List.mem_of_getElem? (i := 20) rfl
theorem nw_21 : Cond.castable "RubbingMirrors$Node" "RubbingMirrors$Node" ∈ NWL := List.mem_of_getElem? (i := 21) rfl
theorem nw_22 : Cond.castable "RubbingMirrors$Rule" "RubbingMirrors$Rule" ∈ NWL := List.mem_of_getElem? (i := 22) rfl
theorem nw_23 : Cond.declares ⟨"java/lang/Object", "getClass", "()Ljava/lang/Class;"⟩ ∈ NWL := List.mem_of_getElem? (i := 23) rfl
theorem nw_24 : Cond.castable "RubbingMirrors" "java/lang/Object" ∈ NWL := List.mem_of_getElem? (i := 24) rfl
theorem nw_25 : Cond.castable "RubbingMirrors$Best" "java/lang/Object" ∈ NWL := List.mem_of_getElem? (i := 25) rfl
theorem nw_26 : Cond.castable "RubbingMirrors$Row" "java/lang/Object" ∈ NWL := List.mem_of_getElem? (i := 26) rfl
theorem nw_27 : Cond.castable "RubbingMirrorsModel" "java/lang/Object" ∈ NWL := List.mem_of_getElem? (i := 27) rfl
theorem nw_28 : Cond.castable "RubbingMirrors$Shape" "java/lang/Object" ∈ NWL := List.mem_of_getElem? (i := 28) rfl
theorem nw_29 : Cond.castable "RubbingMirrors$Node" "java/lang/Object" ∈ NWL := List.mem_of_getElem? (i := 29) rfl
theorem nw_30 : Cond.castable "RubbingMirrors$Rule" "java/lang/Object" ∈ NWL := List.mem_of_getElem? (i := 30) rfl
theorem nw_31 : Cond.castable "java/lang/String" "java/lang/Object" ∈ NWL := List.mem_of_getElem? (i := 31) rfl
theorem st_53 : (53, "no such place") ∈ STL := List.mem_of_getElem? (i := 0) rfl
theorem st_64 : (64, "v is not NONE .. 255") ∈ STL := List.mem_of_getElem? (i := 1) rfl
theorem st_71 : (71, "no such what") ∈ STL := List.mem_of_getElem? (i := 2) rfl
theorem st_89 : (89, "no mirror counts") ∈ STL := List.mem_of_getElem? (i := 3) rfl
theorem st_106 : (106, "step is not 1 .. n - 1") ∈ STL := List.mem_of_getElem? (i := 4) rfl
theorem st_112 : (112, "from is not 1 .. n - 1, or to not from .. n - 1") ∈ STL := List.mem_of_getElem? (i := 5) rfl
theorem st_114 : (114, "step is not 0 .. n - 1") ∈ STL := List.mem_of_getElem? (i := 6) rfl
theorem st_119 : (119, "mirror is not NONE .. 2 n - 2") ∈ STL := List.mem_of_getElem? (i := 7) rfl
theorem st_127 : (127, "length is not 2 .. 16") ∈ STL := List.mem_of_getElem? (i := 8) rfl
theorem st_130 : (130, "there are 8 shapes") ∈ STL := List.mem_of_getElem? (i := 9) rfl
theorem st_139 : (139, "no such shape") ∈ STL := List.mem_of_getElem? (i := 10) rfl
theorem st_146 : (146, "no such place in the shape") ∈ STL := List.mem_of_getElem? (i := 11) rfl
theorem st_148 : (148, "v is not 0 .. 255") ∈ STL := List.mem_of_getElem? (i := 12) rfl
theorem st_154 : (154, "no shape counts anywhere") ∈ STL := List.mem_of_getElem? (i := 13) rfl
theorem st_159 : (159, "kind is not 0 .. 1000") ∈ STL := List.mem_of_getElem? (i := 14) rfl
theorem st_161 : (161, "there are 16 nodes") ∈ STL := List.mem_of_getElem? (i := 15) rfl
theorem st_168 : (168, "no such node") ∈ STL := List.mem_of_getElem? (i := 16) rfl
theorem st_170 : (170, "q is not 0 .. 15") ∈ STL := List.mem_of_getElem? (i := 17) rfl
theorem st_173 : (173, "bits or known is not 0 .. 65535") ∈ STL := List.mem_of_getElem? (i := 18) rfl
theorem st_179 : (179, "there are no nodes") ∈ STL := List.mem_of_getElem? (i := 19) rfl
theorem st_194 : (194, "from or to is no place") ∈ STL := List.mem_of_getElem? (i := 20) rfl
theorem st_196 : (196, "to is below from") ∈ STL := List.mem_of_getElem? (i := 21) rfl
theorem st_198 : (198, "least is not 0 .. 255, or greatest not least .. 255") ∈ STL := List.mem_of_getElem? (i := 22) rfl
theorem st_200 : (200, "year is not -10000 .. 10000, or until not year .. 10000") ∈ STL := List.mem_of_getElem? (i := 23) rfl
theorem st_202 : (202, "there are 8 rules") ∈ STL := List.mem_of_getElem? (i := 24) rfl
theorem st_219 : (219, "no rule holds") ∈ STL := List.mem_of_getElem? (i := 25) rfl
theorem st_221 : (221, "there is no common part") ∈ STL := List.mem_of_getElem? (i := 26) rfl

def nwk : Cond → Bool
  | .fieldLinkNest .. => true
  | .methodLinkNest .. => true
  | .castable .. => true
  | .declares _ => true
  | _ => false
theorem nwk_all : NWL.all nwk = true := by decide +kernel
theorem nwk_w {w : Cond} (hk : nwk w = true) {s U : State} (hW : s.WarmedH U.vm) (h : va_Nw w s) : va_Nw w U := by
  cases w with
  | fieldLinkNest a i b n d h9 => exact h.warmF hW
  | methodLinkNest a i x h9 => exact h.warmM hW
  | castable a b => exact h.warmC hW
  | declares x => exact h.warmD hW
  | _ => cases hk
theorem nwk_s {w : Cond} (hk : nwk w = true) {s U : State} (hv : s.vm = U.vm) (h : va_Nw w s) : va_Nw w U := by
  cases w with
  | fieldLinkNest a i b n d h9 => exact h.same rfl hv
  | methodLinkNest a i x h9 => exact h.same rfl hv
  | castable a b => exact h.same rfl hv
  | declares x => exact h.same rfl hv
  | _ => cases hk
/-- what every method may take as given of the tables, beside GT -/
def nW (U : State) : Prop := (∀ w ∈ NWL, va_Nw w U) ∧ (∀ q ∈ STL, ∃ a, vk_R "RubbingMirrors" q.1 q.2 a U) ∧ (∀ q ∈ NCL, va_Nc q.1 q.2 U) ∧ va_AO "java/lang/Object" U
theorem nW.warm {s U : State} (hW : s.WarmedH U.vm) (h : nW s) : nW U :=
  ⟨fun w hw => nwk_w (List.all_eq_true.mp nwk_all w hw) hW (h.1 w hw), fun q hq => (h.2.1 q hq).imp fun a ha => ha.warm hW, fun q hq => (h.2.2.1 q hq).moved hW.alike, h.2.2.2.moved hW.alike⟩
theorem nW.same {s U : State} (hv : s.vm = U.vm) (h : nW s) : nW U :=
  ⟨fun w hw => nwk_s (List.all_eq_true.mp nwk_all w hw) hv (h.1 w hw), fun q hq => (h.2.1 q hq).imp fun a ha => ha.same hv.symm, fun q hq => (h.2.2.1 q hq).moved (hv ▸ Vm.Alike.refl s.vm), h.2.2.2.moved (hv ▸ Vm.Alike.refl s.vm)⟩
theorem gs2 {own : String} {idx : Nat} {y : MethodName} {b : ByteArray} {mL : Nat} {ret : Option FieldType} (h1 : Cond.methodLink own idx y ∈ GT) (h2 : Cond.static y ∈ GT) (h4 : Cond.initialized y.cls ∈ GT) (h : Cond.code y b mL ret ∈ GT) : GoodIn GT (va_wsS own idx y (wq y b mL ret)) := by
  intro w hw
  rcases List.mem_append.mp hw with hw | hw
  · simp only [List.mem_cons, List.not_mem_nil, or_false] at hw
    rcases hw with rfl | rfl | rfl
    · exact gt_g h1
    · exact gt_g h2
    · exact gt_g h4
  · exact gq h w hw

/-- the array classes that the worlds speak of -/
abbrev TY (cI cZ cJ cO : ClassId) : List (ClassId × FieldType) := [(cI, .int), (cZ, .boolean), (cJ, .long), (cO, .object "java/lang/Object")]
/-- a reader's start: the cells ws are there -/
def rP (D : va_G) (tys : List (ClassId × FieldType)) (ws : va_W) (av : List Value) : Array Value → State → Prop := va_Pc av (fun U => va_P D cls ws U.heap ∧ va_K D cls tys U ∧ nW U)
theorem rp_blind {D : va_G} {tys : List (ClassId × FieldType)} {ws : va_W} {av : List Value} : FrameBlind (rP D tys ws av) := fun a U g mk q => by
  obtain ⟨q0, qP, qK, qN⟩ := q
  exact ⟨q0, qP, va_K.moved (u := U) (U := U.calling g mk a) (Vm.Alike.refl U.vm) qK, nW.same (s := U) (U := U.calling g mk a) rfl qN⟩
theorem pS {s : State} {H : Heap} {D : va_G} {tys : List (ClassId × FieldType)} {ws : va_W} {As : List Value} (hP : va_P D cls ws H) (hK : va_K D cls tys s) (hN : nW s) : PreS s H (rP D tys ws As) As :=
  ⟨rp_blind, fun U hU hW => ⟨rfl, by rw [hU]; exact hP, va_K.moved hW.alike hK, hN.warm hW⟩⟩
theorem pV {s : State} {H : Heap} {D : va_G} {tys : List (ClassId × FieldType)} {ws : va_W} {C : String} {b : Nat} {As : List Value} (hP : va_P D cls ws H) (hK : va_K D cls tys s) (hN : nW s) (hr : ∃ cell : Cell, H[b]? = some cell ∧ cell.vm.isStatics = false ∧ s.vm.findClass C = some cell.cls) : PreV s H C b (rP D tys ws (.ref b :: As)) As :=
  ⟨rp_blind, hr, fun U hU hW => ⟨rfl, by rw [hU]; exact hP, va_K.moved hW.alike hK, hN.warm hW⟩⟩
theorem ba_nil {D : va_G} {H : Heap} : va_P D cls [] H := ba_P.mpr fun _ h => absurd h List.not_mem_nil
theorem ile {x y : Int32} : x ≤ y ↔ x.toInt ≤ y.toInt := Int32.le_iff_toInt_le
theorem ilt {x y : Int32} : x < y ↔ x.toInt < y.toInt := Int32.lt_iff_toInt_lt
theorem ieq {x y : Int32} : x = y ↔ x.toInt = y.toInt := Int32.toInt_inj.symm
theorem lle {x y : Int64} : x ≤ y ↔ x.toInt ≤ y.toInt := Int64.le_iff_toInt_le
theorem llt {x y : Int64} : x < y ↔ x.toInt < y.toInt := Int64.lt_iff_toInt_lt
theorem nz_bI (b : Bool) : narrow .boolean (.int (bI b)) = .int (bI b) := by cases b <;> rfl
theorem i0 : (0 : Int32).toInt = 0 := rfl
theorem i1 : (1 : Int32).toInt = 1 := rfl
theorem im1 : (-1 : Int32).toInt = -1 := rfl
theorem t_nil2 {free : Addr → Prop} : ∀ q ∈ ([] : List Loc), free q.base := fun q h => by cases h
/-- THE ROW: n places, depths d, guesses g -/
abbrev rowW (cI cZ : ClassId) (h0 da ga : Nat) (n : Nat) (d g : Nat → Int32) : va_W := [(h0, .inr (2, [.ref da, .ref ga])), (da, .inl (cI, n, .inl d)), (ga, .inl (cZ, n, .inl g))]
/-- x is a place -/
def hs (n : Nat) (x : Int) : Bool := decide (0 ≤ x) && decide (x < n)
/-- x is a place that is KNOWN -/
def kn (n : Nat) (d g : Nat → Int32) (x : Int) : Bool := hs n x && decide (d x.toNat ≠ -1) && decide (g x.toNat = 0)
theorem hs_iff {n : Nat} {x : Int} : hs n x = true ↔ 0 ≤ x ∧ x < n := by simp [hs]
theorem hs_in {n : Nat} {x : Int32} (h : hs n x.toInt = true) : vp_in x n := vp_in_iff.mpr (hs_iff.mp h)
theorem ofNat_toInt {n : Nat} (h : n < 2 ^ 31) : (Int32.ofNat n).toInt = (n : Int) := nI_toInt h
