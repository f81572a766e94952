-- ===== PART A: goes FIRST, ahead of the names: the tables' words, and 'selects' of the private methods out of them =====
/-- a private method of a class that the tables say can be made, by its rows of tables_1 -/
def lw_okq (q : MethodName × Nat) : Prop := (q.1.cls ≠ "java/lang/invoke/MethodHandle" ∧ q.1.cls ≠ "java/lang/invoke/VarHandle") ∧ Cond.instantiable q.1.cls q.2 ∈ tables_1 ∧ Cond.privateMethod q.1 ∈ tables_1 ∧ Cond.instanceMethod q.1 ∈ tables_1
theorem lw_p0 : lw_okq (⟨"java/lang/Throwable", "fillInStackTrace", "(I)Ljava/lang/Throwable;"⟩, 6) := ⟨⟨by decide +kernel, by decide +kernel⟩, List.mem_of_getElem? (i := 187) (by decide +kernel), List.mem_of_getElem? (i := 185) (by decide +kernel), List.mem_of_getElem? (i := 186) (by decide +kernel)⟩
theorem lw_p1 : lw_okq (⟨"RubbingMirrors", "findMirror", "()V"⟩, 5) := ⟨⟨by decide +kernel, by decide +kernel⟩, List.mem_of_getElem? (i := 24) (by decide +kernel), List.mem_of_getElem? (i := 265) (by decide +kernel), List.mem_of_getElem? (i := 266) (by decide +kernel)⟩
theorem lw_p2 : lw_okq (⟨"RubbingMirrors$Best", "isBetter", "(II)Z"⟩, 5) := ⟨⟨by decide +kernel, by decide +kernel⟩, List.mem_of_getElem? (i := 58) (by decide +kernel), List.mem_of_getElem? (i := 297) (by decide +kernel), List.mem_of_getElem? (i := 298) (by decide +kernel)⟩
theorem lw_p3 : lw_okq (⟨"RubbingMirrors$Row", "sourceFor", "(III)I"⟩, 2) := ⟨⟨by decide +kernel, by decide +kernel⟩, List.mem_of_getElem? (i := 85) (by decide +kernel), List.mem_of_getElem? (i := 350) (by decide +kernel), List.mem_of_getElem? (i := 351) (by decide +kernel)⟩
theorem lw_p4 : lw_okq (⟨"java/util/ArrayList", "add", "(Ljava/lang/Object;[Ljava/lang/Object;I)V"⟩, 3) := ⟨⟨by decide +kernel, by decide +kernel⟩, List.mem_of_getElem? (i := 32) (by decide +kernel), List.mem_of_getElem? (i := 382) (by decide +kernel), List.mem_of_getElem? (i := 383) (by decide +kernel)⟩
theorem lw_p5 : lw_okq (⟨"java/util/ArrayList", "grow", "()[Ljava/lang/Object;"⟩, 3) := ⟨⟨by decide +kernel, by decide +kernel⟩, List.mem_of_getElem? (i := 32) (by decide +kernel), List.mem_of_getElem? (i := 386) (by decide +kernel), List.mem_of_getElem? (i := 387) (by decide +kernel)⟩
theorem lw_p6 : lw_okq (⟨"java/util/ArrayList", "grow", "(I)[Ljava/lang/Object;"⟩, 3) := ⟨⟨by decide +kernel, by decide +kernel⟩, List.mem_of_getElem? (i := 32) (by decide +kernel), List.mem_of_getElem? (i := 390) (by decide +kernel), List.mem_of_getElem? (i := 391) (by decide +kernel)⟩
theorem lw_p7 : lw_okq (⟨"RubbingMirrors", "findMatch", "()V"⟩, 5) := ⟨⟨by decide +kernel, by decide +kernel⟩, List.mem_of_getElem? (i := 24) (by decide +kernel), List.mem_of_getElem? (i := 472) (by decide +kernel), List.mem_of_getElem? (i := 473) (by decide +kernel)⟩
theorem lw_p8 : lw_okq (⟨"RubbingMirrors", "lastAsked", "(II)LRubbingMirrors$Node;"⟩, 5) := ⟨⟨by decide +kernel, by decide +kernel⟩, List.mem_of_getElem? (i := 24) (by decide +kernel), List.mem_of_getElem? (i := 546) (by decide +kernel), List.mem_of_getElem? (i := 547) (by decide +kernel)⟩
theorem lw_p9 : lw_okq (⟨"RubbingMirrorsModel", "isPlace", "(J)Z"⟩, 17) := ⟨⟨by decide +kernel, by decide +kernel⟩, List.mem_of_getElem? (i := 617) (by decide +kernel), List.mem_of_getElem? (i := 683) (by decide +kernel), List.mem_of_getElem? (i := 684) (by decide +kernel)⟩
theorem lw_p10 : lw_okq (⟨"RubbingMirrorsModel", "findMirror", "()V"⟩, 17) := ⟨⟨by decide +kernel, by decide +kernel⟩, List.mem_of_getElem? (i := 617) (by decide +kernel), List.mem_of_getElem? (i := 700) (by decide +kernel), List.mem_of_getElem? (i := 701) (by decide +kernel)⟩
theorem lw_p11 : lw_okq (⟨"RubbingMirrorsModel", "isKnown", "(J)Z"⟩, 17) := ⟨⟨by decide +kernel, by decide +kernel⟩, List.mem_of_getElem? (i := 617) (by decide +kernel), List.mem_of_getElem? (i := 704) (by decide +kernel), List.mem_of_getElem? (i := 705) (by decide +kernel)⟩
theorem lw_p12 : lw_okq (⟨"RubbingMirrorsModel", "isBetter", "(JI)Z"⟩, 17) := ⟨⟨by decide +kernel, by decide +kernel⟩, List.mem_of_getElem? (i := 617) (by decide +kernel), List.mem_of_getElem? (i := 708) (by decide +kernel), List.mem_of_getElem? (i := 709) (by decide +kernel)⟩
theorem lw_p13 : lw_okq (⟨"RubbingMirrorsModel", "sumOf", "(I)J"⟩, 17) := ⟨⟨by decide +kernel, by decide +kernel⟩, List.mem_of_getElem? (i := 617) (by decide +kernel), List.mem_of_getElem? (i := 717) (by decide +kernel), List.mem_of_getElem? (i := 718) (by decide +kernel)⟩
theorem lw_p14 : lw_okq (⟨"RubbingMirrorsModel", "source", "(III)I"⟩, 17) := ⟨⟨by decide +kernel, by decide +kernel⟩, List.mem_of_getElem? (i := 617) (by decide +kernel), List.mem_of_getElem? (i := 729) (by decide +kernel), List.mem_of_getElem? (i := 730) (by decide +kernel)⟩
theorem lw_p15 : lw_okq (⟨"RubbingMirrorsModel", "findMatch", "()V"⟩, 17) := ⟨⟨by decide +kernel, by decide +kernel⟩, List.mem_of_getElem? (i := 617) (by decide +kernel), List.mem_of_getElem? (i := 750) (by decide +kernel), List.mem_of_getElem? (i := 751) (by decide +kernel)⟩
def lw_privs_1 : List (MethodName × Nat) := [(⟨"java/lang/Throwable", "fillInStackTrace", "(I)Ljava/lang/Throwable;"⟩, 6), (⟨"RubbingMirrors", "findMirror", "()V"⟩, 5), (⟨"RubbingMirrors$Best", "isBetter", "(II)Z"⟩, 5), (⟨"RubbingMirrors$Row", "sourceFor", "(III)I"⟩, 2), (⟨"java/util/ArrayList", "add", "(Ljava/lang/Object;[Ljava/lang/Object;I)V"⟩, 3), (⟨"java/util/ArrayList", "grow", "()[Ljava/lang/Object;"⟩, 3), (⟨"java/util/ArrayList", "grow", "(I)[Ljava/lang/Object;"⟩, 3), (⟨"RubbingMirrors", "findMatch", "()V"⟩, 5), (⟨"RubbingMirrors", "lastAsked", "(II)LRubbingMirrors$Node;"⟩, 5), (⟨"RubbingMirrorsModel", "isPlace", "(J)Z"⟩, 17), (⟨"RubbingMirrorsModel", "findMirror", "()V"⟩, 17), (⟨"RubbingMirrorsModel", "isKnown", "(J)Z"⟩, 17), (⟨"RubbingMirrorsModel", "isBetter", "(JI)Z"⟩, 17), (⟨"RubbingMirrorsModel", "sumOf", "(I)J"⟩, 17), (⟨"RubbingMirrorsModel", "source", "(III)I"⟩, 17), (⟨"RubbingMirrorsModel", "findMatch", "()V"⟩, 17)]
theorem lw_r1 : ∀ q ∈ lw_privs_1, lw_okq q := List.forall_mem_cons.mpr ⟨lw_p0, List.forall_mem_cons.mpr ⟨lw_p1, List.forall_mem_cons.mpr ⟨lw_p2, List.forall_mem_cons.mpr ⟨lw_p3, List.forall_mem_cons.mpr ⟨lw_p4, List.forall_mem_cons.mpr ⟨lw_p5, List.forall_mem_cons.mpr ⟨lw_p6, List.forall_mem_cons.mpr ⟨lw_p7, List.forall_mem_cons.mpr ⟨lw_p8, List.forall_mem_cons.mpr ⟨lw_p9, List.forall_mem_cons.mpr ⟨lw_p10, List.forall_mem_cons.mpr ⟨lw_p11, List.forall_mem_cons.mpr ⟨lw_p12, List.forall_mem_cons.mpr ⟨lw_p13, List.forall_mem_cons.mpr ⟨lw_p14, List.forall_mem_cons.mpr ⟨lw_p15, fun _ h => absurd h List.not_mem_nil⟩⟩⟩⟩⟩⟩⟩⟩⟩⟩⟩⟩⟩⟩⟩⟩
theorem lw_p16 : lw_okq (⟨"RubbingMirrorsModel", "holds", "(I)Z"⟩, 17) := ⟨⟨by decide +kernel, by decide +kernel⟩, List.mem_of_getElem? (i := 617) (by decide +kernel), List.mem_of_getElem? (i := 780) (by decide +kernel), List.mem_of_getElem? (i := 781) (by decide +kernel)⟩
def lw_privs_2 : List (MethodName × Nat) := [(⟨"RubbingMirrorsModel", "holds", "(I)Z"⟩, 17)]
theorem lw_r2 : ∀ q ∈ lw_privs_2, lw_okq q := List.forall_mem_cons.mpr ⟨lw_p16, fun _ h => absurd h List.not_mem_nil⟩
def lw_privs : List (MethodName × Nat) := lw_privs_1 ++ (lw_privs_2)
def lw_tbl : List Cond := k2_sels lw_privs ++ tables_1
theorem lw_privs_ok : ∀ q ∈ lw_privs, lw_okq q := by
  show ∀ q ∈ lw_privs_1 ++ (lw_privs_2), lw_okq q
  exact List.forall_mem_append.mpr ⟨lw_r1, lw_r2⟩
/-- the tables' words that every call keeps: one list for all methods -/
def GT : List Cond := lw_tbl.filter goodWord
theorem gt_tbl : ∀ w ∈ GT, w ∈ lw_tbl := fun _ h => (List.mem_filter.mp h).1
theorem gt_good : ∀ w ∈ GT, goodWord w = true := fun _ h => (List.mem_filter.mp h).2
theorem gm {w : Cond} (k : Nat) (h : lw_tbl[k]? = some w) (hg : goodWord w = true) : w ∈ GT := List.mem_filter.mpr ⟨List.mem_of_getElem? h, hg⟩
/-- a method's words: its code, and GT -/
abbrev wq (y : MethodName) (b : ByteArray) (mL : Nat) (ret : Option FieldType) : List Cond := Cond.code y b mL ret :: GT
theorem gt_g {w : Cond} (h : w ∈ GT) : w ∈ GT ∧ ((w.onTables && w.keeps) = true ∨ ∃ ty, w = .arrayClass ty) := ⟨h, good_of_word (gt_good w h)⟩
theorem gq {y : MethodName} {b : ByteArray} {mL : Nat} {ret : Option FieldType} (h : Cond.code y b mL ret ∈ GT) : GoodIn GT (wq y b mL ret) := fun w hw => gt_g ((List.mem_cons.mp hw).elim (fun e => e ▸ h) id)
theorem gv {own : String} {idx : Nat} {C : String} {y : MethodName} {b : ByteArray} {mL : Nat} {ret : Option FieldType} (h1 : Cond.methodLink own idx y ∈ GT) (h2 : Cond.instanceMethod y ∈ GT) (h3 : Cond.selects C y y ∈ GT) (h4 : Cond.initialized C ∈ GT) (h : Cond.code y b mL ret ∈ GT) : GoodIn GT (wsV own idx C y (wq y b mL ret)) := by
  intro w hw
  rcases List.mem_append.mp hw with hw | hw
  · simp only [List.mem_cons, List.not_mem_nil, or_false] at hw
    rcases hw with rfl | rfl | rfl | rfl
    · exact gt_g h1
    · exact gt_g h2
    · exact gt_g h3
    · exact gt_g h4
  · exact gq h w hw
theorem gs {own : String} {idx : Nat} {y : MethodName} {b : ByteArray} {mL : Nat} {ret : Option FieldType} (h1 : Cond.methodLink own idx y ∈ GT) (h2 : Cond.static y ∈ GT) (h4 : Cond.initialized own ∈ GT) (h : Cond.code y b mL ret ∈ GT) : GoodIn GT (wsS own idx y (wq y b mL ret)) := by
  intro w hw
  rcases List.mem_append.mp hw with hw | hw
  · simp only [List.mem_cons, List.not_mem_nil, or_false] at hw
    rcases hw with rfl | rfl | rfl
    · exact gt_g h1
    · exact gt_g h2
    · exact gt_g h4
  · exact gq h w hw
theorem gt_h {args : Array Value} {s : State} {y : MethodName} {b : ByteArray} {mL : Nat} {ret : Option FieldType} (h : ∀ w ∈ wq y b mL ret, w.before args s = true) : ∀ w ∈ GT, w.before args s = true := fun w hw => h w (List.mem_cons_of_mem _ hw)
/-! names of methods: code, name, decode rows (by my own program out of the Statement) -/
abbrev c_M_init : ByteArray := prog_1_method_1_code
abbrev y_M_init : MethodName := ⟨"RubbingMirrors", "<init>", "(I)V"⟩
abbrev c_O_init : ByteArray := object_method_1_code
abbrev y_O_init : MethodName := ⟨"java/lang/Object", "<init>", "()V"⟩
abbrev c_A_init : ByteArray := prog_23_method_2_code
abbrev y_A_init : MethodName := ⟨"java/util/ArrayList", "<init>", "()V"⟩
abbrev c_AL_init : ByteArray := prog_22_method_1_code
abbrev y_AL_init : MethodName := ⟨"java/util/AbstractList", "<init>", "()V"⟩
abbrev c_AC_init : ByteArray := prog_21_method_1_code
abbrev y_AC_init : MethodName := ⟨"java/util/AbstractCollection", "<init>", "()V"⟩
abbrev c_B_init : ByteArray := prog_2_method_1_code
abbrev y_B_init : MethodName := ⟨"RubbingMirrors$Best", "<init>", "()V"⟩
abbrev c_MA_min : ByteArray := prog_16_method_69_code
abbrev y_MA_min : MethodName := ⟨"java/lang/Math", "min", "(II)I"⟩
abbrev c_MA_max : ByteArray := prog_16_method_65_code
abbrev y_MA_max : MethodName := ⟨"java/lang/Math", "max", "(II)I"⟩
abbrev c_R_init : ByteArray := prog_4_method_1_code
abbrev y_R_init : MethodName := ⟨"RubbingMirrors$Row", "<init>", "(I)V"⟩
abbrev c_AR_fill : ByteArray := prog_24_method_103_code
abbrev y_AR_fill : MethodName := ⟨"java/util/Arrays", "fill", "([II)V"⟩
abbrev c_M_forget : ByteArray := prog_1_method_8_code
abbrev y_M_forget : MethodName := ⟨"RubbingMirrors", "forget", "()I"⟩
abbrev c_R_loseGuesses : ByteArray := prog_4_method_14_code
abbrev y_R_loseGuesses : MethodName := ⟨"RubbingMirrors$Row", "loseGuesses", "()I"⟩
abbrev c_L_cell : ByteArray := method_2_code
abbrev y_L_cell : MethodName := ⟨"RubbingMirrorsLaw", "cell", "([II)I"⟩
abbrev c_L_depth : ByteArray := method_3_code
abbrev y_L_depth : MethodName := ⟨"RubbingMirrorsLaw", "depth", "(LRubbingMirrors;II)I"⟩
abbrev c_M_depth : ByteArray := prog_1_method_2_code
abbrev y_M_depth : MethodName := ⟨"RubbingMirrors", "depth", "(II)V"⟩
abbrev c_R_has : ByteArray := prog_4_method_4_code
abbrev y_R_has : MethodName := ⟨"RubbingMirrors$Row", "has", "(I)Z"⟩
abbrev c_M_isWithin : ByteArray := prog_1_method_17_code
abbrev y_M_isWithin : MethodName := ⟨"RubbingMirrors", "isWithin", "(III)Z"⟩
abbrev c_R_put : ByteArray := prog_4_method_8_code
abbrev y_R_put : MethodName := ⟨"RubbingMirrors$Row", "put", "(II)V"⟩
abbrev c_L_place : ByteArray := method_4_code
abbrev y_L_place : MethodName := ⟨"RubbingMirrorsLaw", "place", "(LRubbingMirrors;II[J)I"⟩
abbrev c_M_place : ByteArray := prog_1_method_3_code
abbrev y_M_place : MethodName := ⟨"RubbingMirrors", "place", "(II)I"⟩
abbrev c_R_depthAt : ByteArray := prog_4_method_5_code
abbrev y_R_depthAt : MethodName := ⟨"RubbingMirrors$Row", "depthAt", "(I)I"⟩
abbrev c_R_isGuess : ByteArray := prog_4_method_6_code
abbrev y_R_isGuess : MethodName := ⟨"RubbingMirrors$Row", "isGuess", "(I)Z"⟩
abbrev c_L_mirror : ByteArray := method_5_code
abbrev y_L_mirror : MethodName := ⟨"RubbingMirrorsLaw", "mirror", "(LRubbingMirrors;I[J)I"⟩
abbrev c_M_mirror : ByteArray := prog_1_method_4_code
abbrev y_M_mirror : MethodName := ⟨"RubbingMirrors", "mirror", "(I)J"⟩
abbrev c_M_findMirror : ByteArray := prog_1_method_18_code
abbrev y_M_findMirror : MethodName := ⟨"RubbingMirrors", "findMirror", "()V"⟩
abbrev c_R_size : ByteArray := prog_4_method_2_code
abbrev y_R_size : MethodName := ⟨"RubbingMirrors$Row", "size", "()I"⟩
abbrev c_B_clear : ByteArray := prog_2_method_2_code
abbrev y_B_clear : MethodName := ⟨"RubbingMirrors$Best", "clear", "()V"⟩
abbrev c_R_lastMirror : ByteArray := prog_4_method_3_code
abbrev y_R_lastMirror : MethodName := ⟨"RubbingMirrors$Row", "lastMirror", "()I"⟩
abbrev c_R_mirrorPairs : ByteArray := prog_4_method_9_code
abbrev y_R_mirrorPairs : MethodName := ⟨"RubbingMirrors$Row", "mirrorPairs", "(I)I"⟩
abbrev c_R_isKnown : ByteArray := prog_4_method_7_code
abbrev y_R_isKnown : MethodName := ⟨"RubbingMirrors$Row", "isKnown", "(I)Z"⟩
abbrev c_R_mirrorOff : ByteArray := prog_4_method_10_code
abbrev y_R_mirrorOff : MethodName := ⟨"RubbingMirrors$Row", "mirrorOff", "(I)I"⟩
abbrev c_B_offer : ByteArray := prog_2_method_3_code
abbrev y_B_offer : MethodName := ⟨"RubbingMirrors$Best", "offer", "(IIII)V"⟩
abbrev c_B_isBetter : ByteArray := prog_2_method_4_code
abbrev y_B_isBetter : MethodName := ⟨"RubbingMirrors$Best", "isBetter", "(II)Z"⟩
abbrev c_L_sum : ByteArray := method_6_code
abbrev y_L_sum : MethodName := ⟨"RubbingMirrorsLaw", "sum", "(LRubbingMirrors;I[J)I"⟩
abbrev c_M_sum : ByteArray := prog_1_method_5_code
abbrev y_M_sum : MethodName := ⟨"RubbingMirrors", "sum", "(I)J"⟩
abbrev c_R_repeatSum : ByteArray := prog_4_method_11_code
abbrev y_R_repeatSum : MethodName := ⟨"RubbingMirrors$Row", "repeatSum", "(I)J"⟩
abbrev c_L_repeat_ : ByteArray := method_7_code
abbrev y_L_repeat_ : MethodName := ⟨"RubbingMirrorsLaw", "repeat", "(LRubbingMirrors;II[J)I"⟩
abbrev c_M_repeat_ : ByteArray := prog_1_method_6_code
abbrev y_M_repeat_ : MethodName := ⟨"RubbingMirrors", "repeat", "(II)I"⟩
abbrev c_L_fill : ByteArray := method_8_code
abbrev y_L_fill : MethodName := ⟨"RubbingMirrorsLaw", "fill", "(LRubbingMirrors;II[J)I"⟩
abbrev c_M_fill : ByteArray := prog_1_method_7_code
abbrev y_M_fill : MethodName := ⟨"RubbingMirrors", "fill", "(II)I"⟩
abbrev c_R_guessLost : ByteArray := prog_4_method_12_code
abbrev y_R_guessLost : MethodName := ⟨"RubbingMirrors$Row", "guessLost", "(II)I"⟩
abbrev c_R_sourceFor : ByteArray := prog_4_method_13_code
abbrev y_R_sourceFor : MethodName := ⟨"RubbingMirrors$Row", "sourceFor", "(III)I"⟩
abbrev c_L_shape : ByteArray := method_9_code
abbrev y_L_shape : MethodName := ⟨"RubbingMirrorsLaw", "shape", "(LRubbingMirrors;I[J)I"⟩
abbrev c_M_shape : ByteArray := prog_1_method_9_code
abbrev y_M_shape : MethodName := ⟨"RubbingMirrors", "shape", "(I)I"⟩
abbrev c_A_size : ByteArray := prog_23_method_8_code
abbrev y_A_size : MethodName := ⟨"java/util/ArrayList", "size", "()I"⟩
abbrev c_S_init : ByteArray := prog_6_method_1_code
abbrev y_S_init : MethodName := ⟨"RubbingMirrors$Shape", "<init>", "(I)V"⟩
abbrev c_A_add : ByteArray := prog_23_method_25_code
abbrev y_A_add : MethodName := ⟨"java/util/ArrayList", "add", "(Ljava/lang/Object;)Z"⟩
abbrev c_A_add2 : ByteArray := prog_23_method_24_code
abbrev y_A_add2 : MethodName := ⟨"java/util/ArrayList", "add", "(Ljava/lang/Object;[Ljava/lang/Object;I)V"⟩
abbrev c_A_grow : ByteArray := prog_23_method_7_code
abbrev y_A_grow : MethodName := ⟨"java/util/ArrayList", "grow", "()[Ljava/lang/Object;"⟩
abbrev c_A_grow2 : ByteArray := prog_23_method_6_code
abbrev y_A_grow2 : MethodName := ⟨"java/util/ArrayList", "grow", "(I)[Ljava/lang/Object;"⟩
abbrev c_AS_newLength : ByteArray := prog_30_method_27_code
abbrev y_AS_newLength : MethodName := ⟨"jdk/internal/util/ArraysSupport", "newLength", "(III)I"⟩
abbrev c_AS_hugeLength : ByteArray := prog_30_method_28_code
abbrev y_AS_hugeLength : MethodName := ⟨"jdk/internal/util/ArraysSupport", "hugeLength", "(II)I"⟩
abbrev c_AR_copyOf : ByteArray := prog_24_method_119_code
abbrev y_AR_copyOf : MethodName := ⟨"java/util/Arrays", "copyOf", "([Ljava/lang/Object;I)[Ljava/lang/Object;"⟩
abbrev c_AR_copyOf2 : ByteArray := prog_24_method_120_code
abbrev y_AR_copyOf2 : MethodName := ⟨"java/util/Arrays", "copyOf", "([Ljava/lang/Object;ILjava/lang/Class;)[Ljava/lang/Object;"⟩
abbrev c_L_carve : ByteArray := method_10_code
abbrev y_L_carve : MethodName := ⟨"RubbingMirrorsLaw", "carve", "(LRubbingMirrors;III)I"⟩
abbrev c_M_carve : ByteArray := prog_1_method_10_code
abbrev y_M_carve : MethodName := ⟨"RubbingMirrors", "carve", "(III)V"⟩
abbrev c_A_get : ByteArray := prog_23_method_20_code
abbrev y_A_get : MethodName := ⟨"java/util/ArrayList", "get", "(I)Ljava/lang/Object;"⟩
abbrev c_OB_checkIndex : ByteArray := prog_27_method_17_code
abbrev y_OB_checkIndex : MethodName := ⟨"java/util/Objects", "checkIndex", "(II)I"⟩
abbrev c_PC_checkIndex : ByteArray := prog_31_method_11_code
abbrev y_PC_checkIndex : MethodName := ⟨"jdk/internal/util/Preconditions", "checkIndex", "(IILjava/util/function/BiFunction;)I"⟩
abbrev c_A_elementData : ByteArray := prog_23_method_18_code
abbrev y_A_elementData : MethodName := ⟨"java/util/ArrayList", "elementData", "(I)Ljava/lang/Object;"⟩
abbrev c_S_has : ByteArray := prog_6_method_2_code
abbrev y_S_has : MethodName := ⟨"RubbingMirrors$Shape", "has", "(I)Z"⟩
abbrev c_S_put : ByteArray := prog_6_method_3_code
abbrev y_S_put : MethodName := ⟨"RubbingMirrors$Shape", "put", "(II)V"⟩
abbrev c_L_match_ : ByteArray := method_11_code
abbrev y_L_match_ : MethodName := ⟨"RubbingMirrorsLaw", "match", "(LRubbingMirrors;I[J)I"⟩
abbrev c_M_match_ : ByteArray := prog_1_method_11_code
abbrev y_M_match_ : MethodName := ⟨"RubbingMirrors", "match", "(I)I"⟩
abbrev c_M_findMatch : ByteArray := prog_1_method_19_code
abbrev y_M_findMatch : MethodName := ⟨"RubbingMirrors", "findMatch", "()V"⟩
abbrev c_S_coverAt : ByteArray := prog_6_method_5_code
abbrev y_S_coverAt : MethodName := ⟨"RubbingMirrors$Shape", "coverAt", "(LRubbingMirrors$Row;I)I"⟩
abbrev c_S_leastCover : ByteArray := prog_6_method_4_code
abbrev y_S_leastCover : MethodName := ⟨"RubbingMirrors$Shape", "leastCover", "()I"⟩
abbrev c_S_missAt : ByteArray := prog_6_method_6_code
abbrev y_S_missAt : MethodName := ⟨"RubbingMirrors$Shape", "missAt", "(LRubbingMirrors$Row;I)I"⟩
abbrev c_MA_abs : ByteArray := prog_16_method_59_code
abbrev y_MA_abs : MethodName := ⟨"java/lang/Math", "abs", "(I)I"⟩
abbrev c_L_kind : ByteArray := method_12_code
abbrev y_L_kind : MethodName := ⟨"RubbingMirrorsLaw", "kind", "(LRubbingMirrors;I[J)I"⟩
abbrev c_M_kind : ByteArray := prog_1_method_12_code
abbrev y_M_kind : MethodName := ⟨"RubbingMirrors", "kind", "(I)I"⟩
abbrev c_N_init : ByteArray := prog_3_method_1_code
abbrev y_N_init : MethodName := ⟨"RubbingMirrors$Node", "<init>", "(IIII)V"⟩
abbrev c_L_question : ByteArray := method_13_code
abbrev y_L_question : MethodName := ⟨"RubbingMirrorsLaw", "question", "(LRubbingMirrors;III[J)I"⟩
abbrev c_M_question : ByteArray := prog_1_method_13_code
abbrev y_M_question : MethodName := ⟨"RubbingMirrors", "question", "(III)I"⟩
abbrev c_L_ask : ByteArray := method_14_code
abbrev y_L_ask : MethodName := ⟨"RubbingMirrorsLaw", "ask", "(LRubbingMirrors;II[J)I"⟩
abbrev c_M_ask : ByteArray := prog_1_method_14_code
abbrev y_M_ask : MethodName := ⟨"RubbingMirrors", "ask", "(II)I"⟩
abbrev c_A_isEmpty : ByteArray := prog_23_method_9_code
abbrev y_A_isEmpty : MethodName := ⟨"java/util/ArrayList", "isEmpty", "()Z"⟩
abbrev c_M_lastAsked : ByteArray := prog_1_method_20_code
abbrev y_M_lastAsked : MethodName := ⟨"RubbingMirrors", "lastAsked", "(II)LRubbingMirrors$Node;"⟩
abbrev c_N_isAnsweredBy : ByteArray := prog_3_method_3_code
abbrev y_N_isAnsweredBy : MethodName := ⟨"RubbingMirrors$Node", "isAnsweredBy", "(I)Z"⟩
abbrev c_N_isQuestion : ByteArray := prog_3_method_2_code
abbrev y_N_isQuestion : MethodName := ⟨"RubbingMirrors$Node", "isQuestion", "()Z"⟩
abbrev c_N_nextBy : ByteArray := prog_3_method_4_code
abbrev y_N_nextBy : MethodName := ⟨"RubbingMirrors$Node", "nextBy", "(I)I"⟩
abbrev c_L_rule : ByteArray := method_15_code
abbrev y_L_rule : MethodName := ⟨"RubbingMirrorsLaw", "rule", "(LRubbingMirrors;IIIIII[J)I"⟩
abbrev c_M_rule : ByteArray := prog_1_method_15_code
abbrev y_M_rule : MethodName := ⟨"RubbingMirrors", "rule", "(IIIIII)I"⟩
abbrev c_U_init : ByteArray := prog_5_method_1_code
abbrev y_U_init : MethodName := ⟨"RubbingMirrors$Rule", "<init>", "(IIIIII)V"⟩
abbrev c_L_age : ByteArray := method_16_code
abbrev y_L_age : MethodName := ⟨"RubbingMirrorsLaw", "age", "(LRubbingMirrors;I[J)I"⟩
abbrev c_M_age : ByteArray := prog_1_method_16_code
abbrev y_M_age : MethodName := ⟨"RubbingMirrors", "age", "(I)I"⟩
abbrev c_U_holdsOn : ByteArray := prog_5_method_2_code
abbrev y_U_holdsOn : MethodName := ⟨"RubbingMirrors$Rule", "holdsOn", "(LRubbingMirrors$Row;)Z"⟩
abbrev c_T_init : ByteArray := prog_8_method_1_code
abbrev y_T_init : MethodName := ⟨"RubbingMirrorsModel", "<init>", "(I)V"⟩
abbrev c_T_thrown : ByteArray := prog_8_method_2_code
abbrev y_T_thrown : MethodName := ⟨"RubbingMirrorsModel", "thrown", "()I"⟩
abbrev c_T_depth : ByteArray := prog_8_method_6_code
abbrev y_T_depth : MethodName := ⟨"RubbingMirrorsModel", "depth", "(II)V"⟩
abbrev c_T_isPlace : ByteArray := prog_8_method_4_code
abbrev y_T_isPlace : MethodName := ⟨"RubbingMirrorsModel", "isPlace", "(J)Z"⟩
abbrev c_T_isIn : ByteArray := prog_8_method_3_code
abbrev y_T_isIn : MethodName := ⟨"RubbingMirrorsModel", "isIn", "(JJJ)Z"⟩
abbrev c_T_place : ByteArray := prog_8_method_7_code
abbrev y_T_place : MethodName := ⟨"RubbingMirrorsModel", "place", "(II)I"⟩
abbrev c_T_mirror : ByteArray := prog_8_method_10_code
abbrev y_T_mirror : MethodName := ⟨"RubbingMirrorsModel", "mirror", "(I)J"⟩
abbrev c_T_findMirror : ByteArray := prog_8_method_9_code
abbrev y_T_findMirror : MethodName := ⟨"RubbingMirrorsModel", "findMirror", "()V"⟩
abbrev c_T_isKnown : ByteArray := prog_8_method_5_code
abbrev y_T_isKnown : MethodName := ⟨"RubbingMirrorsModel", "isKnown", "(J)Z"⟩
abbrev c_T_isBetter : ByteArray := prog_8_method_8_code
abbrev y_T_isBetter : MethodName := ⟨"RubbingMirrorsModel", "isBetter", "(JI)Z"⟩
abbrev c_T_sum : ByteArray := prog_8_method_12_code
abbrev y_T_sum : MethodName := ⟨"RubbingMirrorsModel", "sum", "(I)J"⟩
abbrev c_T_sumOf : ByteArray := prog_8_method_11_code
abbrev y_T_sumOf : MethodName := ⟨"RubbingMirrorsModel", "sumOf", "(I)J"⟩
abbrev c_T_repeat_ : ByteArray := prog_8_method_13_code
abbrev y_T_repeat_ : MethodName := ⟨"RubbingMirrorsModel", "repeat", "(II)I"⟩
abbrev c_T_fill : ByteArray := prog_8_method_15_code
abbrev y_T_fill : MethodName := ⟨"RubbingMirrorsModel", "fill", "(II)I"⟩
abbrev c_T_source : ByteArray := prog_8_method_14_code
abbrev y_T_source : MethodName := ⟨"RubbingMirrorsModel", "source", "(III)I"⟩
abbrev c_T_forget : ByteArray := prog_8_method_16_code
abbrev y_T_forget : MethodName := ⟨"RubbingMirrorsModel", "forget", "()I"⟩
abbrev c_T_shape : ByteArray := prog_8_method_17_code
abbrev y_T_shape : MethodName := ⟨"RubbingMirrorsModel", "shape", "(I)I"⟩
abbrev c_T_carve : ByteArray := prog_8_method_18_code
abbrev y_T_carve : MethodName := ⟨"RubbingMirrorsModel", "carve", "(III)V"⟩
abbrev c_T_match_ : ByteArray := prog_8_method_20_code
abbrev y_T_match_ : MethodName := ⟨"RubbingMirrorsModel", "match", "(I)I"⟩
abbrev c_T_findMatch : ByteArray := prog_8_method_19_code
abbrev y_T_findMatch : MethodName := ⟨"RubbingMirrorsModel", "findMatch", "()V"⟩
abbrev c_T_kind : ByteArray := prog_8_method_21_code
abbrev y_T_kind : MethodName := ⟨"RubbingMirrorsModel", "kind", "(I)I"⟩
abbrev c_T_question : ByteArray := prog_8_method_22_code
abbrev y_T_question : MethodName := ⟨"RubbingMirrorsModel", "question", "(III)I"⟩
abbrev c_T_ask : ByteArray := prog_8_method_23_code
abbrev y_T_ask : MethodName := ⟨"RubbingMirrorsModel", "ask", "(II)I"⟩
abbrev c_T_rule : ByteArray := prog_8_method_24_code
abbrev y_T_rule : MethodName := ⟨"RubbingMirrorsModel", "rule", "(IIIIII)I"⟩
abbrev c_T_age : ByteArray := prog_8_method_26_code
abbrev y_T_age : MethodName := ⟨"RubbingMirrorsModel", "age", "(I)I"⟩
abbrev c_T_holds : ByteArray := prog_8_method_25_code
abbrev y_T_holds : MethodName := ⟨"RubbingMirrorsModel", "holds", "(I)Z"⟩
abbrev c_L_law : ByteArray := code
abbrev y_L_law : MethodName := ⟨"RubbingMirrorsLaw", "law", "([I)Z"⟩
/-! worlds as sets of cells: any order, any split -/
theorem ba_P {D : va_G} {cl : List vw_C} {ws : va_W} {H : Heap} : va_P D cl ws H ↔ ∀ q ∈ ws, va_at D cl q H := by
  constructor
  · intro h q hq
    obtain ⟨k, hk⟩ := List.mem_iff_getElem?.mp hq
    exact h k q hk
  · intro h k q hk
    exact h q (List.mem_of_getElem? hk)
theorem ba_D {A : Nat → Prop} {ws : va_W} : va_D A ws ↔ (ws.map (fun q => q.1)).Nodup ∧ ∀ q ∈ ws, A q.1 := by
  constructor
  · intro h
    refine ⟨?_, fun q hq => ?_⟩
    · refine List.pairwise_iff_getElem.mpr ?_
      intro i j hi hj hij heq
      rw [List.getElem_map, List.getElem_map] at heq
      have hi' : i < ws.length := by rw [List.length_map] at hi; exact hi
      have hj' : j < ws.length := by rw [List.length_map] at hj; exact hj
      have := h.1 i j ws[i] ws[j] (List.getElem?_eq_getElem hi') (List.getElem?_eq_getElem hj') heq
      omega
    · obtain ⟨k, hk⟩ := List.mem_iff_getElem?.mp hq
      exact h.2 k q hk
  · intro h
    refine ⟨?_, fun k q hk => h.2 q (List.mem_of_getElem? hk)⟩
    intro i j p q hp hq heq
    obtain ⟨hi, ei⟩ := List.getElem?_eq_some_iff.mp hp
    obtain ⟨hj, ej⟩ := List.getElem?_eq_some_iff.mp hq
    have hpw := List.pairwise_iff_getElem.mp h.1
    rcases Nat.lt_trichotomy i j with c | c | c
    · exact absurd (by rw [List.getElem_map, List.getElem_map, ei, ej]; exact heq) (hpw i j (by rw [List.length_map]; exact hi) (by rw [List.length_map]; exact hj) c)
    · exact c
    · exact absurd (by rw [List.getElem_map, List.getElem_map, ei, ej]; exact heq.symm) (hpw j i (by rw [List.length_map]; exact hj) (by rw [List.length_map]; exact hi) c)
theorem ba_Pp {D : va_G} {cl : List vw_C} {ws ws' : va_W} {H : Heap} (hp : List.Perm ws ws') (h : va_P D cl ws H) : va_P D cl ws' H :=
  ba_P.mpr fun q hq => ba_P.mp h q (hp.mem_iff.mpr hq)
theorem ba_Dp {A : Nat → Prop} {ws ws' : va_W} (hp : List.Perm ws ws') (h : va_D A ws) : va_D A ws' :=
  ba_D.mpr ⟨(hp.map (fun q => q.1)).nodup_iff.mp (ba_D.mp h).1, fun q hq => (ba_D.mp h).2 q (hp.mem_iff.mpr hq)⟩
theorem ba_Pl {D : va_G} {cl : List vw_C} {w1 w2 : va_W} {H : Heap} (h : va_P D cl (w1 ++ w2) H) : va_P D cl w1 H := ba_P.mpr fun q hq => ba_P.mp h q (List.mem_append_left _ hq)
theorem ba_Pr {D : va_G} {cl : List vw_C} {w1 w2 : va_W} {H : Heap} (h : va_P D cl (w1 ++ w2) H) : va_P D cl w2 H := ba_P.mpr fun q hq => ba_P.mp h q (List.mem_append_right _ hq)
theorem ba_Dl {A : Nat → Prop} {w1 w2 : va_W} (h : va_D A (w1 ++ w2)) : va_D A w1 := by
  obtain ⟨h1, h2⟩ := ba_D.mp h
  rw [List.map_append] at h1
  exact ba_D.mpr ⟨(List.nodup_append.mp h1).1, fun q hq => h2 q (List.mem_append_left _ hq)⟩
theorem ba_Dr {A : Nat → Prop} {w1 w2 : va_W} (h : va_D A (w1 ++ w2)) : va_D A w2 := by
  obtain ⟨h1, h2⟩ := ba_D.mp h
  rw [List.map_append] at h1
  exact ba_D.mpr ⟨(List.nodup_append.mp h1).2.1, fun q hq => h2 q (List.mem_append_right _ hq)⟩
/-- what a callee may touch: its own cells and all new ones -/
theorem ba_free {A0 : Nat → Prop} {wc wr : va_W} {H0 H : Heap} {locs : List Loc} (hD : va_D A0 (wc ++ wr)) (hS : va_S A0 H0 H locs) (hA : ∀ q, H0.size ≤ q → A0 q) : ∀ q, va_A wc H.size q → A0 q := by
  intro q hq
  rcases hq with ⟨k, e, hk⟩ | hq
  · exact (ba_D.mp hD).2 (q, e) (List.mem_append_left _ (List.mem_of_getElem? hk))
  · exact hA q (Nat.le_trans hS.1 hq)
/-- THE FRAME: behind a call on the cells wc, the other cells wr are as they were -/
theorem ba_join {D : va_G} {cl : List vw_C} {A0 : Nat → Prop} {wc wr w1 : va_W} {H H1 : Heap} (hP : va_P D cl (wc ++ wr) H) (hD : va_D A0 (wc ++ wr)) (hk : ∀ q : Nat, q < H.size → ¬ va_A wc H.size q → H1[q]? = H[q]?) (hF : ∀ q, va_A wc H.size q → A0 q) (hP1 : va_P D cl w1 H1) (hD1 : va_D (va_A wc H.size) w1) : va_P D cl (w1 ++ wr) H1 ∧ va_D A0 (w1 ++ wr) := by
  obtain ⟨d1, d2⟩ := ba_D.mp hD
  rw [List.map_append] at d1
  obtain ⟨dc, dr, dx⟩ := List.nodup_append.mp d1
  have hout : ∀ q ∈ wr, ¬ va_A wc H.size q.1 := by
    intro q hq hA
    rcases hA with ⟨k, e, hk⟩ | hge
    · exact dx q.1 (List.mem_map.mpr ⟨(q.1, e), List.mem_of_getElem? hk, rfl⟩) q.1 (List.mem_map.mpr ⟨q, hq, rfl⟩) rfl
    · exact absurd (ba_P.mp hP q (List.mem_append_right _ hq)).lt (Nat.not_lt.mpr hge)
  have hPr : va_P D cl wr H1 := ba_P.mpr fun q hq => (ba_P.mp hP q (List.mem_append_right _ hq)).kept (hk q.1 (ba_P.mp hP q (List.mem_append_right _ hq)).lt (hout q hq))
  refine ⟨hP1.app hPr, ba_D.mpr ⟨?_, fun q hq => ?_⟩⟩
  · rw [List.map_append]
    refine List.nodup_append.mpr ⟨(ba_D.mp hD1).1, dr, ?_⟩
    intro a ha b hb heq
    obtain ⟨q1, h1, e1⟩ := List.mem_map.mp ha
    obtain ⟨q2, h2, e2⟩ := List.mem_map.mp hb
    exact hout q2 h2 (by rw [e2, ← heq, ← e1]; exact (ba_D.mp hD1).2 q1 h1)
  · rcases List.mem_append.mp hq with h | h
    · exact hF _ ((ba_D.mp hD1).2 q h)
    · exact d2 q (List.mem_append_right _ h)
/-- an array class is the one of its name -/
theorem ba_uniq {D : va_G} {cl : List vw_C} {tys : List (ClassId × FieldType)} {U : State} (h : va_K D cl tys U) {i j : Nat} {a b : ClassId} {ty : FieldType} (h1 : tys[i]? = some (a, ty)) (h2 : tys[j]? = some (b, ty)) : a = b := by
  have r1 := (h.2 i _ h1).2
  have r2 := (h.2 j _ h2).2
  cases ty with
  | object C =>
    obtain ⟨kA, comp, x1, x2, x3, x4⟩ := r1
    obtain ⟨kB, comp', y1, y2, y3, y4⟩ := r2
    exact Option.some.inj (x4.symm.trans y4)
  | _ => exact Option.some.inj (r1.symm.trans r2)
/-- a boolean as an int -/
def bI (b : Bool) : Int32 := if b then 1 else 0
theorem bI_ne0 {b : Bool} (h : ¬ bI b = 0) : b = true := by cases b with | true => rfl | false => exact absurd rfl h
theorem bI_eq0 {b : Bool} (h : bI b = 0) : b = false := by cases b with | false => rfl | true => exact absurd h (by decide)
theorem bI_t : bI true = 1 := rfl
theorem bI_f : bI false = 0 := rfl
