section
-- ===== PART A: goes FIRST, ahead of the names: the tables' words, and 'selects' of the private methods out of them =====
/-- a private method of a class that the tables say can be made, by its rows of tables_1 -/
def lw_okq (q : MethodName × Nat) : Prop := (q.1.cls ≠ "java/lang/invoke/MethodHandle" ∧ q.1.cls ≠ "java/lang/invoke/VarHandle") ∧ Cond.instantiable q.1.cls q.2 ∈ tables_1 ∧ Cond.privateMethod q.1 ∈ tables_1 ∧ Cond.instanceMethod q.1 ∈ tables_1
theorem lw_p0 : lw_okq (⟨"java/lang/Throwable", "fillInStackTrace", "(I)Ljava/lang/Throwable;"⟩, 6) := ⟨⟨by decide +kernel, by decide +kernel⟩, List.mem_of_getElem? (i := 187) (by decide +kernel), List.mem_of_getElem? (i := 185) (by decide +kernel), List.mem_of_getElem? (i := 186) (by decide +kernel)⟩
theorem lw_p1 : lw_okq (⟨"RubbingMirrors", "findMirror", "()V"⟩, 5) := ⟨⟨by decide +kernel, by decide +kernel⟩, List.mem_of_getElem? (i := 24) (by decide +kernel), List.mem_of_getElem? (i := 265) (by decide +kernel), List.mem_of_getElem? (i := 266) (by decide +kernel)⟩
theorem lw_p2 : lw_okq (⟨"RubbingMirrors$Best", "isBetter", "(II)Z"⟩, 5) := ⟨⟨by decide +kernel, by decide +kernel⟩, List.mem_of_getElem? (i := 58) (by decide +kernel), List.mem_of_getElem? (i := 297) (by decide +kernel), List.mem_of_getElem? (i := 298) (by decide +kernel)⟩
theorem lw_p3 : lw_okq (⟨"RubbingMirrors$Row", "sourceFor", "(III)I"⟩, 2) := ⟨⟨by decide +kernel, by decide +kernel⟩, List.mem_of_getElem? (i := 85) (by decide +kernel), List.mem_of_getElem? (i := 350) (by decide +kernel), List.mem_of_getElem? (i := 351) (by decide +kernel)⟩
theorem lw_p4 : lw_okq (⟨"java/util/ArrayList", "add", "(Ljava/lang/Object;[Ljava/lang/Object;I)V"⟩, 3) := ⟨⟨by decide +kernel, by decide +kernel⟩, List.mem_of_getElem? (i := 32) (by decide +kernel), List.mem_of_getElem? (i := 382) (by decide +kernel), List.mem_of_getElem? (i := 383) (by decide +kernel)⟩
theorem lw_p5 : lw_okq (⟨"java/util/ArrayList", "grow", "()[Ljava/lang/Object;"⟩, 3) := ⟨⟨by decide +kernel, by decide +kernel⟩, List.mem_of_getElem? (i := 32) (by decide +kernel), List.mem_of_getElem? (i := 386) (by decide +kernel), List.mem_of_getElem? (i := 387) (by decide +kernel)⟩
theorem lw_p6 : lw_okq (⟨"java/util/ArrayList", "grow", "(I)[Ljava/lang/Object;"⟩, 3) := ⟨⟨by decide +kernel, by decide +kernel⟩, List.mem_of_getElem? (i := 32) (by decide +kernel), List.mem_of_getElem? (i := 390) (by decide +kernel), List.mem_of_getElem? (i := 391) (by decide +kernel)⟩
theorem lw_p7 : lw_okq (⟨"RubbingMirrors", "findMatch", "()V"⟩, 5) := ⟨⟨by decide +kernel, by decide +kernel⟩, List.mem_of_getElem? (i := 24) (by decide +kernel), List.mem_of_getElem? (i := 472) (by decide +kernel), List.mem_of_getElem? (i := 473) (by decide +kernel)⟩
theorem lw_p8 : lw_okq (⟨"RubbingMirrors", "lastAsked", "(II)I"⟩, 5) := ⟨⟨by decide +kernel, by decide +kernel⟩, List.mem_of_getElem? (i := 24) (by decide +kernel), List.mem_of_getElem? (i := 546) (by decide +kernel), List.mem_of_getElem? (i := 547) (by decide +kernel)⟩
theorem lw_p9 : lw_okq (⟨"RubbingMirrorsModel", "isPlace", "(J)Z"⟩, 17) := ⟨⟨by decide +kernel, by decide +kernel⟩, List.mem_of_getElem? (i := 617) (by decide +kernel), List.mem_of_getElem? (i := 683) (by decide +kernel), List.mem_of_getElem? (i := 684) (by decide +kernel)⟩
theorem lw_p10 : lw_okq (⟨"RubbingMirrorsModel", "findMirror", "()V"⟩, 17) := ⟨⟨by decide +kernel, by decide +kernel⟩, List.mem_of_getElem? (i := 617) (by decide +kernel), List.mem_of_getElem? (i := 700) (by decide +kernel), List.mem_of_getElem? (i := 701) (by decide +kernel)⟩
theorem lw_p11 : lw_okq (⟨"RubbingMirrorsModel", "isKnown", "(J)Z"⟩, 17) := ⟨⟨by decide +kernel, by decide +kernel⟩, List.mem_of_getElem? (i := 617) (by decide +kernel), List.mem_of_getElem? (i := 704) (by decide +kernel), List.mem_of_getElem? (i := 705) (by decide +kernel)⟩
theorem lw_p12 : lw_okq (⟨"RubbingMirrorsModel", "isBetter", "(JI)Z"⟩, 17) := ⟨⟨by decide +kernel, by decide +kernel⟩, List.mem_of_getElem? (i := 617) (by decide +kernel), List.mem_of_getElem? (i := 708) (by decide +kernel), List.mem_of_getElem? (i := 709) (by decide +kernel)⟩
theorem lw_p13 : lw_okq (⟨"RubbingMirrorsModel", "sumOf", "(I)J"⟩, 17) := ⟨⟨by decide +kernel, by decide +kernel⟩, List.mem_of_getElem? (i := 617) (by decide +kernel), List.mem_of_getElem? (i := 717) (by decide +kernel), List.mem_of_getElem? (i := 718) (by decide +kernel)⟩
theorem lw_p14 : lw_okq (⟨"RubbingMirrorsModel", "source", "(III)I"⟩, 17) := ⟨⟨by decide +kernel, by decide +kernel⟩, List.mem_of_getElem? (i := 617) (by decide +kernel), List.mem_of_getElem? (i := 729) (by decide +kernel), List.mem_of_getElem? (i := 730) (by decide +kernel)⟩
theorem lw_p15 : lw_okq (⟨"RubbingMirrorsModel", "findMatch", "()V"⟩, 17) := ⟨⟨by decide +kernel, by decide +kernel⟩, List.mem_of_getElem? (i := 617) (by decide +kernel), List.mem_of_getElem? (i := 750) (by decide +kernel), List.mem_of_getElem? (i := 751) (by decide +kernel)⟩
def lw_privs_1 : List (MethodName × Nat) := [(⟨"java/lang/Throwable", "fillInStackTrace", "(I)Ljava/lang/Throwable;"⟩, 6), (⟨"RubbingMirrors", "findMirror", "()V"⟩, 5), (⟨"RubbingMirrors$Best", "isBetter", "(II)Z"⟩, 5), (⟨"RubbingMirrors$Row", "sourceFor", "(III)I"⟩, 2), (⟨"java/util/ArrayList", "add", "(Ljava/lang/Object;[Ljava/lang/Object;I)V"⟩, 3), (⟨"java/util/ArrayList", "grow", "()[Ljava/lang/Object;"⟩, 3), (⟨"java/util/ArrayList", "grow", "(I)[Ljava/lang/Object;"⟩, 3), (⟨"RubbingMirrors", "findMatch", "()V"⟩, 5), (⟨"RubbingMirrors", "lastAsked", "(II)I"⟩, 5), (⟨"RubbingMirrorsModel", "isPlace", "(J)Z"⟩, 17), (⟨"RubbingMirrorsModel", "findMirror", "()V"⟩, 17), (⟨"RubbingMirrorsModel", "isKnown", "(J)Z"⟩, 17), (⟨"RubbingMirrorsModel", "isBetter", "(JI)Z"⟩, 17), (⟨"RubbingMirrorsModel", "sumOf", "(I)J"⟩, 17), (⟨"RubbingMirrorsModel", "source", "(III)I"⟩, 17), (⟨"RubbingMirrorsModel", "findMatch", "()V"⟩, 17)]
theorem lw_r1 : ∀ q ∈ lw_privs_1, lw_okq q := List.forall_mem_cons.mpr ⟨lw_p0, List.forall_mem_cons.mpr ⟨lw_p1, List.forall_mem_cons.mpr ⟨lw_p2, List.forall_mem_cons.mpr ⟨lw_p3, List.forall_mem_cons.mpr ⟨lw_p4, List.forall_mem_cons.mpr ⟨lw_p5, List.forall_mem_cons.mpr ⟨lw_p6, List.forall_mem_cons.mpr ⟨lw_p7, List.forall_mem_cons.mpr ⟨lw_p8, List.forall_mem_cons.mpr ⟨lw_p9, List.forall_mem_cons.mpr ⟨lw_p10, List.forall_mem_cons.mpr ⟨lw_p11, List.forall_mem_cons.mpr ⟨lw_p12, List.forall_mem_cons.mpr ⟨lw_p13, List.forall_mem_cons.mpr ⟨lw_p14, List.forall_mem_cons.mpr ⟨lw_p15, fun _ h => absurd h List.not_mem_nil⟩⟩⟩⟩⟩⟩⟩⟩⟩⟩⟩⟩⟩⟩⟩⟩
theorem lw_p16 : lw_okq (⟨"RubbingMirrorsModel", "holds", "(I)Z"⟩, 17) := ⟨⟨by decide +kernel, by decide +kernel⟩, List.mem_of_getElem? (i := 617) (by decide +kernel), List.mem_of_getElem? (i := 780) (by decide +kernel), List.mem_of_getElem? (i := 781) (by decide +kernel)⟩
def lw_privs_2 : List (MethodName × Nat) := [(⟨"RubbingMirrorsModel", "holds", "(I)Z"⟩, 17)]
theorem lw_r2 : ∀ q ∈ lw_privs_2, lw_okq q := List.forall_mem_cons.mpr ⟨lw_p16, fun _ h => absurd h List.not_mem_nil⟩
def lw_privs : List (MethodName × Nat) := lw_privs_1 ++ (lw_privs_2)
def lw_tbl : List Cond := k2_sels lw_privs ++ tables_1
theorem lw_privs_ok : ∀ q ∈ lw_privs, lw_okq q := by
  show ∀ q ∈ lw_privs_1 ++ (lw_privs_2), lw_okq q
  exact List.forall_mem_append.mpr ⟨lw_r1, lw_r2⟩
/-- the tables' words that every call keeps: one list for all methods -/
def GT : List Cond := lw_tbl.filter goodWord
theorem gt_tbl : ∀ w ∈ GT, w ∈ lw_tbl := fun _ h => (List.mem_filter.mp h).1
theorem gt_good : ∀ w ∈ GT, goodWord w = true := fun _ h => (List.mem_filter.mp h).2
theorem gm {w : Cond} (k : Nat) (h : lw_tbl[k]? = some w) (hg : goodWord w = true) : w ∈ GT := List.mem_filter.mpr ⟨List.mem_of_getElem? h, hg⟩
/-- a method's words: its code, and GT -/
abbrev wq (y : MethodName) (b : ByteArray) (mL : Nat) (ret : Option FieldType) : List Cond := Cond.code y b mL ret :: GT
theorem gt_g {w : Cond} (h : w ∈ GT) : w ∈ GT ∧ ((w.onTables && w.keeps) = true ∨ ∃ ty, w = .arrayClass ty) := ⟨h, good_of_word (gt_good w h)⟩
theorem gq {y : MethodName} {b : ByteArray} {mL : Nat} {ret : Option FieldType} (h : Cond.code y b mL ret ∈ GT) : GoodIn GT (wq y b mL ret) := fun w hw => gt_g ((List.mem_cons.mp hw).elim (fun e => e ▸ h) id)
theorem gv {own : String} {idx : Nat} {C : String} {y : MethodName} {b : ByteArray} {mL : Nat} {ret : Option FieldType} (h1 : Cond.methodLink own idx y ∈ GT) (h2 : Cond.instanceMethod y ∈ GT) (h3 : Cond.selects C y y ∈ GT) (h4 : Cond.initialized C ∈ GT) (h : Cond.code y b mL ret ∈ GT) : GoodIn GT (wsV own idx C y (wq y b mL ret)) := by
  intro w hw
  rcases List.mem_append.mp hw with hw | hw
  · simp only [List.mem_cons, List.not_mem_nil, or_false] at hw
    rcases hw with rfl | rfl | rfl | rfl
    · exact gt_g h1
    · exact gt_g h2
    · exact gt_g h3
    · exact gt_g h4
  · exact gq h w hw
theorem gs {own : String} {idx : Nat} {y : MethodName} {b : ByteArray} {mL : Nat} {ret : Option FieldType} (h1 : Cond.methodLink own idx y ∈ GT) (h2 : Cond.static y ∈ GT) (h4 : Cond.initialized own ∈ GT) (h : Cond.code y b mL ret ∈ GT) : GoodIn GT (wsS own idx y (wq y b mL ret)) := by
  intro w hw
  rcases List.mem_append.mp hw with hw | hw
  · simp only [List.mem_cons, List.not_mem_nil, or_false] at hw
    rcases hw with rfl | rfl | rfl
    · exact gt_g h1
    · exact gt_g h2
    · exact gt_g h4
  · exact gq h w hw
theorem gt_h {args : Array Value} {s : State} {y : MethodName} {b : ByteArray} {mL : Nat} {ret : Option FieldType} (h : ∀ w ∈ wq y b mL ret, w.before args s = true) : ∀ w ∈ GT, w.before args s = true := fun w hw => h w (List.mem_cons_of_mem _ hw)
/-! names of methods: code, name, decode rows (by my own program out of the Statement) -/
abbrev c_M_init : ByteArray := prog_1_method_1_code
abbrev y_M_init : MethodName := ⟨"RubbingMirrors", "<init>", "(I)V"⟩
abbrev c_O_init : ByteArray := object_method_1_code
abbrev y_O_init : MethodName := ⟨"java/lang/Object", "<init>", "()V"⟩
abbrev c_A_init : ByteArray := prog_23_method_2_code
abbrev y_A_init : MethodName := ⟨"java/util/ArrayList", "<init>", "()V"⟩
abbrev c_AL_init : ByteArray := prog_22_method_1_code
abbrev y_AL_init : MethodName := ⟨"java/util/AbstractList", "<init>", "()V"⟩
abbrev c_AC_init : ByteArray := prog_21_method_1_code
abbrev y_AC_init : MethodName := ⟨"java/util/AbstractCollection", "<init>", "()V"⟩
abbrev c_B_init : ByteArray := prog_2_method_1_code
abbrev y_B_init : MethodName := ⟨"RubbingMirrors$Best", "<init>", "()V"⟩
abbrev c_MA_min : ByteArray := prog_16_method_69_code
abbrev y_MA_min : MethodName := ⟨"java/lang/Math", "min", "(II)I"⟩
abbrev c_MA_max : ByteArray := prog_16_method_65_code
abbrev y_MA_max : MethodName := ⟨"java/lang/Math", "max", "(II)I"⟩
abbrev c_R_init : ByteArray := prog_4_method_1_code
abbrev y_R_init : MethodName := ⟨"RubbingMirrors$Row", "<init>", "(I)V"⟩
abbrev c_AR_fill : ByteArray := prog_24_method_103_code
abbrev y_AR_fill : MethodName := ⟨"java/util/Arrays", "fill", "([II)V"⟩
abbrev c_M_forget : ByteArray := prog_1_method_8_code
abbrev y_M_forget : MethodName := ⟨"RubbingMirrors", "forget", "()I"⟩
abbrev c_R_loseGuesses : ByteArray := prog_4_method_14_code
abbrev y_R_loseGuesses : MethodName := ⟨"RubbingMirrors$Row", "loseGuesses", "()I"⟩
abbrev c_L_cell : ByteArray := method_2_code
abbrev y_L_cell : MethodName := ⟨"RubbingMirrorsLaw", "cell", "([II)I"⟩
abbrev c_L_depth : ByteArray := method_3_code
abbrev y_L_depth : MethodName := ⟨"RubbingMirrorsLaw", "depth", "(LRubbingMirrors;II)I"⟩
abbrev c_M_depth : ByteArray := prog_1_method_2_code
abbrev y_M_depth : MethodName := ⟨"RubbingMirrors", "depth", "(II)V"⟩
abbrev c_R_has : ByteArray := prog_4_method_4_code
abbrev y_R_has : MethodName := ⟨"RubbingMirrors$Row", "has", "(I)Z"⟩
abbrev c_M_isWithin : ByteArray := prog_1_method_17_code
abbrev y_M_isWithin : MethodName := ⟨"RubbingMirrors", "isWithin", "(III)Z"⟩
abbrev c_R_put : ByteArray := prog_4_method_8_code
abbrev y_R_put : MethodName := ⟨"RubbingMirrors$Row", "put", "(II)V"⟩
abbrev c_L_place : ByteArray := method_4_code
abbrev y_L_place : MethodName := ⟨"RubbingMirrorsLaw", "place", "(LRubbingMirrors;II[J)I"⟩
abbrev c_M_place : ByteArray := prog_1_method_3_code
abbrev y_M_place : MethodName := ⟨"RubbingMirrors", "place", "(II)I"⟩
abbrev c_R_depthAt : ByteArray := prog_4_method_5_code
abbrev y_R_depthAt : MethodName := ⟨"RubbingMirrors$Row", "depthAt", "(I)I"⟩
abbrev c_R_isGuess : ByteArray := prog_4_method_6_code
abbrev y_R_isGuess : MethodName := ⟨"RubbingMirrors$Row", "isGuess", "(I)Z"⟩
abbrev c_L_mirror : ByteArray := method_5_code
abbrev y_L_mirror : MethodName := ⟨"RubbingMirrorsLaw", "mirror", "(LRubbingMirrors;I[J)I"⟩
abbrev c_M_mirror : ByteArray := prog_1_method_4_code
abbrev y_M_mirror : MethodName := ⟨"RubbingMirrors", "mirror", "(I)J"⟩
abbrev c_M_findMirror : ByteArray := prog_1_method_18_code
abbrev y_M_findMirror : MethodName := ⟨"RubbingMirrors", "findMirror", "()V"⟩
abbrev c_R_size : ByteArray := prog_4_method_2_code
abbrev y_R_size : MethodName := ⟨"RubbingMirrors$Row", "size", "()I"⟩
abbrev c_B_clear : ByteArray := prog_2_method_2_code
abbrev y_B_clear : MethodName := ⟨"RubbingMirrors$Best", "clear", "()V"⟩
abbrev c_R_lastMirror : ByteArray := prog_4_method_3_code
abbrev y_R_lastMirror : MethodName := ⟨"RubbingMirrors$Row", "lastMirror", "()I"⟩
abbrev c_R_mirrorPairs : ByteArray := prog_4_method_9_code
abbrev y_R_mirrorPairs : MethodName := ⟨"RubbingMirrors$Row", "mirrorPairs", "(I)I"⟩
abbrev c_R_isKnown : ByteArray := prog_4_method_7_code
abbrev y_R_isKnown : MethodName := ⟨"RubbingMirrors$Row", "isKnown", "(I)Z"⟩
abbrev c_R_mirrorOff : ByteArray := prog_4_method_10_code
abbrev y_R_mirrorOff : MethodName := ⟨"RubbingMirrors$Row", "mirrorOff", "(I)I"⟩
abbrev c_B_offer : ByteArray := prog_2_method_3_code
abbrev y_B_offer : MethodName := ⟨"RubbingMirrors$Best", "offer", "(IIII)V"⟩
abbrev c_B_isBetter : ByteArray := prog_2_method_4_code
abbrev y_B_isBetter : MethodName := ⟨"RubbingMirrors$Best", "isBetter", "(II)Z"⟩
abbrev c_L_sum : ByteArray := method_6_code
abbrev y_L_sum : MethodName := ⟨"RubbingMirrorsLaw", "sum", "(LRubbingMirrors;I[J)I"⟩
abbrev c_M_sum : ByteArray := prog_1_method_5_code
abbrev y_M_sum : MethodName := ⟨"RubbingMirrors", "sum", "(I)J"⟩
abbrev c_R_repeatSum : ByteArray := prog_4_method_11_code
abbrev y_R_repeatSum : MethodName := ⟨"RubbingMirrors$Row", "repeatSum", "(I)J"⟩
abbrev c_L_repeat_ : ByteArray := method_7_code
abbrev y_L_repeat_ : MethodName := ⟨"RubbingMirrorsLaw", "repeat", "(LRubbingMirrors;II[J)I"⟩
abbrev c_M_repeat_ : ByteArray := prog_1_method_6_code
abbrev y_M_repeat_ : MethodName := ⟨"RubbingMirrors", "repeat", "(II)I"⟩
abbrev c_L_fill : ByteArray := method_8_code
abbrev y_L_fill : MethodName := ⟨"RubbingMirrorsLaw", "fill", "(LRubbingMirrors;II[J)I"⟩
abbrev c_M_fill : ByteArray := prog_1_method_7_code
abbrev y_M_fill : MethodName := ⟨"RubbingMirrors", "fill", "(II)I"⟩
abbrev c_R_guessLost : ByteArray := prog_4_method_12_code
abbrev y_R_guessLost : MethodName := ⟨"RubbingMirrors$Row", "guessLost", "(II)I"⟩
abbrev c_R_sourceFor : ByteArray := prog_4_method_13_code
abbrev y_R_sourceFor : MethodName := ⟨"RubbingMirrors$Row", "sourceFor", "(III)I"⟩
abbrev c_L_shape : ByteArray := method_9_code
abbrev y_L_shape : MethodName := ⟨"RubbingMirrorsLaw", "shape", "(LRubbingMirrors;I[J)I"⟩
abbrev c_M_shape : ByteArray := prog_1_method_9_code
abbrev y_M_shape : MethodName := ⟨"RubbingMirrors", "shape", "(I)I"⟩
abbrev c_A_size : ByteArray := prog_23_method_8_code
abbrev y_A_size : MethodName := ⟨"java/util/ArrayList", "size", "()I"⟩
abbrev c_S_init : ByteArray := prog_6_method_1_code
abbrev y_S_init : MethodName := ⟨"RubbingMirrors$Shape", "<init>", "(I)V"⟩
abbrev c_A_add : ByteArray := prog_23_method_25_code
abbrev y_A_add : MethodName := ⟨"java/util/ArrayList", "add", "(Ljava/lang/Object;)Z"⟩
abbrev c_A_add2 : ByteArray := prog_23_method_24_code
abbrev y_A_add2 : MethodName := ⟨"java/util/ArrayList", "add", "(Ljava/lang/Object;[Ljava/lang/Object;I)V"⟩
abbrev c_A_grow : ByteArray := prog_23_method_7_code
abbrev y_A_grow : MethodName := ⟨"java/util/ArrayList", "grow", "()[Ljava/lang/Object;"⟩
abbrev c_A_grow2 : ByteArray := prog_23_method_6_code
abbrev y_A_grow2 : MethodName := ⟨"java/util/ArrayList", "grow", "(I)[Ljava/lang/Object;"⟩
abbrev c_AS_newLength : ByteArray := prog_30_method_27_code
abbrev y_AS_newLength : MethodName := ⟨"jdk/internal/util/ArraysSupport", "newLength", "(III)I"⟩
abbrev c_AS_hugeLength : ByteArray := prog_30_method_28_code
abbrev y_AS_hugeLength : MethodName := ⟨"jdk/internal/util/ArraysSupport", "hugeLength", "(II)I"⟩
abbrev c_AR_copyOf : ByteArray := prog_24_method_119_code
abbrev y_AR_copyOf : MethodName := ⟨"java/util/Arrays", "copyOf", "([Ljava/lang/Object;I)[Ljava/lang/Object;"⟩
abbrev c_AR_copyOf2 : ByteArray := prog_24_method_120_code
abbrev y_AR_copyOf2 : MethodName := ⟨"java/util/Arrays", "copyOf", "([Ljava/lang/Object;ILjava/lang/Class;)[Ljava/lang/Object;"⟩
abbrev c_L_carve : ByteArray := method_10_code
abbrev y_L_carve : MethodName := ⟨"RubbingMirrorsLaw", "carve", "(LRubbingMirrors;III)I"⟩
abbrev c_M_carve : ByteArray := prog_1_method_10_code
abbrev y_M_carve : MethodName := ⟨"RubbingMirrors", "carve", "(III)V"⟩
abbrev c_A_get : ByteArray := prog_23_method_20_code
abbrev y_A_get : MethodName := ⟨"java/util/ArrayList", "get", "(I)Ljava/lang/Object;"⟩
abbrev c_OB_checkIndex : ByteArray := prog_27_method_17_code
abbrev y_OB_checkIndex : MethodName := ⟨"java/util/Objects", "checkIndex", "(II)I"⟩
abbrev c_PC_checkIndex : ByteArray := prog_31_method_11_code
abbrev y_PC_checkIndex : MethodName := ⟨"jdk/internal/util/Preconditions", "checkIndex", "(IILjava/util/function/BiFunction;)I"⟩
abbrev c_A_elementData : ByteArray := prog_23_method_18_code
abbrev y_A_elementData : MethodName := ⟨"java/util/ArrayList", "elementData", "(I)Ljava/lang/Object;"⟩
abbrev c_S_has : ByteArray := prog_6_method_2_code
abbrev y_S_has : MethodName := ⟨"RubbingMirrors$Shape", "has", "(I)Z"⟩
abbrev c_S_put : ByteArray := prog_6_method_3_code
abbrev y_S_put : MethodName := ⟨"RubbingMirrors$Shape", "put", "(II)V"⟩
abbrev c_L_match_ : ByteArray := method_11_code
abbrev y_L_match_ : MethodName := ⟨"RubbingMirrorsLaw", "match", "(LRubbingMirrors;I[J)I"⟩
abbrev c_M_match_ : ByteArray := prog_1_method_11_code
abbrev y_M_match_ : MethodName := ⟨"RubbingMirrors", "match", "(I)I"⟩
abbrev c_M_findMatch : ByteArray := prog_1_method_19_code
abbrev y_M_findMatch : MethodName := ⟨"RubbingMirrors", "findMatch", "()V"⟩
abbrev c_S_coverAt : ByteArray := prog_6_method_5_code
abbrev y_S_coverAt : MethodName := ⟨"RubbingMirrors$Shape", "coverAt", "(LRubbingMirrors$Row;I)I"⟩
abbrev c_S_leastCover : ByteArray := prog_6_method_4_code
abbrev y_S_leastCover : MethodName := ⟨"RubbingMirrors$Shape", "leastCover", "()I"⟩
abbrev c_S_missAt : ByteArray := prog_6_method_6_code
abbrev y_S_missAt : MethodName := ⟨"RubbingMirrors$Shape", "missAt", "(LRubbingMirrors$Row;I)I"⟩
abbrev c_MA_abs : ByteArray := prog_16_method_59_code
abbrev y_MA_abs : MethodName := ⟨"java/lang/Math", "abs", "(I)I"⟩
abbrev c_L_kind : ByteArray := method_12_code
abbrev y_L_kind : MethodName := ⟨"RubbingMirrorsLaw", "kind", "(LRubbingMirrors;I[J)I"⟩
abbrev c_M_kind : ByteArray := prog_1_method_12_code
abbrev y_M_kind : MethodName := ⟨"RubbingMirrors", "kind", "(I)I"⟩
abbrev c_N_init : ByteArray := prog_3_method_1_code
abbrev y_N_init : MethodName := ⟨"RubbingMirrors$Node", "<init>", "(IIII)V"⟩
abbrev c_L_question : ByteArray := method_13_code
abbrev y_L_question : MethodName := ⟨"RubbingMirrorsLaw", "question", "(LRubbingMirrors;III[J)I"⟩
abbrev c_M_question : ByteArray := prog_1_method_13_code
abbrev y_M_question : MethodName := ⟨"RubbingMirrors", "question", "(III)I"⟩
abbrev c_L_ask : ByteArray := method_14_code
abbrev y_L_ask : MethodName := ⟨"RubbingMirrorsLaw", "ask", "(LRubbingMirrors;II[J)I"⟩
abbrev c_M_ask : ByteArray := prog_1_method_14_code
abbrev y_M_ask : MethodName := ⟨"RubbingMirrors", "ask", "(II)I"⟩
abbrev c_A_isEmpty : ByteArray := prog_23_method_9_code
abbrev y_A_isEmpty : MethodName := ⟨"java/util/ArrayList", "isEmpty", "()Z"⟩
abbrev c_M_lastAsked : ByteArray := prog_1_method_20_code
abbrev y_M_lastAsked : MethodName := ⟨"RubbingMirrors", "lastAsked", "(II)I"⟩
abbrev c_N_isAnsweredBy : ByteArray := prog_3_method_3_code
abbrev y_N_isAnsweredBy : MethodName := ⟨"RubbingMirrors$Node", "isAnsweredBy", "(I)Z"⟩
abbrev c_N_isQuestion : ByteArray := prog_3_method_2_code
abbrev y_N_isQuestion : MethodName := ⟨"RubbingMirrors$Node", "isQuestion", "()Z"⟩
abbrev c_N_nextBy : ByteArray := prog_3_method_4_code
abbrev y_N_nextBy : MethodName := ⟨"RubbingMirrors$Node", "nextBy", "(I)I"⟩
abbrev c_L_rule : ByteArray := method_15_code
abbrev y_L_rule : MethodName := ⟨"RubbingMirrorsLaw", "rule", "(LRubbingMirrors;IIIIII[J)I"⟩
abbrev c_M_rule : ByteArray := prog_1_method_15_code
abbrev y_M_rule : MethodName := ⟨"RubbingMirrors", "rule", "(IIIIII)I"⟩
abbrev c_U_init : ByteArray := prog_5_method_1_code
abbrev y_U_init : MethodName := ⟨"RubbingMirrors$Rule", "<init>", "(IIIIII)V"⟩
abbrev c_L_age : ByteArray := method_16_code
abbrev y_L_age : MethodName := ⟨"RubbingMirrorsLaw", "age", "(LRubbingMirrors;I[J)I"⟩
abbrev c_M_age : ByteArray := prog_1_method_16_code
abbrev y_M_age : MethodName := ⟨"RubbingMirrors", "age", "(I)I"⟩
abbrev c_U_holdsOn : ByteArray := prog_5_method_2_code
abbrev y_U_holdsOn : MethodName := ⟨"RubbingMirrors$Rule", "holdsOn", "(LRubbingMirrors$Row;)Z"⟩
abbrev c_T_init : ByteArray := prog_8_method_1_code
abbrev y_T_init : MethodName := ⟨"RubbingMirrorsModel", "<init>", "(I)V"⟩
abbrev c_T_thrown : ByteArray := prog_8_method_2_code
abbrev y_T_thrown : MethodName := ⟨"RubbingMirrorsModel", "thrown", "()I"⟩
abbrev c_T_depth : ByteArray := prog_8_method_6_code
abbrev y_T_depth : MethodName := ⟨"RubbingMirrorsModel", "depth", "(II)V"⟩
abbrev c_T_isPlace : ByteArray := prog_8_method_4_code
abbrev y_T_isPlace : MethodName := ⟨"RubbingMirrorsModel", "isPlace", "(J)Z"⟩
abbrev c_T_isIn : ByteArray := prog_8_method_3_code
abbrev y_T_isIn : MethodName := ⟨"RubbingMirrorsModel", "isIn", "(JJJ)Z"⟩
abbrev c_T_place : ByteArray := prog_8_method_7_code
abbrev y_T_place : MethodName := ⟨"RubbingMirrorsModel", "place", "(II)I"⟩
abbrev c_T_mirror : ByteArray := prog_8_method_10_code
abbrev y_T_mirror : MethodName := ⟨"RubbingMirrorsModel", "mirror", "(I)J"⟩
abbrev c_T_findMirror : ByteArray := prog_8_method_9_code
abbrev y_T_findMirror : MethodName := ⟨"RubbingMirrorsModel", "findMirror", "()V"⟩
abbrev c_T_isKnown : ByteArray := prog_8_method_5_code
abbrev y_T_isKnown : MethodName := ⟨"RubbingMirrorsModel", "isKnown", "(J)Z"⟩
abbrev c_T_isBetter : ByteArray := prog_8_method_8_code
abbrev y_T_isBetter : MethodName := ⟨"RubbingMirrorsModel", "isBetter", "(JI)Z"⟩
abbrev c_T_sum : ByteArray := prog_8_method_12_code
abbrev y_T_sum : MethodName := ⟨"RubbingMirrorsModel", "sum", "(I)J"⟩
abbrev c_T_sumOf : ByteArray := prog_8_method_11_code
abbrev y_T_sumOf : MethodName := ⟨"RubbingMirrorsModel", "sumOf", "(I)J"⟩
abbrev c_T_repeat_ : ByteArray := prog_8_method_13_code
abbrev y_T_repeat_ : MethodName := ⟨"RubbingMirrorsModel", "repeat", "(II)I"⟩
abbrev c_T_fill : ByteArray := prog_8_method_15_code
abbrev y_T_fill : MethodName := ⟨"RubbingMirrorsModel", "fill", "(II)I"⟩
abbrev c_T_source : ByteArray := prog_8_method_14_code
abbrev y_T_source : MethodName := ⟨"RubbingMirrorsModel", "source", "(III)I"⟩
abbrev c_T_forget : ByteArray := prog_8_method_16_code
abbrev y_T_forget : MethodName := ⟨"RubbingMirrorsModel", "forget", "()I"⟩
abbrev c_T_shape : ByteArray := prog_8_method_17_code
abbrev y_T_shape : MethodName := ⟨"RubbingMirrorsModel", "shape", "(I)I"⟩
abbrev c_T_carve : ByteArray := prog_8_method_18_code
abbrev y_T_carve : MethodName := ⟨"RubbingMirrorsModel", "carve", "(III)V"⟩
abbrev c_T_match_ : ByteArray := prog_8_method_20_code
abbrev y_T_match_ : MethodName := ⟨"RubbingMirrorsModel", "match", "(I)I"⟩
abbrev c_T_findMatch : ByteArray := prog_8_method_19_code
abbrev y_T_findMatch : MethodName := ⟨"RubbingMirrorsModel", "findMatch", "()V"⟩
abbrev c_T_kind : ByteArray := prog_8_method_21_code
abbrev y_T_kind : MethodName := ⟨"RubbingMirrorsModel", "kind", "(I)I"⟩
abbrev c_T_question : ByteArray := prog_8_method_22_code
abbrev y_T_question : MethodName := ⟨"RubbingMirrorsModel", "question", "(III)I"⟩
abbrev c_T_ask : ByteArray := prog_8_method_23_code
abbrev y_T_ask : MethodName := ⟨"RubbingMirrorsModel", "ask", "(II)I"⟩
abbrev c_T_rule : ByteArray := prog_8_method_24_code
abbrev y_T_rule : MethodName := ⟨"RubbingMirrorsModel", "rule", "(IIIIII)I"⟩
abbrev c_T_age : ByteArray := prog_8_method_26_code
abbrev y_T_age : MethodName := ⟨"RubbingMirrorsModel", "age", "(I)I"⟩
abbrev c_T_holds : ByteArray := prog_8_method_25_code
abbrev y_T_holds : MethodName := ⟨"RubbingMirrorsModel", "holds", "(I)Z"⟩
abbrev c_L_law : ByteArray := code
abbrev y_L_law : MethodName := ⟨"RubbingMirrorsLaw", "law", "([I)Z"⟩
/-! worlds as sets of cells: any order, any split -/
theorem ba_P {D : va_G} {cl : List vw_C} {ws : va_W} {H : Heap} : va_P D cl ws H ↔ ∀ q ∈ ws, va_at D cl q H := by
  constructor
  · intro h q hq
    obtain ⟨k, hk⟩ := List.mem_iff_getElem?.mp hq
    exact h k q hk
  · intro h k q hk
    exact h q (List.mem_of_getElem? hk)
theorem ba_D {A : Nat → Prop} {ws : va_W} : va_D A ws ↔ (ws.map (fun q => q.1)).Nodup ∧ ∀ q ∈ ws, A q.1 := by
  constructor
  · intro h
    refine ⟨?_, fun q hq => ?_⟩
    · refine List.pairwise_iff_getElem.mpr ?_
      intro i j hi hj hij heq
      rw [List.getElem_map, List.getElem_map] at heq
      have hi' : i < ws.length := by rw [List.length_map] at hi; exact hi
      have hj' : j < ws.length := by rw [List.length_map] at hj; exact hj
      have := h.1 i j ws[i] ws[j] (List.getElem?_eq_getElem hi') (List.getElem?_eq_getElem hj') heq
      omega
    · obtain ⟨k, hk⟩ := List.mem_iff_getElem?.mp hq
      exact h.2 k q hk
  · intro h
    refine ⟨?_, fun k q hk => h.2 q (List.mem_of_getElem? hk)⟩
    intro i j p q hp hq heq
    obtain ⟨hi, ei⟩ := List.getElem?_eq_some_iff.mp hp
    obtain ⟨hj, ej⟩ := List.getElem?_eq_some_iff.mp hq
    have hpw := List.pairwise_iff_getElem.mp h.1
    rcases Nat.lt_trichotomy i j with c | c | c
    · exact absurd (by rw [List.getElem_map, List.getElem_map, ei, ej]; exact heq) (hpw i j (by rw [List.length_map]; exact hi) (by rw [List.length_map]; exact hj) c)
    · exact c
    · exact absurd (by rw [List.getElem_map, List.getElem_map, ei, ej]; exact heq.symm) (hpw j i (by rw [List.length_map]; exact hj) (by rw [List.length_map]; exact hi) c)
theorem ba_Pp {D : va_G} {cl : List vw_C} {ws ws' : va_W} {H : Heap} (hp : List.Perm ws ws') (h : va_P D cl ws H) : va_P D cl ws' H :=
  ba_P.mpr fun q hq => ba_P.mp h q (hp.mem_iff.mpr hq)
theorem ba_Dp {A : Nat → Prop} {ws ws' : va_W} (hp : List.Perm ws ws') (h : va_D A ws) : va_D A ws' :=
  ba_D.mpr ⟨(hp.map (fun q => q.1)).nodup_iff.mp (ba_D.mp h).1, fun q hq => (ba_D.mp h).2 q (hp.mem_iff.mpr hq)⟩
theorem ba_Pl {D : va_G} {cl : List vw_C} {w1 w2 : va_W} {H : Heap} (h : va_P D cl (w1 ++ w2) H) : va_P D cl w1 H := ba_P.mpr fun q hq => ba_P.mp h q (List.mem_append_left _ hq)
theorem ba_Pr {D : va_G} {cl : List vw_C} {w1 w2 : va_W} {H : Heap} (h : va_P D cl (w1 ++ w2) H) : va_P D cl w2 H := ba_P.mpr fun q hq => ba_P.mp h q (List.mem_append_right _ hq)
theorem ba_Dl {A : Nat → Prop} {w1 w2 : va_W} (h : va_D A (w1 ++ w2)) : va_D A w1 := by
  obtain ⟨h1, h2⟩ := ba_D.mp h
  rw [List.map_append] at h1
  exact ba_D.mpr ⟨(List.nodup_append.mp h1).1, fun q hq => h2 q (List.mem_append_left _ hq)⟩
theorem ba_Dr {A : Nat → Prop} {w1 w2 : va_W} (h : va_D A (w1 ++ w2)) : va_D A w2 := by
  obtain ⟨h1, h2⟩ := ba_D.mp h
  rw [List.map_append] at h1
  exact ba_D.mpr ⟨(List.nodup_append.mp h1).2.1, fun q hq => h2 q (List.mem_append_right _ hq)⟩
/-- what a callee may touch: its own cells and all new ones -/
theorem ba_free {A0 : Nat → Prop} {wc wr : va_W} {H0 H : Heap} {locs : List Loc} (hD : va_D A0 (wc ++ wr)) (hS : va_S A0 H0 H locs) (hA : ∀ q, H0.size ≤ q → A0 q) : ∀ q, va_A wc H.size q → A0 q := by
  intro q hq
  rcases hq with ⟨k, e, hk⟩ | hq
  · exact (ba_D.mp hD).2 (q, e) (List.mem_append_left _ (List.mem_of_getElem? hk))
  · exact hA q (Nat.le_trans hS.1 hq)
/-- THE FRAME: behind a call on the cells wc, the other cells wr are as they were -/
theorem ba_join {D : va_G} {cl : List vw_C} {A0 : Nat → Prop} {wc wr w1 : va_W} {H H1 : Heap} (hP : va_P D cl (wc ++ wr) H) (hD : va_D A0 (wc ++ wr)) (hk : ∀ q : Nat, q < H.size → ¬ va_A wc H.size q → H1[q]? = H[q]?) (hF : ∀ q, va_A wc H.size q → A0 q) (hP1 : va_P D cl w1 H1) (hD1 : va_D (va_A wc H.size) w1) : va_P D cl (w1 ++ wr) H1 ∧ va_D A0 (w1 ++ wr) := by
  obtain ⟨d1, d2⟩ := ba_D.mp hD
  rw [List.map_append] at d1
  obtain ⟨dc, dr, dx⟩ := List.nodup_append.mp d1
  have hout : ∀ q ∈ wr, ¬ va_A wc H.size q.1 := by
    intro q hq hA
    rcases hA with ⟨k, e, hk⟩ | hge
    · exact dx q.1 (List.mem_map.mpr ⟨(q.1, e), List.mem_of_getElem? hk, rfl⟩) q.1 (List.mem_map.mpr ⟨q, hq, rfl⟩) rfl
    · exact absurd (ba_P.mp hP q (List.mem_append_right _ hq)).lt (Nat.not_lt.mpr hge)
  have hPr : va_P D cl wr H1 := ba_P.mpr fun q hq => (ba_P.mp hP q (List.mem_append_right _ hq)).kept (hk q.1 (ba_P.mp hP q (List.mem_append_right _ hq)).lt (hout q hq))
  refine ⟨hP1.app hPr, ba_D.mpr ⟨?_, fun q hq => ?_⟩⟩
  · rw [List.map_append]
    refine List.nodup_append.mpr ⟨(ba_D.mp hD1).1, dr, ?_⟩
    intro a ha b hb heq
    obtain ⟨q1, h1, e1⟩ := List.mem_map.mp ha
    obtain ⟨q2, h2, e2⟩ := List.mem_map.mp hb
    exact hout q2 h2 (by rw [e2, ← heq, ← e1]; exact (ba_D.mp hD1).2 q1 h1)
  · rcases List.mem_append.mp hq with h | h
    · exact hF _ ((ba_D.mp hD1).2 q h)
    · exact d2 q (List.mem_append_right _ h)
/-- an array class is the one of its name -/
theorem ba_uniq {D : va_G} {cl : List vw_C} {tys : List (ClassId × FieldType)} {U : State} (h : va_K D cl tys U) {i j : Nat} {a b : ClassId} {ty : FieldType} (h1 : tys[i]? = some (a, ty)) (h2 : tys[j]? = some (b, ty)) : a = b := by
  have r1 := (h.2 i _ h1).2
  have r2 := (h.2 j _ h2).2
  cases ty with
  | object C =>
    obtain ⟨kA, comp, x1, x2, x3, x4⟩ := r1
    obtain ⟨kB, comp', y1, y2, y3, y4⟩ := r2
    exact Option.some.inj (x4.symm.trans y4)
  | _ => exact Option.some.inj (r1.symm.trans r2)
/-- a boolean as an int -/
def bI (b : Bool) : Int32 := if b then 1 else 0
theorem bI_ne0 {b : Bool} (h : ¬ bI b = 0) : b = true := by cases b with | true => rfl | false => exact absurd rfl h
theorem bI_eq0 {b : Bool} (h : bI b = 0) : b = false := by cases b with | false => rfl | true => exact absurd h (by decide)
theorem bI_t : bI true = 1 := rfl
theorem bI_f : bI false = 0 := rfl
end
section
/-! ===== BEGIN exceptions that leave a method, and their catching by the caller (launches without stack traces) ===== -/
section VXA
/-! The laws vx_back, vx_callV, vx_callS, vx_callSW, vx_throw0, vx_throwS follow proofs of the library, with one case more: JvmDerived/Free/Laws.lean (Back.of_free), Shelf42/LK1.lean (callV, callS), Shelf/KitTraced.lean (throwNew0V, throwNewS). -/
/-- where a method has thrown q: the class by its name, the cell, what was written, the world -/
def vx_T (XC : String → State → State → Prop) (st : State) (q : Addr) (t : State) (mc ms : Nat) (free : Addr → Prop) : Prop :=
  ∃ (E : String) (ce : Cell) (L : List Loc), XC E st t ∧ t.heap[q]? = some ce ∧ ce.vm = .none ∧ st.vm.findClass E = some ce.cls ∧ st.WarmedH t.vm ∧ st.sameButNew ({ t with vm := st.vm } : State) L mc ms ∧ ∀ z ∈ L, free z.base
def vx_Q (Qc : Array Value → State → Outcome → State → Prop) (XC : String → State → State → Prop) (mc ms : Nat) (free : Addr → Prop) : Array Value → State → Outcome → State → Prop := fun a st o t =>
  (Qc a st o t ∧ ∃ L, FrameEnd st o t L mc ms ∧ ∀ q ∈ L, free q.base) ∨ ∃ q, o = .threw q ∧ vx_T XC st q t mc ms free
/-- a callee that returns or throws -/
def vx_Met (l : Launch) (y : MethodName) (ws : List Cond) (rm : Room) (Pc : Array Value → State → Prop) (Qc : Array Value → State → Outcome → State → Prop) (XC : String → State → State → Prop) (mc ms : Nat) (free : Addr → Prop) : Prop :=
  MetFree l y (headSpec ws rm) Pc (fun _ _ _ _ _ => True) (vx_Q Qc XC mc ms free)
def vx_Post (XC : String → State → State → Prop) (mc ms : Nat) (free : Addr → Prop) : Pt → Array Value → Addr → Pt → Prop := fun A a q B =>
  ∃ (g : JFrame) (mk : MethodId) (t : State) (L : List Loc) (E : String) (ce : Cell), B.U.heap = t.heap ∧ B.U.vm = t.vm ∧ XC E (A.U.calling g mk a) t ∧ t.heap[q]? = some ce ∧ ce.vm = .none ∧ A.U.vm.findClass E = some ce.cls ∧ B.locs = A.locs ++ L ∧ (∀ z ∈ L, free z.base) ∧ B.cells = A.cells + mc ∧ B.slots = A.slots + ms
def vx_Back (l : Launch) (R : Room) (p : Program) (e : Env) (below : List Frame) (s : State) (sargs : Array Value) (y : MethodName) (len W9 : Nat)
    (Pre : Pt → Array Value → Prop) (Post : Pt → Array Value → Option Value → Pt → Prop) (PostX : Pt → Array Value → Addr → Pt → Prop) : Prop :=
  ∀ (m : MethodId) (meth : Method) (c : Code) (A : Pt) (g : JFrame) (ig : Instr) (mk : MethodId) (a : Array Value),
    Stand p l e R s m sargs below meth c A.U A.locs A.cells A.slots → g.method = m → g.locals.size = c.maxLocals → decode c.code g.pc = .ok (ig, len) →
    2 * g.monitorRoom + (g.stack.map fun v => v.category).sum ≤ W9 → A.U.methodNamed? y = some mk → Pre A a →
    (∃ (v : Option Value) (B : Pt), Stand p l e R s m sargs below meth c B.U B.locs B.cells B.slots ∧ Post A a v B ∧
      Steps p.tables e below (doInvoke e (A.U.setTop g) [] mk a).1 (B.U.setTop { g with pc := g.pc + len, stack := v.toList ++ g.stack })) ∨
    (∃ (q : Addr) (B : Pt), Stand p l e R s m sargs below meth c B.U B.locs B.cells B.slots ∧ PostX A a q B ∧
      Steps p.tables e below (doInvoke e (A.U.setTop g) [] mk a).1 ((B.U.setTop g).pushFrame (.throwing q)))
section Payer
variable {l : Launch} {R : Room} {p : Program} {e : Env} {below : List Frame} {s : State} {sargs : Array Value} {y : MethodName} {len W9 : Nat}
theorem vx_back {ws : List Cond} {rm : Room} {Pc : Array Value → State → Prop} {Qc : Array Value → State → Outcome → State → Prop} {XC : String → State → State → Prop} {mc ms : Nat} {free : Addr → Prop} {bytes : ByteArray} {maxL : Nat} {ret : Option FieldType}
    (hM : vx_Met l y ws rm Pc Qc XC mc ms free) (hblind : FrameBlind Pc) (hrc : rm.cells = mc) (hrs : rm.slots = ms)
    (hframes : rm.frames + 1 ≤ R.frames) (hlocals : W9 + (maxL + 11) + rm.locals ≤ R.locals)
    (hws : ∀ w ∈ ws, ∀ a' U, s.WarmedH U.vm → w.before a' U = true) (hcode : Cond.code y bytes maxL ret ∈ ws) (hinit : ∀ a' U, s.WarmedH U.vm → (Cond.initialized y.cls).before a' U = true) :
    vx_Back l R p e below s sargs y len W9 (PreOf R mc ms Pc) (PostOf Qc mc ms free) (vx_Post XC mc ms free) := by
  intro m meth c A g ig mk a X hg hsize hdg hW hn hp
  have h1 : (headSpec ws rm).pre.before a A.U = true := atoms_intro fun w hw => hws w hw _ _ X.warmed
  have h2 : (Cond.code y bytes maxL ret).before a A.U = true := hws _ hcode _ _ X.warmed
  have h3 : (Cond.initialized y.cls).before a A.U = true := hinit _ _ X.warmed
  have h4 : A.cells + (headSpec ws rm).room.cells ≤ R.cells := by rw [show (headSpec ws rm).room.cells = mc from hrc]; exact hp.1
  have h5 : A.slots + (headSpec ws rm).room.slots ≤ R.slots := by rw [show (headSpec ws rm).room.slots = ms from hrs]; exact hp.2.1
  have hPc : Pc a (A.U.calling g mk a) := hblind _ _ _ _ hp.2.2
  obtain ⟨U, Ls, c0, s0⟩ := A
  dsimp only [Pt.U, Pt.locs, Pt.cells, Pt.slots] at h1 h2 h3 h4 h5 X hn hPc ⊢
  obtain ⟨methY, cY, hmY, hcY, -, hlY, -, -, -, -⟩ := Cond.code_spec hn h2
  obtain ⟨kY, hkY, -⟩ := className_of_methodNamed hn
  have hinitY : kY.init = .initialized := Cond.initialized_spec (findClass_of_methodNamed hn) hkY h3
  have h : At U g.method c below := by rw [hg]; exact X.here
  have hlocals9 : W9 + (maxL + 11) + (headSpec ws rm).room.locals ≤ R.locals := hlocals
  have happ : (headSpec ws rm).appliesLoose y e.platform (U.calling g mk a) = true :=
    Spec.appliesLoose_calling (g := g) h hdg hn hkY hinitY
      (X.room_calling (g := g) (R' := (headSpec ws rm).room) hsize hmY hcY hframes (by rw [hlY]; omega) h4 h5) h1
  obtain ⟨mid, hmid⟩ := h.above
  have hfr : (U.setTop g).frames = (.java g :: mid) ++ below := by rw [State.frames_setTop' g h.top, hmid]; rfl
  obtain ⟨o, s₂, hsteps, -, hend, hq⟩ := Steps.callFree hM p X.admits X.cas X.clock (acts := []) hfr happ hPc trivial
  have hq' : vx_Q Qc XC mc ms free a (U.calling g mk a) o s₂ := hq
  rw [State.frames_setTop' g h.top] at hend
  obtain ⟨g₀, hg0⟩ := Option.isSome_iff_exists.mp h.top
  obtain ⟨r, hr⟩ := State.topJava?_eq_some.mp hg0
  have hr' : (({ U with heap := s₂.heap, slotsUsed := s₂.slotsUsed } : State).setVm s₂.vm).frames = .java g₀ :: r := hr
  rcases hq' with ⟨hqc, L, hfe, hL⟩ | ⟨q, rfl, E, ce, L, hx, hce, hcv, hcl, hW₂, hsm, hL⟩
  · obtain ⟨⟨v, rfl⟩, hW₂, e2, q2, q3, q4, q5, q6⟩ := id hfe
    have e3 : s₂ = ({ (U.calling g mk a).setFrames s₂.frames with heap := s₂.heap, slotsUsed := s₂.slotsUsed } : State).setVm s₂.vm := by
      have : s₂ = ({ s₂ with vm := (U.calling g mk a).vm } : State).setVm s₂.vm := rfl
      rw [e2] at this
      exact this
    obtain ⟨c₂, i₂, len₂, hc₂, hd₂, hf₂⟩ := hend
    have hW' : U.WarmedH s₂.vm := hW₂
    have hcc : c₂ = c := by
      have h1 : s₂.code? g.method = U.code? g.method := by
        rw [State.code?_eq, State.code?_eq, hW'.alike.method?]
      exact Option.some.inj (hc₂.symm.trans (h1.trans h.code))
    subst hcc
    have hlen : len₂ = len := by rw [hdg] at hd₂; cases hd₂; rfl
    subst hlen
    have hs₂ : s₂ = (({ U with heap := s₂.heap, slotsUsed := s₂.slotsUsed } : State).setVm s₂.vm).setTop { g with pc := g.pc + len₂, stack := v.toList ++ g.stack } := by
      refine e3.trans ?_
      rw [hf₂, State.calling_eq h.top, State.setFrames_setFrames, State.setTop_of_frames _ hr', hr]
      rfl
    have hsame : U.sameButNew ({ U with heap := s₂.heap, slotsUsed := s₂.slotsUsed } : State) L mc ms := by
      refine ⟨?_, q2, q3, q4, q5, q6⟩
      obtain ⟨t, ht, -⟩ := State.frames_cons hr
      show ({ U with heap := s₂.heap, slotsUsed := s₂.slotsUsed } : State) = { U.setFrames U.frames with heap := s₂.heap, slotsUsed := s₂.slotsUsed }
      rw [State.setFrames_self ht]
    subst hg
    refine Or.inl ⟨v, ⟨(({ U with heap := s₂.heap, slotsUsed := s₂.slotsUsed } : State).setVm s₂.vm), Ls ++ L, c0 + mc, s0 + ms⟩,
      ⟨X.admits, X.cas, X.clock, X.frames, X.room, X.hears, X.method, X.code, (X.here.setHeapUsed s₂.heap s₂.slotsUsed).setVm hW'.alike, X.tail, State.WarmedH.trans X.warmed hW', X.limits, X.bytes, X.same.trans (hsame.setVm s.vm)⟩,
      ⟨g, mk, s₂, L, rfl, rfl, hqc, rfl, hL, rfl, rfl⟩, ?_⟩
    show Steps p.tables e below _ ((({ U with heap := s₂.heap, slotsUsed := s₂.slotsUsed } : State).setVm s₂.vm).setTop { g with pc := g.pc + len₂, stack := v.toList ++ g.stack })
    rw [← hs₂]
    exact hsteps
  · obtain ⟨e2, q2, q3, q4, q5, q6⟩ := id hsm
    have e3 : s₂ = ({ (U.calling g mk a).setFrames s₂.frames with heap := s₂.heap, slotsUsed := s₂.slotsUsed } : State).setVm s₂.vm := by
      have : s₂ = ({ s₂ with vm := (U.calling g mk a).vm } : State).setVm s₂.vm := rfl
      rw [e2] at this
      exact this
    have hf₂ : s₂.frames = .throwing q :: .java g :: U.frames.tail := hend
    have hW' : U.WarmedH s₂.vm := hW₂
    have hs₂ : s₂ = ((({ U with heap := s₂.heap, slotsUsed := s₂.slotsUsed } : State).setVm s₂.vm).setTop g).pushFrame (.throwing q) := by
      refine e3.trans ?_
      rw [hf₂, State.calling_eq h.top, State.setFrames_setFrames, State.pushFrame, State.frames_setTop _ hr', State.setTop_of_frames _ hr', State.setFrames_setFrames, hr]
      rfl
    have hsame : U.sameButNew ({ U with heap := s₂.heap, slotsUsed := s₂.slotsUsed } : State) L mc ms := by
      refine ⟨?_, q2, q3, q4, q5, q6⟩
      obtain ⟨t, ht, -⟩ := State.frames_cons hr
      show ({ U with heap := s₂.heap, slotsUsed := s₂.slotsUsed } : State) = { U.setFrames U.frames with heap := s₂.heap, slotsUsed := s₂.slotsUsed }
      rw [State.setFrames_self ht]
    subst hg
    refine Or.inr ⟨q, ⟨(({ U with heap := s₂.heap, slotsUsed := s₂.slotsUsed } : State).setVm s₂.vm), Ls ++ L, c0 + mc, s0 + ms⟩,
      ⟨X.admits, X.cas, X.clock, X.frames, X.room, X.hears, X.method, X.code, (X.here.setHeapUsed s₂.heap s₂.slotsUsed).setVm hW'.alike, X.tail, State.WarmedH.trans X.warmed hW', X.limits, X.bytes, X.same.trans (hsame.setVm s.vm)⟩,
      ⟨g, mk, s₂, L, E, ce, rfl, rfl, hx, hce, hcv, hcl, rfl, hL, rfl, rfl⟩, ?_⟩
    show Steps p.tables e below _ (((({ U with heap := s₂.heap, slotsUsed := s₂.slotsUsed } : State).setVm s₂.vm).setTop g).pushFrame (.throwing q))
    rw [← hs₂]
    exact hsteps
end Payer
section Calls
variable {p : Program} {l : Launch} {e : Env} {R : Room} {s : State} {m : MethodId} {args : Array Value} {below : List Frame} {meth : Method} {c : Code} {T : State} {locs : List Loc} {cells slots : Nat}
theorem vx_callV (X : Stand p l e R s m args below meth c T locs cells slots) (hexec : p.tables.exec = Jvm.exec) {own C : String} {index : Nat} {y : MethodName} {bytes : ByteArray} {maxL : Nat} {ret : Option FieldType}
    (hown : s.vm.findClass own = some m.cls) (hlink : (Cond.methodLink own index y).before args s = true) (hinst : (Cond.instanceMethod y).before args s = true) (hsel : (Cond.selects C y y).before args s = true)
    (hcode : (Cond.code y bytes maxL ret).before args s = true) (hy : y.cls ≠ "java/lang/invoke/MethodHandle" ∧ y.cls ≠ "java/lang/invoke/VarHandle")
    {W9 : Nat} {Pre : Pt → Array Value → Prop} {Post : Pt → Array Value → Option Value → Pt → Prop} {PostX : Pt → Array Value → Addr → Pt → Prop} (hK : vx_Back l R p e below s args y 3 W9 Pre Post PostX)
    {b : Addr} {cellB : Cell} (hcell : T.heap[b]? = some cellB) (hobj : cellB.vm.isStatics = false) (hcls : s.vm.findClass C = some cellB.cls)
    {g : JFrame} (hg : g.method = m) (hsize : g.locals.size = c.maxLocals) {argsL rest : List Value} (hlen : ∀ sig, parseMethodDescriptor y.desc = some sig → argsL.length = sig.parameters.length)
    (hstack : g.stack = argsL.reverse ++ .ref b :: rest) (hW : 2 * g.monitorRoom + (rest.map fun v => v.category).sum ≤ W9) (hdg : decode c.code g.pc = .ok (.invokevirtual index, 3))
    (hpre : ∀ vm₁, s.WarmedH vm₁ → Pre ⟨T.setVm vm₁, locs, cells, slots⟩ (Value.ref b :: argsL).toArray) :
    (∃ (v : Option Value) (vm₁ : Vm) (B : Pt), s.WarmedH vm₁ ∧ Stand p l e R s m args below meth c B.U B.locs B.cells B.slots ∧ Post ⟨T.setVm vm₁, locs, cells, slots⟩ (Value.ref b :: argsL).toArray v B ∧
      ∀ target, Steps p.tables e below (B.U.setTop { g with pc := g.pc + 3, stack := v.toList ++ rest }) target → Steps p.tables e below (T.setTop g) target) ∨
    (∃ (q : Addr) (vm₁ : Vm) (B : Pt), s.WarmedH vm₁ ∧ Stand p l e R s m args below meth c B.U B.locs B.cells B.slots ∧ PostX ⟨T.setVm vm₁, locs, cells, slots⟩ (Value.ref b :: argsL).toArray q B ∧
      Steps p.tables e below (T.setTop g) ((B.U.setTop { g with stack := rest }).pushFrame (.throwing q))) := by
  obtain ⟨mk, methM, hnamed, hmethM, hstM, habM⟩ := Cond.instanceMethod_spec hinst
  obtain ⟨methM', cM, hmethM', -, -, -, -, -, -, hsigM⟩ := Cond.code_spec hnamed hcode
  cases hmethM.symm.trans hmethM'
  obtain ⟨c2, r2, m2, q1, q2, q3, q4, kP, hkP, hkPi⟩ := Cond.selects_spec hsel
  cases hcls.symm.trans q1
  cases (State.methodFound?_of_named hnamed hy).symm.trans q2
  cases hnamed.symm.trans q3
  have hselP : selectMethod e.platform s.vm cellB.cls mk = .method mk := by rw [Launch.admits_selectMethod X.admits]; exact q4
  obtain ⟨vm₁, X₁, hstep₁⟩ := X.invokevirtual hexec hown hlink hnamed hmethM hstM hkP hkPi hy (a := b) (cell := cellB) hcell
    (fun z h => by rw [h] at hobj; cases hobj) hselP hmethM habM hkP hkPi (g := g) hg (argsL := argsL) (rest := rest) (hlen _ hsigM) hstack hdg
  rcases hK m meth c ⟨T.setVm vm₁, locs, cells, slots⟩ { g with stack := rest } (.invokevirtual index) mk (Value.ref b :: argsL).toArray X₁ hg hsize hdg hW (X₁.named hnamed) (hpre vm₁ X₁.warmed) with ⟨v, B, X', hpost, hsteps⟩ | ⟨q, B, X', hpost, hsteps⟩
  · exact Or.inl ⟨v, vm₁, B, X₁.warmed, X', hpost, fun target h => hstep₁ _ fun acts => by rw [doInvoke_state]; exact hsteps.trans h⟩
  · exact Or.inr ⟨q, vm₁, B, X₁.warmed, X', hpost, hstep₁ _ fun acts => by rw [doInvoke_state]; exact hsteps⟩
theorem vx_callS (X : Stand p l e R s m args below meth c T locs cells slots) (hexec : p.tables.exec = Jvm.exec) {own : String} {index : Nat} {y : MethodName} {bytes : ByteArray} {maxL : Nat} {ret : Option FieldType}
    (hown : s.vm.findClass own = some m.cls) (hlink : (Cond.methodLink own index y).before args s = true) (hstat : (Cond.static y).before args s = true) (hinit : (Cond.initialized y.cls).before args s = true)
    (hcode : (Cond.code y bytes maxL ret).before args s = true) (hy : y.cls ≠ "java/lang/invoke/MethodHandle" ∧ y.cls ≠ "java/lang/invoke/VarHandle")
    {W9 : Nat} {Pre : Pt → Array Value → Prop} {Post : Pt → Array Value → Option Value → Pt → Prop} {PostX : Pt → Array Value → Addr → Pt → Prop} (hK : vx_Back l R p e below s args y 3 W9 Pre Post PostX)
    {g : JFrame} (hg : g.method = m) (hsize : g.locals.size = c.maxLocals) {argsL rest : List Value} (hlen : ∀ sig, parseMethodDescriptor y.desc = some sig → argsL.length = sig.parameters.length)
    (hstack : g.stack = argsL.reverse ++ rest) (hW : 2 * g.monitorRoom + (rest.map fun v => v.category).sum ≤ W9) (hdg : decode c.code g.pc = .ok (.invokestatic index, 3))
    (hpre : ∀ vm₁, s.WarmedH vm₁ → Pre ⟨T.setVm vm₁, locs, cells, slots⟩ argsL.toArray) :
    (∃ (v : Option Value) (vm₁ : Vm) (B : Pt), s.WarmedH vm₁ ∧ Stand p l e R s m args below meth c B.U B.locs B.cells B.slots ∧ Post ⟨T.setVm vm₁, locs, cells, slots⟩ argsL.toArray v B ∧
      ∀ target, Steps p.tables e below (B.U.setTop { g with pc := g.pc + 3, stack := v.toList ++ rest }) target → Steps p.tables e below (T.setTop g) target) ∨
    (∃ (q : Addr) (vm₁ : Vm) (B : Pt), s.WarmedH vm₁ ∧ Stand p l e R s m args below meth c B.U B.locs B.cells B.slots ∧ PostX ⟨T.setVm vm₁, locs, cells, slots⟩ argsL.toArray q B ∧
      Steps p.tables e below (T.setTop g) ((B.U.setTop { g with stack := rest }).pushFrame (.throwing q))) := by
  obtain ⟨mk, hnamed⟩ := Cond.code_named hcode
  obtain ⟨methM, cM, hmethM, -, -, -, -, -, -, hsigM⟩ := Cond.code_spec hnamed hcode
  have hstatic : methM.isStatic = true := Cond.static_spec hnamed hmethM hstat
  obtain ⟨kP, hkP, -⟩ := className_of_methodNamed hnamed
  have hinitP : kP.init = .initialized := Cond.initialized_spec (findClass_of_methodNamed hnamed) hkP hinit
  obtain ⟨vm₁, X₁, hstep₁⟩ := X.invokestatic hexec hown hlink hnamed hmethM hstatic hkP hinitP hy (g := g) hg (argsL := argsL) (rest := rest) (hlen _ hsigM) hstack hdg
  rcases hK m meth c ⟨T.setVm vm₁, locs, cells, slots⟩ { g with stack := rest } (.invokestatic index) mk argsL.toArray X₁ hg hsize hdg hW (X₁.named hnamed) (hpre vm₁ X₁.warmed) with ⟨v, B, X', hpost, hsteps⟩ | ⟨q, B, X', hpost, hsteps⟩
  · exact Or.inl ⟨v, vm₁, B, X₁.warmed, X', hpost, fun target h => hstep₁ _ fun acts => by rw [doInvoke_state]; exact hsteps.trans h⟩
  · exact Or.inr ⟨q, vm₁, B, X₁.warmed, X', hpost, hstep₁ _ fun acts => by rw [doInvoke_state]; exact hsteps⟩
end Calls
theorem vx_cls {s : State} {T : State} {vm₁ : Vm} {E : String} {k : ClassId} (hW : s.WarmedH vm₁) (h : (T.setVm vm₁).vm.findClass E = some k) : s.vm.findClass E = some k := by
  have h1 : vm₁.findClass E = some k := h
  rw [hW.alike.findClass] at h1
  exact h1
/-- the method's frame g, with q thrown over it -/
def vx_W (p : Program) (l : Launch) (e : Env) (R : Room) (s : State) (m : MethodId) (args : Array Value) (below : List Frame) (meth : Method) (c : Code) (H : Heap) (locs : List Loc) (cells slots : Nat) (Q : State → Prop) (g : JFrame) (q : Addr) : Prop :=
  ∀ T : State, T.heap = H → Stand p l e R s m args below meth c T locs cells slots → ∃ t, Steps p.tables e below ((T.setTop g).pushFrame (.throwing q)) t ∧ Q t
def vx_Run (p : Program) (l : Launch) (e : Env) (R : Room) (s : State) (m : MethodId) (args : Array Value) (below : List Frame) (meth : Method) (c : Code) (H : Heap) (locs : List Loc) (cells slots mc ms : Nat) (g : JFrame) (rest : List Value) (Qa : State → Outcome → State → Prop) (XC : String → State → State → Prop) (free : Addr → Prop) : Prop :=
  ∀ T : State, T.heap = H → Stand p l e R s m args below meth c T locs cells slots →
    (∃ (v : Option Value) (st₀ t T' : State) (L : List Loc), st₀.heap = H ∧ Stand p l e R s m args below meth c T' (locs ++ L) (cells + mc) (slots + ms) ∧ (∀ q ∈ L, free q.base) ∧ T'.heap = t.heap ∧ T'.vm = t.vm ∧ Qa st₀ (.returned v) t ∧
      Goes p e below T g T' { g with pc := g.pc + 3, stack := v.toList ++ rest }) ∨
    (∃ (q : Addr) (st₀ t T' : State) (L : List Loc) (E : String) (ce : Cell), st₀.heap = H ∧ Stand p l e R s m args below meth c T' (locs ++ L) (cells + mc) (slots + ms) ∧ (∀ z ∈ L, free z.base) ∧ T'.heap = t.heap ∧ T'.vm = t.vm ∧ XC E st₀ t ∧ t.heap[q]? = some ce ∧ ce.vm = .none ∧ s.vm.findClass E = some ce.cls ∧
      Steps p.tables e below (T.setTop g) ((T'.setTop { g with stack := rest }).pushFrame (.throwing q)))
def vx_X {S : Type} (px : S → Prop) (B : String → S → State → Prop) (A : Nat → Prop) : String → State → State → Prop := fun E st t => ∃ u : S, px u ∧ B E u t ∧ va_F A st t
section Runs
variable {p : Program} {l : Launch} {e : Env} {R : Room} {s : State} {m : MethodId} {args : Array Value} {below : List Frame} {meth : Method} {c : Code} {H : Heap} {locs : List Loc} {cells slots : Nat}
variable {y : MethodName} {bytes cc : ByteArray} {maxL nL mc ms n index : Nat} {ret : Option FieldType} {ws : List Cond} {rm : Room} {Pc : Array Value → State → Prop} {Qc : Array Value → State → Outcome → State → Prop} {XC : String → State → State → Prop} {free : Addr → Prop} {Ts : List Cond} {own C : String} {b : Addr} {As rest : List Value} {g : JFrame}
theorem vx_callBack (cb : CallB R s args own index y bytes maxL ret ws rm mc ms n) (hM : vx_Met l y ws rm Pc Qc XC mc ms free) (hbl : FrameBlind Pc) : vx_Back l R p e below s args y 3 8 (PreOf R mc ms Pc) (PostOf Qc mc ms free) (vx_Post XC mc ms free) := by
  obtain ⟨hrc, hrs, hfr, hlo, hws, hcw, -, hini, -⟩ := cb
  exact vx_back (bytes := bytes) (maxL := maxL) (ret := ret) hM hbl hrc hrs hfr hlo hws hcw (fun a' U hW => word_at hW (Or.inl (by first | rfl | simp [Cond.onTables, Cond.keeps, Cond.steady])) hini)
theorem vx_runV (S : CallFix p m c cc nL s args Ts own) (hM : vx_Met l y ws rm Pc Qc XC mc ms free) (cw : CallW R s args own C index y bytes maxL ret ws rm mc ms n) (hp : PreV s H C b Pc As)
    (hg : g.method = m) (hn : As.length = n) (hsize : g.locals.size = nL) (hstack : g.stack = As.reverse ++ .ref b :: rest) (hW : 2 * g.monitorRoom + (rest.map fun v => v.category).sum ≤ 8) (hdg : decode cc g.pc = .ok (.invokevirtual index, 3)) (hf : cells + mc ≤ R.cells ∧ slots + ms ≤ R.slots) :
    vx_Run p l e R s m args below meth c H locs cells slots mc ms g rest (Qc (Value.ref b :: As).toArray) XC free := by
  have hK : vx_Back l R p e below s args y 3 8 (PreOf R mc ms Pc) (PostOf Qc mc ms free) (vx_Post XC mc ms free) := vx_callBack cw.1 hM hp.1
  obtain ⟨⟨-, -, -, -, -, -, hcode, -, hy, hlen, hl⟩, hin, hse⟩ := cw
  obtain ⟨hx, hb, hml, ho, -⟩ := S
  obtain ⟨-, ⟨cellB, hcB, hoB, hclB⟩, hPc⟩ := hp
  intro T hT X
  rcases vx_callV X hx (C := C) (bytes := bytes) (maxL := maxL) (ret := ret) ho hl hin hse hcode hy hK (by rw [hT]; exact hcB) hoB hclB hg (hsize.trans hml.symm) (argsL := As) (rest := rest) (fun sig h => hn.trans (hlen sig h)) hstack hW (by rw [hb]; exact hdg)
    (fun vm₁ hW₁ => ⟨hf.1, hf.2, hPc (T.setVm vm₁) hT hW₁⟩) with ⟨v, vm₁, ⟨U', l2, c2, s2⟩, hW₁, X', ⟨g', mk, t, L, e1, e2, hq, h1, hL, h2, h3⟩, st⟩ | ⟨q, vm₁, ⟨U', l2, c2, s2⟩, hW₁, X', ⟨g', mk, t, L, E, ce, e1, e2, hq, hce, hcv, hcl, h1, hL, h2, h3⟩, st⟩
  · dsimp only [Pt.U, Pt.locs, Pt.cells, Pt.slots] at X' e1 e2 h1 h2 h3 st
    subst h1; subst h2; subst h3
    exact Or.inl ⟨v, (T.setVm vm₁).calling g' mk (Value.ref b :: As).toArray, t, U', L, hT, X', hL, e1, e2, hq, st⟩
  · dsimp only [Pt.U, Pt.locs, Pt.cells, Pt.slots] at X' e1 e2 h1 h2 h3 st hcl
    subst h1; subst h2; subst h3
    exact Or.inr ⟨q, (T.setVm vm₁).calling g' mk (Value.ref b :: As).toArray, t, U', L, E, ce, hT, X', hL, e1, e2, hq, hce, hcv, vx_cls hW₁ hcl, st⟩
theorem vx_runS (S : CallFix p m c cc nL s args Ts own) (hM : vx_Met l y ws rm Pc Qc XC mc ms free) (cw : CallB R s args own index y bytes maxL ret ws rm mc ms n ∧ (Cond.static y).before args s = true) (hp : PreS s H Pc As)
    (hg : g.method = m) (hn : As.length = n) (hsize : g.locals.size = nL) (hstack : g.stack = As.reverse ++ rest) (hW : 2 * g.monitorRoom + (rest.map fun v => v.category).sum ≤ 8) (hdg : decode cc g.pc = .ok (.invokestatic index, 3)) (hf : cells + mc ≤ R.cells ∧ slots + ms ≤ R.slots) :
    vx_Run p l e R s m args below meth c H locs cells slots mc ms g rest (Qc As.toArray) XC free := by
  have hK : vx_Back l R p e below s args y 3 8 (PreOf R mc ms Pc) (PostOf Qc mc ms free) (vx_Post XC mc ms free) := vx_callBack cw.1 hM hp.1
  obtain ⟨⟨-, -, -, -, -, -, hcode, hini, hy, hlen, hl⟩, hstt⟩ := cw
  obtain ⟨hx, hb, hml, ho, -⟩ := S
  intro T hT X
  rcases vx_callS X hx (bytes := bytes) (maxL := maxL) (ret := ret) ho hl hstt hini hcode hy hK hg (hsize.trans hml.symm) (argsL := As) (rest := rest) (fun sig h => hn.trans (hlen sig h)) hstack hW (by rw [hb]; exact hdg)
    (fun vm₁ hW₁ => ⟨hf.1, hf.2, hp.2 (T.setVm vm₁) hT hW₁⟩) with ⟨v, vm₁, ⟨U', l2, c2, s2⟩, hW₁, X', ⟨g', mk, t, L, e1, e2, hq, h1, hL, h2, h3⟩, st⟩ | ⟨q, vm₁, ⟨U', l2, c2, s2⟩, hW₁, X', ⟨g', mk, t, L, E, ce, e1, e2, hq, hce, hcv, hcl, h1, hL, h2, h3⟩, st⟩
  · dsimp only [Pt.U, Pt.locs, Pt.cells, Pt.slots] at X' e1 e2 h1 h2 h3 st
    subst h1; subst h2; subst h3
    exact Or.inl ⟨v, (T.setVm vm₁).calling g' mk As.toArray, t, U', L, hT, X', hL, e1, e2, hq, st⟩
  · dsimp only [Pt.U, Pt.locs, Pt.cells, Pt.slots] at X' e1 e2 h1 h2 h3 st hcl
    subst h1; subst h2; subst h3
    exact Or.inr ⟨q, (T.setVm vm₁).calling g' mk As.toArray, t, U', L, E, ce, hT, X', hL, e1, e2, hq, hce, hcv, vx_cls hW₁ hcl, st⟩
end Runs
section Rows
variable {p : Program} {l : Launch} {e : Env} {R : Room} {s : State} {m : MethodId} {args : Array Value} {below : List Frame} {meth : Method} {c : Code} {H : Heap} {locs : List Loc} {cells slots : Nat} {Q : State → Prop}
variable {mc ms : Nat} {free : Addr → Prop} {A0 A1 : Nat → Prop} {H0 : Heap} {a : Array Value} {pc : Nat} {ls : Array Slot} {st0 rest : List Value}
theorem vx_keep {st₀ t T' : State} {L : List Loc} (h0 : st₀.heap = H) (e1 : T'.heap = t.heap) (hS : va_S A0 H0 H locs) (hA : ∀ q, q < H.size → A1 q → A0 q) (hf : ∀ q, free q → A0 q) (hL : ∀ q ∈ L, free q.base) (hF : va_F A1 st₀ t) :
    H.size ≤ T'.heap.size ∧ (∀ q : Nat, q < H.size → ¬ A1 q → T'.heap[q]? = H[q]?) ∧ va_S A0 H0 T'.heap (locs ++ L) := by
  obtain ⟨hz, hk⟩ := hF
  rw [h0] at hz hk
  exact ⟨by rw [e1]; exact hz, fun q h1 h2 => by rw [e1]; exact hk q h1 h2,
    ⟨Nat.le_trans hS.1 (by rw [e1]; exact hz), fun q h1 h2 => by rw [e1, hk q (Nat.lt_of_lt_of_le h1 hS.1) (fun z => h2 (hA q (Nat.lt_of_lt_of_le h1 hS.1) z))]; exact hS.2.1 q h1 h2, fun q hq => by
      rcases List.mem_append.mp hq with h | h
      · exact hS.2.2 q h
      · exact hf _ (hL q h)⟩⟩
theorem vx_calli {S SX : Type} {post : Int32 → S → Prop} {px : SX → Prop} {B : S → State → Prop} {BX : String → SX → State → Prop} {AX : Nat → Prop} (hr : vx_Run p l e R s m args below meth c H locs cells slots mc ms (F0 m pc ls st0) rest (va_Qi post B A1 a) (vx_X px BX AX) free) (hS : va_S A0 H0 H locs) (hA : ∀ q, q < H.size → A1 q → A0 q) (hf : ∀ q, free q → A0 q) (hAX : ∀ q, q < H.size → AX q → A0 q)
    (kx : ∀ (E : String) (ce : Cell) (q9 : Addr) (u : SX) (t : State) (H1 : Heap) (locs1 : List Loc), t.heap = H1 → s.vm.Alike t.vm → px u → BX E u t → H.size ≤ H1.size → (∀ q : Nat, q < H.size → ¬ AX q → H1[q]? = H[q]?) → va_S A0 H0 H1 locs1 → H1[q9]? = some ce → ce.vm = .none → s.vm.findClass E = some ce.cls → vx_W p l e R s m args below meth c H1 locs1 (cells + mc) (slots + ms) Q (F0 m pc ls rest) q9)
    (kk : ∀ (r : Int32) (u : S) (t : State) (H1 : Heap) (locs1 : List Loc), t.heap = H1 → s.vm.Alike t.vm → post r u → B u t → H.size ≤ H1.size → (∀ q : Nat, q < H.size → ¬ A1 q → H1[q]? = H[q]?) → va_S A0 H0 H1 locs1 → W p l e R s m args below meth c H1 locs1 (cells + mc) (slots + ms) Q (F0 m (pc + 3) ls (.int r :: rest))) : W p l e R s m args below meth c H locs cells slots Q (F0 m pc ls st0) := by
  intro T hT X
  rcases hr T hT X with ⟨v, st₀, t, T', L, h0, X', hL, e1, e2, ⟨⟨r, u, hv, hp, hb⟩, hF⟩, st⟩ | ⟨q, st₀, t, T', L, E, ce, h0, X', hL, e1, e2, ⟨u, hp, hb, hF⟩, hce, hcv, hcl, st⟩
  · cases hv
    obtain ⟨k1, k2, k3⟩ := vx_keep h0 e1 hS hA hf hL hF
    obtain ⟨t2, a1, b1⟩ := kk r u t T'.heap (locs ++ L) e1.symm (by rw [← e2]; exact X'.warmed.alike) hp hb k1 k2 k3 T' rfl X'
    exact ⟨t2, st t2 a1, b1⟩
  · obtain ⟨k1, k2, k3⟩ := vx_keep h0 e1 hS hAX hf hL hF
    obtain ⟨t2, a1, b1⟩ := kx E ce q u t T'.heap (locs ++ L) e1.symm (by rw [← e2]; exact X'.warmed.alike) hp hb k1 k2 k3 (by rw [e1]; exact hce) hcv hcl T' rfl X'
    exact ⟨t2, st.trans a1, b1⟩
theorem vx_calll {S SX : Type} {post : Int64 → S → Prop} {px : SX → Prop} {B : S → State → Prop} {BX : String → SX → State → Prop} {AX : Nat → Prop} (hr : vx_Run p l e R s m args below meth c H locs cells slots mc ms (F0 m pc ls st0) rest (va_Ql post B A1 a) (vx_X px BX AX) free) (hS : va_S A0 H0 H locs) (hA : ∀ q, q < H.size → A1 q → A0 q) (hf : ∀ q, free q → A0 q) (hAX : ∀ q, q < H.size → AX q → A0 q)
    (kx : ∀ (E : String) (ce : Cell) (q9 : Addr) (u : SX) (t : State) (H1 : Heap) (locs1 : List Loc), t.heap = H1 → s.vm.Alike t.vm → px u → BX E u t → H.size ≤ H1.size → (∀ q : Nat, q < H.size → ¬ AX q → H1[q]? = H[q]?) → va_S A0 H0 H1 locs1 → H1[q9]? = some ce → ce.vm = .none → s.vm.findClass E = some ce.cls → vx_W p l e R s m args below meth c H1 locs1 (cells + mc) (slots + ms) Q (F0 m pc ls rest) q9)
    (kk : ∀ (r : Int64) (u : S) (t : State) (H1 : Heap) (locs1 : List Loc), t.heap = H1 → s.vm.Alike t.vm → post r u → B u t → H.size ≤ H1.size → (∀ q : Nat, q < H.size → ¬ A1 q → H1[q]? = H[q]?) → va_S A0 H0 H1 locs1 → W p l e R s m args below meth c H1 locs1 (cells + mc) (slots + ms) Q (F0 m (pc + 3) ls (.long r :: rest))) : W p l e R s m args below meth c H locs cells slots Q (F0 m pc ls st0) := by
  intro T hT X
  rcases hr T hT X with ⟨v, st₀, t, T', L, h0, X', hL, e1, e2, ⟨⟨r, u, hv, hp, hb⟩, hF⟩, st⟩ | ⟨q, st₀, t, T', L, E, ce, h0, X', hL, e1, e2, ⟨u, hp, hb, hF⟩, hce, hcv, hcl, st⟩
  · cases hv
    obtain ⟨k1, k2, k3⟩ := vx_keep h0 e1 hS hA hf hL hF
    obtain ⟨t2, a1, b1⟩ := kk r u t T'.heap (locs ++ L) e1.symm (by rw [← e2]; exact X'.warmed.alike) hp hb k1 k2 k3 T' rfl X'
    exact ⟨t2, st t2 a1, b1⟩
  · obtain ⟨k1, k2, k3⟩ := vx_keep h0 e1 hS hAX hf hL hF
    obtain ⟨t2, a1, b1⟩ := kx E ce q u t T'.heap (locs ++ L) e1.symm (by rw [← e2]; exact X'.warmed.alike) hp hb k1 k2 k3 (by rw [e1]; exact hce) hcv hcl T' rfl X'
    exact ⟨t2, st.trans a1, b1⟩
theorem vx_callf {S SX : Type} {post : UInt32 → S → Prop} {px : SX → Prop} {B : S → State → Prop} {BX : String → SX → State → Prop} {AX : Nat → Prop} (hr : vx_Run p l e R s m args below meth c H locs cells slots mc ms (F0 m pc ls st0) rest (va_Qf post B A1 a) (vx_X px BX AX) free) (hS : va_S A0 H0 H locs) (hA : ∀ q, q < H.size → A1 q → A0 q) (hf : ∀ q, free q → A0 q) (hAX : ∀ q, q < H.size → AX q → A0 q)
    (kx : ∀ (E : String) (ce : Cell) (q9 : Addr) (u : SX) (t : State) (H1 : Heap) (locs1 : List Loc), t.heap = H1 → s.vm.Alike t.vm → px u → BX E u t → H.size ≤ H1.size → (∀ q : Nat, q < H.size → ¬ AX q → H1[q]? = H[q]?) → va_S A0 H0 H1 locs1 → H1[q9]? = some ce → ce.vm = .none → s.vm.findClass E = some ce.cls → vx_W p l e R s m args below meth c H1 locs1 (cells + mc) (slots + ms) Q (F0 m pc ls rest) q9)
    (kk : ∀ (r : UInt32) (u : S) (t : State) (H1 : Heap) (locs1 : List Loc), t.heap = H1 → s.vm.Alike t.vm → post r u → B u t → H.size ≤ H1.size → (∀ q : Nat, q < H.size → ¬ A1 q → H1[q]? = H[q]?) → va_S A0 H0 H1 locs1 → W p l e R s m args below meth c H1 locs1 (cells + mc) (slots + ms) Q (F0 m (pc + 3) ls (.float r :: rest))) : W p l e R s m args below meth c H locs cells slots Q (F0 m pc ls st0) := by
  intro T hT X
  rcases hr T hT X with ⟨v, st₀, t, T', L, h0, X', hL, e1, e2, ⟨⟨r, u, hv, hp, hb⟩, hF⟩, st⟩ | ⟨q, st₀, t, T', L, E, ce, h0, X', hL, e1, e2, ⟨u, hp, hb, hF⟩, hce, hcv, hcl, st⟩
  · cases hv
    obtain ⟨k1, k2, k3⟩ := vx_keep h0 e1 hS hA hf hL hF
    obtain ⟨t2, a1, b1⟩ := kk r u t T'.heap (locs ++ L) e1.symm (by rw [← e2]; exact X'.warmed.alike) hp hb k1 k2 k3 T' rfl X'
    exact ⟨t2, st t2 a1, b1⟩
  · obtain ⟨k1, k2, k3⟩ := vx_keep h0 e1 hS hAX hf hL hF
    obtain ⟨t2, a1, b1⟩ := kx E ce q u t T'.heap (locs ++ L) e1.symm (by rw [← e2]; exact X'.warmed.alike) hp hb k1 k2 k3 (by rw [e1]; exact hce) hcv hcl T' rfl X'
    exact ⟨t2, st.trans a1, b1⟩
theorem vx_calld {S SX : Type} {post : UInt64 → S → Prop} {px : SX → Prop} {B : S → State → Prop} {BX : String → SX → State → Prop} {AX : Nat → Prop} (hr : vx_Run p l e R s m args below meth c H locs cells slots mc ms (F0 m pc ls st0) rest (va_Qd post B A1 a) (vx_X px BX AX) free) (hS : va_S A0 H0 H locs) (hA : ∀ q, q < H.size → A1 q → A0 q) (hf : ∀ q, free q → A0 q) (hAX : ∀ q, q < H.size → AX q → A0 q)
    (kx : ∀ (E : String) (ce : Cell) (q9 : Addr) (u : SX) (t : State) (H1 : Heap) (locs1 : List Loc), t.heap = H1 → s.vm.Alike t.vm → px u → BX E u t → H.size ≤ H1.size → (∀ q : Nat, q < H.size → ¬ AX q → H1[q]? = H[q]?) → va_S A0 H0 H1 locs1 → H1[q9]? = some ce → ce.vm = .none → s.vm.findClass E = some ce.cls → vx_W p l e R s m args below meth c H1 locs1 (cells + mc) (slots + ms) Q (F0 m pc ls rest) q9)
    (kk : ∀ (r : UInt64) (u : S) (t : State) (H1 : Heap) (locs1 : List Loc), t.heap = H1 → s.vm.Alike t.vm → post r u → B u t → H.size ≤ H1.size → (∀ q : Nat, q < H.size → ¬ A1 q → H1[q]? = H[q]?) → va_S A0 H0 H1 locs1 → W p l e R s m args below meth c H1 locs1 (cells + mc) (slots + ms) Q (F0 m (pc + 3) ls (.double r :: rest))) : W p l e R s m args below meth c H locs cells slots Q (F0 m pc ls st0) := by
  intro T hT X
  rcases hr T hT X with ⟨v, st₀, t, T', L, h0, X', hL, e1, e2, ⟨⟨r, u, hv, hp, hb⟩, hF⟩, st⟩ | ⟨q, st₀, t, T', L, E, ce, h0, X', hL, e1, e2, ⟨u, hp, hb, hF⟩, hce, hcv, hcl, st⟩
  · cases hv
    obtain ⟨k1, k2, k3⟩ := vx_keep h0 e1 hS hA hf hL hF
    obtain ⟨t2, a1, b1⟩ := kk r u t T'.heap (locs ++ L) e1.symm (by rw [← e2]; exact X'.warmed.alike) hp hb k1 k2 k3 T' rfl X'
    exact ⟨t2, st t2 a1, b1⟩
  · obtain ⟨k1, k2, k3⟩ := vx_keep h0 e1 hS hAX hf hL hF
    obtain ⟨t2, a1, b1⟩ := kx E ce q u t T'.heap (locs ++ L) e1.symm (by rw [← e2]; exact X'.warmed.alike) hp hb k1 k2 k3 (by rw [e1]; exact hce) hcv hcl T' rfl X'
    exact ⟨t2, st.trans a1, b1⟩
theorem vx_callv {S SX : Type} {post : S → Prop} {px : SX → Prop} {B : S → State → Prop} {BX : String → SX → State → Prop} {AX : Nat → Prop} (hr : vx_Run p l e R s m args below meth c H locs cells slots mc ms (F0 m pc ls st0) rest (va_Qv post B A1 a) (vx_X px BX AX) free) (hS : va_S A0 H0 H locs) (hA : ∀ q, q < H.size → A1 q → A0 q) (hf : ∀ q, free q → A0 q) (hAX : ∀ q, q < H.size → AX q → A0 q)
    (kx : ∀ (E : String) (ce : Cell) (q9 : Addr) (u : SX) (t : State) (H1 : Heap) (locs1 : List Loc), t.heap = H1 → s.vm.Alike t.vm → px u → BX E u t → H.size ≤ H1.size → (∀ q : Nat, q < H.size → ¬ AX q → H1[q]? = H[q]?) → va_S A0 H0 H1 locs1 → H1[q9]? = some ce → ce.vm = .none → s.vm.findClass E = some ce.cls → vx_W p l e R s m args below meth c H1 locs1 (cells + mc) (slots + ms) Q (F0 m pc ls rest) q9)
    (kk : ∀ (u : S) (t : State) (H1 : Heap) (locs1 : List Loc), t.heap = H1 → s.vm.Alike t.vm → post u → B u t → H.size ≤ H1.size → (∀ q : Nat, q < H.size → ¬ A1 q → H1[q]? = H[q]?) → va_S A0 H0 H1 locs1 → W p l e R s m args below meth c H1 locs1 (cells + mc) (slots + ms) Q (F0 m (pc + 3) ls (rest))) : W p l e R s m args below meth c H locs cells slots Q (F0 m pc ls st0) := by
  intro T hT X
  rcases hr T hT X with ⟨v, st₀, t, T', L, h0, X', hL, e1, e2, ⟨⟨u, hv, hp, hb⟩, hF⟩, st⟩ | ⟨q, st₀, t, T', L, E, ce, h0, X', hL, e1, e2, ⟨u, hp, hb, hF⟩, hce, hcv, hcl, st⟩
  · cases hv
    obtain ⟨k1, k2, k3⟩ := vx_keep h0 e1 hS hA hf hL hF
    obtain ⟨t2, a1, b1⟩ := kk u t T'.heap (locs ++ L) e1.symm (by rw [← e2]; exact X'.warmed.alike) hp hb k1 k2 k3 T' rfl X'
    exact ⟨t2, st t2 a1, b1⟩
  · obtain ⟨k1, k2, k3⟩ := vx_keep h0 e1 hS hAX hf hL hF
    obtain ⟨t2, a1, b1⟩ := kx E ce q u t T'.heap (locs ++ L) e1.symm (by rw [← e2]; exact X'.warmed.alike) hp hb k1 k2 k3 (by rw [e1]; exact hce) hcv hcl T' rfl X'
    exact ⟨t2, st.trans a1, b1⟩
/-- caught by the row x of this method's table; the rows ahead don't take it -/
theorem vx_catch {own name : String} {E : String} {ce : Cell} {q : Addr} (hown : s.vm.findClass own = some m.cls) (pre : List ExceptionTableEntry) (x : ExceptionTableEntry) (suf : List ExceptionTableEntry) (hsplit : c.exceptionTable.toList = pre ++ x :: suf)
    (hpass : ∀ z ∈ pre, covers z pc = false ∨ (z.catchType ≠ 0 ∧ ∃ nm : String, (Cond.classLink own z.catchType nm).before args s = true ∧ va_Nc E nm s)) (hx : covers x pc = true) (h0 : x.catchType ≠ 0)
    (hlink : (Cond.classLink own x.catchType name).before args s = true) (hcast : (Cond.castable E name).before args s = true) (hcell : H[q]? = some ce) (hv : ce.vm = .none) (hcl : s.vm.findClass E = some ce.cls)
    (kk : W p l e R s m args below meth c H locs cells slots Q (F0 m x.handlerPc ls [.ref q])) : vx_W p l e R s m args below meth c H locs cells slots Q (F0 m pc ls rest) q := by
  intro T hT X
  have hpl : e.platform.magicAccessors = ({} : Platform).magicAccessors := by rw [X.admits.platform]
  obtain ⟨c3, c4, hc3, hc4, hasg⟩ := Cond.castable_spec hcast
  cases Option.some.inj (hc3.symm.trans hcl)
  obtain ⟨c5, hc5, hcl5⟩ := Cond.classLink_spec hown hlink e.platform hpl
  cases Option.some.inj (hc4.symm.trans hc5)
  obtain ⟨vm', X', st⟩ := X.thenCaughtThrough q (g := F0 m pc ls rest) rfl (Steps.refl _) (by rw [hT]; exact hcell) (by rw [hv]; rfl) (by obtain ⟨k9, h9, -⟩ := Vm.findClass_spec hcl; exact ⟨k9, h9⟩) pre x suf hsplit
    (fun z hz => by
      rcases hpass z hz with h | ⟨hz0, nm, hl1, hn1⟩
      · exact Or.inl h
      · obtain ⟨c6, hc6, hcl6⟩ := Cond.classLink_spec hown hl1 e.platform hpl
        obtain ⟨a8, b8, h1, h2, h3⟩ := hn1
        cases Option.some.inj (h1.symm.trans hcl)
        cases Option.some.inj (h2.symm.trans hc6)
        exact Or.inr ⟨hz0, _, hcl6, h3⟩) hx (Or.inr ⟨h0, c4, hcl5, hasg⟩)
  obtain ⟨t, a1, b1⟩ := kk (T.setVm vm') hT X'
  exact ⟨t, st.trans a1, b1⟩
end Rows
section Ends
variable {p : Program} {l : Launch} {e : Env} {R : Room} {s : State} {m : MethodId} {args : Array Value} {below : List Frame} {meth : Method} {c : Code} {H : Heap} {locs : List Loc} {cells slots : Nat} {Q : State → Prop}
variable {mc ms : Nat} {free : Addr → Prop} {A0 A1 : Nat → Prop} {H0 : Heap} {a : Array Value} {ls : Array Slot} {st0 rest : List Value}
variable {Qc : Array Value → State → Outcome → State → Prop} {XC : String → State → State → Prop}
/-- what a body that may throw owes at its end -/
def vx_MQ (below : List Frame) (Qc : Array Value → State → Outcome → State → Prop) (XC : String → State → State → Prop) (a : Array Value) (s : State) (mc ms : Nat) (free : Addr → Prop) : State → Prop := fun t =>
  ∃ o, t.status = .running ∧ Ended t below o ∧ vx_Q Qc XC mc ms free a s o t
theorem vx_ret {g : JFrame} {mc ms : Nat} (k : W p l e R s m args below meth c H locs cells slots (MQ below Qc args s mc ms free) g) : W p l e R s m args below meth c H locs cells slots (vx_MQ below Qc XC args s mc ms free) g := by
  intro T hT X
  obtain ⟨t, a1, o, b1, b2, b3, b4⟩ := k T hT X
  exact ⟨t, a1, o, b1, b2, Or.inl ⟨b3, b4⟩⟩
/-- not caught here: it goes on to the caller -/
theorem vx_widen {g : JFrame} {q : Addr} {k n : Nat} (h1 : cells ≤ k) (h2 : slots ≤ n) (kk : vx_W p l e R s m args below meth c H locs k n Q g q) : vx_W p l e R s m args below meth c H locs cells slots Q g q := fun T hT X => kk T hT (stand_widen X h1 h2)
theorem vx_out {pc : Nat} {E : String} {ce : Cell} {q : Addr} {mc ms : Nat} (hout : ∀ x ∈ c.exceptionTable.toList, covers x pc = false) (hlocks : meth.locks = false) (hcell : H[q]? = some ce) (hv : ce.vm = .none) (hcl : s.vm.findClass E = some ce.cls)
    (hx : ∀ t : State, t.heap = H → s.vm.Alike t.vm → XC E s t) (hf : ∀ z ∈ locs, free z.base) (hc : cells ≤ mc) (hs : slots ≤ ms) :
    vx_W p l e R s m args below meth c H locs cells slots (vx_MQ below Qc XC args s mc ms free) (F0 m pc ls rest) q := by
  intro T hT X
  obtain ⟨st1, hrun, hend, hW, hsm⟩ := X.leaveThrown q (g := F0 m pc ls rest) rfl rfl rfl hout hlocks
  have hcell9 : (T.setFrames (.throwing q :: below)).heap[q]? = some ce := by
    show T.heap[q]? = some ce
    rw [hT]; exact hcell
  exact ⟨_, st1, .threw q, hrun, hend, Or.inr ⟨q, rfl, E, ce, locs, hx _ hT hW.alike, hcell9, hv, hcl, hW, hsm.mono hc hs, hf⟩⟩
theorem vx_frame {U : State} {k n : Nat} (h : s.sameButNew ({ U with vm := s.vm } : State) locs k n) : s.heap.size ≤ U.heap.size ∧ ∀ q : Nat, q < s.heap.size → (∀ z ∈ locs, z.base ≠ q) → U.heap[q]? = s.heap[q]? := by
  obtain ⟨-, h2, -, -, -, h6⟩ := h
  refine ⟨h2, fun q hq hz => ?_⟩
  obtain ⟨c9, e1, e2, e3, e4⟩ := h6 q _ (Array.getElem?_eq_getElem hq)
  have hs : c9.slots = (s.heap[q]).slots := Array.ext_getElem? fun i => e4 i fun hm => hz _ hm rfl
  have h9 : c9 = s.heap[q] := by
    rw [hs] at e2
    exact e2
  have e5 : U.heap[q]? = some c9 := e1
  rw [e5, h9, Array.getElem?_eq_getElem hq]
/-- the words of a throw but the four that speak of the heap -/
def vx_no (w : Cond) : Bool := decide (w ≠ .isRef (.static Bundle.tN "UNASSIGNED_STACK" Bundle.steD)) && decide (w ≠ .isRef (.static Bundle.tN "SUPPRESSED_SENTINEL" Bundle.listD)) && decide (w ≠ .laysStatic Bundle.tN "UNASSIGNED_STACK" Bundle.steD) && decide (w ≠ .laysStatic Bundle.tN "SUPPRESSED_SENTINEL" Bundle.listD)
def vx_at0 (own : String) (ic : Nat) (X : String) (names : List String) : List Cond := (Bundle.ownAtoms0 own ic X names).filter vx_no
def vx_atS (own : String) (ic : Nat) (X : String) (names : List String) : List Cond := (Bundle.ownAtoms own ic X names).filter vx_no
/-- a word that the tables alone decide, or a good one -/
def vx_ot (w : Cond) : Bool := w.onTables || goodWord w
theorem vx_ot_at {args a' : Array Value} {s U : State} {w : Cond} (hW : s.WarmedH U.vm) (hvm : s.vm = U.vm) (hg : vx_ot w = true) (h : w.before args s = true) : w.before a' U = true := by
  simp only [vx_ot, Bool.or_eq_true] at hg
  rcases hg with hg | hg
  · exact va_tabs hg hvm h
  · exact word_at hW (good_of_word hg) h
/-- a list's words: the good ones out of the method's own list, the others by premises of their own -/
theorem vx_hat {args : Array Value} {s : State} {L B : List Cond} (h1 : ∀ w ∈ L.filter goodWord, w.before args s = true) (h2 : ∀ w ∈ L.filter (fun w => !goodWord w), w ∈ B) (h3 : ∀ w ∈ B, w.before args s = true) : ∀ w ∈ L, w.before args s = true := by
  intro w hw
  by_cases g : goodWord w = true
  · exact h1 w (List.mem_filter.mpr ⟨hw, g⟩)
  · refine h3 w (h2 w (List.mem_filter.mpr ⟨hw, ?_⟩))
    show (!goodWord w) = true
    cases hgw : goodWord w
    · rfl
    · exact absurd hgw g
theorem vx_c {args : Array Value} {s : State} {w : Cond} {B : List Cond} (h : w.before args s = true) (t : ∀ w ∈ B, w.before args s = true) : ∀ w' ∈ w :: B, w'.before args s = true := fun w' h' => (List.mem_cons.mp h').elim (fun e => by rw [e]; exact h) (t w')
theorem vx_n {args : Array Value} {s : State} : ∀ w ∈ ([] : List Cond), w.before args s = true := fun _ h => nomatch h
theorem vx_own {args : Array Value} {s : State} {L : List Cond} (h1 : ∀ w ∈ L.filter vx_no, w.before args s = true)
    (hU : (Cond.isRef (.static Bundle.tN "UNASSIGNED_STACK" Bundle.steD)).before args s = true) (hN : (Cond.isRef (.static Bundle.tN "SUPPRESSED_SENTINEL" Bundle.listD)).before args s = true)
    (lU : (Cond.laysStatic Bundle.tN "UNASSIGNED_STACK" Bundle.steD).before args s = true) (lN : (Cond.laysStatic Bundle.tN "SUPPRESSED_SENTINEL" Bundle.listD).before args s = true) : ∀ w ∈ L, w.before args s = true := by
  intro w hw
  by_cases e1 : w = .isRef (.static Bundle.tN "UNASSIGNED_STACK" Bundle.steD)
  · rw [e1]; exact hU
  · by_cases e2 : w = .isRef (.static Bundle.tN "SUPPRESSED_SENTINEL" Bundle.listD)
    · rw [e2]; exact hN
    · by_cases e3 : w = .laysStatic Bundle.tN "UNASSIGNED_STACK" Bundle.steD
      · rw [e3]; exact lU
      · by_cases e4 : w = .laysStatic Bundle.tN "SUPPRESSED_SENTINEL" Bundle.listD
        · rw [e4]; exact lN
        · exact h1 w (List.mem_filter.mpr ⟨hw, by unfold vx_no; rw [decide_eq_true e1, decide_eq_true e2, decide_eq_true e3, decide_eq_true e4]; rfl⟩)
/-- where a static field lies, its class's statics cell in H -/
def vx_L (C n d : String) (A : Nat → Prop) (U : State) (H : Heap) : Prop := ∃ (c : ClassId) (k : Class) (i : Nat) (f : Field) (a : Nat) (cell : Cell), U.vm.findClass C = some c ∧ U.fieldFound? C n d = some (c, k, i, f) ∧ f.isStatic = true ∧ k.statics = some a ∧ H[a]? = some cell ∧ cell.vm.isStatics = true ∧ cell.cls = c ∧ f.slot < cell.slots.size ∧ k.staticTypes[f.slot]? = some f.type ∧ ¬ A a
theorem vx_L.moved {C n d : String} {A : Nat → Prop} {u U : State} {H : Heap} (hvm : u.vm.Alike U.vm) (h : vx_L C n d A u H) : vx_L C n d A U H := by
  obtain ⟨c, k, i, f, a, cell, h1, h2, h3, h4, h5, h6, h7, h8, h9, h10⟩ := h
  obtain ⟨k', hi', he⟩ := State.fieldFound?_setVm hvm h2
  exact ⟨c, k', i, f, a, cell, by rw [hvm.findClass]; exact h1, hi', h3, by rw [he]; exact h4, h5, h6, h7, h8, by rw [he]; exact h9, h10⟩
theorem vx_L.kept {C n d : String} {A : Nat → Prop} {U : State} {H H1 : Heap} (h : vx_L C n d A U H) (hq : ∀ a : Nat, a < H.size → ¬ A a → H1[a]? = H[a]?) : vx_L C n d A U H1 := by
  obtain ⟨c, k, i, f, a, cell, h1, h2, h3, h4, h5, h6, h7, h8, h9, h10⟩ := h
  exact ⟨c, k, i, f, a, cell, h1, h2, h3, h4, by rw [hq a (Array.getElem?_eq_some_iff.mp h5).1 h10]; exact h5, h6, h7, h8, h9, h10⟩
theorem vx_L.narrow {C n d : String} {A B : Nat → Prop} {U : State} {H : Heap} (h : vx_L C n d A U H) (hAB : ∀ q, B q → A q) : vx_L C n d B U H := by
  obtain ⟨c, k, i, f, a, cell, h1, h2, h3, h4, h5, h6, h7, h8, h9, h10⟩ := h
  exact ⟨c, k, i, f, a, cell, h1, h2, h3, h4, h5, h6, h7, h8, h9, fun z => h10 (hAB _ z)⟩
theorem vx_L.word {C n d : String} {A : Nat → Prop} {s : State} {args : Array Value} (h : vx_L C n d A s s.heap) : (Cond.laysStatic C n d).before args s = true := by
  obtain ⟨c, k, i, f, a, cell, h1, h2, h3, h4, h5, h6, h7, h8, h9, -⟩ := h
  show (Cond.laysStatic C n d).holds args s none s [] = true
  exact Cond.laysStatic_of h1 h2 h3 h4 h5 h6 h7 h8 h9
/-- .. and what it holds: null or some reference -/
def vx_Zq (C n d : String) (A : Nat → Prop) (U : State) (H : Heap) : Prop := va_Zq C n d A U H ∧ vx_L C n d A U H
theorem vx_Zq.moved {C n d : String} {A : Nat → Prop} {u U : State} {H : Heap} (hvm : u.vm.Alike U.vm) (h : vx_Zq C n d A u H) : vx_Zq C n d A U H := ⟨va_Zq.moved hvm h.1, vx_L.moved hvm h.2⟩
theorem vx_Zq.kept {C n d : String} {A : Nat → Prop} {U : State} {H H1 : Heap} (h : vx_Zq C n d A U H) (hq : ∀ a : Nat, a < H.size → ¬ A a → H1[a]? = H[a]?) : vx_Zq C n d A U H1 := ⟨va_Zq.kept h.1 hq, vx_L.kept h.2 hq⟩
theorem vx_Zq.narrow {C n d : String} {A B : Nat → Prop} {U : State} {H : Heap} (h : vx_Zq C n d A U H) (hAB : ∀ q, B q → A q) : vx_Zq C n d B U H := ⟨va_Zq.narrow h.1 hAB, vx_L.narrow h.2 hAB⟩
theorem vx_Zqof {args : Array Value} {s : State} {C n d : String} {A : Nat → Prop} (hl : (Cond.laysStatic C n d).before args s = true) (hini : (Cond.initialized C).before args s = true) (h : (Cond.isRef (.static C n d)).before args s = true) (hA : ∀ a : Nat, a < s.heap.size → ¬ A a) : vx_Zq C n d A s s.heap := by
  refine ⟨va_Zqof hl hini h hA, ?_⟩
  obtain ⟨c, k, i, f, a, cell, h1, h2, h3, h4, h5, h6, h7, h8, h9⟩ := Cond.laysStatic_spec hl
  exact ⟨c, k, i, f, a, cell, h1, h2, h3, h4, h5, h6, h7, h8, h9, hA a (Array.getElem?_eq_some_iff.mp h5).1⟩
theorem vx_isRef {C n d : String} {v : Value} {A : Nat → Prop} {s : State} {args : Array Value} (h : va_Z C n d v A s s.heap) (hv : v.isRef = true) : (Cond.isRef (.static C n d)).before args s = true := by
  obtain ⟨cf, kf, fi, f, a, cell, h1, h2, h3, h4, h5, h6, h7, -⟩ := h
  have he : (Term.static C n d).eval args s none [] s = some v := by
    simp [Term.eval, State.fieldNamed?, h1, h2, h4, h5, h6, h7]
  simp only [Cond.before, Cond.holds, Cond.value, he]
  cases v <;> simp_all [Value.isRef]
theorem vx_isRefq {C n d : String} {A : Nat → Prop} {s : State} {args : Array Value} (h : va_Zq C n d A s s.heap) : (Cond.isRef (.static C n d)).before args s = true := by
  rcases h with h | ⟨t, h⟩
  · exact vx_isRef h rfl
  · exact vx_isRef h rfl
/-- the same frame, seen from here: as if the method were called anew in this heap -/
theorem vx_rebase {T : State} (X : Stand p l e R s m args below meth c T locs cells slots) {R' : Room} (hf : R'.frames ≤ R.frames) (hl : R'.locals ≤ R.locals) (hc : cells + R'.cells ≤ R.cells) (hs : slots + R'.slots ≤ R.slots) :
    Stand p l e R' ((T.setVm s.vm).setFrames (.invoking m args :: below)) m args below meth c T [] 0 0 := by
  have htop : (T.setVm s.vm).topJava?.isSome := X.here.top
  have hF : ((T.setVm s.vm).setFrames (.invoking m args :: below)).frames = .invoking m args :: below := State.frames_setFrames _ (State.cur_lt_of_top htop)
  obtain ⟨g₀, hg0⟩ := Option.isSome_iff_exists.mp htop
  obtain ⟨r, hr⟩ := State.topJava?_eq_some.mp hg0
  have hl9 : e.platform.stackLimits (T.setVm s.vm).me = e.platform.stackLimits s.me := X.limits
  have hb9 : (T.setVm s.vm).me.stackBytes = s.me.stackBytes := X.bytes
  refine ⟨X.admits, X.cas, X.clock, hF, ?_, X.hears, X.method, X.code, X.here, X.tail, X.warmed, ?_, ?_, ?_⟩
  · have h := X.room
    have hU : ((T.setVm s.vm).setFrames (.invoking m args :: below)).localsInUse = s.localsInUse := by
      rw [State.localsInUse_invoking hF (meth := meth) (c := c) X.method X.code, State.localsInUse_invoking X.frames X.method X.code]
    simp only [State.hasRoom, Bool.and_eq_true, decide_eq_true_eq] at h ⊢
    obtain ⟨⟨⟨⟨h1, h2, h3, h4, h5, h6⟩, h7⟩, h8⟩, h9⟩ := h
    rw [X.frames, List.length_cons] at h2 h3
    have q1 := X.heapSize
    have q2 := X.used
    simp only [hF, hU, List.length_cons, State.stackLimits_setFrames, State.stackBytes_setFrames, hl9, hb9]
    refine ⟨⟨⟨⟨by omega, by omega, by omega, by omega, by omega, h6⟩, ?_⟩, ?_⟩, X.book⟩
    · show T.heap.size + R'.cells ≤ e.platform.maxCells
      omega
    · show T.slotsUsed + R'.slots ≤ e.platform.maxSlots
      omega
  · rw [State.stackLimits_setFrames]; rfl
  · rw [State.stackBytes_setFrames]; rfl
  · refine ⟨?_, Nat.le_refl _, Nat.le_refl _, ?_, ?_, fun a c9 h9 => ⟨c9, h9, rfl, rfl, fun _ _ => rfl⟩⟩
    · obtain ⟨t, ht, -⟩ := State.frames_cons hr
      show T.setVm s.vm = { ((T.setVm s.vm).setFrames (.invoking m args :: below)).setFrames (T.setVm s.vm).frames with heap := T.heap, slotsUsed := T.slotsUsed }
      rw [State.setFrames_setFrames, State.setFrames_self ht]
      rfl
    · show T.slotsUsed = T.slotsUsed + ((T.heap.toList.drop T.heap.size).map (·.slots.size)).sum
      rw [List.drop_eq_nil_of_le (Nat.le_of_eq Array.length_toList)]
      rfl
    · show ((T.heap.toList.drop T.heap.size).map (·.slots.size)).sum ≤ 0
      rw [List.drop_eq_nil_of_le (Nat.le_of_eq Array.length_toList)]
      exact Nat.le_refl _
/-- 'throw new E()': new; dup; invokespecial; athrow -/
theorem vx_throw0 {cc : ByteArray} {pc : Nat} (hexec : p.tables.exec = Jvm.exec) (hb : c.code = cc) (hl : l.stackTraces = false) {own cls : String} {names : List String} {ik ic mc ms : Nat} {A : Nat → Prop}
    (hown : s.vm.findClass own = some m.cls) (hcls : Bundle.fit cls = true) (hnames : ∀ n ∈ names, Bundle.fit n = true)
    (hk : (Cond.classLink own ik cls).before args s = true) (hini : (Cond.initialized cls).before args s = true) (hat : ∀ w ∈ vx_at0 own ic cls names, w.before args s = true)
    (hgood : ∀ w ∈ Cond.classLink own ik cls :: Cond.initialized cls :: vx_at0 own ic cls names, vx_ot w = true)
    (hU : vx_Zq Bundle.tN "UNASSIGNED_STACK" Bundle.steD A s s.heap) (hN : vx_Zq Bundle.tN "SUPPRESSED_SENTINEL" Bundle.listD A s s.heap) (hS : va_S A s.heap H locs) (hsize : ls.size = c.maxLocals)
    (d0 : decode cc pc = .ok (.new ik, 3)) (d3 : decode cc (pc + 3) = .ok (.dup, 1)) (d4 : decode cc (pc + 4) = .ok (.invokespecial ic, 3)) (d7 : decode cc (pc + 7) = .ok (.athrow, 1))
    (hout : ∀ x ∈ c.exceptionTable.toList, covers x (pc + 7) = false)
    (hRframes : names.length + 3 < R.frames) (hRlocals : (rest.map fun v => v.category).sum + (13 * (names.length + 1) + 42) ≤ R.locals) (hRcells : cells + 1 ≤ R.cells) (hRslots : slots + 6 ≤ R.slots) (hlocks : meth.locks = false)
    (hx : ∀ t : State, s.vm.Alike t.vm → H.size ≤ t.heap.size → (∀ q : Nat, q < H.size → t.heap[q]? = H[q]?) → XC cls s t)
    (hf : ∀ z ∈ locs, free z.base) (hc : cells + 1 ≤ mc) (hs : slots + 6 ≤ ms) :
    W p l e R s m args below meth c H locs cells slots (vx_MQ below Qc XC args s mc ms free) (F0 m pc ls rest) := by
  intro T hT X
  have htr : e.platform.stackTraces = false := (show e.platform.stackTraces = l.stackTraces by rw [X.admits.platform]).trans hl
  have Y := vx_rebase X (R' := { frames := R.frames, locals := R.locals, cells := 1, slots := 6 }) (Nat.le_refl _) (Nat.le_refl _) hRcells hRslots
  obtain ⟨s', hA⟩ : ∃ z, z = (T.setVm s.vm).setFrames (.invoking m args :: below) := ⟨_, rfl⟩
  rw [← hA] at Y
  have hvm : s'.vm = s.vm := by rw [hA]; rfl
  have hhp : s'.heap = H := by rw [hA]; exact hT
  have hW0 : s.WarmedH s'.vm := by rw [hvm]; exact State.WarmedH.refl s
  have hat' : ∀ w ∈ vx_at0 own ic cls names, w.before args s' = true := fun w hw => vx_ot_at hW0 hvm.symm (hgood w (List.mem_cons_of_mem _ (List.mem_cons_of_mem _ hw))) (hat w hw)
  have hk' : (Cond.classLink own ik cls).before args s' = true := vx_ot_at hW0 hvm.symm (hgood _ List.mem_cons_self) hk
  have hini' : (Cond.initialized cls).before args s' = true := vx_ot_at hW0 hvm.symm (hgood _ (List.mem_cons_of_mem _ List.mem_cons_self)) hini
  have hU' : vx_Zq Bundle.tN "UNASSIGNED_STACK" Bundle.steD A s' s'.heap := by rw [hhp]; exact vx_Zq.moved hW0.alike (hU.kept hS.2.1)
  have hN' : vx_Zq Bundle.tN "SUPPRESSED_SENTINEL" Bundle.listD A s' s'.heap := by rw [hhp]; exact vx_Zq.moved hW0.alike (hN.kept hS.2.1)
  have h : ∀ w ∈ Bundle.ownAtoms0 own ic cls names, w.before args s' = true := vx_own hat' (vx_isRefq hU'.1) (vx_isRefq hN'.1) hU'.2.word hN'.2.word
  have hown' : s'.vm.findClass own = some m.cls := by rw [hvm]; exact hown
  have hins : (Cond.instantiable cls 6).before args s' = true := h _ (by simp [Bundle.ownAtoms0])
  obtain ⟨vm₁, cX, kX, hfX, hkX, -, -, X₁, st1⟩ := Y.newCold hexec (own := own) (C := cls) (index := ik) (n := 6) hown' hk' hins hini'
    (g := F0 m pc ls rest) rfl (by rw [hb]; exact d0) (Nat.le_refl _) (Nat.le_refl _)
  generalize hT1 : (T.setVm vm₁).pushCell { cls := cX, slots := kX.instanceTypes.map defaultValue, vm := .none } = T1 at X₁ st1
  have hcat : (Value.ref T.heap.size).category = 1 := rfl
  have hcellA : T1.heap[T.heap.size]? = some (freshCell cX kX) := by rw [← hT1]; exact State.heap_pushCell_size _ _
  have d3' : decode c.code (pc + 3) = .ok (.dup, 1) := by rw [hb]; exact d3
  obtain ⟨U, hsteps, hrun, hend, hW, hsame, ce, hce, hO⟩ := X₁.ctorThrow0 hexec htr (own := own) (cls := cls) (names := names) (ic := ic) hown' hcls hnames h (fun x hx => nomatch hx) hfX hkX hcellA (by rw [hhp, hT]; exact Nat.le_refl _)
    (g := { method := m, pc := pc + 4, locals := ls, stack := .ref T.heap.size :: .ref T.heap.size :: rest, locked := none }) rfl hsize rfl rfl (rest := rest) rfl
    (by rw [hb]; exact d4) (by rw [hb]; exact d7) hout hRframes (by simp only [List.map_cons, List.sum_cons, hcat]; omega) hlocks
  obtain ⟨f1, f2⟩ := vx_frame hsame
  rw [hhp] at f1 f2
  have hWs : s.WarmedH U.vm := State.WarmedH.trans hW0 hW
  have hcl : s.vm.findClass cls = some ce.cls := by
    have h9 := hO.cls
    rw [hvm] at h9
    exact h9
  have hall : s.sameButNew ({ U with vm := s.vm } : State) locs mc ms := by
    subst hA
    obtain ⟨e1, e2⟩ := hsame
    rw [State.setFrames_setFrames] at e1
    have h2 : (T.setVm s.vm).sameButNew ({ U with vm := s.vm } : State) [] (0 + 1) (0 + 6) := ⟨e1, e2⟩
    have h3 := X.same.trans h2
    rw [List.append_nil] at h3
    exact h3.mono hc hs
  refine ⟨U, ?_, .threw T.heap.size, hrun, hend, Or.inr ⟨T.heap.size, rfl, cls, ce, locs, hx U hWs.alike f1 (fun q hq => f2 q hq (fun z hz => nomatch hz)), hce, hO.vm, hcl, hWs, hall, hf⟩⟩
  refine st1 _ ?_
  show Steps p.tables e below (T1.setTop { method := m, pc := pc + 3, locals := ls, stack := .ref T.heap.size :: rest, locked := none }) _
  jvm_step X₁.here [X₁.here.top, hexec, d3', Value.category]
  exact hsteps
/-- 'throw new E("text")': new; dup; ldc; invokespecial; athrow -/
theorem vx_throwS {cc : ByteArray} {pc : Nat} (hexec : p.tables.exec = Jvm.exec) (hb : c.code = cc) (hl : l.stackTraces = false) {own cls text : String} {names : List String} {ik is ic mc ms sa : Nat} {A : Nat → Prop}
    (hown : s.vm.findClass own = some m.cls) (hcls : Bundle.fit cls = true) (hnames : ∀ n ∈ names, Bundle.fit n = true)
    (hk : (Cond.classLink own ik cls).before args s = true) (hini : (Cond.initialized cls).before args s = true) (hstr : vk_R own is text sa s) (hat : ∀ w ∈ vx_atS own ic cls names, w.before args s = true)
    (hgood : ∀ w ∈ Cond.classLink own ik cls :: Cond.initialized cls :: vx_atS own ic cls names, vx_ot w = true)
    (hU : vx_Zq Bundle.tN "UNASSIGNED_STACK" Bundle.steD A s s.heap) (hN : vx_Zq Bundle.tN "SUPPRESSED_SENTINEL" Bundle.listD A s s.heap) (hS : va_S A s.heap H locs) (hsize : ls.size = c.maxLocals)
    (d0 : decode cc pc = .ok (.new ik, 3)) (d3 : decode cc (pc + 3) = .ok (.dup, 1)) (d4 : decode cc (pc + 4) = .ok (.ldc is, 2)) (d6 : decode cc (pc + 6) = .ok (.invokespecial ic, 3)) (d9 : decode cc (pc + 9) = .ok (.athrow, 1))
    (hout : ∀ x ∈ c.exceptionTable.toList, covers x (pc + 9) = false)
    (hRframes : names.length + 3 < R.frames) (hRlocals : (rest.map fun v => v.category).sum + (13 * (names.length + 1) + 43) ≤ R.locals) (hRcells : cells + 1 ≤ R.cells) (hRslots : slots + 6 ≤ R.slots) (hlocks : meth.locks = false)
    (hx : ∀ t : State, s.vm.Alike t.vm → H.size ≤ t.heap.size → (∀ q : Nat, q < H.size → t.heap[q]? = H[q]?) → XC cls s t)
    (hf : ∀ z ∈ locs, free z.base) (hc : cells + 1 ≤ mc) (hs : slots + 6 ≤ ms) :
    W p l e R s m args below meth c H locs cells slots (vx_MQ below Qc XC args s mc ms free) (F0 m pc ls rest) := by
  intro T hT X
  have htr : e.platform.stackTraces = false := (show e.platform.stackTraces = l.stackTraces by rw [X.admits.platform]).trans hl
  have Y := vx_rebase X (R' := { frames := R.frames, locals := R.locals, cells := 1, slots := 6 }) (Nat.le_refl _) (Nat.le_refl _) hRcells hRslots
  obtain ⟨s', hA⟩ : ∃ z, z = (T.setVm s.vm).setFrames (.invoking m args :: below) := ⟨_, rfl⟩
  rw [← hA] at Y
  have hvm : s'.vm = s.vm := by rw [hA]; rfl
  have hhp : s'.heap = H := by rw [hA]; exact hT
  have hW0 : s.WarmedH s'.vm := by rw [hvm]; exact State.WarmedH.refl s
  have hat' : ∀ w ∈ vx_atS own ic cls names, w.before args s' = true := fun w hw => vx_ot_at hW0 hvm.symm (hgood w (List.mem_cons_of_mem _ (List.mem_cons_of_mem _ hw))) (hat w hw)
  have hk' : (Cond.classLink own ik cls).before args s' = true := vx_ot_at hW0 hvm.symm (hgood _ List.mem_cons_self) hk
  have hini' : (Cond.initialized cls).before args s' = true := vx_ot_at hW0 hvm.symm (hgood _ (List.mem_cons_of_mem _ List.mem_cons_self)) hini
  have hU' : vx_Zq Bundle.tN "UNASSIGNED_STACK" Bundle.steD A s' s'.heap := by rw [hhp]; exact vx_Zq.moved hW0.alike (hU.kept hS.2.1)
  have hN' : vx_Zq Bundle.tN "SUPPRESSED_SENTINEL" Bundle.listD A s' s'.heap := by rw [hhp]; exact vx_Zq.moved hW0.alike (hN.kept hS.2.1)
  have h : ∀ w ∈ Bundle.ownAtoms own ic cls names, w.before args s' = true := vx_own hat' (vx_isRefq hU'.1) (vx_isRefq hN'.1) hU'.2.word hN'.2.word
  have hown' : s'.vm.findClass own = some m.cls := by rw [hvm]; exact hown
  have hins : (Cond.instantiable cls 6).before args s' = true := h _ (by simp [Bundle.ownAtoms])
  obtain ⟨vm₁, cX, kX, hfX, hkX, -, -, X₁, st1⟩ := Y.newCold hexec (own := own) (C := cls) (index := ik) (n := 6) hown' hk' hins hini'
    (g := F0 m pc ls rest) rfl (by rw [hb]; exact d0) (Nat.le_refl _) (Nat.le_refl _)
  generalize hT1 : (T.setVm vm₁).pushCell { cls := cX, slots := kX.instanceTypes.map defaultValue, vm := .none } = T1 at X₁ st1
  have hcat : (Value.ref T.heap.size).category = 1 := rfl
  have hcellA : T1.heap[T.heap.size]? = some (freshCell cX kX) := by rw [← hT1]; exact State.heap_pushCell_size _ _
  have d3' : decode c.code (pc + 3) = .ok (.dup, 1) := by rw [hb]; exact d3
  have d4' : decode c.code (pc + 4) = .ok (.ldc is, 2) := by rw [hb]; exact d4
  have hstr' : vk_R own is text sa s' := vk_R.warm hW0 hstr
  obtain ⟨U, hsteps, hrun, hend, hW, hsame, ce, hce, hO⟩ := X₁.ctorThrowS hexec htr (own := own) (cls := cls) (names := names) (ic := ic) hown' hcls hnames h (fun x hx => nomatch hx) hfX hkX hcellA (by rw [hhp, hT]; exact Nat.le_refl _) (msg := .ref sa) rfl
    (g := { method := m, pc := pc + 6, locals := ls, stack := .ref sa :: .ref T.heap.size :: .ref T.heap.size :: rest, locked := none }) rfl hsize rfl rfl (rest := rest) rfl
    (by rw [hb]; exact d6) (by rw [hb]; exact d9) hout hRframes (by simp only [List.map_cons, List.sum_cons, hcat]; omega) hlocks
  obtain ⟨f1, f2⟩ := vx_frame hsame
  rw [hhp] at f1 f2
  have hWs : s.WarmedH U.vm := State.WarmedH.trans hW0 hW
  have hcl : s.vm.findClass cls = some ce.cls := by
    have h9 := hO.cls
    rw [hvm] at h9
    exact h9
  have hall : s.sameButNew ({ U with vm := s.vm } : State) locs mc ms := by
    subst hA
    obtain ⟨e1, e2⟩ := hsame
    rw [State.setFrames_setFrames] at e1
    have h2 : (T.setVm s.vm).sameButNew ({ U with vm := s.vm } : State) [] (0 + 1) (0 + 6) := ⟨e1, e2⟩
    have h3 := X.same.trans h2
    rw [List.append_nil] at h3
    exact h3.mono hc hs
  refine ⟨U, ?_, .threw T.heap.size, hrun, hend, Or.inr ⟨T.heap.size, rfl, cls, ce, locs, hx U hWs.alike f1 (fun q hq => f2 q hq (fun z hz => nomatch hz)), hce, hO.vm, hcl, hWs, hall, hf⟩⟩
  refine st1 _ ?_
  show Steps p.tables e below (T1.setTop { method := m, pc := pc + 3, locals := ls, stack := .ref T.heap.size :: rest, locked := none }) _
  jvm_step X₁.here [X₁.here.top, hexec, d3', Value.category]
  exact X₁.ldcString hexec (own := own) (text := text) (index := is) (a := sa) hown' hstr'.1 hstr'.2
    (g := { method := m, pc := pc + 4, locals := ls, stack := .ref T.heap.size :: .ref T.heap.size :: rest, locked := none }) rfl d4' _ hsteps
/-- 'throw new E("text")', the text by a wide index -/
theorem vx_throwSW {cc : ByteArray} {pc : Nat} (hexec : p.tables.exec = Jvm.exec) (hb : c.code = cc) (hl : l.stackTraces = false) {own cls text : String} {names : List String} {ik is ic mc ms sa : Nat} {A : Nat → Prop}
    (hown : s.vm.findClass own = some m.cls) (hcls : Bundle.fit cls = true) (hnames : ∀ n ∈ names, Bundle.fit n = true)
    (hk : (Cond.classLink own ik cls).before args s = true) (hini : (Cond.initialized cls).before args s = true) (hstr : vk_R own is text sa s) (hat : ∀ w ∈ vx_atS own ic cls names, w.before args s = true)
    (hgood : ∀ w ∈ Cond.classLink own ik cls :: Cond.initialized cls :: vx_atS own ic cls names, vx_ot w = true)
    (hU : vx_Zq Bundle.tN "UNASSIGNED_STACK" Bundle.steD A s s.heap) (hN : vx_Zq Bundle.tN "SUPPRESSED_SENTINEL" Bundle.listD A s s.heap) (hS : va_S A s.heap H locs) (hsize : ls.size = c.maxLocals)
    (d0 : decode cc pc = .ok (.new ik, 3)) (d3 : decode cc (pc + 3) = .ok (.dup, 1)) (d4 : decode cc (pc + 4) = .ok (.ldc_w is, 3)) (d7 : decode cc (pc + 7) = .ok (.invokespecial ic, 3)) (d10 : decode cc (pc + 10) = .ok (.athrow, 1))
    (hout : ∀ x ∈ c.exceptionTable.toList, covers x (pc + 10) = false)
    (hRframes : names.length + 3 < R.frames) (hRlocals : (rest.map fun v => v.category).sum + (13 * (names.length + 1) + 43) ≤ R.locals) (hRcells : cells + 1 ≤ R.cells) (hRslots : slots + 6 ≤ R.slots) (hlocks : meth.locks = false)
    (hx : ∀ t : State, s.vm.Alike t.vm → H.size ≤ t.heap.size → (∀ q : Nat, q < H.size → t.heap[q]? = H[q]?) → XC cls s t)
    (hf : ∀ z ∈ locs, free z.base) (hc : cells + 1 ≤ mc) (hs : slots + 6 ≤ ms) :
    W p l e R s m args below meth c H locs cells slots (vx_MQ below Qc XC args s mc ms free) (F0 m pc ls rest) := by
  intro T hT X
  have htr : e.platform.stackTraces = false := (show e.platform.stackTraces = l.stackTraces by rw [X.admits.platform]).trans hl
  have Y := vx_rebase X (R' := { frames := R.frames, locals := R.locals, cells := 1, slots := 6 }) (Nat.le_refl _) (Nat.le_refl _) hRcells hRslots
  obtain ⟨s', hA⟩ : ∃ z, z = (T.setVm s.vm).setFrames (.invoking m args :: below) := ⟨_, rfl⟩
  rw [← hA] at Y
  have hvm : s'.vm = s.vm := by rw [hA]; rfl
  have hhp : s'.heap = H := by rw [hA]; exact hT
  have hW0 : s.WarmedH s'.vm := by rw [hvm]; exact State.WarmedH.refl s
  have hat' : ∀ w ∈ vx_atS own ic cls names, w.before args s' = true := fun w hw => vx_ot_at hW0 hvm.symm (hgood w (List.mem_cons_of_mem _ (List.mem_cons_of_mem _ hw))) (hat w hw)
  have hk' : (Cond.classLink own ik cls).before args s' = true := vx_ot_at hW0 hvm.symm (hgood _ List.mem_cons_self) hk
  have hini' : (Cond.initialized cls).before args s' = true := vx_ot_at hW0 hvm.symm (hgood _ (List.mem_cons_of_mem _ List.mem_cons_self)) hini
  have hU' : vx_Zq Bundle.tN "UNASSIGNED_STACK" Bundle.steD A s' s'.heap := by rw [hhp]; exact vx_Zq.moved hW0.alike (hU.kept hS.2.1)
  have hN' : vx_Zq Bundle.tN "SUPPRESSED_SENTINEL" Bundle.listD A s' s'.heap := by rw [hhp]; exact vx_Zq.moved hW0.alike (hN.kept hS.2.1)
  have h : ∀ w ∈ Bundle.ownAtoms own ic cls names, w.before args s' = true := vx_own hat' (vx_isRefq hU'.1) (vx_isRefq hN'.1) hU'.2.word hN'.2.word
  have hown' : s'.vm.findClass own = some m.cls := by rw [hvm]; exact hown
  have hins : (Cond.instantiable cls 6).before args s' = true := h _ (by simp [Bundle.ownAtoms])
  obtain ⟨vm₁, cX, kX, hfX, hkX, -, -, X₁, st1⟩ := Y.newCold hexec (own := own) (C := cls) (index := ik) (n := 6) hown' hk' hins hini'
    (g := F0 m pc ls rest) rfl (by rw [hb]; exact d0) (Nat.le_refl _) (Nat.le_refl _)
  generalize hT1 : (T.setVm vm₁).pushCell { cls := cX, slots := kX.instanceTypes.map defaultValue, vm := .none } = T1 at X₁ st1
  have hcat : (Value.ref T.heap.size).category = 1 := rfl
  have hcellA : T1.heap[T.heap.size]? = some (freshCell cX kX) := by rw [← hT1]; exact State.heap_pushCell_size _ _
  have d3' : decode c.code (pc + 3) = .ok (.dup, 1) := by rw [hb]; exact d3
  have d4' : decode c.code (pc + 4) = .ok (.ldc_w is, 3) := by rw [hb]; exact d4
  have hstr' : vk_R own is text sa s' := vk_R.warm hW0 hstr
  obtain ⟨U, hsteps, hrun, hend, hW, hsame, ce, hce, hO⟩ := X₁.ctorThrowS hexec htr (own := own) (cls := cls) (names := names) (ic := ic) hown' hcls hnames h (fun x hx => nomatch hx) hfX hkX hcellA (by rw [hhp, hT]; exact Nat.le_refl _) (msg := .ref sa) rfl
    (g := { method := m, pc := pc + 7, locals := ls, stack := .ref sa :: .ref T.heap.size :: .ref T.heap.size :: rest, locked := none }) rfl hsize rfl rfl (rest := rest) rfl
    (by rw [hb]; exact d7) (by rw [hb]; exact d10) hout hRframes (by simp only [List.map_cons, List.sum_cons, hcat]; omega) hlocks
  obtain ⟨f1, f2⟩ := vx_frame hsame
  rw [hhp] at f1 f2
  have hWs : s.WarmedH U.vm := State.WarmedH.trans hW0 hW
  have hcl : s.vm.findClass cls = some ce.cls := by
    have h9 := hO.cls
    rw [hvm] at h9
    exact h9
  have hall : s.sameButNew ({ U with vm := s.vm } : State) locs mc ms := by
    subst hA
    obtain ⟨e1, e2⟩ := hsame
    rw [State.setFrames_setFrames] at e1
    have h2 : (T.setVm s.vm).sameButNew ({ U with vm := s.vm } : State) [] (0 + 1) (0 + 6) := ⟨e1, e2⟩
    have h3 := X.same.trans h2
    rw [List.append_nil] at h3
    exact h3.mono hc hs
  refine ⟨U, ?_, .threw T.heap.size, hrun, hend, Or.inr ⟨T.heap.size, rfl, cls, ce, locs, hx U hWs.alike f1 (fun q hq => f2 q hq (fun z hz => nomatch hz)), hce, hO.vm, hcl, hWs, hall, hf⟩⟩
  refine st1 _ ?_
  show Steps p.tables e below (T1.setTop { method := m, pc := pc + 3, locals := ls, stack := .ref T.heap.size :: rest, locked := none }) _
  jvm_step X₁.here [X₁.here.top, hexec, d3', Value.category]
  exact X₁.ldcStringW hexec (own := own) (text := text) (index := is) (a := sa) hown' hstr'.1 hstr'.2
    (g := { method := m, pc := pc + 4, locals := ls, stack := .ref T.heap.size :: .ref T.heap.size :: rest, locked := none }) rfl d4' _ hsteps
end Ends
section Bodies
variable {l : Launch}
theorem vx_ofW {y : MethodName} {ws ws' : List Cond} {rm : Room} {Pc : Array Value → State → Prop} {Qc : Array Value → State → Outcome → State → Prop} {XC : String → State → State → Prop} {mc ms : Nat} {free : Addr → Prop} {cc : ByteArray} {maxL : Nat} {ret : Option FieldType}
    (hy : plainName y.cls = true) (hw : ws = Cond.code y cc maxL ret :: ws')
    (body : ∀ p e s m args below meth c s₁, BodyLoose p l y (headSpec ws rm) cc maxL ret e s m args below meth c s₁ → c.maxLocals = maxL → (∀ x ∈ c.exceptionTable.toList, False) → Pc args s →
      W p l e (headSpec ws rm).room s m args below meth c s.heap [] 0 0 (vx_MQ below Qc XC args s mc ms free) (entryFrame m args maxL)) : vx_Met l y ws rm Pc Qc XC mc ms free := by
  refine MetFree.of_bodyS (code := cc) (maxLocals := maxL) (ret := ret) hy ?_ ?_
  · intro args s m h hn
    obtain ⟨meth, c, h1, h2, h3, h4, h5, h6, -, -⟩ := Cond.code_spec hn (atoms_spec (ws := ws) h _ (by rw [hw]; exact List.mem_cons_self))
    exact ⟨meth, c, h1, h2, h3, h4, h5, h6⟩
  · intro p e s m args below meth c s₁ B hml hP _
    have hh0 : s₁.heap = s.heap := by rw [B.state]; rfl
    have ht : ∀ x ∈ c.exceptionTable.toList, False := by
      obtain ⟨meth9, c9, h1, h2, -, -, -, -, h7, -⟩ := Cond.code_spec B.named (atoms_spec (ws := ws) B.pre _ (by rw [hw]; exact List.mem_cons_self))
      cases Option.some.inj (h1.symm.trans B.method)
      cases Option.some.inj (h2.symm.trans (Stand.of_body B).code)
      intro x hx
      rw [Array.isEmpty_iff.mp h7] at hx
      cases hx
    obtain ⟨t, a1, o, b1, b2, b3⟩ := body p e s m args below meth c s₁ B hml ht hP s₁ hh0 (Stand.of_body B)
    exact ⟨t, o, a1, b1, b2, b3⟩
/-- the table of a body with handlers -/
theorem vx_table {p : Program} {x y : MethodName} {S : Spec} {cc bytes : ByteArray} {maxL maxL' : Nat} {ret ret' : Option FieldType} {e : Env} {s s₁ : State} {m : MethodId} {args : Array Value} {below : List Frame} {meth : Method} {c : Code} {hh : List (Nat × Nat × Nat × Nat)}
    (B : BodyLoose p l y S cc maxL ret e s m args below meth c s₁) (h : (Cond.codeWith y bytes maxL' ret' hh).before args s = true) : c.exceptionTable.toList = tableOf hh := by
  obtain ⟨m9, meth9, c9, hn9, h1, h2, -, -, h6, -⟩ := Cond.codeWith_spec h
  cases Option.some.inj (hn9.symm.trans B.named)
  cases Option.some.inj (h1.symm.trans B.method)
  cases Option.some.inj (h2.symm.trans (Stand.of_body B).code)
  rw [← h6, table_eq]
end Bodies
end VXA
/-! ===== END ===== -/
/-! ===== BEGIN a static call of a method with an exception table ===== -/
section VXS
variable {p : Program} {l : Launch} {e : Env} {R : Room} {s : State} {m : MethodId} {args : Array Value} {below : List Frame} {meth : Method} {c : Code} {T : State} {H : Heap} {locs : List Loc} {cells slots : Nat}
abbrev vx_CSW (R : Room) (s : State) (args : Array Value) (own : String) (index : Nat) (y : MethodName) (bytes : ByteArray) (maxL : Nat) (ret : Option FieldType) (hh : List (Nat × Nat × Nat × Nat)) (ws : List Cond) (rm : Room) (mc ms n : Nat) : Prop :=
  (rm.cells = mc ∧ rm.slots = ms ∧ rm.frames + 1 ≤ R.frames ∧ 8 + (maxL + 11) + rm.locals ≤ R.locals ∧ (∀ w ∈ ws, ∀ (a' : Array Value) (U : State), s.WarmedH U.vm → w.before a' U = true) ∧ Cond.codeWith y bytes maxL ret hh ∈ ws) ∧
  (Cond.codeWith y bytes maxL ret hh).before args s = true ∧ (Cond.initialized y.cls).before args s = true ∧ (y.cls ≠ "java/lang/invoke/MethodHandle" ∧ y.cls ≠ "java/lang/invoke/VarHandle") ∧
  (∀ sig, parseMethodDescriptor y.desc = some sig → n = sig.parameters.length) ∧ (Cond.methodLink own index y).before args s = true ∧ (Cond.static y).before args s = true
theorem vx_cwSW {own : String} {index maxL mc ms : Nat} {y : MethodName} {bytes : ByteArray} {ret : Option FieldType} {hh : List (Nat × Nat × Nat × Nat)} {Ts ws ws' : List Cond} {rm : Room} (n : Nat) (ht : ∀ w ∈ Ts, w.before args s = true) (hT : GoodIn Ts (va_wsS own index y ws)) (hw : ws = Cond.codeWith y bytes maxL ret hh :: ws') (hrc : rm.cells = mc) (hrs : rm.slots = ms)
    (hd : y.cls ≠ "java/lang/invoke/MethodHandle" ∧ y.cls ≠ "java/lang/invoke/VarHandle" ∧ (parseMethodDescriptor y.desc).map (fun d => d.parameters.length) = some n) (hR : rm.frames + 1 ≤ R.frames ∧ 8 + (maxL + 11) + rm.locals ≤ R.locals) :
    vx_CSW R s args own index y bytes maxL ret hh ws rm mc ms n := by
  have ok : ∀ w ∈ va_wsS own index y ws, w.before args s = true := fun w h => ht w (hT w h).1
  have hG : GoodIn Ts ws := fun w h => hT w (by unfold va_wsS; exact List.mem_append_right _ h)
  have hc : Cond.codeWith y bytes maxL ret hh ∈ ws := by rw [hw]; exact List.mem_cons_self
  refine ⟨⟨hrc, hrs, hR.1, hR.2, pay_in ht hG, hc⟩, ht _ (hG _ hc).1, ok _ (by simp [va_wsS]), ⟨hd.1, hd.2.1⟩, fun sig h => ?_, ok _ (by simp [va_wsS]), ok _ (by simp [va_wsS])⟩
  have h2 := hd.2.2
  rw [h] at h2
  exact (Option.some.inj h2).symm
theorem vx_callSW (X : Stand p l e R s m args below meth c T locs cells slots) (hexec : p.tables.exec = Jvm.exec) {own : String} {index : Nat} {y : MethodName} {bytes : ByteArray} {maxL : Nat} {ret : Option FieldType} {hh : List (Nat × Nat × Nat × Nat)}
    (hown : s.vm.findClass own = some m.cls) (hlink : (Cond.methodLink own index y).before args s = true) (hstat : (Cond.static y).before args s = true) (hinit : (Cond.initialized y.cls).before args s = true)
    (hcode : (Cond.codeWith y bytes maxL ret hh).before args s = true) (hy : y.cls ≠ "java/lang/invoke/MethodHandle" ∧ y.cls ≠ "java/lang/invoke/VarHandle")
    {W9 : Nat} {Pre : Pt → Array Value → Prop} {Post : Pt → Array Value → Option Value → Pt → Prop} (hK : Back l R p e below s args y 3 W9 Pre Post)
    {g : JFrame} (hg : g.method = m) (hsize : g.locals.size = c.maxLocals) {argsL rest : List Value} (hlen : ∀ sig, parseMethodDescriptor y.desc = some sig → argsL.length = sig.parameters.length)
    (hstack : g.stack = argsL.reverse ++ rest) (hW : 2 * g.monitorRoom + (rest.map fun v => v.category).sum ≤ W9) (hdg : decode c.code g.pc = .ok (.invokestatic index, 3))
    (hpre : ∀ vm₁, s.WarmedH vm₁ → Pre ⟨T.setVm vm₁, locs, cells, slots⟩ argsL.toArray) :
    ∃ (v : Option Value) (vm₁ : Vm) (B : Pt), s.WarmedH vm₁ ∧ Stand p l e R s m args below meth c B.U B.locs B.cells B.slots ∧ Post ⟨T.setVm vm₁, locs, cells, slots⟩ argsL.toArray v B ∧
      ∀ target, Steps p.tables e below (B.U.setTop { g with pc := g.pc + 3, stack := v.toList ++ rest }) target → Steps p.tables e below (T.setTop g) target := by
  obtain ⟨mk, methM, cM, hnamed, hmethM, -, -, -, -, -, -, hsigM⟩ := Cond.codeWith_spec hcode
  have hstatic : methM.isStatic = true := Cond.static_spec hnamed hmethM hstat
  obtain ⟨kP, hkP, -⟩ := className_of_methodNamed hnamed
  have hinitP : kP.init = .initialized := Cond.initialized_spec (findClass_of_methodNamed hnamed) hkP hinit
  obtain ⟨vm₁, X₁, hstep₁⟩ := X.invokestatic hexec hown hlink hnamed hmethM hstatic hkP hinitP hy (g := g) hg (argsL := argsL) (rest := rest) (hlen _ hsigM) hstack hdg
  obtain ⟨v, B, X', hpost, hsteps⟩ := hK m meth c ⟨T.setVm vm₁, locs, cells, slots⟩ { g with stack := rest } (.invokestatic index) mk argsL.toArray X₁ hg hsize hdg hW (X₁.named hnamed) (hpre vm₁ X₁.warmed)
  exact ⟨v, vm₁, B, X₁.warmed, X', hpost, fun target h => hstep₁ _ fun acts => by rw [doInvoke_state]; exact hsteps.trans h⟩
theorem vx_runSW {y : MethodName} {bytes cc : ByteArray} {maxL nL mc ms n index : Nat} {ret : Option FieldType} {hh : List (Nat × Nat × Nat × Nat)} {ws : List Cond} {rm : Room} {Pc : Array Value → State → Prop} {Qc : Array Value → State → Outcome → State → Prop} {free : Addr → Prop} {Ts : List Cond} {own : String} {As rest : List Value} {g : JFrame}
    (S : CallFix p m c cc nL s args Ts own) (hM : Met l y ws rm Pc Qc mc ms free) (cw : vx_CSW R s args own index y bytes maxL ret hh ws rm mc ms n) (hp : PreS s H Pc As)
    (hg : g.method = m) (hn : As.length = n) (hsize : g.locals.size = nL) (hstack : g.stack = As.reverse ++ rest) (hW : 2 * g.monitorRoom + (rest.map fun v => v.category).sum ≤ 8) (hdg : decode cc g.pc = .ok (.invokestatic index, 3)) (hf : cells + mc ≤ R.cells ∧ slots + ms ≤ R.slots) :
    va_Run p l e R s m args below meth c H locs cells slots mc ms g rest (Qc As.toArray) (free) := by
  obtain ⟨⟨hrc, hrs, hfr, hlo, hws, hcw⟩, hcode, hini, hy, hlen, hl, hstt⟩ := cw
  have hK : Back l R p e below s args y 3 8 (PreOf R mc ms Pc) (PostOf Qc mc ms free) := va_backW (hh := hh) (bytes := bytes) (maxL := maxL) (ret := ret) hM hp.1 hrc hrs hfr hlo hws hcw (fun a' U hW => word_at hW (Or.inl (by first | rfl | simp [Cond.onTables, Cond.keeps, Cond.steady])) hini)
  obtain ⟨hx, hb, hml, ho, -⟩ := S
  intro T hT X
  obtain ⟨v, vm₁, ⟨U', l2, c2, s2⟩, hW₁, X', ⟨g', mk, t, L, e1, e2, hq, h1, hL, h2, h3⟩, st⟩ := vx_callSW X hx (hh := hh) (bytes := bytes) (maxL := maxL) (ret := ret) ho hl hstt hini hcode hy hK hg (hsize.trans hml.symm) (argsL := As) (rest := rest) (fun sig h => hn.trans (hlen sig h)) hstack hW (by rw [hb]; exact hdg)
    (fun vm₁ hW₁ => ⟨hf.1, hf.2, hp.2 (T.setVm vm₁) hT hW₁⟩)
  dsimp only [Pt.U, Pt.locs, Pt.cells, Pt.slots] at X' e1 e2 h1 h2 h3 st
  subst h1; subst h2; subst h3
  exact ⟨v, (T.setVm vm₁).calling g' mk As.toArray, t, U', L, hT, X', hL, e1, e2, hq, st⟩
/-- not caught here, past rows that name other classes: it goes on to the caller -/
theorem vx_outP {p : Program} {l : Launch} {e : Env} {R : Room} {s : State} {m : MethodId} {args : Array Value} {below : List Frame} {meth : Method} {c : Code} {H : Heap} {locs : List Loc} {cells slots : Nat} {free : Addr → Prop} {ls : Array Slot} {rest : List Value} {Qc : Array Value → State → Outcome → State → Prop} {XC : String → State → State → Prop}
    {pc : Nat} {own E : String} {ce : Cell} {q : Addr} {mc ms : Nat} (hown : s.vm.findClass own = some m.cls) (hlocks : meth.locks = false)
    (hpass : ∀ z ∈ c.exceptionTable.toList, covers z pc = false ∨ (z.catchType ≠ 0 ∧ ∃ nm : String, (Cond.classLink own z.catchType nm).before args s = true ∧ va_Nc E nm s)) (hcell : H[q]? = some ce) (hv : ce.vm = .none) (hcl : s.vm.findClass E = some ce.cls)
    (hx : ∀ t : State, t.heap = H → s.vm.Alike t.vm → XC E s t) (hf : ∀ z ∈ locs, free z.base) (hc : cells ≤ mc) (hs : slots ≤ ms) :
    vx_W p l e R s m args below meth c H locs cells slots (vx_MQ below Qc XC args s mc ms free) (F0 m pc ls rest) q := by
  intro T hT X
  have hpl : e.platform.magicAccessors = ({} : Platform).magicAccessors := by rw [X.admits.platform]
  obtain ⟨vm', hW', X', st⟩ := X.outThrough hlocks q (g := F0 m pc ls rest) rfl rfl rfl (cell := ce) (by rw [hT]; exact hcell) (by rw [hv]; rfl)
    (by obtain ⟨k9, h9, -⟩ := Vm.findClass_spec hcl; exact ⟨k9, h9⟩) (fun z hz => by
      rcases hpass z hz with h | ⟨hz0, nm, hl1, hn1⟩
      · exact Or.inl h
      · obtain ⟨c6, hc6, hcl6⟩ := Cond.classLink_spec hown hl1 e.platform hpl
        obtain ⟨a8, b8, h1, h2, h3⟩ := hn1
        cases Option.some.inj (h1.symm.trans hcl)
        cases Option.some.inj (h2.symm.trans hc6)
        exact Or.inr ⟨hz0, _, hcl6, h3⟩)
  obtain ⟨g₀, hfr⟩ := X'.frames_eq
  have hcell9 : ((T.setVm vm').setFrames (.throwing q :: below)).heap[q]? = some ce := by
    show T.heap[q]? = some ce
    rw [hT]; exact hcell
  have hend : Ended ((T.setVm vm').setFrames (.throwing q :: below)) below (.threw q) := State.frames_setFrames _ (State.cur_lt_of_frames hfr)
  refine ⟨(T.setVm vm').setFrames (.throwing q :: below), ?_, .threw q, X'.here.running, hend, Or.inr ⟨q, rfl, E, ce, locs, hx _ hT (X'.ends _).1.alike, hcell9, hv, hcl, (X'.ends _).1, (X'.ends _).2.mono hc hs, hf⟩⟩
  rw [X.pushThrowing_eq]
  exact st
/-- a thing of a world lies in the heap -/
theorem vx_lt {D : va_G} {cl : List vw_C} {ws : va_W} {H1 : Heap} (h : va_P D cl ws H1) {k : Nat} {q : Nat × va_E} (hk : ws[k]? = some q) : q.1 < H1.size := (h k q hk).lt
end VXS
/-! ===== END ===== -/
/-! ===== BEGIN methods with a table of their own: called by a name, returning or throwing ===== -/
section VXH
/-! vx_backW, vx_callVX, vx_callSX, vx_callVW, vx_runVW, vx_runVX, vx_runSX, vx_ofWH follow the same proofs as their sisters above (Free/Laws.lean, Shelf42/LK1.lean); vx_outP calls Shelf42/NT130.lean (outThrough). -/
section
variable {l : Launch} {R : Room} {p : Program} {e : Env} {below : List Frame} {s : State} {sargs : Array Value} {y : MethodName} {len W9 : Nat}
theorem vx_backW {ws : List Cond} {rm : Room} {Pc : Array Value → State → Prop} {Qc : Array Value → State → Outcome → State → Prop} {XC : String → State → State → Prop} {mc ms : Nat} {free : Addr → Prop} {bytes : ByteArray} {maxL : Nat} {ret : Option FieldType} {hh : List (Nat × Nat × Nat × Nat)}
    (hM : vx_Met l y ws rm Pc Qc XC mc ms free) (hblind : FrameBlind Pc) (hrc : rm.cells = mc) (hrs : rm.slots = ms)
    (hframes : rm.frames + 1 ≤ R.frames) (hlocals : W9 + (maxL + 11) + rm.locals ≤ R.locals)
    (hws : ∀ w ∈ ws, ∀ a' U, s.WarmedH U.vm → w.before a' U = true) (hcode : Cond.codeWith y bytes maxL ret hh ∈ ws) (hinit : ∀ a' U, s.WarmedH U.vm → (Cond.initialized y.cls).before a' U = true) :
    vx_Back l R p e below s sargs y len W9 (PreOf R mc ms Pc) (PostOf Qc mc ms free) (vx_Post XC mc ms free) := by
  intro m meth c A g ig mk a X hg hsize hdg hW hn hp
  have h1 : (headSpec ws rm).pre.before a A.U = true := atoms_intro fun w hw => hws w hw _ _ X.warmed
  have h2 : (Cond.codeWith y bytes maxL ret hh).before a A.U = true := hws _ hcode _ _ X.warmed
  have h3 : (Cond.initialized y.cls).before a A.U = true := hinit _ _ X.warmed
  have h4 : A.cells + (headSpec ws rm).room.cells ≤ R.cells := by rw [show (headSpec ws rm).room.cells = mc from hrc]; exact hp.1
  have h5 : A.slots + (headSpec ws rm).room.slots ≤ R.slots := by rw [show (headSpec ws rm).room.slots = ms from hrs]; exact hp.2.1
  have hPc : Pc a (A.U.calling g mk a) := hblind _ _ _ _ hp.2.2
  obtain ⟨U, Ls, c0, s0⟩ := A
  dsimp only [Pt.U, Pt.locs, Pt.cells, Pt.slots] at h1 h2 h3 h4 h5 X hn hPc ⊢
  obtain ⟨m9, methY, cY, hn9, hmY, hcY, -, hlY, -⟩ := Cond.codeWith_spec h2
  cases Option.some.inj (hn9.symm.trans hn)
  obtain ⟨kY, hkY, -⟩ := className_of_methodNamed hn
  have hinitY : kY.init = .initialized := Cond.initialized_spec (findClass_of_methodNamed hn) hkY h3
  have h : At U g.method c below := by rw [hg]; exact X.here
  have hlocals9 : W9 + (maxL + 11) + (headSpec ws rm).room.locals ≤ R.locals := hlocals
  have happ : (headSpec ws rm).appliesLoose y e.platform (U.calling g mk a) = true :=
    Spec.appliesLoose_calling (g := g) h hdg hn hkY hinitY
      (X.room_calling (g := g) (R' := (headSpec ws rm).room) hsize hmY hcY hframes (by rw [hlY]; omega) h4 h5) h1
  obtain ⟨mid, hmid⟩ := h.above
  have hfr : (U.setTop g).frames = (.java g :: mid) ++ below := by rw [State.frames_setTop' g h.top, hmid]; rfl
  obtain ⟨o, s₂, hsteps, -, hend, hq⟩ := Steps.callFree hM p X.admits X.cas X.clock (acts := []) hfr happ hPc trivial
  have hq' : vx_Q Qc XC mc ms free a (U.calling g mk a) o s₂ := hq
  rw [State.frames_setTop' g h.top] at hend
  obtain ⟨g₀, hg0⟩ := Option.isSome_iff_exists.mp h.top
  obtain ⟨r, hr⟩ := State.topJava?_eq_some.mp hg0
  have hr' : (({ U with heap := s₂.heap, slotsUsed := s₂.slotsUsed } : State).setVm s₂.vm).frames = .java g₀ :: r := hr
  rcases hq' with ⟨hqc, L, hfe, hL⟩ | ⟨q, rfl, E, ce, L, hx, hce, hcv, hcl, hW₂, hsm, hL⟩
  · obtain ⟨⟨v, rfl⟩, hW₂, e2, q2, q3, q4, q5, q6⟩ := id hfe
    have e3 : s₂ = ({ (U.calling g mk a).setFrames s₂.frames with heap := s₂.heap, slotsUsed := s₂.slotsUsed } : State).setVm s₂.vm := by
      have : s₂ = ({ s₂ with vm := (U.calling g mk a).vm } : State).setVm s₂.vm := rfl
      rw [e2] at this
      exact this
    obtain ⟨c₂, i₂, len₂, hc₂, hd₂, hf₂⟩ := hend
    have hW' : U.WarmedH s₂.vm := hW₂
    have hcc : c₂ = c := by
      have h1 : s₂.code? g.method = U.code? g.method := by
        rw [State.code?_eq, State.code?_eq, hW'.alike.method?]
      exact Option.some.inj (hc₂.symm.trans (h1.trans h.code))
    subst hcc
    have hlen : len₂ = len := by rw [hdg] at hd₂; cases hd₂; rfl
    subst hlen
    have hs₂ : s₂ = (({ U with heap := s₂.heap, slotsUsed := s₂.slotsUsed } : State).setVm s₂.vm).setTop { g with pc := g.pc + len₂, stack := v.toList ++ g.stack } := by
      refine e3.trans ?_
      rw [hf₂, State.calling_eq h.top, State.setFrames_setFrames, State.setTop_of_frames _ hr', hr]
      rfl
    have hsame : U.sameButNew ({ U with heap := s₂.heap, slotsUsed := s₂.slotsUsed } : State) L mc ms := by
      refine ⟨?_, q2, q3, q4, q5, q6⟩
      obtain ⟨t, ht, -⟩ := State.frames_cons hr
      show ({ U with heap := s₂.heap, slotsUsed := s₂.slotsUsed } : State) = { U.setFrames U.frames with heap := s₂.heap, slotsUsed := s₂.slotsUsed }
      rw [State.setFrames_self ht]
    subst hg
    refine Or.inl ⟨v, ⟨(({ U with heap := s₂.heap, slotsUsed := s₂.slotsUsed } : State).setVm s₂.vm), Ls ++ L, c0 + mc, s0 + ms⟩,
      ⟨X.admits, X.cas, X.clock, X.frames, X.room, X.hears, X.method, X.code, (X.here.setHeapUsed s₂.heap s₂.slotsUsed).setVm hW'.alike, X.tail, State.WarmedH.trans X.warmed hW', X.limits, X.bytes, X.same.trans (hsame.setVm s.vm)⟩,
      ⟨g, mk, s₂, L, rfl, rfl, hqc, rfl, hL, rfl, rfl⟩, ?_⟩
    show Steps p.tables e below _ ((({ U with heap := s₂.heap, slotsUsed := s₂.slotsUsed } : State).setVm s₂.vm).setTop { g with pc := g.pc + len₂, stack := v.toList ++ g.stack })
    rw [← hs₂]
    exact hsteps
  · obtain ⟨e2, q2, q3, q4, q5, q6⟩ := id hsm
    have e3 : s₂ = ({ (U.calling g mk a).setFrames s₂.frames with heap := s₂.heap, slotsUsed := s₂.slotsUsed } : State).setVm s₂.vm := by
      have : s₂ = ({ s₂ with vm := (U.calling g mk a).vm } : State).setVm s₂.vm := rfl
      rw [e2] at this
      exact this
    have hf₂ : s₂.frames = .throwing q :: .java g :: U.frames.tail := hend
    have hW' : U.WarmedH s₂.vm := hW₂
    have hs₂ : s₂ = ((({ U with heap := s₂.heap, slotsUsed := s₂.slotsUsed } : State).setVm s₂.vm).setTop g).pushFrame (.throwing q) := by
      refine e3.trans ?_
      rw [hf₂, State.calling_eq h.top, State.setFrames_setFrames, State.pushFrame, State.frames_setTop _ hr', State.setTop_of_frames _ hr', State.setFrames_setFrames, hr]
      rfl
    have hsame : U.sameButNew ({ U with heap := s₂.heap, slotsUsed := s₂.slotsUsed } : State) L mc ms := by
      refine ⟨?_, q2, q3, q4, q5, q6⟩
      obtain ⟨t, ht, -⟩ := State.frames_cons hr
      show ({ U with heap := s₂.heap, slotsUsed := s₂.slotsUsed } : State) = { U.setFrames U.frames with heap := s₂.heap, slotsUsed := s₂.slotsUsed }
      rw [State.setFrames_self ht]
    subst hg
    refine Or.inr ⟨q, ⟨(({ U with heap := s₂.heap, slotsUsed := s₂.slotsUsed } : State).setVm s₂.vm), Ls ++ L, c0 + mc, s0 + ms⟩,
      ⟨X.admits, X.cas, X.clock, X.frames, X.room, X.hears, X.method, X.code, (X.here.setHeapUsed s₂.heap s₂.slotsUsed).setVm hW'.alike, X.tail, State.WarmedH.trans X.warmed hW', X.limits, X.bytes, X.same.trans (hsame.setVm s.vm)⟩,
      ⟨g, mk, s₂, L, E, ce, rfl, rfl, hx, hce, hcv, hcl, rfl, hL, rfl, rfl⟩, ?_⟩
    show Steps p.tables e below _ (((({ U with heap := s₂.heap, slotsUsed := s₂.slotsUsed } : State).setVm s₂.vm).setTop g).pushFrame (.throwing q))
    rw [← hs₂]
    exact hsteps
end
variable {p : Program} {l : Launch} {e : Env} {R : Room} {s : State} {m : MethodId} {args : Array Value} {below : List Frame} {meth : Method} {c : Code} {T : State} {H : Heap} {locs : List Loc} {cells slots : Nat}
theorem vx_callVX (X : Stand p l e R s m args below meth c T locs cells slots) (hexec : p.tables.exec = Jvm.exec) {own C : String} {index : Nat} {y : MethodName} {bytes : ByteArray} {maxL : Nat} {ret : Option FieldType} {hh : List (Nat × Nat × Nat × Nat)}
    (hown : s.vm.findClass own = some m.cls) (hlink : (Cond.methodLink own index y).before args s = true) (hinst : (Cond.instanceMethod y).before args s = true) (hsel : (Cond.selects C y y).before args s = true)
    (hcode : (Cond.codeWith y bytes maxL ret hh).before args s = true) (hy : y.cls ≠ "java/lang/invoke/MethodHandle" ∧ y.cls ≠ "java/lang/invoke/VarHandle")
    {W9 : Nat} {Pre : Pt → Array Value → Prop} {Post : Pt → Array Value → Option Value → Pt → Prop} {PostX : Pt → Array Value → Addr → Pt → Prop} (hK : vx_Back l R p e below s args y 3 W9 Pre Post PostX)
    {b : Addr} {cellB : Cell} (hcell : T.heap[b]? = some cellB) (hobj : cellB.vm.isStatics = false) (hcls : s.vm.findClass C = some cellB.cls)
    {g : JFrame} (hg : g.method = m) (hsize : g.locals.size = c.maxLocals) {argsL rest : List Value} (hlen : ∀ sig, parseMethodDescriptor y.desc = some sig → argsL.length = sig.parameters.length)
    (hstack : g.stack = argsL.reverse ++ .ref b :: rest) (hW : 2 * g.monitorRoom + (rest.map fun v => v.category).sum ≤ W9) (hdg : decode c.code g.pc = .ok (.invokevirtual index, 3))
    (hpre : ∀ vm₁, s.WarmedH vm₁ → Pre ⟨T.setVm vm₁, locs, cells, slots⟩ (Value.ref b :: argsL).toArray) :
    (∃ (v : Option Value) (vm₁ : Vm) (B : Pt), s.WarmedH vm₁ ∧ Stand p l e R s m args below meth c B.U B.locs B.cells B.slots ∧ Post ⟨T.setVm vm₁, locs, cells, slots⟩ (Value.ref b :: argsL).toArray v B ∧
      ∀ target, Steps p.tables e below (B.U.setTop { g with pc := g.pc + 3, stack := v.toList ++ rest }) target → Steps p.tables e below (T.setTop g) target) ∨
    (∃ (q : Addr) (vm₁ : Vm) (B : Pt), s.WarmedH vm₁ ∧ Stand p l e R s m args below meth c B.U B.locs B.cells B.slots ∧ PostX ⟨T.setVm vm₁, locs, cells, slots⟩ (Value.ref b :: argsL).toArray q B ∧
      Steps p.tables e below (T.setTop g) ((B.U.setTop { g with stack := rest }).pushFrame (.throwing q))) := by
  obtain ⟨mk, methM, hnamed, hmethM, hstM, habM⟩ := Cond.instanceMethod_spec hinst
  obtain ⟨m8, methM', cM, hn8, hmethM', -, -, -, -, -, -, hsigM⟩ := Cond.codeWith_spec hcode
  cases Option.some.inj (hn8.symm.trans hnamed)
  cases hmethM.symm.trans hmethM'
  obtain ⟨c2, r2, m2, q1, q2, q3, q4, kP, hkP, hkPi⟩ := Cond.selects_spec hsel
  cases hcls.symm.trans q1
  cases (State.methodFound?_of_named hnamed hy).symm.trans q2
  cases hnamed.symm.trans q3
  have hselP : selectMethod e.platform s.vm cellB.cls mk = .method mk := by rw [Launch.admits_selectMethod X.admits]; exact q4
  obtain ⟨vm₁, X₁, hstep₁⟩ := X.invokevirtual hexec hown hlink hnamed hmethM hstM hkP hkPi hy (a := b) (cell := cellB) hcell
    (fun z h => by rw [h] at hobj; cases hobj) hselP hmethM habM hkP hkPi (g := g) hg (argsL := argsL) (rest := rest) (hlen _ hsigM) hstack hdg
  rcases hK m meth c ⟨T.setVm vm₁, locs, cells, slots⟩ { g with stack := rest } (.invokevirtual index) mk (Value.ref b :: argsL).toArray X₁ hg hsize hdg hW (X₁.named hnamed) (hpre vm₁ X₁.warmed) with ⟨v, B, X', hpost, hsteps⟩ | ⟨q, B, X', hpost, hsteps⟩
  · exact Or.inl ⟨v, vm₁, B, X₁.warmed, X', hpost, fun target h => hstep₁ _ fun acts => by rw [doInvoke_state]; exact hsteps.trans h⟩
  · exact Or.inr ⟨q, vm₁, B, X₁.warmed, X', hpost, hstep₁ _ fun acts => by rw [doInvoke_state]; exact hsteps⟩
theorem vx_callSX (X : Stand p l e R s m args below meth c T locs cells slots) (hexec : p.tables.exec = Jvm.exec) {own : String} {index : Nat} {y : MethodName} {bytes : ByteArray} {maxL : Nat} {ret : Option FieldType} {hh : List (Nat × Nat × Nat × Nat)}
    (hown : s.vm.findClass own = some m.cls) (hlink : (Cond.methodLink own index y).before args s = true) (hstat : (Cond.static y).before args s = true) (hinit : (Cond.initialized y.cls).before args s = true)
    (hcode : (Cond.codeWith y bytes maxL ret hh).before args s = true) (hy : y.cls ≠ "java/lang/invoke/MethodHandle" ∧ y.cls ≠ "java/lang/invoke/VarHandle")
    {W9 : Nat} {Pre : Pt → Array Value → Prop} {Post : Pt → Array Value → Option Value → Pt → Prop} {PostX : Pt → Array Value → Addr → Pt → Prop} (hK : vx_Back l R p e below s args y 3 W9 Pre Post PostX)
    {g : JFrame} (hg : g.method = m) (hsize : g.locals.size = c.maxLocals) {argsL rest : List Value} (hlen : ∀ sig, parseMethodDescriptor y.desc = some sig → argsL.length = sig.parameters.length)
    (hstack : g.stack = argsL.reverse ++ rest) (hW : 2 * g.monitorRoom + (rest.map fun v => v.category).sum ≤ W9) (hdg : decode c.code g.pc = .ok (.invokestatic index, 3))
    (hpre : ∀ vm₁, s.WarmedH vm₁ → Pre ⟨T.setVm vm₁, locs, cells, slots⟩ argsL.toArray) :
    (∃ (v : Option Value) (vm₁ : Vm) (B : Pt), s.WarmedH vm₁ ∧ Stand p l e R s m args below meth c B.U B.locs B.cells B.slots ∧ Post ⟨T.setVm vm₁, locs, cells, slots⟩ argsL.toArray v B ∧
      ∀ target, Steps p.tables e below (B.U.setTop { g with pc := g.pc + 3, stack := v.toList ++ rest }) target → Steps p.tables e below (T.setTop g) target) ∨
    (∃ (q : Addr) (vm₁ : Vm) (B : Pt), s.WarmedH vm₁ ∧ Stand p l e R s m args below meth c B.U B.locs B.cells B.slots ∧ PostX ⟨T.setVm vm₁, locs, cells, slots⟩ argsL.toArray q B ∧
      Steps p.tables e below (T.setTop g) ((B.U.setTop { g with stack := rest }).pushFrame (.throwing q))) := by
  obtain ⟨mk, methM, cM, hnamed, hmethM, -, -, -, -, -, -, hsigM⟩ := Cond.codeWith_spec hcode
  have hstatic : methM.isStatic = true := Cond.static_spec hnamed hmethM hstat
  obtain ⟨kP, hkP, -⟩ := className_of_methodNamed hnamed
  have hinitP : kP.init = .initialized := Cond.initialized_spec (findClass_of_methodNamed hnamed) hkP hinit
  obtain ⟨vm₁, X₁, hstep₁⟩ := X.invokestatic hexec hown hlink hnamed hmethM hstatic hkP hinitP hy (g := g) hg (argsL := argsL) (rest := rest) (hlen _ hsigM) hstack hdg
  rcases hK m meth c ⟨T.setVm vm₁, locs, cells, slots⟩ { g with stack := rest } (.invokestatic index) mk argsL.toArray X₁ hg hsize hdg hW (X₁.named hnamed) (hpre vm₁ X₁.warmed) with ⟨v, B, X', hpost, hsteps⟩ | ⟨q, B, X', hpost, hsteps⟩
  · exact Or.inl ⟨v, vm₁, B, X₁.warmed, X', hpost, fun target h => hstep₁ _ fun acts => by rw [doInvoke_state]; exact hsteps.trans h⟩
  · exact Or.inr ⟨q, vm₁, B, X₁.warmed, X', hpost, hstep₁ _ fun acts => by rw [doInvoke_state]; exact hsteps⟩
theorem vx_callVW (X : Stand p l e R s m args below meth c T locs cells slots) (hexec : p.tables.exec = Jvm.exec) {own C : String} {index : Nat} {y : MethodName} {bytes : ByteArray} {maxL : Nat} {ret : Option FieldType} {hh : List (Nat × Nat × Nat × Nat)}
    (hown : s.vm.findClass own = some m.cls) (hlink : (Cond.methodLink own index y).before args s = true) (hinst : (Cond.instanceMethod y).before args s = true) (hsel : (Cond.selects C y y).before args s = true)
    (hcode : (Cond.codeWith y bytes maxL ret hh).before args s = true) (hy : y.cls ≠ "java/lang/invoke/MethodHandle" ∧ y.cls ≠ "java/lang/invoke/VarHandle")
    {W9 : Nat} {Pre : Pt → Array Value → Prop} {Post : Pt → Array Value → Option Value → Pt → Prop} (hK : Back l R p e below s args y 3 W9 Pre Post)
    {b : Addr} {cellB : Cell} (hcell : T.heap[b]? = some cellB) (hobj : cellB.vm.isStatics = false) (hcls : s.vm.findClass C = some cellB.cls)
    {g : JFrame} (hg : g.method = m) (hsize : g.locals.size = c.maxLocals) {argsL rest : List Value} (hlen : ∀ sig, parseMethodDescriptor y.desc = some sig → argsL.length = sig.parameters.length)
    (hstack : g.stack = argsL.reverse ++ .ref b :: rest) (hW : 2 * g.monitorRoom + (rest.map fun v => v.category).sum ≤ W9) (hdg : decode c.code g.pc = .ok (.invokevirtual index, 3))
    (hpre : ∀ vm₁, s.WarmedH vm₁ → Pre ⟨T.setVm vm₁, locs, cells, slots⟩ (Value.ref b :: argsL).toArray) :
    ∃ (v : Option Value) (vm₁ : Vm) (B : Pt), s.WarmedH vm₁ ∧ Stand p l e R s m args below meth c B.U B.locs B.cells B.slots ∧ Post ⟨T.setVm vm₁, locs, cells, slots⟩ (Value.ref b :: argsL).toArray v B ∧
      ∀ target, Steps p.tables e below (B.U.setTop { g with pc := g.pc + 3, stack := v.toList ++ rest }) target → Steps p.tables e below (T.setTop g) target := by
  obtain ⟨mk, methM, hnamed, hmethM, hstM, habM⟩ := Cond.instanceMethod_spec hinst
  obtain ⟨m8, methM', cM, hn8, hmethM', -, -, -, -, -, -, hsigM⟩ := Cond.codeWith_spec hcode
  cases Option.some.inj (hn8.symm.trans hnamed)
  cases hmethM.symm.trans hmethM'
  obtain ⟨c2, r2, m2, q1, q2, q3, q4, kP, hkP, hkPi⟩ := Cond.selects_spec hsel
  cases hcls.symm.trans q1
  cases (State.methodFound?_of_named hnamed hy).symm.trans q2
  cases hnamed.symm.trans q3
  have hselP : selectMethod e.platform s.vm cellB.cls mk = .method mk := by rw [Launch.admits_selectMethod X.admits]; exact q4
  obtain ⟨vm₁, X₁, hstep₁⟩ := X.invokevirtual hexec hown hlink hnamed hmethM hstM hkP hkPi hy (a := b) (cell := cellB) hcell
    (fun z h => by rw [h] at hobj; cases hobj) hselP hmethM habM hkP hkPi (g := g) hg (argsL := argsL) (rest := rest) (hlen _ hsigM) hstack hdg
  obtain ⟨v, B, X', hpost, hsteps⟩ := hK m meth c ⟨T.setVm vm₁, locs, cells, slots⟩ { g with stack := rest } (.invokevirtual index) mk (Value.ref b :: argsL).toArray X₁ hg hsize hdg hW (X₁.named hnamed) (hpre vm₁ X₁.warmed)
  exact ⟨v, vm₁, B, X₁.warmed, X', hpost, fun target h => hstep₁ _ fun acts => by rw [doInvoke_state]; exact hsteps.trans h⟩
abbrev vx_CVW (R : Room) (s : State) (args : Array Value) (own C : String) (index : Nat) (y : MethodName) (bytes : ByteArray) (maxL : Nat) (ret : Option FieldType) (hh : List (Nat × Nat × Nat × Nat)) (ws : List Cond) (rm : Room) (mc ms n : Nat) : Prop :=
  (rm.cells = mc ∧ rm.slots = ms ∧ rm.frames + 1 ≤ R.frames ∧ 8 + (maxL + 11) + rm.locals ≤ R.locals ∧ (∀ w ∈ ws, ∀ (a' : Array Value) (U : State), s.WarmedH U.vm → w.before a' U = true) ∧ Cond.codeWith y bytes maxL ret hh ∈ ws) ∧
  (Cond.codeWith y bytes maxL ret hh).before args s = true ∧ (Cond.initialized y.cls).before args s = true ∧ (y.cls ≠ "java/lang/invoke/MethodHandle" ∧ y.cls ≠ "java/lang/invoke/VarHandle") ∧
  (∀ sig, parseMethodDescriptor y.desc = some sig → n = sig.parameters.length) ∧ (Cond.methodLink own index y).before args s = true ∧ (Cond.instanceMethod y).before args s = true ∧ (Cond.selects C y y).before args s = true
theorem vx_cwVW {own C : String} {index maxL mc ms : Nat} {y : MethodName} {bytes : ByteArray} {ret : Option FieldType} {hh : List (Nat × Nat × Nat × Nat)} {Ts ws ws' : List Cond} {rm : Room} (n : Nat) (ht : ∀ w ∈ Ts, w.before args s = true) (hT : GoodIn Ts (wsV own index C y ws)) (hw : ws = Cond.codeWith y bytes maxL ret hh :: ws') (hrc : rm.cells = mc) (hrs : rm.slots = ms)
    (hd : y.cls = C ∧ y.cls ≠ "java/lang/invoke/MethodHandle" ∧ y.cls ≠ "java/lang/invoke/VarHandle" ∧ (parseMethodDescriptor y.desc).map (fun d => d.parameters.length) = some n) (hR : rm.frames + 1 ≤ R.frames ∧ 8 + (maxL + 11) + rm.locals ≤ R.locals) :
    vx_CVW R s args own C index y bytes maxL ret hh ws rm mc ms n := by
  obtain ⟨hC, hd⟩ := hd
  subst hC
  have ok : ∀ w ∈ wsV own index y.cls y ws, w.before args s = true := fun w h => ht w (hT w h).1
  have hG : GoodIn Ts ws := fun w h => hT w (by unfold wsV; exact List.mem_append_right _ h)
  have hc : Cond.codeWith y bytes maxL ret hh ∈ ws := by rw [hw]; exact List.mem_cons_self
  refine ⟨⟨hrc, hrs, hR.1, hR.2, pay_in ht hG, hc⟩, ht _ (hG _ hc).1, ok _ (by simp [wsV]), ⟨hd.1, hd.2.1⟩, fun sig h => ?_, ok _ (by simp [wsV]), ok _ (by simp [wsV]), ok _ (by simp [wsV])⟩
  have h2 := hd.2.2
  rw [h] at h2
  exact (Option.some.inj h2).symm
theorem vx_runVW {y : MethodName} {bytes cc : ByteArray} {maxL nL mc ms n index : Nat} {ret : Option FieldType} {hh : List (Nat × Nat × Nat × Nat)} {ws : List Cond} {rm : Room} {Pc : Array Value → State → Prop} {Qc : Array Value → State → Outcome → State → Prop} {free : Addr → Prop} {Ts : List Cond} {own C : String} {b : Addr} {As rest : List Value} {g : JFrame}
    (S : CallFix p m c cc nL s args Ts own) (hM : Met l y ws rm Pc Qc mc ms free) (cw : vx_CVW R s args own C index y bytes maxL ret hh ws rm mc ms n) (hp : PreV s H C b Pc As)
    (hg : g.method = m) (hn : As.length = n) (hsize : g.locals.size = nL) (hstack : g.stack = As.reverse ++ .ref b :: rest) (hW : 2 * g.monitorRoom + (rest.map fun v => v.category).sum ≤ 8) (hdg : decode cc g.pc = .ok (.invokevirtual index, 3)) (hf : cells + mc ≤ R.cells ∧ slots + ms ≤ R.slots) :
    va_Run p l e R s m args below meth c H locs cells slots mc ms g rest (Qc (Value.ref b :: As).toArray) free := by
  obtain ⟨⟨hrc, hrs, hfr, hlo, hws, hcw⟩, hcode, hini, hy, hlen, hl, hin, hse⟩ := cw
  have hK : Back l R p e below s args y 3 8 (PreOf R mc ms Pc) (PostOf Qc mc ms free) := va_backW (hh := hh) (bytes := bytes) (maxL := maxL) (ret := ret) hM hp.1 hrc hrs hfr hlo hws hcw (fun a' U hW => word_at hW (Or.inl (by first | rfl | simp [Cond.onTables, Cond.keeps, Cond.steady])) hini)
  obtain ⟨hx, hb, hml, ho, -⟩ := S
  obtain ⟨-, ⟨cellB, hcB, hoB, hclB⟩, hPc⟩ := hp
  intro T hT X
  obtain ⟨v, vm₁, ⟨U', l2, c2, s2⟩, hW₁, X', ⟨g', mk, t, L, e1, e2, hq, h1, hL, h2, h3⟩, st⟩ := vx_callVW X hx (C := C) (hh := hh) (bytes := bytes) (maxL := maxL) (ret := ret) ho hl hin hse hcode hy hK (by rw [hT]; exact hcB) hoB hclB hg (hsize.trans hml.symm) (argsL := As) (rest := rest) (fun sig h => hn.trans (hlen sig h)) hstack hW (by rw [hb]; exact hdg)
    (fun vm₁ hW₁ => ⟨hf.1, hf.2, hPc (T.setVm vm₁) hT hW₁⟩)
  dsimp only [Pt.U, Pt.locs, Pt.cells, Pt.slots] at X' e1 e2 h1 h2 h3 st
  subst h1; subst h2; subst h3
  exact ⟨v, (T.setVm vm₁).calling g' mk (Value.ref b :: As).toArray, t, U', L, hT, X', hL, e1, e2, hq, st⟩
section
variable {y : MethodName} {bytes cc : ByteArray} {maxL nL mc ms n index : Nat} {ret : Option FieldType} {ws : List Cond} {rm : Room} {Pc : Array Value → State → Prop} {Qc : Array Value → State → Outcome → State → Prop} {XC : String → State → State → Prop} {free : Addr → Prop} {Ts : List Cond} {own C : String} {b : Addr} {As rest : List Value} {g : JFrame}
theorem vx_runVX {hh : List (Nat × Nat × Nat × Nat)} (S : CallFix p m c cc nL s args Ts own) (hM : vx_Met l y ws rm Pc Qc XC mc ms free) (cw : vx_CVW R s args own C index y bytes maxL ret hh ws rm mc ms n) (hp : PreV s H C b Pc As)
    (hg : g.method = m) (hn : As.length = n) (hsize : g.locals.size = nL) (hstack : g.stack = As.reverse ++ .ref b :: rest) (hW : 2 * g.monitorRoom + (rest.map fun v => v.category).sum ≤ 8) (hdg : decode cc g.pc = .ok (.invokevirtual index, 3)) (hf : cells + mc ≤ R.cells ∧ slots + ms ≤ R.slots) :
    vx_Run p l e R s m args below meth c H locs cells slots mc ms g rest (Qc (Value.ref b :: As).toArray) XC free := by
  obtain ⟨⟨hrc, hrs, hfr, hlo, hws, hcw⟩, hcode, hini, hy, hlen, hl, hin, hse⟩ := cw
  have hK : vx_Back l R p e below s args y 3 8 (PreOf R mc ms Pc) (PostOf Qc mc ms free) (vx_Post XC mc ms free) := vx_backW (hh := hh) (bytes := bytes) (maxL := maxL) (ret := ret) hM hp.1 hrc hrs hfr hlo hws hcw (fun a' U hW => word_at hW (Or.inl (by first | rfl | simp [Cond.onTables, Cond.keeps, Cond.steady])) hini)
  obtain ⟨hx, hb, hml, ho, -⟩ := S
  obtain ⟨-, ⟨cellB, hcB, hoB, hclB⟩, hPc⟩ := hp
  intro T hT X
  rcases vx_callVX X hx (C := C) (hh := hh) (bytes := bytes) (maxL := maxL) (ret := ret) ho hl hin hse hcode hy hK (by rw [hT]; exact hcB) hoB hclB hg (hsize.trans hml.symm) (argsL := As) (rest := rest) (fun sig h => hn.trans (hlen sig h)) hstack hW (by rw [hb]; exact hdg)
    (fun vm₁ hW₁ => ⟨hf.1, hf.2, hPc (T.setVm vm₁) hT hW₁⟩) with ⟨v, vm₁, ⟨U', l2, c2, s2⟩, hW₁, X', ⟨g', mk, t, L, e1, e2, hq, h1, hL, h2, h3⟩, st⟩ | ⟨q, vm₁, ⟨U', l2, c2, s2⟩, hW₁, X', ⟨g', mk, t, L, E, ce, e1, e2, hq, hce, hcv, hcl, h1, hL, h2, h3⟩, st⟩
  · dsimp only [Pt.U, Pt.locs, Pt.cells, Pt.slots] at X' e1 e2 h1 h2 h3 st
    subst h1; subst h2; subst h3
    exact Or.inl ⟨v, (T.setVm vm₁).calling g' mk (Value.ref b :: As).toArray, t, U', L, hT, X', hL, e1, e2, hq, st⟩
  · dsimp only [Pt.U, Pt.locs, Pt.cells, Pt.slots] at X' e1 e2 h1 h2 h3 st hcl
    subst h1; subst h2; subst h3
    exact Or.inr ⟨q, (T.setVm vm₁).calling g' mk (Value.ref b :: As).toArray, t, U', L, E, ce, hT, X', hL, e1, e2, hq, hce, hcv, vx_cls hW₁ hcl, st⟩
theorem vx_runSX {hh : List (Nat × Nat × Nat × Nat)} (S : CallFix p m c cc nL s args Ts own) (hM : vx_Met l y ws rm Pc Qc XC mc ms free) (cw : vx_CSW R s args own index y bytes maxL ret hh ws rm mc ms n) (hp : PreS s H Pc As)
    (hg : g.method = m) (hn : As.length = n) (hsize : g.locals.size = nL) (hstack : g.stack = As.reverse ++ rest) (hW : 2 * g.monitorRoom + (rest.map fun v => v.category).sum ≤ 8) (hdg : decode cc g.pc = .ok (.invokestatic index, 3)) (hf : cells + mc ≤ R.cells ∧ slots + ms ≤ R.slots) :
    vx_Run p l e R s m args below meth c H locs cells slots mc ms g rest (Qc As.toArray) XC free := by
  obtain ⟨⟨hrc, hrs, hfr, hlo, hws, hcw⟩, hcode, hini, hy, hlen, hl, hstt⟩ := cw
  have hK : vx_Back l R p e below s args y 3 8 (PreOf R mc ms Pc) (PostOf Qc mc ms free) (vx_Post XC mc ms free) := vx_backW (hh := hh) (bytes := bytes) (maxL := maxL) (ret := ret) hM hp.1 hrc hrs hfr hlo hws hcw (fun a' U hW => word_at hW (Or.inl (by first | rfl | simp [Cond.onTables, Cond.keeps, Cond.steady])) hini)
  obtain ⟨hx, hb, hml, ho, -⟩ := S
  intro T hT X
  rcases vx_callSX X hx (hh := hh) (bytes := bytes) (maxL := maxL) (ret := ret) ho hl hstt hini hcode hy hK hg (hsize.trans hml.symm) (argsL := As) (rest := rest) (fun sig h => hn.trans (hlen sig h)) hstack hW (by rw [hb]; exact hdg)
    (fun vm₁ hW₁ => ⟨hf.1, hf.2, hp.2 (T.setVm vm₁) hT hW₁⟩) with ⟨v, vm₁, ⟨U', l2, c2, s2⟩, hW₁, X', ⟨g', mk, t, L, e1, e2, hq, h1, hL, h2, h3⟩, st⟩ | ⟨q, vm₁, ⟨U', l2, c2, s2⟩, hW₁, X', ⟨g', mk, t, L, E, ce, e1, e2, hq, hce, hcv, hcl, h1, hL, h2, h3⟩, st⟩
  · dsimp only [Pt.U, Pt.locs, Pt.cells, Pt.slots] at X' e1 e2 h1 h2 h3 st
    subst h1; subst h2; subst h3
    exact Or.inl ⟨v, (T.setVm vm₁).calling g' mk As.toArray, t, U', L, hT, X', hL, e1, e2, hq, st⟩
  · dsimp only [Pt.U, Pt.locs, Pt.cells, Pt.slots] at X' e1 e2 h1 h2 h3 st hcl
    subst h1; subst h2; subst h3
    exact Or.inr ⟨q, (T.setVm vm₁).calling g' mk As.toArray, t, U', L, E, ce, hT, X', hL, e1, e2, hq, hce, hcv, vx_cls hW₁ hcl, st⟩
end
end VXH
theorem vx_ofWH {l : Launch} {y : MethodName} {ws ws' : List Cond} {rm : Room} {Pc : Array Value → State → Prop} {Qc : Array Value → State → Outcome → State → Prop} {XC : String → State → State → Prop} {mc ms : Nat} {free : Addr → Prop} {cc : ByteArray} {maxL : Nat} {ret : Option FieldType} {hh : List (Nat × Nat × Nat × Nat)}
    (hy : plainName y.cls = true) (hw : ws = Cond.codeWith y cc maxL ret hh :: ws')
    (body : ∀ p e s m args below meth c s₁, BodyLoose p l y (headSpec ws rm) cc maxL ret e s m args below meth c s₁ → c.maxLocals = maxL → Pc args s →
      W p l e (headSpec ws rm).room s m args below meth c s.heap [] 0 0 (vx_MQ below Qc XC args s mc ms free) (entryFrame m args maxL)) : vx_Met l y ws rm Pc Qc XC mc ms free := by
  refine MetFree.of_bodyS (code := cc) (maxLocals := maxL) (ret := ret) hy ?_ ?_
  · intro args s m h hn
    obtain ⟨m9, meth, c, hn9, h1, h2, h3, h4, -, h5, h6, -⟩ := Cond.codeWith_spec (atoms_spec (ws := ws) h _ (by rw [hw]; exact List.mem_cons_self))
    cases hn.symm.trans hn9
    exact ⟨meth, c, h1, h2, h3, h4, h5, h6⟩
  · intro p e s m args below meth c s₁ B hml hP _
    have hh0 : s₁.heap = s.heap := by rw [B.state]; rfl
    obtain ⟨t, a1, o, b1, b2, b3⟩ := body p e s m args below meth c s₁ B hml hP s₁ hh0 (Stand.of_body B)
    exact ⟨t, o, a1, b1, b2, b3⟩
/-! ===== END ===== -/
end
section
theorem g_0 : Cond.selects "java/lang/Throwable" ⟨"java/lang/Throwable", "fillInStackTrace", "(I)Ljava/lang/Throwable;"⟩ ⟨"java/lang/Throwable", "fillInStackTrace", "(I)Ljava/lang/Throwable;"⟩ ∈ GT := gm 0 rfl rfl
theorem g_1 : Cond.selects "RubbingMirrors" y_M_findMirror y_M_findMirror ∈ GT := gm 1 rfl rfl
theorem g_2 : Cond.selects "RubbingMirrors$Best" y_B_isBetter y_B_isBetter ∈ GT := gm 2 rfl rfl
theorem g_3 : Cond.selects "RubbingMirrors$Row" y_R_sourceFor y_R_sourceFor ∈ GT := gm 3 rfl rfl
theorem g_4 : Cond.selects "java/util/ArrayList" y_A_add2 y_A_add2 ∈ GT := gm 4 rfl rfl
theorem g_5 : Cond.selects "java/util/ArrayList" y_A_grow y_A_grow ∈ GT := gm 5 rfl rfl
theorem g_6 : Cond.selects "java/util/ArrayList" y_A_grow2 y_A_grow2 ∈ GT := gm 6 rfl rfl
theorem g_7 : Cond.selects "RubbingMirrors" y_M_findMatch y_M_findMatch ∈ GT := gm 7 rfl rfl
theorem g_8 : Cond.selects "RubbingMirrors" y_M_lastAsked y_M_lastAsked ∈ GT := gm 8 rfl rfl
theorem g_9 : Cond.selects "RubbingMirrorsModel" y_T_isPlace y_T_isPlace ∈ GT := gm 9 rfl rfl
theorem g_10 : Cond.selects "RubbingMirrorsModel" y_T_findMirror y_T_findMirror ∈ GT := gm 10 rfl rfl
theorem g_11 : Cond.selects "RubbingMirrorsModel" y_T_isKnown y_T_isKnown ∈ GT := gm 11 rfl rfl
theorem g_12 : Cond.selects "RubbingMirrorsModel" y_T_isBetter y_T_isBetter ∈ GT := gm 12 rfl rfl
theorem g_13 : Cond.selects "RubbingMirrorsModel" y_T_sumOf y_T_sumOf ∈ GT := gm 13 rfl rfl
theorem g_14 : Cond.selects "RubbingMirrorsModel" y_T_source y_T_source ∈ GT := gm 14 rfl rfl
theorem g_15 : Cond.selects "RubbingMirrorsModel" y_T_findMatch y_T_findMatch ∈ GT := gm 15 rfl rfl
theorem g_16 : Cond.selects "RubbingMirrorsModel" y_T_holds y_T_holds ∈ GT := gm 16 rfl rfl
theorem g_17 : Cond.initialized "RubbingMirrorsLaw" ∈ GT := gm 17 rfl rfl
theorem g_18 : Cond.initialized "RubbingMirrors" ∈ GT := gm 18 rfl rfl
theorem g_19 : Cond.initialized "java/util/AbstractCollection" ∈ GT := gm 19 rfl rfl
theorem g_20 : Cond.initialized "java/util/AbstractList" ∈ GT := gm 20 rfl rfl
theorem g_21 : Cond.initialized "java/util/ArrayList" ∈ GT := gm 21 rfl rfl
theorem g_22 : Cond.initialized "RubbingMirrors$Best" ∈ GT := gm 22 rfl rfl
theorem g_23 : Cond.initialized "RubbingMirrors$Row" ∈ GT := gm 23 rfl rfl
theorem g_24 : Cond.initialized "java/lang/Math" ∈ GT := gm 24 rfl rfl
theorem g_25 : Cond.initialized "java/util/Arrays" ∈ GT := gm 25 rfl rfl
theorem g_26 : Cond.initialized "RubbingMirrorsModel" ∈ GT := gm 26 rfl rfl
theorem g_27 : Cond.initialized "java/lang/Throwable" ∈ GT := gm 27 rfl rfl
theorem g_28 : Cond.initialized "java/lang/Exception" ∈ GT := gm 28 rfl rfl
theorem g_29 : Cond.initialized "java/lang/RuntimeException" ∈ GT := gm 29 rfl rfl
theorem g_30 : Cond.initialized "java/lang/IndexOutOfBoundsException" ∈ GT := gm 30 rfl rfl
theorem g_31 : Cond.initialized "java/lang/IllegalArgumentException" ∈ GT := gm 31 rfl rfl
theorem g_32 : Cond.initialized "java/lang/IllegalStateException" ∈ GT := gm 32 rfl rfl
theorem g_33 : Cond.initialized "RubbingMirrors$Shape" ∈ GT := gm 33 rfl rfl
theorem g_34 : Cond.initialized "jdk/internal/util/ArraysSupport" ∈ GT := gm 34 rfl rfl
theorem g_35 : Cond.initialized "java/lang/System" ∈ GT := gm 35 rfl rfl
theorem g_36 : Cond.initialized "java/util/Objects" ∈ GT := gm 36 rfl rfl
theorem g_37 : Cond.initialized "jdk/internal/util/Preconditions" ∈ GT := gm 37 rfl rfl
theorem g_38 : Cond.initialized "RubbingMirrors$Node" ∈ GT := gm 38 rfl rfl
theorem g_39 : Cond.initialized "RubbingMirrors$Rule" ∈ GT := gm 39 rfl rfl
theorem g_40 : Cond.classLink "RubbingMirrorsLaw" 8 "RubbingMirrors" ∈ GT := gm 40 rfl rfl
theorem g_41 : Cond.instantiable "RubbingMirrors" 5 ∈ GT := gm 41 rfl rfl
theorem g_42 : Cond.methodLink "RubbingMirrorsLaw" 70 y_M_init ∈ GT := gm 42 rfl rfl
theorem g_43 : Cond.instanceMethod y_M_init ∈ GT := gm 43 rfl rfl
theorem g_44 : Cond.code y_M_init prog_1_method_1_code 2 none ∈ GT := gm 44 rfl rfl
theorem g_45 : Cond.methodLink "RubbingMirrors" 1 y_O_init ∈ GT := gm 45 rfl rfl
theorem g_46 : Cond.instanceMethod y_O_init ∈ GT := gm 46 rfl rfl
theorem g_47 : Cond.code y_O_init object_method_1_code 1 none ∈ GT := gm 47 rfl rfl
theorem g_48 : Cond.classLink "RubbingMirrors" 7 "java/util/ArrayList" ∈ GT := gm 48 rfl rfl
theorem g_49 : Cond.instantiable "java/util/ArrayList" 3 ∈ GT := gm 49 rfl rfl
theorem g_50 : Cond.methodLink "RubbingMirrors" 9 y_A_init ∈ GT := gm 50 rfl rfl
theorem g_51 : Cond.instanceMethod y_A_init ∈ GT := gm 51 rfl rfl
theorem g_52 : Cond.code y_A_init prog_23_method_2_code 1 none ∈ GT := gm 52 rfl rfl
theorem g_53 : Cond.methodLink "java/util/ArrayList" 1 y_AL_init ∈ GT := gm 53 rfl rfl
theorem g_54 : Cond.instanceMethod y_AL_init ∈ GT := gm 54 rfl rfl
theorem g_55 : Cond.code y_AL_init prog_22_method_1_code 1 none ∈ GT := gm 55 rfl rfl
theorem g_56 : Cond.methodLink "java/util/AbstractList" 1 y_AC_init ∈ GT := gm 56 rfl rfl
theorem g_57 : Cond.instanceMethod y_AC_init ∈ GT := gm 57 rfl rfl
theorem g_58 : Cond.code y_AC_init prog_21_method_1_code 1 none ∈ GT := gm 58 rfl rfl
theorem g_59 : Cond.methodLink "java/util/AbstractCollection" 1 y_O_init ∈ GT := gm 59 rfl rfl
theorem g_60 : Cond.fieldLink "java/util/ArrayList" 39 "java/util/ArrayList" "DEFAULTCAPACITY_EMPTY_ELEMENTDATA" "[Ljava/lang/Object;" ∈ GT := gm 60 rfl rfl
theorem g_62 : Cond.fieldLink "java/util/ArrayList" 9 "java/util/ArrayList" "elementData" "[Ljava/lang/Object;" ∈ GT := gm 62 rfl rfl
theorem g_63 : Cond.fieldLink "java/util/ArrayList" 48 "java/util/ArrayList" "size" "I" ∈ GT := gm 63 rfl rfl
theorem g_64 : Cond.fieldLink "java/util/AbstractList" 7 "java/util/AbstractList" "modCount" "I" ∈ GT := gm 64 rfl rfl
theorem g_65 : Cond.fieldLink "java/util/ArrayList" 63 "java/util/ArrayList" "modCount" "I" ∈ GT := gm 65 rfl rfl
theorem g_66 : Cond.sameField "java/util/ArrayList" "java/util/AbstractList" "modCount" "I" ∈ GT := gm 66 rfl rfl
theorem g_67 : Cond.lays "java/util/ArrayList" "java/util/ArrayList" "elementData" "[Ljava/lang/Object;" ∈ GT := gm 67 rfl rfl
theorem g_69 : Cond.lays "java/util/ArrayList" "java/util/ArrayList" "size" "I" ∈ GT := gm 69 rfl rfl
theorem g_71 : Cond.lays "java/util/ArrayList" "java/util/AbstractList" "modCount" "I" ∈ GT := gm 71 rfl rfl
theorem g_74 : Cond.classLink "RubbingMirrors" 22 "RubbingMirrors$Best" ∈ GT := gm 74 rfl rfl
theorem g_75 : Cond.instantiable "RubbingMirrors$Best" 5 ∈ GT := gm 75 rfl rfl
theorem g_77 : Cond.instanceMethod y_B_init ∈ GT := gm 77 rfl rfl
theorem g_78 : Cond.code y_B_init prog_2_method_1_code 1 none ∈ GT := gm 78 rfl rfl
theorem g_79 : Cond.methodLink "RubbingMirrors$Best" 1 y_O_init ∈ GT := gm 79 rfl rfl
theorem g_80 : Cond.fieldLink "RubbingMirrors$Best" 7 "RubbingMirrors$Best" "found" "Z" ∈ GT := gm 80 rfl rfl
theorem g_82 : Cond.fieldLink "RubbingMirrors$Best" 17 "RubbingMirrors$Best" "which" "I" ∈ GT := gm 82 rfl rfl
theorem g_84 : Cond.fieldLink "RubbingMirrors$Best" 21 "RubbingMirrors$Best" "at" "I" ∈ GT := gm 84 rfl rfl
theorem g_86 : Cond.fieldLink "RubbingMirrors$Best" 24 "RubbingMirrors$Best" "total" "I" ∈ GT := gm 86 rfl rfl
theorem g_88 : Cond.fieldLink "RubbingMirrors$Best" 27 "RubbingMirrors$Best" "count" "I" ∈ GT := gm 88 rfl rfl
theorem g_90 : Cond.lays "RubbingMirrors$Best" "RubbingMirrors$Best" "found" "Z" ∈ GT := gm 90 rfl rfl
theorem g_92 : Cond.lays "RubbingMirrors$Best" "RubbingMirrors$Best" "which" "I" ∈ GT := gm 92 rfl rfl
theorem g_94 : Cond.lays "RubbingMirrors$Best" "RubbingMirrors$Best" "at" "I" ∈ GT := gm 94 rfl rfl
theorem g_96 : Cond.lays "RubbingMirrors$Best" "RubbingMirrors$Best" "total" "I" ∈ GT := gm 96 rfl rfl
theorem g_98 : Cond.lays "RubbingMirrors$Best" "RubbingMirrors$Best" "count" "I" ∈ GT := gm 98 rfl rfl
theorem g_101 : Cond.classLink "RubbingMirrors" 29 "RubbingMirrors$Row" ∈ GT := gm 101 rfl rfl
theorem g_102 : Cond.instantiable "RubbingMirrors$Row" 2 ∈ GT := gm 102 rfl rfl
theorem g_103 : Cond.methodLink "RubbingMirrors" 31 y_MA_min ∈ GT := gm 103 rfl rfl
theorem g_104 : Cond.static y_MA_min ∈ GT := gm 104 rfl rfl
theorem g_105 : Cond.code y_MA_min prog_16_method_69_code 2 (some .int) ∈ GT := gm 105 rfl rfl
theorem g_106 : Cond.methodLink "RubbingMirrors" 37 y_MA_max ∈ GT := gm 106 rfl rfl
theorem g_107 : Cond.static y_MA_max ∈ GT := gm 107 rfl rfl
theorem g_108 : Cond.code y_MA_max prog_16_method_65_code 2 (some .int) ∈ GT := gm 108 rfl rfl
theorem g_109 : Cond.methodLink "RubbingMirrors" 40 y_R_init ∈ GT := gm 109 rfl rfl
theorem g_110 : Cond.instanceMethod y_R_init ∈ GT := gm 110 rfl rfl
theorem g_111 : Cond.code y_R_init prog_4_method_1_code 2 none ∈ GT := gm 111 rfl rfl
theorem g_112 : Cond.methodLink "RubbingMirrors$Row" 3 y_O_init ∈ GT := gm 112 rfl rfl
theorem g_113 : Cond.methodLink "RubbingMirrors$Row" 19 y_AR_fill ∈ GT := gm 113 rfl rfl
theorem g_114 : Cond.static y_AR_fill ∈ GT := gm 114 rfl rfl
theorem g_115 : Cond.code y_AR_fill prog_24_method_103_code 4 none ∈ GT := gm 115 rfl rfl
theorem g_116 : Cond.fieldLink "RubbingMirrors$Row" 9 "RubbingMirrors$Row" "depths" "[I" ∈ GT := gm 116 rfl rfl
theorem g_117 : Cond.fieldLink "RubbingMirrors$Row" 15 "RubbingMirrors$Row" "guesses" "[Z" ∈ GT := gm 117 rfl rfl
theorem g_118 : Cond.laysFinal "RubbingMirrors$Row" "RubbingMirrors$Row" "depths" "[I" ∈ GT := gm 118 rfl rfl
theorem g_120 : Cond.laysFinal "RubbingMirrors$Row" "RubbingMirrors$Row" "guesses" "[Z" ∈ GT := gm 120 rfl rfl
theorem g_123 : Cond.arrayClass .int ∈ GT := gm 123 rfl rfl
theorem g_124 : Cond.arrayClass .boolean ∈ GT := gm 124 rfl rfl
theorem g_125 : Cond.fieldLink "RubbingMirrors" 43 "RubbingMirrors" "row" "LRubbingMirrors$Row;" ∈ GT := gm 125 rfl rfl
theorem g_126 : Cond.fieldLink "RubbingMirrors" 10 "RubbingMirrors" "shapes" "Ljava/util/ArrayList;" ∈ GT := gm 126 rfl rfl
theorem g_127 : Cond.fieldLink "RubbingMirrors" 16 "RubbingMirrors" "nodes" "Ljava/util/ArrayList;" ∈ GT := gm 127 rfl rfl
theorem g_128 : Cond.fieldLink "RubbingMirrors" 19 "RubbingMirrors" "rules" "Ljava/util/ArrayList;" ∈ GT := gm 128 rfl rfl
theorem g_129 : Cond.fieldLink "RubbingMirrors" 25 "RubbingMirrors" "best" "LRubbingMirrors$Best;" ∈ GT := gm 129 rfl rfl
theorem g_130 : Cond.laysFinal "RubbingMirrors" "RubbingMirrors" "row" "LRubbingMirrors$Row;" ∈ GT := gm 130 rfl rfl
theorem g_132 : Cond.laysFinal "RubbingMirrors" "RubbingMirrors" "shapes" "Ljava/util/ArrayList;" ∈ GT := gm 132 rfl rfl
theorem g_134 : Cond.laysFinal "RubbingMirrors" "RubbingMirrors" "nodes" "Ljava/util/ArrayList;" ∈ GT := gm 134 rfl rfl
theorem g_136 : Cond.laysFinal "RubbingMirrors" "RubbingMirrors" "rules" "Ljava/util/ArrayList;" ∈ GT := gm 136 rfl rfl
theorem g_138 : Cond.laysFinal "RubbingMirrors" "RubbingMirrors" "best" "LRubbingMirrors$Best;" ∈ GT := gm 138 rfl rfl
theorem g_141 : Cond.methodLink "RubbingMirrorsLaw" 101 y_M_forget ∈ GT := gm 141 rfl rfl
theorem g_142 : Cond.instanceMethod y_M_forget ∈ GT := gm 142 rfl rfl
theorem g_143 : Cond.selects "RubbingMirrors" y_M_forget y_M_forget ∈ GT := gm 143 rfl rfl
theorem g_144 : Cond.code y_M_forget prog_1_method_8_code 1 (some .int) ∈ GT := gm 144 rfl rfl
theorem g_145 : Cond.methodLink "RubbingMirrors" 124 y_R_loseGuesses ∈ GT := gm 145 rfl rfl
theorem g_146 : Cond.instanceMethod y_R_loseGuesses ∈ GT := gm 146 rfl rfl
theorem g_147 : Cond.selects "RubbingMirrors$Row" y_R_loseGuesses y_R_loseGuesses ∈ GT := gm 147 rfl rfl
theorem g_148 : Cond.code y_R_loseGuesses prog_4_method_14_code 3 (some .int) ∈ GT := gm 148 rfl rfl
theorem g_149 : Cond.methodLink "RubbingMirrorsLaw" 64 y_L_cell ∈ GT := gm 149 rfl rfl
theorem g_150 : Cond.static y_L_cell ∈ GT := gm 150 rfl rfl
theorem g_151 : Cond.code y_L_cell method_2_code 2 (some .int) ∈ GT := gm 151 rfl rfl
theorem g_152 : Cond.methodLink "RubbingMirrorsLaw" 76 y_L_depth ∈ GT := gm 152 rfl rfl
theorem g_153 : Cond.static y_L_depth ∈ GT := gm 153 rfl rfl
theorem g_154 : Cond.codeWith y_L_depth method_3_code 4 (some .int) [(0, 6, 9, 13), (0, 6, 12, 15)] ∈ GT := gm 154 rfl rfl
theorem g_155 : Cond.classLink "RubbingMirrorsLaw" 13 "java/lang/IndexOutOfBoundsException" ∈ GT := gm 155 rfl rfl
theorem g_156 : Cond.classLink "RubbingMirrorsLaw" 15 "java/lang/IllegalArgumentException" ∈ GT := gm 156 rfl rfl
theorem g_157 : Cond.methodLink "RubbingMirrorsLaw" 7 y_M_depth ∈ GT := gm 157 rfl rfl
theorem g_158 : Cond.instanceMethod y_M_depth ∈ GT := gm 158 rfl rfl
theorem g_159 : Cond.selects "RubbingMirrors" y_M_depth y_M_depth ∈ GT := gm 159 rfl rfl
theorem g_160 : Cond.code y_M_depth prog_1_method_2_code 3 none ∈ GT := gm 160 rfl rfl
theorem g_161 : Cond.methodLink "RubbingMirrors" 47 y_R_has ∈ GT := gm 161 rfl rfl
theorem g_162 : Cond.instanceMethod y_R_has ∈ GT := gm 162 rfl rfl
theorem g_163 : Cond.selects "RubbingMirrors$Row" y_R_has y_R_has ∈ GT := gm 163 rfl rfl
theorem g_164 : Cond.code y_R_has prog_4_method_4_code 2 (some .boolean) ∈ GT := gm 164 rfl rfl
theorem g_165 : Cond.classLink "RubbingMirrors" 51 "java/lang/IndexOutOfBoundsException" ∈ GT := gm 165 rfl rfl
theorem g_166 : Cond.instantiable "java/lang/IndexOutOfBoundsException" 6 ∈ GT := gm 166 rfl rfl
theorem g_174 : Cond.selects "java/lang/IndexOutOfBoundsException" ⟨"java/lang/Throwable", "fillInStackTrace", "(I)Ljava/lang/Throwable;"⟩ ⟨"java/lang/Throwable", "fillInStackTrace", "(I)Ljava/lang/Throwable;"⟩ ∈ GT := gm 174 rfl rfl
theorem g_175 : Cond.selects "java/lang/IndexOutOfBoundsException" ⟨"java/lang/Throwable", "fillInStackTrace", "()Ljava/lang/Throwable;"⟩ ⟨"java/lang/Throwable", "fillInStackTrace", "()Ljava/lang/Throwable;"⟩ ∈ GT := gm 175 rfl rfl
theorem g_176 : Cond.lays "java/lang/IndexOutOfBoundsException" "java/lang/Throwable" "cause" "Ljava/lang/Throwable;" ∈ GT := gm 176 rfl rfl
theorem g_177 : Cond.lays "java/lang/Throwable" "java/lang/Throwable" "cause" "Ljava/lang/Throwable;" ∈ GT := gm 177 rfl rfl
theorem g_178 : Cond.lays "java/lang/IndexOutOfBoundsException" "java/lang/Throwable" "stackTrace" "[Ljava/lang/StackTraceElement;" ∈ GT := gm 178 rfl rfl
theorem g_179 : Cond.lays "java/lang/Throwable" "java/lang/Throwable" "stackTrace" "[Ljava/lang/StackTraceElement;" ∈ GT := gm 179 rfl rfl
theorem g_180 : Cond.lays "java/lang/IndexOutOfBoundsException" "java/lang/Throwable" "suppressedExceptions" "Ljava/util/List;" ∈ GT := gm 180 rfl rfl
theorem g_181 : Cond.lays "java/lang/Throwable" "java/lang/Throwable" "suppressedExceptions" "Ljava/util/List;" ∈ GT := gm 181 rfl rfl
theorem g_182 : Cond.lays "java/lang/IndexOutOfBoundsException" "java/lang/Throwable" "detailMessage" "Ljava/lang/String;" ∈ GT := gm 182 rfl rfl
theorem g_183 : Cond.lays "java/lang/Throwable" "java/lang/Throwable" "detailMessage" "Ljava/lang/String;" ∈ GT := gm 183 rfl rfl
theorem g_184 : Cond.lays "java/lang/IndexOutOfBoundsException" "java/lang/Throwable" "backtrace" "Ljava/lang/Object;" ∈ GT := gm 184 rfl rfl
theorem g_185 : Cond.lays "java/lang/Throwable" "java/lang/Throwable" "backtrace" "Ljava/lang/Object;" ∈ GT := gm 185 rfl rfl
theorem g_186 : Cond.fieldLink "java/lang/Throwable" 198 "java/lang/Throwable" "backtrace" "Ljava/lang/Object;" ∈ GT := gm 186 rfl rfl
theorem g_188 : Cond.instanceMethod ⟨"java/lang/Throwable", "<init>", "()V"⟩ ∈ GT := gm 188 rfl rfl
theorem g_189 : Cond.code ⟨"java/lang/Throwable", "<init>", "()V"⟩ prog_20_method_1_code 1 none ∈ GT := gm 189 rfl rfl
theorem g_190 : Cond.methodLink "java/lang/Throwable" 1 y_O_init ∈ GT := gm 190 rfl rfl
theorem g_191 : Cond.fieldLink "java/lang/Throwable" 13 "java/lang/Throwable" "UNASSIGNED_STACK" "[Ljava/lang/StackTraceElement;" ∈ GT := gm 191 rfl rfl
theorem g_193 : Cond.fieldLink "java/lang/Throwable" 20 "java/lang/Throwable" "SUPPRESSED_SENTINEL" "Ljava/util/List;" ∈ GT := gm 193 rfl rfl
theorem g_195 : Cond.methodLink "java/lang/Throwable" 27 ⟨"java/lang/Throwable", "fillInStackTrace", "()Ljava/lang/Throwable;"⟩ ∈ GT := gm 195 rfl rfl
theorem g_196 : Cond.instanceMethod ⟨"java/lang/Throwable", "fillInStackTrace", "()Ljava/lang/Throwable;"⟩ ∈ GT := gm 196 rfl rfl
theorem g_197 : Cond.sameMethod "java/lang/Throwable" "java/lang/Throwable" "fillInStackTrace" "()Ljava/lang/Throwable;" ∈ GT := gm 197 rfl rfl
theorem g_198 : Cond.selects "java/lang/IllegalArgumentException" ⟨"java/lang/Throwable", "fillInStackTrace", "()Ljava/lang/Throwable;"⟩ ⟨"java/lang/Throwable", "fillInStackTrace", "()Ljava/lang/Throwable;"⟩ ∈ GT := gm 198 rfl rfl
theorem g_199 : Cond.selects "java/lang/IllegalStateException" ⟨"java/lang/Throwable", "fillInStackTrace", "()Ljava/lang/Throwable;"⟩ ⟨"java/lang/Throwable", "fillInStackTrace", "()Ljava/lang/Throwable;"⟩ ∈ GT := gm 199 rfl rfl
theorem g_200 : Cond.codeSync ⟨"java/lang/Throwable", "fillInStackTrace", "()Ljava/lang/Throwable;"⟩ prog_20_method_18_code 1 (some (.object "java/lang/Throwable")) ∈ GT := gm 200 rfl rfl
theorem g_201 : Cond.methodLink "java/lang/Throwable" 202 ⟨"java/lang/Throwable", "fillInStackTrace", "(I)Ljava/lang/Throwable;"⟩ ∈ GT := gm 201 rfl rfl
theorem g_203 : Cond.instanceMethod ⟨"java/lang/Throwable", "fillInStackTrace", "(I)Ljava/lang/Throwable;"⟩ ∈ GT := gm 203 rfl rfl
theorem g_204 : Cond.instantiable "java/lang/Throwable" 6 ∈ GT := gm 204 rfl rfl
theorem g_205 : Cond.native ⟨"java/lang/Throwable", "fillInStackTrace", "(I)Ljava/lang/Throwable;"⟩ ∈ GT := gm 205 rfl rfl
theorem g_207 : Cond.methodLink "RubbingMirrors" 55 ⟨"java/lang/IndexOutOfBoundsException", "<init>", "(Ljava/lang/String;)V"⟩ ∈ GT := gm 207 rfl rfl
theorem g_208 : Cond.instanceMethod ⟨"java/lang/IndexOutOfBoundsException", "<init>", "(Ljava/lang/String;)V"⟩ ∈ GT := gm 208 rfl rfl
theorem g_209 : Cond.code ⟨"java/lang/IndexOutOfBoundsException", "<init>", "(Ljava/lang/String;)V"⟩ prog_14_method_2_code 2 none ∈ GT := gm 209 rfl rfl
theorem g_210 : Cond.methodLink "java/lang/IndexOutOfBoundsException" 7 ⟨"java/lang/RuntimeException", "<init>", "(Ljava/lang/String;)V"⟩ ∈ GT := gm 210 rfl rfl
theorem g_211 : Cond.instanceMethod ⟨"java/lang/RuntimeException", "<init>", "(Ljava/lang/String;)V"⟩ ∈ GT := gm 211 rfl rfl
theorem g_212 : Cond.code ⟨"java/lang/RuntimeException", "<init>", "(Ljava/lang/String;)V"⟩ prog_17_method_2_code 2 none ∈ GT := gm 212 rfl rfl
theorem g_213 : Cond.methodLink "java/lang/RuntimeException" 7 ⟨"java/lang/Exception", "<init>", "(Ljava/lang/String;)V"⟩ ∈ GT := gm 213 rfl rfl
theorem g_214 : Cond.instanceMethod ⟨"java/lang/Exception", "<init>", "(Ljava/lang/String;)V"⟩ ∈ GT := gm 214 rfl rfl
theorem g_215 : Cond.code ⟨"java/lang/Exception", "<init>", "(Ljava/lang/String;)V"⟩ prog_11_method_2_code 2 none ∈ GT := gm 215 rfl rfl
theorem g_216 : Cond.methodLink "java/lang/Exception" 7 ⟨"java/lang/Throwable", "<init>", "(Ljava/lang/String;)V"⟩ ∈ GT := gm 216 rfl rfl
theorem g_217 : Cond.instanceMethod ⟨"java/lang/Throwable", "<init>", "(Ljava/lang/String;)V"⟩ ∈ GT := gm 217 rfl rfl
theorem g_218 : Cond.code ⟨"java/lang/Throwable", "<init>", "(Ljava/lang/String;)V"⟩ prog_20_method_2_code 2 none ∈ GT := gm 218 rfl rfl
theorem g_220 : Cond.fieldLink "java/lang/Throwable" 31 "java/lang/Throwable" "detailMessage" "Ljava/lang/String;" ∈ GT := gm 220 rfl rfl
theorem g_221 : Cond.fieldLink "java/lang/Throwable" 7 "java/lang/Throwable" "cause" "Ljava/lang/Throwable;" ∈ GT := gm 221 rfl rfl
theorem g_222 : Cond.fieldLink "java/lang/Throwable" 17 "java/lang/Throwable" "stackTrace" "[Ljava/lang/StackTraceElement;" ∈ GT := gm 222 rfl rfl
theorem g_223 : Cond.fieldLink "java/lang/Throwable" 24 "java/lang/Throwable" "suppressedExceptions" "Ljava/util/List;" ∈ GT := gm 223 rfl rfl
theorem g_228 : Cond.lays "java/lang/IndexOutOfBoundsException" "java/lang/Throwable" "depth" "I" ∈ GT := gm 228 rfl rfl
theorem g_232 : Cond.arrayClass .byte ∈ GT := gm 232 rfl rfl
theorem g_233 : Cond.methodLink "RubbingMirrors" 58 y_M_isWithin ∈ GT := gm 233 rfl rfl
theorem g_234 : Cond.static y_M_isWithin ∈ GT := gm 234 rfl rfl
theorem g_235 : Cond.code y_M_isWithin prog_1_method_17_code 3 (some .boolean) ∈ GT := gm 235 rfl rfl
theorem g_236 : Cond.classLink "RubbingMirrors" 62 "java/lang/IllegalArgumentException" ∈ GT := gm 236 rfl rfl
theorem g_237 : Cond.instantiable "java/lang/IllegalArgumentException" 6 ∈ GT := gm 237 rfl rfl
theorem g_239 : Cond.selects "java/lang/IllegalArgumentException" ⟨"java/lang/Throwable", "fillInStackTrace", "(I)Ljava/lang/Throwable;"⟩ ⟨"java/lang/Throwable", "fillInStackTrace", "(I)Ljava/lang/Throwable;"⟩ ∈ GT := gm 239 rfl rfl
theorem g_240 : Cond.lays "java/lang/IllegalArgumentException" "java/lang/Throwable" "cause" "Ljava/lang/Throwable;" ∈ GT := gm 240 rfl rfl
theorem g_241 : Cond.lays "java/lang/IllegalArgumentException" "java/lang/Throwable" "stackTrace" "[Ljava/lang/StackTraceElement;" ∈ GT := gm 241 rfl rfl
theorem g_242 : Cond.lays "java/lang/IllegalArgumentException" "java/lang/Throwable" "suppressedExceptions" "Ljava/util/List;" ∈ GT := gm 242 rfl rfl
theorem g_243 : Cond.lays "java/lang/IllegalArgumentException" "java/lang/Throwable" "detailMessage" "Ljava/lang/String;" ∈ GT := gm 243 rfl rfl
theorem g_244 : Cond.lays "java/lang/IllegalArgumentException" "java/lang/Throwable" "backtrace" "Ljava/lang/Object;" ∈ GT := gm 244 rfl rfl
theorem g_246 : Cond.methodLink "RubbingMirrors" 66 ⟨"java/lang/IllegalArgumentException", "<init>", "(Ljava/lang/String;)V"⟩ ∈ GT := gm 246 rfl rfl
theorem g_247 : Cond.instanceMethod ⟨"java/lang/IllegalArgumentException", "<init>", "(Ljava/lang/String;)V"⟩ ∈ GT := gm 247 rfl rfl
theorem g_248 : Cond.code ⟨"java/lang/IllegalArgumentException", "<init>", "(Ljava/lang/String;)V"⟩ prog_12_method_2_code 2 none ∈ GT := gm 248 rfl rfl
theorem g_249 : Cond.methodLink "java/lang/IllegalArgumentException" 7 ⟨"java/lang/RuntimeException", "<init>", "(Ljava/lang/String;)V"⟩ ∈ GT := gm 249 rfl rfl
theorem g_250 : Cond.lays "java/lang/IllegalArgumentException" "java/lang/Throwable" "depth" "I" ∈ GT := gm 250 rfl rfl
theorem g_252 : Cond.methodLink "RubbingMirrors" 67 y_R_put ∈ GT := gm 252 rfl rfl
theorem g_253 : Cond.instanceMethod y_R_put ∈ GT := gm 253 rfl rfl
theorem g_254 : Cond.selects "RubbingMirrors$Row" y_R_put y_R_put ∈ GT := gm 254 rfl rfl
theorem g_255 : Cond.code y_R_put prog_4_method_8_code 3 none ∈ GT := gm 255 rfl rfl
theorem g_256 : Cond.methodLink "RubbingMirrors$Row" 25 y_R_has ∈ GT := gm 256 rfl rfl
theorem g_257 : Cond.methodLink "RubbingMirrorsLaw" 84 y_L_place ∈ GT := gm 257 rfl rfl
theorem g_258 : Cond.static y_L_place ∈ GT := gm 258 rfl rfl
theorem g_259 : Cond.codeWith y_L_place method_4_code 5 (some .int) [(0, 10, 13, 13)] ∈ GT := gm 259 rfl rfl
theorem g_260 : Cond.methodLink "RubbingMirrorsLaw" 17 y_M_place ∈ GT := gm 260 rfl rfl
theorem g_261 : Cond.instanceMethod y_M_place ∈ GT := gm 261 rfl rfl
theorem g_262 : Cond.selects "RubbingMirrors" y_M_place y_M_place ∈ GT := gm 262 rfl rfl
theorem g_263 : Cond.code y_M_place prog_1_method_3_code 3 (some .int) ∈ GT := gm 263 rfl rfl
theorem g_265 : Cond.methodLink "RubbingMirrors" 73 y_R_depthAt ∈ GT := gm 265 rfl rfl
theorem g_266 : Cond.instanceMethod y_R_depthAt ∈ GT := gm 266 rfl rfl
theorem g_267 : Cond.selects "RubbingMirrors$Row" y_R_depthAt y_R_depthAt ∈ GT := gm 267 rfl rfl
theorem g_268 : Cond.code y_R_depthAt prog_4_method_5_code 2 (some .int) ∈ GT := gm 268 rfl rfl
theorem g_269 : Cond.methodLink "RubbingMirrors" 77 y_R_isGuess ∈ GT := gm 269 rfl rfl
theorem g_270 : Cond.instanceMethod y_R_isGuess ∈ GT := gm 270 rfl rfl
theorem g_271 : Cond.selects "RubbingMirrors$Row" y_R_isGuess y_R_isGuess ∈ GT := gm 271 rfl rfl
theorem g_272 : Cond.code y_R_isGuess prog_4_method_6_code 2 (some .boolean) ∈ GT := gm 272 rfl rfl
theorem g_273 : Cond.methodLink "RubbingMirrorsLaw" 88 y_L_mirror ∈ GT := gm 273 rfl rfl
theorem g_274 : Cond.static y_L_mirror ∈ GT := gm 274 rfl rfl
theorem g_275 : Cond.codeWith y_L_mirror method_5_code 4 (some .int) [(0, 8, 11, 25), (0, 8, 14, 13)] ∈ GT := gm 275 rfl rfl
theorem g_276 : Cond.classLink "RubbingMirrorsLaw" 25 "java/lang/IllegalStateException" ∈ GT := gm 276 rfl rfl
theorem g_277 : Cond.methodLink "RubbingMirrorsLaw" 21 y_M_mirror ∈ GT := gm 277 rfl rfl
theorem g_278 : Cond.instanceMethod y_M_mirror ∈ GT := gm 278 rfl rfl
theorem g_279 : Cond.selects "RubbingMirrors" y_M_mirror y_M_mirror ∈ GT := gm 279 rfl rfl
theorem g_280 : Cond.code y_M_mirror prog_1_method_4_code 2 (some .long) ∈ GT := gm 280 rfl rfl
theorem g_281 : Cond.methodLink "RubbingMirrors" 80 y_M_findMirror ∈ GT := gm 281 rfl rfl
theorem g_283 : Cond.instanceMethod y_M_findMirror ∈ GT := gm 283 rfl rfl
theorem g_284 : Cond.code y_M_findMirror prog_1_method_18_code 4 none ∈ GT := gm 284 rfl rfl
theorem g_285 : Cond.methodLink "RubbingMirrors" 102 y_R_size ∈ GT := gm 285 rfl rfl
theorem g_286 : Cond.instanceMethod y_R_size ∈ GT := gm 286 rfl rfl
theorem g_287 : Cond.selects "RubbingMirrors$Row" y_R_size y_R_size ∈ GT := gm 287 rfl rfl
theorem g_288 : Cond.code y_R_size prog_4_method_2_code 1 (some .int) ∈ GT := gm 288 rfl rfl
theorem g_289 : Cond.methodLink "RubbingMirrors" 222 y_B_clear ∈ GT := gm 289 rfl rfl
theorem g_290 : Cond.instanceMethod y_B_clear ∈ GT := gm 290 rfl rfl
theorem g_291 : Cond.selects "RubbingMirrors$Best" y_B_clear y_B_clear ∈ GT := gm 291 rfl rfl
theorem g_292 : Cond.code y_B_clear prog_2_method_2_code 1 none ∈ GT := gm 292 rfl rfl
theorem g_293 : Cond.methodLink "RubbingMirrors" 116 y_R_lastMirror ∈ GT := gm 293 rfl rfl
theorem g_294 : Cond.instanceMethod y_R_lastMirror ∈ GT := gm 294 rfl rfl
theorem g_295 : Cond.selects "RubbingMirrors$Row" y_R_lastMirror y_R_lastMirror ∈ GT := gm 295 rfl rfl
theorem g_296 : Cond.code y_R_lastMirror prog_4_method_3_code 1 (some .int) ∈ GT := gm 296 rfl rfl
theorem g_297 : Cond.methodLink "RubbingMirrors" 225 y_R_mirrorPairs ∈ GT := gm 297 rfl rfl
theorem g_298 : Cond.instanceMethod y_R_mirrorPairs ∈ GT := gm 298 rfl rfl
theorem g_299 : Cond.selects "RubbingMirrors$Row" y_R_mirrorPairs y_R_mirrorPairs ∈ GT := gm 299 rfl rfl
theorem g_300 : Cond.code y_R_mirrorPairs prog_4_method_9_code 4 (some .int) ∈ GT := gm 300 rfl rfl
theorem g_301 : Cond.methodLink "RubbingMirrors$Row" 29 y_R_isKnown ∈ GT := gm 301 rfl rfl
theorem g_302 : Cond.instanceMethod y_R_isKnown ∈ GT := gm 302 rfl rfl
theorem g_303 : Cond.selects "RubbingMirrors$Row" y_R_isKnown y_R_isKnown ∈ GT := gm 303 rfl rfl
theorem g_304 : Cond.code y_R_isKnown prog_4_method_7_code 2 (some .boolean) ∈ GT := gm 304 rfl rfl
theorem g_305 : Cond.methodLink "RubbingMirrors" 228 y_R_mirrorOff ∈ GT := gm 305 rfl rfl
theorem g_306 : Cond.instanceMethod y_R_mirrorOff ∈ GT := gm 306 rfl rfl
theorem g_307 : Cond.selects "RubbingMirrors$Row" y_R_mirrorOff y_R_mirrorOff ∈ GT := gm 307 rfl rfl
theorem g_308 : Cond.code y_R_mirrorOff prog_4_method_10_code 5 (some .int) ∈ GT := gm 308 rfl rfl
theorem g_309 : Cond.methodLink "RubbingMirrors" 231 y_B_offer ∈ GT := gm 309 rfl rfl
theorem g_310 : Cond.instanceMethod y_B_offer ∈ GT := gm 310 rfl rfl
theorem g_311 : Cond.selects "RubbingMirrors$Best" y_B_offer y_B_offer ∈ GT := gm 311 rfl rfl
theorem g_312 : Cond.code y_B_offer prog_2_method_3_code 5 none ∈ GT := gm 312 rfl rfl
theorem g_313 : Cond.methodLink "RubbingMirrors$Best" 13 y_B_isBetter ∈ GT := gm 313 rfl rfl
theorem g_315 : Cond.instanceMethod y_B_isBetter ∈ GT := gm 315 rfl rfl
theorem g_316 : Cond.code y_B_isBetter prog_2_method_4_code 7 (some .boolean) ∈ GT := gm 316 rfl rfl
theorem g_317 : Cond.classLink "RubbingMirrors" 87 "java/lang/IllegalStateException" ∈ GT := gm 317 rfl rfl
theorem g_318 : Cond.instantiable "java/lang/IllegalStateException" 6 ∈ GT := gm 318 rfl rfl
theorem g_320 : Cond.selects "java/lang/IllegalStateException" ⟨"java/lang/Throwable", "fillInStackTrace", "(I)Ljava/lang/Throwable;"⟩ ⟨"java/lang/Throwable", "fillInStackTrace", "(I)Ljava/lang/Throwable;"⟩ ∈ GT := gm 320 rfl rfl
theorem g_321 : Cond.lays "java/lang/IllegalStateException" "java/lang/Throwable" "cause" "Ljava/lang/Throwable;" ∈ GT := gm 321 rfl rfl
theorem g_322 : Cond.lays "java/lang/IllegalStateException" "java/lang/Throwable" "stackTrace" "[Ljava/lang/StackTraceElement;" ∈ GT := gm 322 rfl rfl
theorem g_323 : Cond.lays "java/lang/IllegalStateException" "java/lang/Throwable" "suppressedExceptions" "Ljava/util/List;" ∈ GT := gm 323 rfl rfl
theorem g_324 : Cond.lays "java/lang/IllegalStateException" "java/lang/Throwable" "detailMessage" "Ljava/lang/String;" ∈ GT := gm 324 rfl rfl
theorem g_325 : Cond.lays "java/lang/IllegalStateException" "java/lang/Throwable" "backtrace" "Ljava/lang/Object;" ∈ GT := gm 325 rfl rfl
theorem g_327 : Cond.methodLink "RubbingMirrors" 91 ⟨"java/lang/IllegalStateException", "<init>", "(Ljava/lang/String;)V"⟩ ∈ GT := gm 327 rfl rfl
theorem g_328 : Cond.instanceMethod ⟨"java/lang/IllegalStateException", "<init>", "(Ljava/lang/String;)V"⟩ ∈ GT := gm 328 rfl rfl
theorem g_329 : Cond.code ⟨"java/lang/IllegalStateException", "<init>", "(Ljava/lang/String;)V"⟩ prog_13_method_2_code 2 none ∈ GT := gm 329 rfl rfl
theorem g_330 : Cond.methodLink "java/lang/IllegalStateException" 7 ⟨"java/lang/RuntimeException", "<init>", "(Ljava/lang/String;)V"⟩ ∈ GT := gm 330 rfl rfl
theorem g_331 : Cond.lays "java/lang/IllegalStateException" "java/lang/Throwable" "depth" "I" ∈ GT := gm 331 rfl rfl
theorem g_333 : Cond.methodLink "RubbingMirrorsLaw" 92 y_L_sum ∈ GT := gm 333 rfl rfl
theorem g_334 : Cond.static y_L_sum ∈ GT := gm 334 rfl rfl
theorem g_335 : Cond.codeWith y_L_sum method_6_code 4 (some .int) [(0, 8, 11, 15)] ∈ GT := gm 335 rfl rfl
theorem g_336 : Cond.methodLink "RubbingMirrorsLaw" 27 y_M_sum ∈ GT := gm 336 rfl rfl
theorem g_337 : Cond.instanceMethod y_M_sum ∈ GT := gm 337 rfl rfl
theorem g_338 : Cond.selects "RubbingMirrors" y_M_sum y_M_sum ∈ GT := gm 338 rfl rfl
theorem g_339 : Cond.code y_M_sum prog_1_method_5_code 2 (some .long) ∈ GT := gm 339 rfl rfl
theorem g_341 : Cond.methodLink "RubbingMirrors" 108 y_R_repeatSum ∈ GT := gm 341 rfl rfl
theorem g_342 : Cond.instanceMethod y_R_repeatSum ∈ GT := gm 342 rfl rfl
theorem g_343 : Cond.selects "RubbingMirrors$Row" y_R_repeatSum y_R_repeatSum ∈ GT := gm 343 rfl rfl
theorem g_344 : Cond.code y_R_repeatSum prog_4_method_11_code 5 (some .long) ∈ GT := gm 344 rfl rfl
theorem g_345 : Cond.methodLink "RubbingMirrorsLaw" 95 y_L_repeat_ ∈ GT := gm 345 rfl rfl
theorem g_346 : Cond.static y_L_repeat_ ∈ GT := gm 346 rfl rfl
theorem g_347 : Cond.codeWith y_L_repeat_ method_7_code 5 (some .int) [(0, 10, 13, 15)] ∈ GT := gm 347 rfl rfl
theorem g_348 : Cond.methodLink "RubbingMirrorsLaw" 30 y_M_repeat_ ∈ GT := gm 348 rfl rfl
theorem g_349 : Cond.instanceMethod y_M_repeat_ ∈ GT := gm 349 rfl rfl
theorem g_350 : Cond.selects "RubbingMirrors" y_M_repeat_ y_M_repeat_ ∈ GT := gm 350 rfl rfl
theorem g_351 : Cond.code y_M_repeat_ prog_1_method_6_code 10 (some .int) ∈ GT := gm 351 rfl rfl
theorem g_353 : Cond.methodLink "RubbingMirrorsLaw" 98 y_L_fill ∈ GT := gm 353 rfl rfl
theorem g_354 : Cond.static y_L_fill ∈ GT := gm 354 rfl rfl
theorem g_355 : Cond.codeWith y_L_fill method_8_code 5 (some .int) [(0, 10, 13, 15)] ∈ GT := gm 355 rfl rfl
theorem g_356 : Cond.methodLink "RubbingMirrorsLaw" 33 y_M_fill ∈ GT := gm 356 rfl rfl
theorem g_357 : Cond.instanceMethod y_M_fill ∈ GT := gm 357 rfl rfl
theorem g_358 : Cond.selects "RubbingMirrors" y_M_fill y_M_fill ∈ GT := gm 358 rfl rfl
theorem g_359 : Cond.code y_M_fill prog_1_method_7_code 3 (some .int) ∈ GT := gm 359 rfl rfl
theorem g_362 : Cond.methodLink "RubbingMirrors" 121 y_R_guessLost ∈ GT := gm 362 rfl rfl
theorem g_363 : Cond.instanceMethod y_R_guessLost ∈ GT := gm 363 rfl rfl
theorem g_364 : Cond.selects "RubbingMirrors$Row" y_R_guessLost y_R_guessLost ∈ GT := gm 364 rfl rfl
theorem g_365 : Cond.code y_R_guessLost prog_4_method_12_code 6 (some .int) ∈ GT := gm 365 rfl rfl
theorem g_366 : Cond.methodLink "RubbingMirrors$Row" 32 y_R_sourceFor ∈ GT := gm 366 rfl rfl
theorem g_368 : Cond.instanceMethod y_R_sourceFor ∈ GT := gm 368 rfl rfl
theorem g_369 : Cond.code y_R_sourceFor prog_4_method_13_code 5 (some .int) ∈ GT := gm 369 rfl rfl
theorem g_370 : Cond.methodLink "RubbingMirrorsLaw" 105 y_L_shape ∈ GT := gm 370 rfl rfl
theorem g_371 : Cond.static y_L_shape ∈ GT := gm 371 rfl rfl
theorem g_372 : Cond.codeWith y_L_shape method_9_code 4 (some .int) [(0, 9, 12, 15), (0, 9, 15, 25)] ∈ GT := gm 372 rfl rfl
theorem g_373 : Cond.methodLink "RubbingMirrorsLaw" 36 y_M_shape ∈ GT := gm 373 rfl rfl
theorem g_374 : Cond.instanceMethod y_M_shape ∈ GT := gm 374 rfl rfl
theorem g_375 : Cond.selects "RubbingMirrors" y_M_shape y_M_shape ∈ GT := gm 375 rfl rfl
theorem g_376 : Cond.code y_M_shape prog_1_method_9_code 2 (some .int) ∈ GT := gm 376 rfl rfl
theorem g_378 : Cond.methodLink "RubbingMirrors" 129 y_A_size ∈ GT := gm 378 rfl rfl
theorem g_379 : Cond.instanceMethod y_A_size ∈ GT := gm 379 rfl rfl
theorem g_380 : Cond.selects "java/util/ArrayList" y_A_size y_A_size ∈ GT := gm 380 rfl rfl
theorem g_381 : Cond.code y_A_size prog_23_method_8_code 1 (some .int) ∈ GT := gm 381 rfl rfl
theorem g_383 : Cond.classLink "RubbingMirrors" 132 "RubbingMirrors$Shape" ∈ GT := gm 383 rfl rfl
theorem g_384 : Cond.instantiable "RubbingMirrors$Shape" 1 ∈ GT := gm 384 rfl rfl
theorem g_385 : Cond.methodLink "RubbingMirrors" 134 y_S_init ∈ GT := gm 385 rfl rfl
theorem g_386 : Cond.instanceMethod y_S_init ∈ GT := gm 386 rfl rfl
theorem g_387 : Cond.code y_S_init prog_6_method_1_code 2 none ∈ GT := gm 387 rfl rfl
theorem g_388 : Cond.methodLink "RubbingMirrors$Shape" 3 y_O_init ∈ GT := gm 388 rfl rfl
theorem g_389 : Cond.methodLink "RubbingMirrors$Shape" 15 y_AR_fill ∈ GT := gm 389 rfl rfl
theorem g_390 : Cond.fieldLink "RubbingMirrors$Shape" 9 "RubbingMirrors$Shape" "depths" "[I" ∈ GT := gm 390 rfl rfl
theorem g_391 : Cond.laysFinal "RubbingMirrors$Shape" "RubbingMirrors$Shape" "depths" "[I" ∈ GT := gm 391 rfl rfl
theorem g_394 : Cond.methodLink "RubbingMirrors" 135 y_A_add ∈ GT := gm 394 rfl rfl
theorem g_395 : Cond.instanceMethod y_A_add ∈ GT := gm 395 rfl rfl
theorem g_396 : Cond.selects "java/util/ArrayList" y_A_add y_A_add ∈ GT := gm 396 rfl rfl
theorem g_397 : Cond.code y_A_add prog_23_method_25_code 2 (some .boolean) ∈ GT := gm 397 rfl rfl
theorem g_398 : Cond.methodLink "java/util/ArrayList" 131 y_A_add2 ∈ GT := gm 398 rfl rfl
theorem g_400 : Cond.instanceMethod y_A_add2 ∈ GT := gm 400 rfl rfl
set_option maxRecDepth 20000 in
theorem g_401 : Cond.code y_A_add2 prog_23_method_24_code 4 none ∈ GT := gm 401 rfl rfl
set_option maxRecDepth 20000 in
theorem g_402 : Cond.methodLink "java/util/ArrayList" 129 y_A_grow ∈ GT := gm 402 rfl rfl
set_option maxRecDepth 20000 in
theorem g_404 : Cond.instanceMethod y_A_grow ∈ GT := gm 404 rfl rfl
set_option maxRecDepth 20000 in
theorem g_405 : Cond.code y_A_grow prog_23_method_7_code 1 (some (.array (.object "java/lang/Object"))) ∈ GT := gm 405 rfl rfl
set_option maxRecDepth 20000 in
theorem g_406 : Cond.methodLink "java/util/ArrayList" 69 y_A_grow2 ∈ GT := gm 406 rfl rfl
set_option maxRecDepth 20000 in
theorem g_408 : Cond.instanceMethod y_A_grow2 ∈ GT := gm 408 rfl rfl
set_option maxRecDepth 20000 in
theorem g_409 : Cond.code y_A_grow2 prog_23_method_6_code 4 (some (.array (.object "java/lang/Object"))) ∈ GT := gm 409 rfl rfl
set_option maxRecDepth 20000 in
theorem g_410 : Cond.methodLink "java/util/ArrayList" 73 y_AS_newLength ∈ GT := gm 410 rfl rfl
set_option maxRecDepth 20000 in
theorem g_411 : Cond.static y_AS_newLength ∈ GT := gm 411 rfl rfl
set_option maxRecDepth 20000 in
theorem g_412 : Cond.code y_AS_newLength prog_30_method_27_code 4 (some .int) ∈ GT := gm 412 rfl rfl
set_option maxRecDepth 20000 in
theorem g_413 : Cond.methodLink "jdk/internal/util/ArraysSupport" 194 y_MA_max ∈ GT := gm 413 rfl rfl
set_option maxRecDepth 20000 in
theorem g_414 : Cond.constant "jdk/internal/util/ArraysSupport" 200 (2147483639 : Int32) ∈ GT := gm 414 rfl rfl
set_option maxRecDepth 20000 in
theorem g_415 : Cond.methodLink "jdk/internal/util/ArraysSupport" 201 y_AS_hugeLength ∈ GT := gm 415 rfl rfl
set_option maxRecDepth 20000 in
theorem g_416 : Cond.static y_AS_hugeLength ∈ GT := gm 416 rfl rfl
set_option maxRecDepth 20000 in
theorem g_417 : Cond.code y_AS_hugeLength prog_30_method_28_code 3 (some .int) ∈ GT := gm 417 rfl rfl
set_option maxRecDepth 20000 in
theorem g_418 : Cond.methodLink "java/util/ArrayList" 66 y_AR_copyOf ∈ GT := gm 418 rfl rfl
set_option maxRecDepth 20000 in
theorem g_419 : Cond.static y_AR_copyOf ∈ GT := gm 419 rfl rfl
set_option maxRecDepth 20000 in
theorem g_420 : Cond.code y_AR_copyOf prog_24_method_119_code 2 (some (.array (.object "java/lang/Object"))) ∈ GT := gm 420 rfl rfl
set_option maxRecDepth 20000 in
theorem g_421 : Cond.methodLink "java/util/Arrays" 86 ⟨"java/lang/Object", "getClass", "()Ljava/lang/Class;"⟩ ∈ GT := gm 421 rfl rfl
set_option maxRecDepth 20000 in
theorem g_422 : Cond.instanceMethod ⟨"java/lang/Object", "getClass", "()Ljava/lang/Class;"⟩ ∈ GT := gm 422 rfl rfl
set_option maxRecDepth 20000 in
theorem g_423 : Cond.sameMethod "java/lang/Object" "java/lang/Object" "getClass" "()Ljava/lang/Class;" ∈ GT := gm 423 rfl rfl
set_option maxRecDepth 20000 in
theorem g_424 : Cond.selects "RubbingMirrors" ⟨"java/lang/Object", "getClass", "()Ljava/lang/Class;"⟩ ⟨"java/lang/Object", "getClass", "()Ljava/lang/Class;"⟩ ∈ GT := gm 424 rfl rfl
set_option maxRecDepth 20000 in
theorem g_425 : Cond.selects "RubbingMirrors$Best" ⟨"java/lang/Object", "getClass", "()Ljava/lang/Class;"⟩ ⟨"java/lang/Object", "getClass", "()Ljava/lang/Class;"⟩ ∈ GT := gm 425 rfl rfl
set_option maxRecDepth 20000 in
theorem g_426 : Cond.selects "RubbingMirrors$Node" ⟨"java/lang/Object", "getClass", "()Ljava/lang/Class;"⟩ ⟨"java/lang/Object", "getClass", "()Ljava/lang/Class;"⟩ ∈ GT := gm 426 rfl rfl
set_option maxRecDepth 20000 in
theorem g_427 : Cond.selects "RubbingMirrors$Row" ⟨"java/lang/Object", "getClass", "()Ljava/lang/Class;"⟩ ⟨"java/lang/Object", "getClass", "()Ljava/lang/Class;"⟩ ∈ GT := gm 427 rfl rfl
set_option maxRecDepth 20000 in
theorem g_428 : Cond.selects "RubbingMirrors$Rule" ⟨"java/lang/Object", "getClass", "()Ljava/lang/Class;"⟩ ⟨"java/lang/Object", "getClass", "()Ljava/lang/Class;"⟩ ∈ GT := gm 428 rfl rfl
set_option maxRecDepth 20000 in
theorem g_429 : Cond.selects "RubbingMirrors$Shape" ⟨"java/lang/Object", "getClass", "()Ljava/lang/Class;"⟩ ⟨"java/lang/Object", "getClass", "()Ljava/lang/Class;"⟩ ∈ GT := gm 429 rfl rfl
set_option maxRecDepth 20000 in
theorem g_430 : Cond.selects "RubbingMirrorsModel" ⟨"java/lang/Object", "getClass", "()Ljava/lang/Class;"⟩ ⟨"java/lang/Object", "getClass", "()Ljava/lang/Class;"⟩ ∈ GT := gm 430 rfl rfl
set_option maxRecDepth 20000 in
theorem g_431 : Cond.selects "java/lang/IllegalArgumentException" ⟨"java/lang/Object", "getClass", "()Ljava/lang/Class;"⟩ ⟨"java/lang/Object", "getClass", "()Ljava/lang/Class;"⟩ ∈ GT := gm 431 rfl rfl
set_option maxRecDepth 20000 in
theorem g_432 : Cond.selects "java/lang/IllegalStateException" ⟨"java/lang/Object", "getClass", "()Ljava/lang/Class;"⟩ ⟨"java/lang/Object", "getClass", "()Ljava/lang/Class;"⟩ ∈ GT := gm 432 rfl rfl
set_option maxRecDepth 20000 in
theorem g_433 : Cond.selects "java/lang/IndexOutOfBoundsException" ⟨"java/lang/Object", "getClass", "()Ljava/lang/Class;"⟩ ⟨"java/lang/Object", "getClass", "()Ljava/lang/Class;"⟩ ∈ GT := gm 433 rfl rfl
set_option maxRecDepth 20000 in
theorem g_434 : Cond.selects "java/util/ArrayList" ⟨"java/lang/Object", "getClass", "()Ljava/lang/Class;"⟩ ⟨"java/lang/Object", "getClass", "()Ljava/lang/Class;"⟩ ∈ GT := gm 434 rfl rfl
set_option maxRecDepth 20000 in
theorem g_435 : Cond.native ⟨"java/lang/Object", "getClass", "()Ljava/lang/Class;"⟩ ∈ GT := gm 435 rfl rfl
set_option maxRecDepth 20000 in
theorem g_436 : Cond.methodLink "java/util/Arrays" 300 y_AR_copyOf2 ∈ GT := gm 436 rfl rfl
set_option maxRecDepth 20000 in
theorem g_437 : Cond.static y_AR_copyOf2 ∈ GT := gm 437 rfl rfl
set_option maxRecDepth 20000 in
theorem g_438 : Cond.code y_AR_copyOf2 prog_24_method_120_code 4 (some (.array (.object "java/lang/Object"))) ∈ GT := gm 438 rfl rfl
set_option maxRecDepth 20000 in
theorem g_439 : Cond.classLink "java/util/Arrays" 110 "[Ljava/lang/Object;" ∈ GT := gm 439 rfl rfl
set_option maxRecDepth 20000 in
theorem g_441 : Cond.classLink "java/util/Arrays" 2 "java/lang/Object" ∈ GT := gm 441 rfl rfl
set_option maxRecDepth 20000 in
theorem g_442 : Cond.methodLink "java/util/Arrays" 304 y_MA_min ∈ GT := gm 442 rfl rfl
set_option maxRecDepth 20000 in
theorem g_443 : Cond.methodLink "java/util/Arrays" 150 ⟨"java/lang/System", "arraycopy", "(Ljava/lang/Object;ILjava/lang/Object;II)V"⟩ ∈ GT := gm 443 rfl rfl
set_option maxRecDepth 20000 in
theorem g_444 : Cond.static ⟨"java/lang/System", "arraycopy", "(Ljava/lang/Object;ILjava/lang/Object;II)V"⟩ ∈ GT := gm 444 rfl rfl
set_option maxRecDepth 20000 in
theorem g_445 : Cond.native ⟨"java/lang/System", "arraycopy", "(Ljava/lang/Object;ILjava/lang/Object;II)V"⟩ ∈ GT := gm 445 rfl rfl
set_option maxRecDepth 20000 in
theorem g_446 : Cond.methodLink "java/util/ArrayList" 79 y_MA_max ∈ GT := gm 446 rfl rfl
set_option maxRecDepth 20000 in
theorem g_447 : Cond.classLink "java/util/ArrayList" 7 "java/lang/Object" ∈ GT := gm 447 rfl rfl
set_option maxRecDepth 20000 in
theorem g_448 : Cond.methodLink "RubbingMirrorsLaw" 108 y_L_carve ∈ GT := gm 448 rfl rfl
set_option maxRecDepth 20000 in
theorem g_449 : Cond.static y_L_carve ∈ GT := gm 449 rfl rfl
set_option maxRecDepth 20000 in
theorem g_450 : Cond.codeWith y_L_carve method_10_code 5 (some .int) [(0, 7, 10, 13), (0, 7, 14, 15)] ∈ GT := gm 450 rfl rfl
set_option maxRecDepth 20000 in
theorem g_451 : Cond.methodLink "RubbingMirrorsLaw" 40 y_M_carve ∈ GT := gm 451 rfl rfl
set_option maxRecDepth 20000 in
theorem g_452 : Cond.instanceMethod y_M_carve ∈ GT := gm 452 rfl rfl
set_option maxRecDepth 20000 in
theorem g_453 : Cond.selects "RubbingMirrors" y_M_carve y_M_carve ∈ GT := gm 453 rfl rfl
set_option maxRecDepth 20000 in
theorem g_454 : Cond.code y_M_carve prog_1_method_10_code 5 none ∈ GT := gm 454 rfl rfl
set_option maxRecDepth 20000 in
theorem g_456 : Cond.methodLink "RubbingMirrors" 141 y_A_get ∈ GT := gm 456 rfl rfl
set_option maxRecDepth 20000 in
theorem g_457 : Cond.instanceMethod y_A_get ∈ GT := gm 457 rfl rfl
set_option maxRecDepth 20000 in
theorem g_458 : Cond.selects "java/util/ArrayList" y_A_get y_A_get ∈ GT := gm 458 rfl rfl
set_option maxRecDepth 20000 in
theorem g_459 : Cond.code y_A_get prog_23_method_20_code 2 (some (.object "java/lang/Object")) ∈ GT := gm 459 rfl rfl
set_option maxRecDepth 20000 in
theorem g_460 : Cond.methodLink "java/util/ArrayList" 118 y_OB_checkIndex ∈ GT := gm 460 rfl rfl
set_option maxRecDepth 20000 in
theorem g_461 : Cond.static y_OB_checkIndex ∈ GT := gm 461 rfl rfl
set_option maxRecDepth 20000 in
theorem g_462 : Cond.code y_OB_checkIndex prog_27_method_17_code 2 (some .int) ∈ GT := gm 462 rfl rfl
set_option maxRecDepth 20000 in
theorem g_463 : Cond.methodLink "java/util/Objects" 105 y_PC_checkIndex ∈ GT := gm 463 rfl rfl
set_option maxRecDepth 20000 in
theorem g_464 : Cond.static y_PC_checkIndex ∈ GT := gm 464 rfl rfl
set_option maxRecDepth 20000 in
theorem g_465 : Cond.code y_PC_checkIndex prog_31_method_11_code 3 (some .int) ∈ GT := gm 465 rfl rfl
set_option maxRecDepth 20000 in
theorem g_466 : Cond.methodLink "java/util/ArrayList" 123 y_A_elementData ∈ GT := gm 466 rfl rfl
set_option maxRecDepth 20000 in
theorem g_467 : Cond.instanceMethod y_A_elementData ∈ GT := gm 467 rfl rfl
set_option maxRecDepth 20000 in
theorem g_468 : Cond.selects "java/util/ArrayList" y_A_elementData y_A_elementData ∈ GT := gm 468 rfl rfl
set_option maxRecDepth 20000 in
theorem g_469 : Cond.code y_A_elementData prog_23_method_18_code 2 (some (.object "java/lang/Object")) ∈ GT := gm 469 rfl rfl
set_option maxRecDepth 20000 in
theorem g_470 : Cond.methodLink "RubbingMirrors" 145 y_S_has ∈ GT := gm 470 rfl rfl
set_option maxRecDepth 20000 in
theorem g_471 : Cond.instanceMethod y_S_has ∈ GT := gm 471 rfl rfl
set_option maxRecDepth 20000 in
theorem g_472 : Cond.selects "RubbingMirrors$Shape" y_S_has y_S_has ∈ GT := gm 472 rfl rfl
set_option maxRecDepth 20000 in
theorem g_473 : Cond.code y_S_has prog_6_method_2_code 2 (some .boolean) ∈ GT := gm 473 rfl rfl
set_option maxRecDepth 20000 in
theorem g_476 : Cond.methodLink "RubbingMirrors" 150 y_S_put ∈ GT := gm 476 rfl rfl
set_option maxRecDepth 20000 in
theorem g_477 : Cond.instanceMethod y_S_put ∈ GT := gm 477 rfl rfl
set_option maxRecDepth 20000 in
theorem g_478 : Cond.selects "RubbingMirrors$Shape" y_S_put y_S_put ∈ GT := gm 478 rfl rfl
set_option maxRecDepth 20000 in
theorem g_479 : Cond.code y_S_put prog_6_method_3_code 3 none ∈ GT := gm 479 rfl rfl
set_option maxRecDepth 20000 in
theorem g_480 : Cond.methodLink "RubbingMirrors$Shape" 21 y_S_has ∈ GT := gm 480 rfl rfl
set_option maxRecDepth 20000 in
theorem g_481 : Cond.methodLink "RubbingMirrorsLaw" 112 y_L_match_ ∈ GT := gm 481 rfl rfl
set_option maxRecDepth 20000 in
theorem g_482 : Cond.static y_L_match_ ∈ GT := gm 482 rfl rfl
set_option maxRecDepth 20000 in
theorem g_483 : Cond.codeWith y_L_match_ method_11_code 4 (some .int) [(0, 9, 12, 25), (0, 9, 15, 13)] ∈ GT := gm 483 rfl rfl
set_option maxRecDepth 20000 in
theorem g_484 : Cond.methodLink "RubbingMirrorsLaw" 44 y_M_match_ ∈ GT := gm 484 rfl rfl
set_option maxRecDepth 20000 in
theorem g_485 : Cond.instanceMethod y_M_match_ ∈ GT := gm 485 rfl rfl
set_option maxRecDepth 20000 in
theorem g_486 : Cond.selects "RubbingMirrors" y_M_match_ y_M_match_ ∈ GT := gm 486 rfl rfl
set_option maxRecDepth 20000 in
theorem g_487 : Cond.code y_M_match_ prog_1_method_11_code 2 (some .int) ∈ GT := gm 487 rfl rfl
set_option maxRecDepth 20000 in
theorem g_488 : Cond.methodLink "RubbingMirrors" 151 y_M_findMatch ∈ GT := gm 488 rfl rfl
set_option maxRecDepth 20000 in
theorem g_490 : Cond.instanceMethod y_M_findMatch ∈ GT := gm 490 rfl rfl
set_option maxRecDepth 20000 in
theorem g_491 : Cond.code y_M_findMatch prog_1_method_19_code 5 none ∈ GT := gm 491 rfl rfl
set_option maxRecDepth 20000 in
theorem g_492 : Cond.methodLink "RubbingMirrors" 234 y_S_coverAt ∈ GT := gm 492 rfl rfl
set_option maxRecDepth 20000 in
theorem g_493 : Cond.instanceMethod y_S_coverAt ∈ GT := gm 493 rfl rfl
set_option maxRecDepth 20000 in
theorem g_494 : Cond.selects "RubbingMirrors$Shape" y_S_coverAt y_S_coverAt ∈ GT := gm 494 rfl rfl
set_option maxRecDepth 20000 in
theorem g_495 : Cond.code y_S_coverAt prog_6_method_5_code 5 (some .int) ∈ GT := gm 495 rfl rfl
set_option maxRecDepth 20000 in
theorem g_496 : Cond.methodLink "RubbingMirrors$Shape" 25 y_R_depthAt ∈ GT := gm 496 rfl rfl
set_option maxRecDepth 20000 in
theorem g_497 : Cond.methodLink "RubbingMirrors" 238 y_S_leastCover ∈ GT := gm 497 rfl rfl
set_option maxRecDepth 20000 in
theorem g_498 : Cond.instanceMethod y_S_leastCover ∈ GT := gm 498 rfl rfl
set_option maxRecDepth 20000 in
theorem g_499 : Cond.selects "RubbingMirrors$Shape" y_S_leastCover y_S_leastCover ∈ GT := gm 499 rfl rfl
set_option maxRecDepth 20000 in
theorem g_500 : Cond.code y_S_leastCover prog_6_method_4_code 1 (some .int) ∈ GT := gm 500 rfl rfl
set_option maxRecDepth 20000 in
theorem g_501 : Cond.methodLink "RubbingMirrors" 241 y_S_missAt ∈ GT := gm 501 rfl rfl
set_option maxRecDepth 20000 in
theorem g_502 : Cond.instanceMethod y_S_missAt ∈ GT := gm 502 rfl rfl
set_option maxRecDepth 20000 in
theorem g_503 : Cond.selects "RubbingMirrors$Shape" y_S_missAt y_S_missAt ∈ GT := gm 503 rfl rfl
set_option maxRecDepth 20000 in
theorem g_504 : Cond.code y_S_missAt prog_6_method_6_code 6 (some .int) ∈ GT := gm 504 rfl rfl
set_option maxRecDepth 20000 in
theorem g_505 : Cond.methodLink "RubbingMirrors$Shape" 31 y_MA_abs ∈ GT := gm 505 rfl rfl
set_option maxRecDepth 20000 in
theorem g_506 : Cond.static y_MA_abs ∈ GT := gm 506 rfl rfl
set_option maxRecDepth 20000 in
theorem g_507 : Cond.code y_MA_abs prog_16_method_59_code 1 (some .int) ∈ GT := gm 507 rfl rfl
set_option maxRecDepth 20000 in
theorem g_509 : Cond.methodLink "RubbingMirrorsLaw" 115 y_L_kind ∈ GT := gm 509 rfl rfl
set_option maxRecDepth 20000 in
theorem g_510 : Cond.static y_L_kind ∈ GT := gm 510 rfl rfl
set_option maxRecDepth 20000 in
theorem g_511 : Cond.codeWith y_L_kind method_12_code 4 (some .int) [(0, 9, 12, 15), (0, 9, 15, 25)] ∈ GT := gm 511 rfl rfl
set_option maxRecDepth 20000 in
theorem g_512 : Cond.methodLink "RubbingMirrorsLaw" 47 y_M_kind ∈ GT := gm 512 rfl rfl
set_option maxRecDepth 20000 in
theorem g_513 : Cond.instanceMethod y_M_kind ∈ GT := gm 513 rfl rfl
set_option maxRecDepth 20000 in
theorem g_514 : Cond.selects "RubbingMirrors" y_M_kind y_M_kind ∈ GT := gm 514 rfl rfl
set_option maxRecDepth 20000 in
theorem g_515 : Cond.code y_M_kind prog_1_method_12_code 2 (some .int) ∈ GT := gm 515 rfl rfl
set_option maxRecDepth 20000 in
theorem g_518 : Cond.classLink "RubbingMirrors" 163 "RubbingMirrors$Node" ∈ GT := gm 518 rfl rfl
set_option maxRecDepth 20000 in
theorem g_519 : Cond.instantiable "RubbingMirrors$Node" 4 ∈ GT := gm 519 rfl rfl
set_option maxRecDepth 20000 in
theorem g_520 : Cond.methodLink "RubbingMirrors" 165 y_N_init ∈ GT := gm 520 rfl rfl
set_option maxRecDepth 20000 in
theorem g_521 : Cond.instanceMethod y_N_init ∈ GT := gm 521 rfl rfl
set_option maxRecDepth 20000 in
theorem g_522 : Cond.code y_N_init prog_3_method_1_code 5 none ∈ GT := gm 522 rfl rfl
set_option maxRecDepth 20000 in
theorem g_523 : Cond.methodLink "RubbingMirrors$Node" 3 y_O_init ∈ GT := gm 523 rfl rfl
set_option maxRecDepth 20000 in
theorem g_524 : Cond.fieldLink "RubbingMirrors$Node" 9 "RubbingMirrors$Node" "asked" "I" ∈ GT := gm 524 rfl rfl
set_option maxRecDepth 20000 in
theorem g_526 : Cond.fieldLink "RubbingMirrors$Node" 15 "RubbingMirrors$Node" "named" "I" ∈ GT := gm 526 rfl rfl
set_option maxRecDepth 20000 in
theorem g_528 : Cond.fieldLink "RubbingMirrors$Node" 18 "RubbingMirrors$Node" "no" "I" ∈ GT := gm 528 rfl rfl
set_option maxRecDepth 20000 in
theorem g_529 : Cond.fieldLink "RubbingMirrors$Node" 21 "RubbingMirrors$Node" "yes" "I" ∈ GT := gm 529 rfl rfl
set_option maxRecDepth 20000 in
theorem g_530 : Cond.laysFinal "RubbingMirrors$Node" "RubbingMirrors$Node" "asked" "I" ∈ GT := gm 530 rfl rfl
set_option maxRecDepth 20000 in
theorem g_532 : Cond.laysFinal "RubbingMirrors$Node" "RubbingMirrors$Node" "named" "I" ∈ GT := gm 532 rfl rfl
set_option maxRecDepth 20000 in
theorem g_534 : Cond.laysFinal "RubbingMirrors$Node" "RubbingMirrors$Node" "no" "I" ∈ GT := gm 534 rfl rfl
set_option maxRecDepth 20000 in
theorem g_536 : Cond.laysFinal "RubbingMirrors$Node" "RubbingMirrors$Node" "yes" "I" ∈ GT := gm 536 rfl rfl
set_option maxRecDepth 20000 in
theorem g_539 : Cond.methodLink "RubbingMirrorsLaw" 118 y_L_question ∈ GT := gm 539 rfl rfl
set_option maxRecDepth 20000 in
theorem g_540 : Cond.static y_L_question ∈ GT := gm 540 rfl rfl
set_option maxRecDepth 20000 in
theorem g_541 : Cond.codeWith y_L_question method_13_code 6 (some .int) [(0, 12, 15, 13), (0, 12, 19, 15), (0, 12, 23, 25)] ∈ GT := gm 541 rfl rfl
set_option maxRecDepth 20000 in
theorem g_542 : Cond.methodLink "RubbingMirrorsLaw" 50 y_M_question ∈ GT := gm 542 rfl rfl
set_option maxRecDepth 20000 in
theorem g_543 : Cond.instanceMethod y_M_question ∈ GT := gm 543 rfl rfl
set_option maxRecDepth 20000 in
theorem g_544 : Cond.selects "RubbingMirrors" y_M_question y_M_question ∈ GT := gm 544 rfl rfl
set_option maxRecDepth 20000 in
theorem g_545 : Cond.code y_M_question prog_1_method_13_code 5 (some .int) ∈ GT := gm 545 rfl rfl
set_option maxRecDepth 20000 in
theorem g_548 : Cond.methodLink "RubbingMirrorsLaw" 122 y_L_ask ∈ GT := gm 548 rfl rfl
set_option maxRecDepth 20000 in
theorem g_549 : Cond.static y_L_ask ∈ GT := gm 549 rfl rfl
set_option maxRecDepth 20000 in
theorem g_550 : Cond.codeWith y_L_ask method_14_code 5 (some .int) [(0, 10, 13, 15), (0, 10, 17, 25)] ∈ GT := gm 550 rfl rfl
set_option maxRecDepth 20000 in
theorem g_551 : Cond.methodLink "RubbingMirrorsLaw" 54 y_M_ask ∈ GT := gm 551 rfl rfl
set_option maxRecDepth 20000 in
theorem g_552 : Cond.instanceMethod y_M_ask ∈ GT := gm 552 rfl rfl
set_option maxRecDepth 20000 in
theorem g_553 : Cond.selects "RubbingMirrors" y_M_ask y_M_ask ∈ GT := gm 553 rfl rfl
set_option maxRecDepth 20000 in
theorem g_554 : Cond.code y_M_ask prog_1_method_14_code 4 (some .int) ∈ GT := gm 554 rfl rfl
set_option maxRecDepth 20000 in
theorem g_555 : Cond.constant "RubbingMirrors" 172 (65535 : Int32) ∈ GT := gm 555 rfl rfl
set_option maxRecDepth 20000 in
theorem g_557 : Cond.methodLink "RubbingMirrors" 175 y_A_isEmpty ∈ GT := gm 557 rfl rfl
set_option maxRecDepth 20000 in
theorem g_558 : Cond.instanceMethod y_A_isEmpty ∈ GT := gm 558 rfl rfl
set_option maxRecDepth 20000 in
theorem g_559 : Cond.selects "java/util/ArrayList" y_A_isEmpty y_A_isEmpty ∈ GT := gm 559 rfl rfl
set_option maxRecDepth 20000 in
theorem g_560 : Cond.code y_A_isEmpty prog_23_method_9_code 1 (some .boolean) ∈ GT := gm 560 rfl rfl
set_option maxRecDepth 20000 in
theorem g_562 : Cond.methodLink "RubbingMirrors" 181 y_M_lastAsked ∈ GT := gm 562 rfl rfl
set_option maxRecDepth 20000 in
theorem g_564 : Cond.instanceMethod y_M_lastAsked ∈ GT := gm 564 rfl rfl
set_option maxRecDepth 20000 in
theorem g_565 : Cond.code y_M_lastAsked prog_1_method_20_code 5 (some .int) ∈ GT := gm 565 rfl rfl
set_option maxRecDepth 20000 in
theorem g_566 : Cond.methodLink "RubbingMirrors" 244 y_N_isAnsweredBy ∈ GT := gm 566 rfl rfl
set_option maxRecDepth 20000 in
theorem g_567 : Cond.instanceMethod y_N_isAnsweredBy ∈ GT := gm 567 rfl rfl
set_option maxRecDepth 20000 in
theorem g_568 : Cond.selects "RubbingMirrors$Node" y_N_isAnsweredBy y_N_isAnsweredBy ∈ GT := gm 568 rfl rfl
set_option maxRecDepth 20000 in
theorem g_569 : Cond.code y_N_isAnsweredBy prog_3_method_3_code 2 (some .boolean) ∈ GT := gm 569 rfl rfl
set_option maxRecDepth 20000 in
theorem g_570 : Cond.methodLink "RubbingMirrors$Node" 24 y_N_isQuestion ∈ GT := gm 570 rfl rfl
set_option maxRecDepth 20000 in
theorem g_571 : Cond.instanceMethod y_N_isQuestion ∈ GT := gm 571 rfl rfl
set_option maxRecDepth 20000 in
theorem g_572 : Cond.selects "RubbingMirrors$Node" y_N_isQuestion y_N_isQuestion ∈ GT := gm 572 rfl rfl
set_option maxRecDepth 20000 in
theorem g_573 : Cond.code y_N_isQuestion prog_3_method_2_code 1 (some .boolean) ∈ GT := gm 573 rfl rfl
set_option maxRecDepth 20000 in
theorem g_574 : Cond.methodLink "RubbingMirrors" 247 y_N_nextBy ∈ GT := gm 574 rfl rfl
set_option maxRecDepth 20000 in
theorem g_575 : Cond.instanceMethod y_N_nextBy ∈ GT := gm 575 rfl rfl
set_option maxRecDepth 20000 in
theorem g_576 : Cond.selects "RubbingMirrors$Node" y_N_nextBy y_N_nextBy ∈ GT := gm 576 rfl rfl
set_option maxRecDepth 20000 in
theorem g_577 : Cond.code y_N_nextBy prog_3_method_4_code 2 (some .int) ∈ GT := gm 577 rfl rfl
set_option maxRecDepth 20000 in
theorem g_578 : Cond.methodLink "RubbingMirrors" 184 y_N_isQuestion ∈ GT := gm 578 rfl rfl
set_option maxRecDepth 20000 in
theorem g_579 : Cond.methodLink "RubbingMirrorsLaw" 125 y_L_rule ∈ GT := gm 579 rfl rfl
set_option maxRecDepth 20000 in
theorem g_580 : Cond.static y_L_rule ∈ GT := gm 580 rfl rfl
set_option maxRecDepth 20000 in
theorem g_581 : Cond.codeWith y_L_rule method_15_code 9 (some .int) [(0, 18, 21, 13), (0, 18, 25, 15), (0, 18, 29, 25)] ∈ GT := gm 581 rfl rfl
set_option maxRecDepth 20000 in
theorem g_582 : Cond.methodLink "RubbingMirrorsLaw" 57 y_M_rule ∈ GT := gm 582 rfl rfl
set_option maxRecDepth 20000 in
theorem g_583 : Cond.instanceMethod y_M_rule ∈ GT := gm 583 rfl rfl
set_option maxRecDepth 20000 in
theorem g_584 : Cond.selects "RubbingMirrors" y_M_rule y_M_rule ∈ GT := gm 584 rfl rfl
set_option maxRecDepth 20000 in
theorem g_585 : Cond.code y_M_rule prog_1_method_15_code 7 (some .int) ∈ GT := gm 585 rfl rfl
set_option maxRecDepth 20000 in
theorem g_591 : Cond.classLink "RubbingMirrors" 203 "RubbingMirrors$Rule" ∈ GT := gm 591 rfl rfl
set_option maxRecDepth 20000 in
theorem g_592 : Cond.instantiable "RubbingMirrors$Rule" 6 ∈ GT := gm 592 rfl rfl
set_option maxRecDepth 20000 in
theorem g_593 : Cond.methodLink "RubbingMirrors" 205 y_U_init ∈ GT := gm 593 rfl rfl
set_option maxRecDepth 20000 in
theorem g_594 : Cond.instanceMethod y_U_init ∈ GT := gm 594 rfl rfl
set_option maxRecDepth 20000 in
theorem g_595 : Cond.code y_U_init prog_5_method_1_code 7 none ∈ GT := gm 595 rfl rfl
set_option maxRecDepth 20000 in
theorem g_596 : Cond.methodLink "RubbingMirrors$Rule" 1 y_O_init ∈ GT := gm 596 rfl rfl
set_option maxRecDepth 20000 in
theorem g_597 : Cond.fieldLink "RubbingMirrors$Rule" 7 "RubbingMirrors$Rule" "from" "I" ∈ GT := gm 597 rfl rfl
set_option maxRecDepth 20000 in
theorem g_598 : Cond.fieldLink "RubbingMirrors$Rule" 13 "RubbingMirrors$Rule" "to" "I" ∈ GT := gm 598 rfl rfl
set_option maxRecDepth 20000 in
theorem g_599 : Cond.fieldLink "RubbingMirrors$Rule" 16 "RubbingMirrors$Rule" "least" "I" ∈ GT := gm 599 rfl rfl
set_option maxRecDepth 20000 in
theorem g_600 : Cond.fieldLink "RubbingMirrors$Rule" 19 "RubbingMirrors$Rule" "greatest" "I" ∈ GT := gm 600 rfl rfl
set_option maxRecDepth 20000 in
theorem g_601 : Cond.fieldLink "RubbingMirrors$Rule" 22 "RubbingMirrors$Rule" "year" "I" ∈ GT := gm 601 rfl rfl
set_option maxRecDepth 20000 in
theorem g_603 : Cond.fieldLink "RubbingMirrors$Rule" 25 "RubbingMirrors$Rule" "until" "I" ∈ GT := gm 603 rfl rfl
set_option maxRecDepth 20000 in
theorem g_605 : Cond.laysFinal "RubbingMirrors$Rule" "RubbingMirrors$Rule" "from" "I" ∈ GT := gm 605 rfl rfl
set_option maxRecDepth 20000 in
theorem g_607 : Cond.laysFinal "RubbingMirrors$Rule" "RubbingMirrors$Rule" "to" "I" ∈ GT := gm 607 rfl rfl
set_option maxRecDepth 20000 in
theorem g_609 : Cond.laysFinal "RubbingMirrors$Rule" "RubbingMirrors$Rule" "least" "I" ∈ GT := gm 609 rfl rfl
set_option maxRecDepth 20000 in
theorem g_611 : Cond.laysFinal "RubbingMirrors$Rule" "RubbingMirrors$Rule" "greatest" "I" ∈ GT := gm 611 rfl rfl
set_option maxRecDepth 20000 in
theorem g_613 : Cond.laysFinal "RubbingMirrors$Rule" "RubbingMirrors$Rule" "year" "I" ∈ GT := gm 613 rfl rfl
set_option maxRecDepth 20000 in
theorem g_615 : Cond.laysFinal "RubbingMirrors$Rule" "RubbingMirrors$Rule" "until" "I" ∈ GT := gm 615 rfl rfl
set_option maxRecDepth 20000 in
theorem g_618 : Cond.methodLink "RubbingMirrorsLaw" 129 y_L_age ∈ GT := gm 618 rfl rfl
set_option maxRecDepth 20000 in
theorem g_619 : Cond.static y_L_age ∈ GT := gm 619 rfl rfl
set_option maxRecDepth 20000 in
theorem g_620 : Cond.codeWith y_L_age method_16_code 4 (some .int) [(0, 9, 12, 13), (0, 9, 15, 25)] ∈ GT := gm 620 rfl rfl
set_option maxRecDepth 20000 in
theorem g_621 : Cond.methodLink "RubbingMirrorsLaw" 61 y_M_age ∈ GT := gm 621 rfl rfl
set_option maxRecDepth 20000 in
theorem g_622 : Cond.instanceMethod y_M_age ∈ GT := gm 622 rfl rfl
set_option maxRecDepth 20000 in
theorem g_623 : Cond.selects "RubbingMirrors" y_M_age y_M_age ∈ GT := gm 623 rfl rfl
set_option maxRecDepth 20000 in
theorem g_624 : Cond.code y_M_age prog_1_method_16_code 7 (some .int) ∈ GT := gm 624 rfl rfl
set_option maxRecDepth 20000 in
theorem g_625 : Cond.methodLink "RubbingMirrors" 208 y_U_holdsOn ∈ GT := gm 625 rfl rfl
set_option maxRecDepth 20000 in
theorem g_626 : Cond.instanceMethod y_U_holdsOn ∈ GT := gm 626 rfl rfl
set_option maxRecDepth 20000 in
theorem g_627 : Cond.selects "RubbingMirrors$Rule" y_U_holdsOn y_U_holdsOn ∈ GT := gm 627 rfl rfl
set_option maxRecDepth 20000 in
theorem g_628 : Cond.code y_U_holdsOn prog_5_method_2_code 3 (some .boolean) ∈ GT := gm 628 rfl rfl
set_option maxRecDepth 20000 in
theorem g_629 : Cond.methodLink "RubbingMirrors$Rule" 28 y_R_depthAt ∈ GT := gm 629 rfl rfl
set_option maxRecDepth 20000 in
theorem g_633 : Cond.classLink "RubbingMirrorsLaw" 73 "RubbingMirrorsModel" ∈ GT := gm 633 rfl rfl
set_option maxRecDepth 20000 in
theorem g_634 : Cond.instantiable "RubbingMirrorsModel" 17 ∈ GT := gm 634 rfl rfl
set_option maxRecDepth 20000 in
theorem g_635 : Cond.methodLink "RubbingMirrorsLaw" 75 y_T_init ∈ GT := gm 635 rfl rfl
set_option maxRecDepth 20000 in
theorem g_636 : Cond.instanceMethod y_T_init ∈ GT := gm 636 rfl rfl
set_option maxRecDepth 20000 in
theorem g_637 : Cond.code y_T_init prog_8_method_1_code 3 none ∈ GT := gm 637 rfl rfl
set_option maxRecDepth 20000 in
theorem g_638 : Cond.methodLink "RubbingMirrorsModel" 1 y_O_init ∈ GT := gm 638 rfl rfl
set_option maxRecDepth 20000 in
theorem g_639 : Cond.fieldLink "RubbingMirrorsModel" 39 "RubbingMirrorsModel" "thrown" "I" ∈ GT := gm 639 rfl rfl
set_option maxRecDepth 20000 in
theorem g_640 : Cond.fieldLink "RubbingMirrorsModel" 35 "RubbingMirrorsModel" "n" "I" ∈ GT := gm 640 rfl rfl
set_option maxRecDepth 20000 in
theorem g_641 : Cond.fieldLink "RubbingMirrorsModel" 7 "RubbingMirrorsModel" "depths" "[I" ∈ GT := gm 641 rfl rfl
set_option maxRecDepth 20000 in
theorem g_642 : Cond.fieldLink "RubbingMirrorsModel" 13 "RubbingMirrorsModel" "guesses" "[Z" ∈ GT := gm 642 rfl rfl
set_option maxRecDepth 20000 in
theorem g_643 : Cond.fieldLink "RubbingMirrorsModel" 86 "RubbingMirrorsModel" "shapes" "I" ∈ GT := gm 643 rfl rfl
set_option maxRecDepth 20000 in
theorem g_644 : Cond.fieldLink "RubbingMirrorsModel" 17 "RubbingMirrorsModel" "lengths" "[I" ∈ GT := gm 644 rfl rfl
set_option maxRecDepth 20000 in
theorem g_645 : Cond.fieldLink "RubbingMirrorsModel" 20 "RubbingMirrorsModel" "carved" "[I" ∈ GT := gm 645 rfl rfl
set_option maxRecDepth 20000 in
theorem g_646 : Cond.fieldLink "RubbingMirrorsModel" 99 "RubbingMirrorsModel" "nodes" "I" ∈ GT := gm 646 rfl rfl
set_option maxRecDepth 20000 in
theorem g_647 : Cond.fieldLink "RubbingMirrorsModel" 23 "RubbingMirrorsModel" "asks" "[I" ∈ GT := gm 647 rfl rfl
set_option maxRecDepth 20000 in
theorem g_648 : Cond.fieldLink "RubbingMirrorsModel" 26 "RubbingMirrorsModel" "noes" "[I" ∈ GT := gm 648 rfl rfl
set_option maxRecDepth 20000 in
theorem g_649 : Cond.fieldLink "RubbingMirrorsModel" 29 "RubbingMirrorsModel" "yeses" "[I" ∈ GT := gm 649 rfl rfl
set_option maxRecDepth 20000 in
theorem g_650 : Cond.fieldLink "RubbingMirrorsModel" 110 "RubbingMirrorsModel" "rules" "I" ∈ GT := gm 650 rfl rfl
set_option maxRecDepth 20000 in
theorem g_651 : Cond.fieldLink "RubbingMirrorsModel" 32 "RubbingMirrorsModel" "told" "[I" ∈ GT := gm 651 rfl rfl
set_option maxRecDepth 20000 in
theorem g_652 : Cond.fieldLink "RubbingMirrorsModel" 61 "RubbingMirrorsModel" "best" "I" ∈ GT := gm 652 rfl rfl
set_option maxRecDepth 20000 in
theorem g_653 : Cond.fieldLink "RubbingMirrorsModel" 89 "RubbingMirrorsModel" "bestPlace" "I" ∈ GT := gm 653 rfl rfl
set_option maxRecDepth 20000 in
theorem g_654 : Cond.fieldLink "RubbingMirrorsModel" 57 "RubbingMirrorsModel" "bestOff" "J" ∈ GT := gm 654 rfl rfl
set_option maxRecDepth 20000 in
theorem g_655 : Cond.fieldLink "RubbingMirrorsModel" 54 "RubbingMirrorsModel" "bestMany" "I" ∈ GT := gm 655 rfl rfl
set_option maxRecDepth 20000 in
theorem g_656 : Cond.lays "RubbingMirrorsModel" "RubbingMirrorsModel" "thrown" "I" ∈ GT := gm 656 rfl rfl
set_option maxRecDepth 20000 in
theorem g_658 : Cond.laysFinal "RubbingMirrorsModel" "RubbingMirrorsModel" "n" "I" ∈ GT := gm 658 rfl rfl
set_option maxRecDepth 20000 in
theorem g_660 : Cond.laysFinal "RubbingMirrorsModel" "RubbingMirrorsModel" "depths" "[I" ∈ GT := gm 660 rfl rfl
set_option maxRecDepth 20000 in
theorem g_662 : Cond.laysFinal "RubbingMirrorsModel" "RubbingMirrorsModel" "guesses" "[Z" ∈ GT := gm 662 rfl rfl
set_option maxRecDepth 20000 in
theorem g_664 : Cond.lays "RubbingMirrorsModel" "RubbingMirrorsModel" "shapes" "I" ∈ GT := gm 664 rfl rfl
set_option maxRecDepth 20000 in
theorem g_666 : Cond.laysFinal "RubbingMirrorsModel" "RubbingMirrorsModel" "lengths" "[I" ∈ GT := gm 666 rfl rfl
set_option maxRecDepth 20000 in
theorem g_668 : Cond.laysFinal "RubbingMirrorsModel" "RubbingMirrorsModel" "carved" "[I" ∈ GT := gm 668 rfl rfl
set_option maxRecDepth 20000 in
theorem g_670 : Cond.lays "RubbingMirrorsModel" "RubbingMirrorsModel" "nodes" "I" ∈ GT := gm 670 rfl rfl
set_option maxRecDepth 20000 in
theorem g_672 : Cond.laysFinal "RubbingMirrorsModel" "RubbingMirrorsModel" "asks" "[I" ∈ GT := gm 672 rfl rfl
set_option maxRecDepth 20000 in
theorem g_674 : Cond.laysFinal "RubbingMirrorsModel" "RubbingMirrorsModel" "noes" "[I" ∈ GT := gm 674 rfl rfl
set_option maxRecDepth 20000 in
theorem g_676 : Cond.laysFinal "RubbingMirrorsModel" "RubbingMirrorsModel" "yeses" "[I" ∈ GT := gm 676 rfl rfl
set_option maxRecDepth 20000 in
theorem g_678 : Cond.lays "RubbingMirrorsModel" "RubbingMirrorsModel" "rules" "I" ∈ GT := gm 678 rfl rfl
set_option maxRecDepth 20000 in
theorem g_680 : Cond.laysFinal "RubbingMirrorsModel" "RubbingMirrorsModel" "told" "[I" ∈ GT := gm 680 rfl rfl
set_option maxRecDepth 20000 in
theorem g_682 : Cond.lays "RubbingMirrorsModel" "RubbingMirrorsModel" "best" "I" ∈ GT := gm 682 rfl rfl
set_option maxRecDepth 20000 in
theorem g_684 : Cond.lays "RubbingMirrorsModel" "RubbingMirrorsModel" "bestPlace" "I" ∈ GT := gm 684 rfl rfl
set_option maxRecDepth 20000 in
theorem g_686 : Cond.lays "RubbingMirrorsModel" "RubbingMirrorsModel" "bestOff" "J" ∈ GT := gm 686 rfl rfl
set_option maxRecDepth 20000 in
theorem g_688 : Cond.lays "RubbingMirrorsModel" "RubbingMirrorsModel" "bestMany" "I" ∈ GT := gm 688 rfl rfl
set_option maxRecDepth 20000 in
theorem g_691 : Cond.methodLink "RubbingMirrorsLaw" 80 y_T_thrown ∈ GT := gm 691 rfl rfl
set_option maxRecDepth 20000 in
theorem g_692 : Cond.instanceMethod y_T_thrown ∈ GT := gm 692 rfl rfl
set_option maxRecDepth 20000 in
theorem g_693 : Cond.selects "RubbingMirrorsModel" y_T_thrown y_T_thrown ∈ GT := gm 693 rfl rfl
set_option maxRecDepth 20000 in
theorem g_694 : Cond.code y_T_thrown prog_8_method_2_code 1 (some .int) ∈ GT := gm 694 rfl rfl
set_option maxRecDepth 20000 in
theorem g_695 : Cond.methodLink "RubbingMirrorsLaw" 79 y_T_depth ∈ GT := gm 695 rfl rfl
set_option maxRecDepth 20000 in
theorem g_696 : Cond.instanceMethod y_T_depth ∈ GT := gm 696 rfl rfl
set_option maxRecDepth 20000 in
theorem g_697 : Cond.selects "RubbingMirrorsModel" y_T_depth y_T_depth ∈ GT := gm 697 rfl rfl
set_option maxRecDepth 20000 in
theorem g_698 : Cond.code y_T_depth prog_8_method_6_code 3 none ∈ GT := gm 698 rfl rfl
set_option maxRecDepth 20000 in
theorem g_699 : Cond.methodLink "RubbingMirrorsModel" 46 y_T_isPlace ∈ GT := gm 699 rfl rfl
set_option maxRecDepth 20000 in
theorem g_701 : Cond.instanceMethod y_T_isPlace ∈ GT := gm 701 rfl rfl
set_option maxRecDepth 20000 in
theorem g_702 : Cond.code y_T_isPlace prog_8_method_4_code 3 (some .boolean) ∈ GT := gm 702 rfl rfl
set_option maxRecDepth 20000 in
theorem g_703 : Cond.methodLink "RubbingMirrorsModel" 42 y_T_isIn ∈ GT := gm 703 rfl rfl
set_option maxRecDepth 20000 in
theorem g_704 : Cond.static y_T_isIn ∈ GT := gm 704 rfl rfl
set_option maxRecDepth 20000 in
theorem g_705 : Cond.code y_T_isIn prog_8_method_3_code 6 (some .boolean) ∈ GT := gm 705 rfl rfl
set_option maxRecDepth 20000 in
theorem g_706 : Cond.constantLong "RubbingMirrorsModel" 50 (-1 : Int64) ∈ GT := gm 706 rfl rfl
set_option maxRecDepth 20000 in
theorem g_707 : Cond.constantLong "RubbingMirrorsModel" 52 (255 : Int64) ∈ GT := gm 707 rfl rfl
set_option maxRecDepth 20000 in
theorem g_708 : Cond.methodLink "RubbingMirrorsLaw" 87 y_T_place ∈ GT := gm 708 rfl rfl
set_option maxRecDepth 20000 in
theorem g_709 : Cond.instanceMethod y_T_place ∈ GT := gm 709 rfl rfl
set_option maxRecDepth 20000 in
theorem g_710 : Cond.selects "RubbingMirrorsModel" y_T_place y_T_place ∈ GT := gm 710 rfl rfl
set_option maxRecDepth 20000 in
theorem g_711 : Cond.code y_T_place prog_8_method_7_code 3 (some .int) ∈ GT := gm 711 rfl rfl
set_option maxRecDepth 20000 in
theorem g_712 : Cond.methodLink "RubbingMirrorsLaw" 91 y_T_mirror ∈ GT := gm 712 rfl rfl
set_option maxRecDepth 20000 in
theorem g_713 : Cond.instanceMethod y_T_mirror ∈ GT := gm 713 rfl rfl
set_option maxRecDepth 20000 in
theorem g_714 : Cond.selects "RubbingMirrorsModel" y_T_mirror y_T_mirror ∈ GT := gm 714 rfl rfl
set_option maxRecDepth 20000 in
theorem g_715 : Cond.code y_T_mirror prog_8_method_10_code 2 (some .long) ∈ GT := gm 715 rfl rfl
set_option maxRecDepth 20000 in
theorem g_716 : Cond.methodLink "RubbingMirrorsModel" 71 y_T_findMirror ∈ GT := gm 716 rfl rfl
set_option maxRecDepth 20000 in
theorem g_718 : Cond.instanceMethod y_T_findMirror ∈ GT := gm 718 rfl rfl
set_option maxRecDepth 20000 in
theorem g_719 : Cond.code y_T_findMirror prog_8_method_9_code 7 none ∈ GT := gm 719 rfl rfl
set_option maxRecDepth 20000 in
theorem g_720 : Cond.methodLink "RubbingMirrorsModel" 64 y_T_isKnown ∈ GT := gm 720 rfl rfl
set_option maxRecDepth 20000 in
theorem g_722 : Cond.instanceMethod y_T_isKnown ∈ GT := gm 722 rfl rfl
set_option maxRecDepth 20000 in
theorem g_723 : Cond.code y_T_isKnown prog_8_method_5_code 3 (some .boolean) ∈ GT := gm 723 rfl rfl
set_option maxRecDepth 20000 in
theorem g_724 : Cond.methodLink "RubbingMirrorsModel" 67 y_T_isBetter ∈ GT := gm 724 rfl rfl
set_option maxRecDepth 20000 in
theorem g_726 : Cond.instanceMethod y_T_isBetter ∈ GT := gm 726 rfl rfl
set_option maxRecDepth 20000 in
theorem g_727 : Cond.code y_T_isBetter prog_8_method_8_code 8 (some .boolean) ∈ GT := gm 727 rfl rfl
set_option maxRecDepth 20000 in
theorem g_728 : Cond.constantLong "RubbingMirrorsModel" 74 (2 : Int64) ∈ GT := gm 728 rfl rfl
set_option maxRecDepth 20000 in
theorem g_729 : Cond.methodLink "RubbingMirrorsLaw" 94 y_T_sum ∈ GT := gm 729 rfl rfl
set_option maxRecDepth 20000 in
theorem g_730 : Cond.instanceMethod y_T_sum ∈ GT := gm 730 rfl rfl
set_option maxRecDepth 20000 in
theorem g_731 : Cond.selects "RubbingMirrorsModel" y_T_sum y_T_sum ∈ GT := gm 731 rfl rfl
set_option maxRecDepth 20000 in
theorem g_732 : Cond.code y_T_sum prog_8_method_12_code 2 (some .long) ∈ GT := gm 732 rfl rfl
set_option maxRecDepth 20000 in
theorem g_733 : Cond.methodLink "RubbingMirrorsModel" 76 y_T_sumOf ∈ GT := gm 733 rfl rfl
set_option maxRecDepth 20000 in
theorem g_735 : Cond.instanceMethod y_T_sumOf ∈ GT := gm 735 rfl rfl
set_option maxRecDepth 20000 in
theorem g_736 : Cond.code y_T_sumOf prog_8_method_11_code 5 (some .long) ∈ GT := gm 736 rfl rfl
set_option maxRecDepth 20000 in
theorem g_737 : Cond.methodLink "RubbingMirrorsLaw" 97 y_T_repeat_ ∈ GT := gm 737 rfl rfl
set_option maxRecDepth 20000 in
theorem g_738 : Cond.instanceMethod y_T_repeat_ ∈ GT := gm 738 rfl rfl
set_option maxRecDepth 20000 in
theorem g_739 : Cond.selects "RubbingMirrorsModel" y_T_repeat_ y_T_repeat_ ∈ GT := gm 739 rfl rfl
set_option maxRecDepth 20000 in
theorem g_740 : Cond.code y_T_repeat_ prog_8_method_13_code 5 (some .int) ∈ GT := gm 740 rfl rfl
set_option maxRecDepth 20000 in
theorem g_741 : Cond.methodLink "RubbingMirrorsLaw" 100 y_T_fill ∈ GT := gm 741 rfl rfl
set_option maxRecDepth 20000 in
theorem g_742 : Cond.instanceMethod y_T_fill ∈ GT := gm 742 rfl rfl
set_option maxRecDepth 20000 in
theorem g_743 : Cond.selects "RubbingMirrorsModel" y_T_fill y_T_fill ∈ GT := gm 743 rfl rfl
set_option maxRecDepth 20000 in
theorem g_744 : Cond.code y_T_fill prog_8_method_15_code 6 (some .int) ∈ GT := gm 744 rfl rfl
set_option maxRecDepth 20000 in
theorem g_745 : Cond.methodLink "RubbingMirrorsModel" 80 y_T_source ∈ GT := gm 745 rfl rfl
set_option maxRecDepth 20000 in
theorem g_747 : Cond.instanceMethod y_T_source ∈ GT := gm 747 rfl rfl
set_option maxRecDepth 20000 in
theorem g_748 : Cond.code y_T_source prog_8_method_14_code 7 (some .int) ∈ GT := gm 748 rfl rfl
set_option maxRecDepth 20000 in
theorem g_749 : Cond.methodLink "RubbingMirrorsLaw" 104 y_T_forget ∈ GT := gm 749 rfl rfl
set_option maxRecDepth 20000 in
theorem g_750 : Cond.instanceMethod y_T_forget ∈ GT := gm 750 rfl rfl
set_option maxRecDepth 20000 in
theorem g_751 : Cond.selects "RubbingMirrorsModel" y_T_forget y_T_forget ∈ GT := gm 751 rfl rfl
set_option maxRecDepth 20000 in
theorem g_752 : Cond.code y_T_forget prog_8_method_16_code 3 (some .int) ∈ GT := gm 752 rfl rfl
set_option maxRecDepth 20000 in
theorem g_753 : Cond.methodLink "RubbingMirrorsLaw" 107 y_T_shape ∈ GT := gm 753 rfl rfl
set_option maxRecDepth 20000 in
theorem g_754 : Cond.instanceMethod y_T_shape ∈ GT := gm 754 rfl rfl
set_option maxRecDepth 20000 in
theorem g_755 : Cond.selects "RubbingMirrorsModel" y_T_shape y_T_shape ∈ GT := gm 755 rfl rfl
set_option maxRecDepth 20000 in
theorem g_756 : Cond.code y_T_shape prog_8_method_17_code 3 (some .int) ∈ GT := gm 756 rfl rfl
set_option maxRecDepth 20000 in
theorem g_757 : Cond.constantLong "RubbingMirrorsModel" 84 (16 : Int64) ∈ GT := gm 757 rfl rfl
set_option maxRecDepth 20000 in
theorem g_758 : Cond.methodLink "RubbingMirrorsLaw" 111 y_T_carve ∈ GT := gm 758 rfl rfl
set_option maxRecDepth 20000 in
theorem g_759 : Cond.instanceMethod y_T_carve ∈ GT := gm 759 rfl rfl
set_option maxRecDepth 20000 in
theorem g_760 : Cond.selects "RubbingMirrorsModel" y_T_carve y_T_carve ∈ GT := gm 760 rfl rfl
set_option maxRecDepth 20000 in
theorem g_761 : Cond.code y_T_carve prog_8_method_18_code 4 none ∈ GT := gm 761 rfl rfl
set_option maxRecDepth 20000 in
theorem g_762 : Cond.methodLink "RubbingMirrorsLaw" 114 y_T_match_ ∈ GT := gm 762 rfl rfl
set_option maxRecDepth 20000 in
theorem g_763 : Cond.instanceMethod y_T_match_ ∈ GT := gm 763 rfl rfl
set_option maxRecDepth 20000 in
theorem g_764 : Cond.selects "RubbingMirrorsModel" y_T_match_ y_T_match_ ∈ GT := gm 764 rfl rfl
set_option maxRecDepth 20000 in
theorem g_765 : Cond.code y_T_match_ prog_8_method_20_code 2 (some .int) ∈ GT := gm 765 rfl rfl
set_option maxRecDepth 20000 in
theorem g_766 : Cond.methodLink "RubbingMirrorsModel" 92 y_T_findMatch ∈ GT := gm 766 rfl rfl
set_option maxRecDepth 20000 in
theorem g_768 : Cond.instanceMethod y_T_findMatch ∈ GT := gm 768 rfl rfl
set_option maxRecDepth 20000 in
theorem g_769 : Cond.code y_T_findMatch prog_8_method_19_code 8 none ∈ GT := gm 769 rfl rfl
set_option maxRecDepth 20000 in
theorem g_770 : Cond.constantLong "RubbingMirrorsModel" 95 (3 : Int64) ∈ GT := gm 770 rfl rfl
set_option maxRecDepth 20000 in
theorem g_771 : Cond.methodLink "RubbingMirrorsLaw" 117 y_T_kind ∈ GT := gm 771 rfl rfl
set_option maxRecDepth 20000 in
theorem g_772 : Cond.instanceMethod y_T_kind ∈ GT := gm 772 rfl rfl
set_option maxRecDepth 20000 in
theorem g_773 : Cond.selects "RubbingMirrorsModel" y_T_kind y_T_kind ∈ GT := gm 773 rfl rfl
set_option maxRecDepth 20000 in
theorem g_774 : Cond.code y_T_kind prog_8_method_21_code 2 (some .int) ∈ GT := gm 774 rfl rfl
set_option maxRecDepth 20000 in
theorem g_775 : Cond.constantLong "RubbingMirrorsModel" 97 (1000 : Int64) ∈ GT := gm 775 rfl rfl
set_option maxRecDepth 20000 in
theorem g_776 : Cond.methodLink "RubbingMirrorsLaw" 121 y_T_question ∈ GT := gm 776 rfl rfl
set_option maxRecDepth 20000 in
theorem g_777 : Cond.instanceMethod y_T_question ∈ GT := gm 777 rfl rfl
set_option maxRecDepth 20000 in
theorem g_778 : Cond.selects "RubbingMirrorsModel" y_T_question y_T_question ∈ GT := gm 778 rfl rfl
set_option maxRecDepth 20000 in
theorem g_779 : Cond.code y_T_question prog_8_method_22_code 4 (some .int) ∈ GT := gm 779 rfl rfl
set_option maxRecDepth 20000 in
theorem g_780 : Cond.constantLong "RubbingMirrorsModel" 102 (15 : Int64) ∈ GT := gm 780 rfl rfl
set_option maxRecDepth 20000 in
theorem g_781 : Cond.methodLink "RubbingMirrorsLaw" 124 y_T_ask ∈ GT := gm 781 rfl rfl
set_option maxRecDepth 20000 in
theorem g_782 : Cond.instanceMethod y_T_ask ∈ GT := gm 782 rfl rfl
set_option maxRecDepth 20000 in
theorem g_783 : Cond.selects "RubbingMirrorsModel" y_T_ask y_T_ask ∈ GT := gm 783 rfl rfl
set_option maxRecDepth 20000 in
theorem g_784 : Cond.code y_T_ask prog_8_method_23_code 5 (some .int) ∈ GT := gm 784 rfl rfl
set_option maxRecDepth 20000 in
theorem g_785 : Cond.constantLong "RubbingMirrorsModel" 104 (65535 : Int64) ∈ GT := gm 785 rfl rfl
set_option maxRecDepth 20000 in
theorem g_786 : Cond.methodLink "RubbingMirrorsLaw" 128 y_T_rule ∈ GT := gm 786 rfl rfl
set_option maxRecDepth 20000 in
theorem g_787 : Cond.instanceMethod y_T_rule ∈ GT := gm 787 rfl rfl
set_option maxRecDepth 20000 in
theorem g_788 : Cond.selects "RubbingMirrorsModel" y_T_rule y_T_rule ∈ GT := gm 788 rfl rfl
set_option maxRecDepth 20000 in
theorem g_789 : Cond.code y_T_rule prog_8_method_24_code 8 (some .int) ∈ GT := gm 789 rfl rfl
set_option maxRecDepth 20000 in
theorem g_790 : Cond.constantLong "RubbingMirrorsModel" 106 (-10000 : Int64) ∈ GT := gm 790 rfl rfl
set_option maxRecDepth 20000 in
theorem g_791 : Cond.constantLong "RubbingMirrorsModel" 108 (10000 : Int64) ∈ GT := gm 791 rfl rfl
set_option maxRecDepth 20000 in
theorem g_792 : Cond.methodLink "RubbingMirrorsLaw" 131 y_T_age ∈ GT := gm 792 rfl rfl
set_option maxRecDepth 20000 in
theorem g_793 : Cond.instanceMethod y_T_age ∈ GT := gm 793 rfl rfl
set_option maxRecDepth 20000 in
theorem g_794 : Cond.selects "RubbingMirrorsModel" y_T_age y_T_age ∈ GT := gm 794 rfl rfl
set_option maxRecDepth 20000 in
theorem g_795 : Cond.code y_T_age prog_8_method_26_code 6 (some .int) ∈ GT := gm 795 rfl rfl
set_option maxRecDepth 20000 in
theorem g_796 : Cond.methodLink "RubbingMirrorsModel" 113 y_T_holds ∈ GT := gm 796 rfl rfl
set_option maxRecDepth 20000 in
theorem g_798 : Cond.instanceMethod y_T_holds ∈ GT := gm 798 rfl rfl
set_option maxRecDepth 20000 in
theorem g_799 : Cond.code y_T_holds prog_8_method_25_code 4 (some .boolean) ∈ GT := gm 799 rfl rfl
set_option maxRecDepth 20000 in
theorem g_800 : Cond.arrayClass .long ∈ GT := gm 800 rfl rfl
set_option maxRecDepth 20000 in
theorem g_801 : Cond.sameMethod "java/lang/Throwable" "java/lang/Throwable" "fillInStackTrace" "(I)Ljava/lang/Throwable;" ∈ GT := gm 801 rfl rfl
set_option maxRecDepth 20000 in
theorem g_805 : Cond.sameMethod "[Ljava/lang/Object;" "java/lang/Object" "getClass" "()Ljava/lang/Class;" ∈ GT := gm 805 rfl rfl
set_option maxRecDepth 20000 in
theorem g_806 : Cond.selects "[Ljava/lang/Object;" ⟨"java/lang/Object", "getClass", "()Ljava/lang/Class;"⟩ ⟨"java/lang/Object", "getClass", "()Ljava/lang/Class;"⟩ ∈ GT := gm 806 rfl rfl
end
section
theorem d_B_init_0 : decode c_B_init 0 = .ok (.aload_n 0, 1) := by decide +kernel
theorem d_B_init_1 : decode c_B_init 1 = .ok (.invokespecial 1, 3) := by decide +kernel
theorem d_B_init_4 : decode c_B_init 4 = .ok (.return_, 1) := by decide +kernel
theorem d_R_init_0 : decode c_R_init 0 = .ok (.aload_n 0, 1) := by decide +kernel
theorem d_R_init_1 : decode c_R_init 1 = .ok (.invokespecial 3, 3) := by decide +kernel
theorem d_R_init_4 : decode c_R_init 4 = .ok (.aload_n 0, 1) := by decide +kernel
theorem d_R_init_5 : decode c_R_init 5 = .ok (.iload_n 1, 1) := by decide +kernel
theorem d_R_init_6 : decode c_R_init 6 = .ok (.newarray .int, 2) := by decide +kernel
theorem d_R_init_8 : decode c_R_init 8 = .ok (.putfield 9, 3) := by decide +kernel
theorem d_R_init_11 : decode c_R_init 11 = .ok (.aload_n 0, 1) := by decide +kernel
theorem d_R_init_12 : decode c_R_init 12 = .ok (.iload_n 1, 1) := by decide +kernel
theorem d_R_init_13 : decode c_R_init 13 = .ok (.newarray .boolean, 2) := by decide +kernel
theorem d_R_init_15 : decode c_R_init 15 = .ok (.putfield 15, 3) := by decide +kernel
theorem d_R_init_18 : decode c_R_init 18 = .ok (.aload_n 0, 1) := by decide +kernel
theorem d_R_init_19 : decode c_R_init 19 = .ok (.getfield 9, 3) := by decide +kernel
theorem d_R_init_22 : decode c_R_init 22 = .ok (.iconst (-1), 1) := by decide +kernel
theorem d_R_init_23 : decode c_R_init 23 = .ok (.invokestatic 19, 3) := by decide +kernel
theorem d_R_init_26 : decode c_R_init 26 = .ok (.return_, 1) := by decide +kernel
theorem d_R_loseGuesses_0 : decode c_R_loseGuesses 0 = .ok (.iconst 0, 1) := by decide +kernel
theorem d_R_loseGuesses_1 : decode c_R_loseGuesses 1 = .ok (.istore_n 1, 1) := by decide +kernel
theorem d_R_loseGuesses_2 : decode c_R_loseGuesses 2 = .ok (.iconst 0, 1) := by decide +kernel
theorem d_R_loseGuesses_3 : decode c_R_loseGuesses 3 = .ok (.istore_n 2, 1) := by decide +kernel
theorem d_R_loseGuesses_4 : decode c_R_loseGuesses 4 = .ok (.iload_n 2, 1) := by decide +kernel
theorem d_R_loseGuesses_5 : decode c_R_loseGuesses 5 = .ok (.aload_n 0, 1) := by decide +kernel
theorem d_R_loseGuesses_6 : decode c_R_loseGuesses 6 = .ok (.getfield 9, 3) := by decide +kernel
theorem d_R_loseGuesses_9 : decode c_R_loseGuesses 9 = .ok (.arraylength, 1) := by decide +kernel
theorem d_R_loseGuesses_10 : decode c_R_loseGuesses 10 = .ok (.if_icmp .ge 35, 3) := by decide +kernel
theorem d_R_loseGuesses_13 : decode c_R_loseGuesses 13 = .ok (.aload_n 0, 1) := by decide +kernel
theorem d_R_loseGuesses_14 : decode c_R_loseGuesses 14 = .ok (.getfield 15, 3) := by decide +kernel
theorem d_R_loseGuesses_17 : decode c_R_loseGuesses 17 = .ok (.iload_n 2, 1) := by decide +kernel
theorem d_R_loseGuesses_18 : decode c_R_loseGuesses 18 = .ok (.baload, 1) := by decide +kernel
theorem d_R_loseGuesses_19 : decode c_R_loseGuesses 19 = .ok (.ifCond .eq 20, 3) := by decide +kernel
theorem d_R_loseGuesses_22 : decode c_R_loseGuesses 22 = .ok (.aload_n 0, 1) := by decide +kernel
theorem d_R_loseGuesses_23 : decode c_R_loseGuesses 23 = .ok (.getfield 9, 3) := by decide +kernel
theorem d_R_loseGuesses_26 : decode c_R_loseGuesses 26 = .ok (.iload_n 2, 1) := by decide +kernel
theorem d_R_loseGuesses_27 : decode c_R_loseGuesses 27 = .ok (.iconst (-1), 1) := by decide +kernel
theorem d_R_loseGuesses_28 : decode c_R_loseGuesses 28 = .ok (.iastore, 1) := by decide +kernel
theorem d_R_loseGuesses_29 : decode c_R_loseGuesses 29 = .ok (.aload_n 0, 1) := by decide +kernel
theorem d_R_loseGuesses_30 : decode c_R_loseGuesses 30 = .ok (.getfield 15, 3) := by decide +kernel
theorem d_R_loseGuesses_33 : decode c_R_loseGuesses 33 = .ok (.iload_n 2, 1) := by decide +kernel
theorem d_R_loseGuesses_34 : decode c_R_loseGuesses 34 = .ok (.iconst 0, 1) := by decide +kernel
theorem d_R_loseGuesses_35 : decode c_R_loseGuesses 35 = .ok (.bastore, 1) := by decide +kernel
theorem d_R_loseGuesses_36 : decode c_R_loseGuesses 36 = .ok (.iinc 1 1, 3) := by decide +kernel
theorem d_R_loseGuesses_39 : decode c_R_loseGuesses 39 = .ok (.iinc 2 1, 3) := by decide +kernel
theorem d_R_loseGuesses_42 : decode c_R_loseGuesses 42 = .ok (.goto (-38), 3) := by decide +kernel
theorem d_R_loseGuesses_45 : decode c_R_loseGuesses 45 = .ok (.iload_n 1, 1) := by decide +kernel
theorem d_R_loseGuesses_46 : decode c_R_loseGuesses 46 = .ok (.ireturn, 1) := by decide +kernel
theorem d_R_has_0 : decode c_R_has 0 = .ok (.iload_n 1, 1) := by decide +kernel
theorem d_R_has_1 : decode c_R_has 1 = .ok (.ifCond .lt 16, 3) := by decide +kernel
theorem d_R_has_4 : decode c_R_has 4 = .ok (.iload_n 1, 1) := by decide +kernel
theorem d_R_has_5 : decode c_R_has 5 = .ok (.aload_n 0, 1) := by decide +kernel
theorem d_R_has_6 : decode c_R_has 6 = .ok (.getfield 9, 3) := by decide +kernel
theorem d_R_has_9 : decode c_R_has 9 = .ok (.arraylength, 1) := by decide +kernel
theorem d_R_has_10 : decode c_R_has 10 = .ok (.if_icmp .ge 7, 3) := by decide +kernel
theorem d_R_has_13 : decode c_R_has 13 = .ok (.iconst 1, 1) := by decide +kernel
theorem d_R_has_14 : decode c_R_has 14 = .ok (.goto 4, 3) := by decide +kernel
theorem d_R_has_17 : decode c_R_has 17 = .ok (.iconst 0, 1) := by decide +kernel
theorem d_R_has_18 : decode c_R_has 18 = .ok (.ireturn, 1) := by decide +kernel
theorem d_R_put_0 : decode c_R_put 0 = .ok (.aload_n 0, 1) := by decide +kernel
theorem d_R_put_1 : decode c_R_put 1 = .ok (.iload_n 1, 1) := by decide +kernel
theorem d_R_put_2 : decode c_R_put 2 = .ok (.invokevirtual 25, 3) := by decide +kernel
theorem d_R_put_5 : decode c_R_put 5 = .ok (.ifCond .eq 17, 3) := by decide +kernel
theorem d_R_put_8 : decode c_R_put 8 = .ok (.aload_n 0, 1) := by decide +kernel
theorem d_R_put_9 : decode c_R_put 9 = .ok (.getfield 9, 3) := by decide +kernel
theorem d_R_put_12 : decode c_R_put 12 = .ok (.iload_n 1, 1) := by decide +kernel
theorem d_R_put_13 : decode c_R_put 13 = .ok (.iload_n 2, 1) := by decide +kernel
theorem d_R_put_14 : decode c_R_put 14 = .ok (.iastore, 1) := by decide +kernel
theorem d_R_put_15 : decode c_R_put 15 = .ok (.aload_n 0, 1) := by decide +kernel
theorem d_R_put_16 : decode c_R_put 16 = .ok (.getfield 15, 3) := by decide +kernel
theorem d_R_put_19 : decode c_R_put 19 = .ok (.iload_n 1, 1) := by decide +kernel
theorem d_R_put_20 : decode c_R_put 20 = .ok (.iconst 0, 1) := by decide +kernel
theorem d_R_put_21 : decode c_R_put 21 = .ok (.bastore, 1) := by decide +kernel
theorem d_R_put_22 : decode c_R_put 22 = .ok (.return_, 1) := by decide +kernel
theorem d_R_depthAt_0 : decode c_R_depthAt 0 = .ok (.aload_n 0, 1) := by decide +kernel
theorem d_R_depthAt_1 : decode c_R_depthAt 1 = .ok (.iload_n 1, 1) := by decide +kernel
theorem d_R_depthAt_2 : decode c_R_depthAt 2 = .ok (.invokevirtual 25, 3) := by decide +kernel
theorem d_R_depthAt_5 : decode c_R_depthAt 5 = .ok (.ifCond .eq 12, 3) := by decide +kernel
theorem d_R_depthAt_8 : decode c_R_depthAt 8 = .ok (.aload_n 0, 1) := by decide +kernel
theorem d_R_depthAt_9 : decode c_R_depthAt 9 = .ok (.getfield 9, 3) := by decide +kernel
theorem d_R_depthAt_12 : decode c_R_depthAt 12 = .ok (.iload_n 1, 1) := by decide +kernel
theorem d_R_depthAt_13 : decode c_R_depthAt 13 = .ok (.iaload, 1) := by decide +kernel
theorem d_R_depthAt_14 : decode c_R_depthAt 14 = .ok (.goto 4, 3) := by decide +kernel
theorem d_R_depthAt_17 : decode c_R_depthAt 17 = .ok (.iconst (-1), 1) := by decide +kernel
theorem d_R_depthAt_18 : decode c_R_depthAt 18 = .ok (.ireturn, 1) := by decide +kernel
theorem d_R_isGuess_0 : decode c_R_isGuess 0 = .ok (.aload_n 0, 1) := by decide +kernel
theorem d_R_isGuess_1 : decode c_R_isGuess 1 = .ok (.iload_n 1, 1) := by decide +kernel
theorem d_R_isGuess_2 : decode c_R_isGuess 2 = .ok (.invokevirtual 25, 3) := by decide +kernel
theorem d_R_isGuess_5 : decode c_R_isGuess 5 = .ok (.ifCond .eq 16, 3) := by decide +kernel
theorem d_R_isGuess_8 : decode c_R_isGuess 8 = .ok (.aload_n 0, 1) := by decide +kernel
theorem d_R_isGuess_9 : decode c_R_isGuess 9 = .ok (.getfield 15, 3) := by decide +kernel
theorem d_R_isGuess_12 : decode c_R_isGuess 12 = .ok (.iload_n 1, 1) := by decide +kernel
theorem d_R_isGuess_13 : decode c_R_isGuess 13 = .ok (.baload, 1) := by decide +kernel
theorem d_R_isGuess_14 : decode c_R_isGuess 14 = .ok (.ifCond .eq 7, 3) := by decide +kernel
theorem d_R_isGuess_17 : decode c_R_isGuess 17 = .ok (.iconst 1, 1) := by decide +kernel
theorem d_R_isGuess_18 : decode c_R_isGuess 18 = .ok (.goto 4, 3) := by decide +kernel
theorem d_R_isGuess_21 : decode c_R_isGuess 21 = .ok (.iconst 0, 1) := by decide +kernel
theorem d_R_isGuess_22 : decode c_R_isGuess 22 = .ok (.ireturn, 1) := by decide +kernel
theorem d_R_size_0 : decode c_R_size 0 = .ok (.aload_n 0, 1) := by decide +kernel
theorem d_R_size_1 : decode c_R_size 1 = .ok (.getfield 9, 3) := by decide +kernel
theorem d_R_size_4 : decode c_R_size 4 = .ok (.arraylength, 1) := by decide +kernel
theorem d_R_size_5 : decode c_R_size 5 = .ok (.ireturn, 1) := by decide +kernel
theorem d_B_clear_0 : decode c_B_clear 0 = .ok (.aload_n 0, 1) := by decide +kernel
theorem d_B_clear_1 : decode c_B_clear 1 = .ok (.iconst 0, 1) := by decide +kernel
theorem d_B_clear_2 : decode c_B_clear 2 = .ok (.putfield 7, 3) := by decide +kernel
theorem d_B_clear_5 : decode c_B_clear 5 = .ok (.return_, 1) := by decide +kernel
theorem d_R_lastMirror_0 : decode c_R_lastMirror 0 = .ok (.iconst 2, 1) := by decide +kernel
theorem d_R_lastMirror_1 : decode c_R_lastMirror 1 = .ok (.aload_n 0, 1) := by decide +kernel
theorem d_R_lastMirror_2 : decode c_R_lastMirror 2 = .ok (.getfield 9, 3) := by decide +kernel
theorem d_R_lastMirror_5 : decode c_R_lastMirror 5 = .ok (.arraylength, 1) := by decide +kernel
theorem d_R_lastMirror_6 : decode c_R_lastMirror 6 = .ok (.imul, 1) := by decide +kernel
theorem d_R_lastMirror_7 : decode c_R_lastMirror 7 = .ok (.iconst 2, 1) := by decide +kernel
theorem d_R_lastMirror_8 : decode c_R_lastMirror 8 = .ok (.isub, 1) := by decide +kernel
theorem d_R_lastMirror_9 : decode c_R_lastMirror 9 = .ok (.ireturn, 1) := by decide +kernel
theorem d_R_mirrorPairs_0 : decode c_R_mirrorPairs 0 = .ok (.iconst 0, 1) := by decide +kernel
theorem d_R_mirrorPairs_1 : decode c_R_mirrorPairs 1 = .ok (.istore_n 2, 1) := by decide +kernel
theorem d_R_mirrorPairs_2 : decode c_R_mirrorPairs 2 = .ok (.iconst 0, 1) := by decide +kernel
theorem d_R_mirrorPairs_3 : decode c_R_mirrorPairs 3 = .ok (.istore_n 3, 1) := by decide +kernel
theorem d_R_mirrorPairs_4 : decode c_R_mirrorPairs 4 = .ok (.iload_n 3, 1) := by decide +kernel
theorem d_R_mirrorPairs_5 : decode c_R_mirrorPairs 5 = .ok (.iload_n 1, 1) := by decide +kernel
theorem d_R_mirrorPairs_6 : decode c_R_mirrorPairs 6 = .ok (.iload_n 3, 1) := by decide +kernel
theorem d_R_mirrorPairs_7 : decode c_R_mirrorPairs 7 = .ok (.isub, 1) := by decide +kernel
theorem d_R_mirrorPairs_8 : decode c_R_mirrorPairs 8 = .ok (.if_icmp .ge 30, 3) := by decide +kernel
theorem d_R_mirrorPairs_11 : decode c_R_mirrorPairs 11 = .ok (.aload_n 0, 1) := by decide +kernel
theorem d_R_mirrorPairs_12 : decode c_R_mirrorPairs 12 = .ok (.iload_n 3, 1) := by decide +kernel
theorem d_R_mirrorPairs_13 : decode c_R_mirrorPairs 13 = .ok (.invokevirtual 29, 3) := by decide +kernel
theorem d_R_mirrorPairs_16 : decode c_R_mirrorPairs 16 = .ok (.ifCond .eq 16, 3) := by decide +kernel
theorem d_R_mirrorPairs_19 : decode c_R_mirrorPairs 19 = .ok (.aload_n 0, 1) := by decide +kernel
theorem d_R_mirrorPairs_20 : decode c_R_mirrorPairs 20 = .ok (.iload_n 1, 1) := by decide +kernel
theorem d_R_mirrorPairs_21 : decode c_R_mirrorPairs 21 = .ok (.iload_n 3, 1) := by decide +kernel
theorem d_R_mirrorPairs_22 : decode c_R_mirrorPairs 22 = .ok (.isub, 1) := by decide +kernel
theorem d_R_mirrorPairs_23 : decode c_R_mirrorPairs 23 = .ok (.invokevirtual 29, 3) := by decide +kernel
theorem d_R_mirrorPairs_26 : decode c_R_mirrorPairs 26 = .ok (.ifCond .eq 6, 3) := by decide +kernel
theorem d_R_mirrorPairs_29 : decode c_R_mirrorPairs 29 = .ok (.iinc 2 1, 3) := by decide +kernel
theorem d_R_mirrorPairs_32 : decode c_R_mirrorPairs 32 = .ok (.iinc 3 1, 3) := by decide +kernel
theorem d_R_mirrorPairs_35 : decode c_R_mirrorPairs 35 = .ok (.goto (-31), 3) := by decide +kernel
theorem d_R_mirrorPairs_38 : decode c_R_mirrorPairs 38 = .ok (.iload_n 2, 1) := by decide +kernel
theorem d_R_mirrorPairs_39 : decode c_R_mirrorPairs 39 = .ok (.ireturn, 1) := by decide +kernel
theorem d_R_isKnown_0 : decode c_R_isKnown 0 = .ok (.aload_n 0, 1) := by decide +kernel
theorem d_R_isKnown_1 : decode c_R_isKnown 1 = .ok (.iload_n 1, 1) := by decide +kernel
theorem d_R_isKnown_2 : decode c_R_isKnown 2 = .ok (.invokevirtual 25, 3) := by decide +kernel
theorem d_R_isKnown_5 : decode c_R_isKnown 5 = .ok (.ifCond .eq 26, 3) := by decide +kernel
theorem d_R_isKnown_8 : decode c_R_isKnown 8 = .ok (.aload_n 0, 1) := by decide +kernel
theorem d_R_isKnown_9 : decode c_R_isKnown 9 = .ok (.getfield 9, 3) := by decide +kernel
theorem d_R_isKnown_12 : decode c_R_isKnown 12 = .ok (.iload_n 1, 1) := by decide +kernel
theorem d_R_isKnown_13 : decode c_R_isKnown 13 = .ok (.iaload, 1) := by decide +kernel
theorem d_R_isKnown_14 : decode c_R_isKnown 14 = .ok (.iconst (-1), 1) := by decide +kernel
theorem d_R_isKnown_15 : decode c_R_isKnown 15 = .ok (.if_icmp .eq 16, 3) := by decide +kernel
theorem d_R_isKnown_18 : decode c_R_isKnown 18 = .ok (.aload_n 0, 1) := by decide +kernel
theorem d_R_isKnown_19 : decode c_R_isKnown 19 = .ok (.getfield 15, 3) := by decide +kernel
theorem d_R_isKnown_22 : decode c_R_isKnown 22 = .ok (.iload_n 1, 1) := by decide +kernel
theorem d_R_isKnown_23 : decode c_R_isKnown 23 = .ok (.baload, 1) := by decide +kernel
theorem d_R_isKnown_24 : decode c_R_isKnown 24 = .ok (.ifCond .ne 7, 3) := by decide +kernel
theorem d_R_isKnown_27 : decode c_R_isKnown 27 = .ok (.iconst 1, 1) := by decide +kernel
theorem d_R_isKnown_28 : decode c_R_isKnown 28 = .ok (.goto 4, 3) := by decide +kernel
theorem d_R_isKnown_31 : decode c_R_isKnown 31 = .ok (.iconst 0, 1) := by decide +kernel
theorem d_R_isKnown_32 : decode c_R_isKnown 32 = .ok (.ireturn, 1) := by decide +kernel
theorem d_R_mirrorOff_0 : decode c_R_mirrorOff 0 = .ok (.iconst 0, 1) := by decide +kernel
theorem d_R_mirrorOff_1 : decode c_R_mirrorOff 1 = .ok (.istore_n 2, 1) := by decide +kernel
theorem d_R_mirrorOff_2 : decode c_R_mirrorOff 2 = .ok (.iconst 0, 1) := by decide +kernel
theorem d_R_mirrorOff_3 : decode c_R_mirrorOff 3 = .ok (.istore_n 3, 1) := by decide +kernel
theorem d_R_mirrorOff_4 : decode c_R_mirrorOff 4 = .ok (.iload_n 3, 1) := by decide +kernel
theorem d_R_mirrorOff_5 : decode c_R_mirrorOff 5 = .ok (.iload_n 1, 1) := by decide +kernel
theorem d_R_mirrorOff_6 : decode c_R_mirrorOff 6 = .ok (.iload_n 3, 1) := by decide +kernel
theorem d_R_mirrorOff_7 : decode c_R_mirrorOff 7 = .ok (.isub, 1) := by decide +kernel
theorem d_R_mirrorOff_8 : decode c_R_mirrorOff 8 = .ok (.if_icmp .ge 52, 3) := by decide +kernel
theorem d_R_mirrorOff_11 : decode c_R_mirrorOff 11 = .ok (.aload_n 0, 1) := by decide +kernel
theorem d_R_mirrorOff_12 : decode c_R_mirrorOff 12 = .ok (.iload_n 3, 1) := by decide +kernel
theorem d_R_mirrorOff_13 : decode c_R_mirrorOff 13 = .ok (.invokevirtual 29, 3) := by decide +kernel
theorem d_R_mirrorOff_16 : decode c_R_mirrorOff 16 = .ok (.ifCond .eq 38, 3) := by decide +kernel
theorem d_R_mirrorOff_19 : decode c_R_mirrorOff 19 = .ok (.aload_n 0, 1) := by decide +kernel
theorem d_R_mirrorOff_20 : decode c_R_mirrorOff 20 = .ok (.iload_n 1, 1) := by decide +kernel
theorem d_R_mirrorOff_21 : decode c_R_mirrorOff 21 = .ok (.iload_n 3, 1) := by decide +kernel
theorem d_R_mirrorOff_22 : decode c_R_mirrorOff 22 = .ok (.isub, 1) := by decide +kernel
theorem d_R_mirrorOff_23 : decode c_R_mirrorOff 23 = .ok (.invokevirtual 29, 3) := by decide +kernel
theorem d_R_mirrorOff_26 : decode c_R_mirrorOff 26 = .ok (.ifCond .eq 28, 3) := by decide +kernel
theorem d_R_mirrorOff_29 : decode c_R_mirrorOff 29 = .ok (.aload_n 0, 1) := by decide +kernel
theorem d_R_mirrorOff_30 : decode c_R_mirrorOff 30 = .ok (.getfield 9, 3) := by decide +kernel
theorem d_R_mirrorOff_33 : decode c_R_mirrorOff 33 = .ok (.iload_n 3, 1) := by decide +kernel
theorem d_R_mirrorOff_34 : decode c_R_mirrorOff 34 = .ok (.iaload, 1) := by decide +kernel
theorem d_R_mirrorOff_35 : decode c_R_mirrorOff 35 = .ok (.aload_n 0, 1) := by decide +kernel
theorem d_R_mirrorOff_36 : decode c_R_mirrorOff 36 = .ok (.getfield 9, 3) := by decide +kernel
theorem d_R_mirrorOff_39 : decode c_R_mirrorOff 39 = .ok (.iload_n 1, 1) := by decide +kernel
theorem d_R_mirrorOff_40 : decode c_R_mirrorOff 40 = .ok (.iload_n 3, 1) := by decide +kernel
theorem d_R_mirrorOff_41 : decode c_R_mirrorOff 41 = .ok (.isub, 1) := by decide +kernel
theorem d_R_mirrorOff_42 : decode c_R_mirrorOff 42 = .ok (.iaload, 1) := by decide +kernel
theorem d_R_mirrorOff_43 : decode c_R_mirrorOff 43 = .ok (.isub, 1) := by decide +kernel
theorem d_R_mirrorOff_44 : decode c_R_mirrorOff 44 = .ok (.istore 4, 2) := by decide +kernel
theorem d_R_mirrorOff_46 : decode c_R_mirrorOff 46 = .ok (.iload_n 2, 1) := by decide +kernel
theorem d_R_mirrorOff_47 : decode c_R_mirrorOff 47 = .ok (.iload 4, 2) := by decide +kernel
theorem d_R_mirrorOff_49 : decode c_R_mirrorOff 49 = .ok (.iload 4, 2) := by decide +kernel
theorem d_R_mirrorOff_51 : decode c_R_mirrorOff 51 = .ok (.imul, 1) := by decide +kernel
theorem d_R_mirrorOff_52 : decode c_R_mirrorOff 52 = .ok (.iadd, 1) := by decide +kernel
theorem d_R_mirrorOff_53 : decode c_R_mirrorOff 53 = .ok (.istore_n 2, 1) := by decide +kernel
theorem d_R_mirrorOff_54 : decode c_R_mirrorOff 54 = .ok (.iinc 3 1, 3) := by decide +kernel
theorem d_R_mirrorOff_57 : decode c_R_mirrorOff 57 = .ok (.goto (-53), 3) := by decide +kernel
theorem d_R_mirrorOff_60 : decode c_R_mirrorOff 60 = .ok (.iload_n 2, 1) := by decide +kernel
theorem d_R_mirrorOff_61 : decode c_R_mirrorOff 61 = .ok (.ireturn, 1) := by decide +kernel
theorem d_B_offer_0 : decode c_B_offer 0 = .ok (.aload_n 0, 1) := by decide +kernel
theorem d_B_offer_1 : decode c_B_offer 1 = .ok (.getfield 7, 3) := by decide +kernel
theorem d_B_offer_4 : decode c_B_offer 4 = .ok (.ifCond .eq 13, 3) := by decide +kernel
theorem d_B_offer_7 : decode c_B_offer 7 = .ok (.aload_n 0, 1) := by decide +kernel
theorem d_B_offer_8 : decode c_B_offer 8 = .ok (.iload_n 3, 1) := by decide +kernel
theorem d_B_offer_9 : decode c_B_offer 9 = .ok (.iload 4, 2) := by decide +kernel
theorem d_B_offer_11 : decode c_B_offer 11 = .ok (.invokevirtual 13, 3) := by decide +kernel
theorem d_B_offer_14 : decode c_B_offer 14 = .ok (.ifCond .eq 29, 3) := by decide +kernel
theorem d_B_offer_17 : decode c_B_offer 17 = .ok (.aload_n 0, 1) := by decide +kernel
theorem d_B_offer_18 : decode c_B_offer 18 = .ok (.iconst 1, 1) := by decide +kernel
theorem d_B_offer_19 : decode c_B_offer 19 = .ok (.putfield 7, 3) := by decide +kernel
theorem d_B_offer_22 : decode c_B_offer 22 = .ok (.aload_n 0, 1) := by decide +kernel
theorem d_B_offer_23 : decode c_B_offer 23 = .ok (.iload_n 1, 1) := by decide +kernel
theorem d_B_offer_24 : decode c_B_offer 24 = .ok (.putfield 17, 3) := by decide +kernel
theorem d_B_offer_27 : decode c_B_offer 27 = .ok (.aload_n 0, 1) := by decide +kernel
theorem d_B_offer_28 : decode c_B_offer 28 = .ok (.iload_n 2, 1) := by decide +kernel
theorem d_B_offer_29 : decode c_B_offer 29 = .ok (.putfield 21, 3) := by decide +kernel
theorem d_B_offer_32 : decode c_B_offer 32 = .ok (.aload_n 0, 1) := by decide +kernel
theorem d_B_offer_33 : decode c_B_offer 33 = .ok (.iload_n 3, 1) := by decide +kernel
theorem d_B_offer_34 : decode c_B_offer 34 = .ok (.putfield 24, 3) := by decide +kernel
theorem d_B_offer_37 : decode c_B_offer 37 = .ok (.aload_n 0, 1) := by decide +kernel
theorem d_B_offer_38 : decode c_B_offer 38 = .ok (.iload 4, 2) := by decide +kernel
theorem d_B_offer_40 : decode c_B_offer 40 = .ok (.putfield 27, 3) := by decide +kernel
theorem d_B_offer_43 : decode c_B_offer 43 = .ok (.return_, 1) := by decide +kernel
theorem d_B_isBetter_0 : decode c_B_isBetter 0 = .ok (.iload_n 1, 1) := by decide +kernel
theorem d_B_isBetter_1 : decode c_B_isBetter 1 = .ok (.i2l, 1) := by decide +kernel
theorem d_B_isBetter_2 : decode c_B_isBetter 2 = .ok (.aload_n 0, 1) := by decide +kernel
theorem d_B_isBetter_3 : decode c_B_isBetter 3 = .ok (.getfield 27, 3) := by decide +kernel
theorem d_B_isBetter_6 : decode c_B_isBetter 6 = .ok (.i2l, 1) := by decide +kernel
theorem d_B_isBetter_7 : decode c_B_isBetter 7 = .ok (.lmul, 1) := by decide +kernel
theorem d_B_isBetter_8 : decode c_B_isBetter 8 = .ok (.lstore_n 3, 1) := by decide +kernel
theorem d_B_isBetter_9 : decode c_B_isBetter 9 = .ok (.aload_n 0, 1) := by decide +kernel
theorem d_B_isBetter_10 : decode c_B_isBetter 10 = .ok (.getfield 24, 3) := by decide +kernel
theorem d_B_isBetter_13 : decode c_B_isBetter 13 = .ok (.i2l, 1) := by decide +kernel
theorem d_B_isBetter_14 : decode c_B_isBetter 14 = .ok (.iload_n 2, 1) := by decide +kernel
theorem d_B_isBetter_15 : decode c_B_isBetter 15 = .ok (.i2l, 1) := by decide +kernel
theorem d_B_isBetter_16 : decode c_B_isBetter 16 = .ok (.lmul, 1) := by decide +kernel
theorem d_B_isBetter_17 : decode c_B_isBetter 17 = .ok (.lstore 5, 2) := by decide +kernel
theorem d_B_isBetter_19 : decode c_B_isBetter 19 = .ok (.lload_n 3, 1) := by decide +kernel
theorem d_B_isBetter_20 : decode c_B_isBetter 20 = .ok (.lload 5, 2) := by decide +kernel
theorem d_B_isBetter_22 : decode c_B_isBetter 22 = .ok (.lcmp, 1) := by decide +kernel
theorem d_B_isBetter_23 : decode c_B_isBetter 23 = .ok (.ifCond .lt 18, 3) := by decide +kernel
theorem d_B_isBetter_26 : decode c_B_isBetter 26 = .ok (.lload_n 3, 1) := by decide +kernel
theorem d_B_isBetter_27 : decode c_B_isBetter 27 = .ok (.lload 5, 2) := by decide +kernel
theorem d_B_isBetter_29 : decode c_B_isBetter 29 = .ok (.lcmp, 1) := by decide +kernel
theorem d_B_isBetter_30 : decode c_B_isBetter 30 = .ok (.ifCond .ne 15, 3) := by decide +kernel
theorem d_B_isBetter_33 : decode c_B_isBetter 33 = .ok (.iload_n 2, 1) := by decide +kernel
theorem d_B_isBetter_34 : decode c_B_isBetter 34 = .ok (.aload_n 0, 1) := by decide +kernel
theorem d_B_isBetter_35 : decode c_B_isBetter 35 = .ok (.getfield 27, 3) := by decide +kernel
theorem d_B_isBetter_38 : decode c_B_isBetter 38 = .ok (.if_icmp .le 7, 3) := by decide +kernel
theorem d_B_isBetter_41 : decode c_B_isBetter 41 = .ok (.iconst 1, 1) := by decide +kernel
theorem d_B_isBetter_42 : decode c_B_isBetter 42 = .ok (.goto 4, 3) := by decide +kernel
theorem d_B_isBetter_45 : decode c_B_isBetter 45 = .ok (.iconst 0, 1) := by decide +kernel
theorem d_B_isBetter_46 : decode c_B_isBetter 46 = .ok (.ireturn, 1) := by decide +kernel
theorem d_R_repeatSum_0 : decode c_R_repeatSum 0 = .ok (.lconst 0, 1) := by decide +kernel
theorem d_R_repeatSum_1 : decode c_R_repeatSum 1 = .ok (.lstore_n 2, 1) := by decide +kernel
theorem d_R_repeatSum_2 : decode c_R_repeatSum 2 = .ok (.iconst 0, 1) := by decide +kernel
theorem d_R_repeatSum_3 : decode c_R_repeatSum 3 = .ok (.istore 4, 2) := by decide +kernel
theorem d_R_repeatSum_5 : decode c_R_repeatSum 5 = .ok (.iload 4, 2) := by decide +kernel
theorem d_R_repeatSum_7 : decode c_R_repeatSum 7 = .ok (.aload_n 0, 1) := by decide +kernel
theorem d_R_repeatSum_8 : decode c_R_repeatSum 8 = .ok (.getfield 9, 3) := by decide +kernel
theorem d_R_repeatSum_11 : decode c_R_repeatSum 11 = .ok (.arraylength, 1) := by decide +kernel
theorem d_R_repeatSum_12 : decode c_R_repeatSum 12 = .ok (.iload_n 1, 1) := by decide +kernel
theorem d_R_repeatSum_13 : decode c_R_repeatSum 13 = .ok (.isub, 1) := by decide +kernel
theorem d_R_repeatSum_14 : decode c_R_repeatSum 14 = .ok (.if_icmp .ge 58, 3) := by decide +kernel
theorem d_R_repeatSum_17 : decode c_R_repeatSum 17 = .ok (.aload_n 0, 1) := by decide +kernel
theorem d_R_repeatSum_18 : decode c_R_repeatSum 18 = .ok (.iload 4, 2) := by decide +kernel
theorem d_R_repeatSum_20 : decode c_R_repeatSum 20 = .ok (.invokevirtual 29, 3) := by decide +kernel
theorem d_R_repeatSum_23 : decode c_R_repeatSum 23 = .ok (.ifCond .eq 43, 3) := by decide +kernel
theorem d_R_repeatSum_26 : decode c_R_repeatSum 26 = .ok (.aload_n 0, 1) := by decide +kernel
theorem d_R_repeatSum_27 : decode c_R_repeatSum 27 = .ok (.iload 4, 2) := by decide +kernel
theorem d_R_repeatSum_29 : decode c_R_repeatSum 29 = .ok (.iload_n 1, 1) := by decide +kernel
theorem d_R_repeatSum_30 : decode c_R_repeatSum 30 = .ok (.iadd, 1) := by decide +kernel
theorem d_R_repeatSum_31 : decode c_R_repeatSum 31 = .ok (.invokevirtual 29, 3) := by decide +kernel
theorem d_R_repeatSum_34 : decode c_R_repeatSum 34 = .ok (.ifCond .eq 32, 3) := by decide +kernel
theorem d_R_repeatSum_37 : decode c_R_repeatSum 37 = .ok (.lload_n 2, 1) := by decide +kernel
theorem d_R_repeatSum_38 : decode c_R_repeatSum 38 = .ok (.aload_n 0, 1) := by decide +kernel
theorem d_R_repeatSum_39 : decode c_R_repeatSum 39 = .ok (.getfield 9, 3) := by decide +kernel
theorem d_R_repeatSum_42 : decode c_R_repeatSum 42 = .ok (.iload 4, 2) := by decide +kernel
theorem d_R_repeatSum_44 : decode c_R_repeatSum 44 = .ok (.iaload, 1) := by decide +kernel
theorem d_R_repeatSum_45 : decode c_R_repeatSum 45 = .ok (.sipush 128, 3) := by decide +kernel
theorem d_R_repeatSum_48 : decode c_R_repeatSum 48 = .ok (.isub, 1) := by decide +kernel
theorem d_R_repeatSum_49 : decode c_R_repeatSum 49 = .ok (.aload_n 0, 1) := by decide +kernel
theorem d_R_repeatSum_50 : decode c_R_repeatSum 50 = .ok (.getfield 9, 3) := by decide +kernel
theorem d_R_repeatSum_53 : decode c_R_repeatSum 53 = .ok (.iload 4, 2) := by decide +kernel
theorem d_R_repeatSum_55 : decode c_R_repeatSum 55 = .ok (.iload_n 1, 1) := by decide +kernel
theorem d_R_repeatSum_56 : decode c_R_repeatSum 56 = .ok (.iadd, 1) := by decide +kernel
theorem d_R_repeatSum_57 : decode c_R_repeatSum 57 = .ok (.iaload, 1) := by decide +kernel
theorem d_R_repeatSum_58 : decode c_R_repeatSum 58 = .ok (.sipush 128, 3) := by decide +kernel
theorem d_R_repeatSum_61 : decode c_R_repeatSum 61 = .ok (.isub, 1) := by decide +kernel
theorem d_R_repeatSum_62 : decode c_R_repeatSum 62 = .ok (.imul, 1) := by decide +kernel
theorem d_R_repeatSum_63 : decode c_R_repeatSum 63 = .ok (.i2l, 1) := by decide +kernel
theorem d_R_repeatSum_64 : decode c_R_repeatSum 64 = .ok (.ladd, 1) := by decide +kernel
theorem d_R_repeatSum_65 : decode c_R_repeatSum 65 = .ok (.lstore_n 2, 1) := by decide +kernel
theorem d_R_repeatSum_66 : decode c_R_repeatSum 66 = .ok (.iinc 4 1, 3) := by decide +kernel
theorem d_R_repeatSum_69 : decode c_R_repeatSum 69 = .ok (.goto (-64), 3) := by decide +kernel
theorem d_R_repeatSum_72 : decode c_R_repeatSum 72 = .ok (.lload_n 2, 1) := by decide +kernel
theorem d_R_repeatSum_73 : decode c_R_repeatSum 73 = .ok (.lreturn, 1) := by decide +kernel
theorem d_R_guessLost_0 : decode c_R_guessLost 0 = .ok (.iconst 0, 1) := by decide +kernel
theorem d_R_guessLost_1 : decode c_R_guessLost 1 = .ok (.istore_n 3, 1) := by decide +kernel
theorem d_R_guessLost_2 : decode c_R_guessLost 2 = .ok (.iconst 0, 1) := by decide +kernel
theorem d_R_guessLost_3 : decode c_R_guessLost 3 = .ok (.istore 4, 2) := by decide +kernel
theorem d_R_guessLost_5 : decode c_R_guessLost 5 = .ok (.iload 4, 2) := by decide +kernel
theorem d_R_guessLost_7 : decode c_R_guessLost 7 = .ok (.aload_n 0, 1) := by decide +kernel
theorem d_R_guessLost_8 : decode c_R_guessLost 8 = .ok (.getfield 9, 3) := by decide +kernel
theorem d_R_guessLost_11 : decode c_R_guessLost 11 = .ok (.arraylength, 1) := by decide +kernel
theorem d_R_guessLost_12 : decode c_R_guessLost 12 = .ok (.if_icmp .ge 68, 3) := by decide +kernel
theorem d_R_guessLost_15 : decode c_R_guessLost 15 = .ok (.aload_n 0, 1) := by decide +kernel
theorem d_R_guessLost_16 : decode c_R_guessLost 16 = .ok (.getfield 9, 3) := by decide +kernel
theorem d_R_guessLost_19 : decode c_R_guessLost 19 = .ok (.iload 4, 2) := by decide +kernel
theorem d_R_guessLost_21 : decode c_R_guessLost 21 = .ok (.iaload, 1) := by decide +kernel
theorem d_R_guessLost_22 : decode c_R_guessLost 22 = .ok (.iconst (-1), 1) := by decide +kernel
theorem d_R_guessLost_23 : decode c_R_guessLost 23 = .ok (.if_icmp .ne 14, 3) := by decide +kernel
theorem d_R_guessLost_26 : decode c_R_guessLost 26 = .ok (.aload_n 0, 1) := by decide +kernel
theorem d_R_guessLost_27 : decode c_R_guessLost 27 = .ok (.iload 4, 2) := by decide +kernel
theorem d_R_guessLost_29 : decode c_R_guessLost 29 = .ok (.iload_n 1, 1) := by decide +kernel
theorem d_R_guessLost_30 : decode c_R_guessLost 30 = .ok (.iload_n 2, 1) := by decide +kernel
theorem d_R_guessLost_31 : decode c_R_guessLost 31 = .ok (.invokevirtual 32, 3) := by decide +kernel
theorem d_R_guessLost_34 : decode c_R_guessLost 34 = .ok (.goto 4, 3) := by decide +kernel
theorem d_R_guessLost_37 : decode c_R_guessLost 37 = .ok (.iconst (-1), 1) := by decide +kernel
theorem d_R_guessLost_38 : decode c_R_guessLost 38 = .ok (.istore 5, 2) := by decide +kernel
theorem d_R_guessLost_40 : decode c_R_guessLost 40 = .ok (.aload_n 0, 1) := by decide +kernel
theorem d_R_guessLost_41 : decode c_R_guessLost 41 = .ok (.iload 5, 2) := by decide +kernel
theorem d_R_guessLost_43 : decode c_R_guessLost 43 = .ok (.invokevirtual 25, 3) := by decide +kernel
theorem d_R_guessLost_46 : decode c_R_guessLost 46 = .ok (.ifCond .eq 28, 3) := by decide +kernel
theorem d_R_guessLost_49 : decode c_R_guessLost 49 = .ok (.aload_n 0, 1) := by decide +kernel
theorem d_R_guessLost_50 : decode c_R_guessLost 50 = .ok (.getfield 9, 3) := by decide +kernel
theorem d_R_guessLost_53 : decode c_R_guessLost 53 = .ok (.iload 4, 2) := by decide +kernel
theorem d_R_guessLost_55 : decode c_R_guessLost 55 = .ok (.aload_n 0, 1) := by decide +kernel
theorem d_R_guessLost_56 : decode c_R_guessLost 56 = .ok (.getfield 9, 3) := by decide +kernel
theorem d_R_guessLost_59 : decode c_R_guessLost 59 = .ok (.iload 5, 2) := by decide +kernel
theorem d_R_guessLost_61 : decode c_R_guessLost 61 = .ok (.iaload, 1) := by decide +kernel
theorem d_R_guessLost_62 : decode c_R_guessLost 62 = .ok (.iastore, 1) := by decide +kernel
theorem d_R_guessLost_63 : decode c_R_guessLost 63 = .ok (.aload_n 0, 1) := by decide +kernel
theorem d_R_guessLost_64 : decode c_R_guessLost 64 = .ok (.getfield 15, 3) := by decide +kernel
theorem d_R_guessLost_67 : decode c_R_guessLost 67 = .ok (.iload 4, 2) := by decide +kernel
theorem d_R_guessLost_69 : decode c_R_guessLost 69 = .ok (.iconst 1, 1) := by decide +kernel
theorem d_R_guessLost_70 : decode c_R_guessLost 70 = .ok (.bastore, 1) := by decide +kernel
theorem d_R_guessLost_71 : decode c_R_guessLost 71 = .ok (.iinc 3 1, 3) := by decide +kernel
theorem d_R_guessLost_74 : decode c_R_guessLost 74 = .ok (.iinc 4 1, 3) := by decide +kernel
theorem d_R_guessLost_77 : decode c_R_guessLost 77 = .ok (.goto (-72), 3) := by decide +kernel
theorem d_R_guessLost_80 : decode c_R_guessLost 80 = .ok (.iload_n 3, 1) := by decide +kernel
theorem d_R_guessLost_81 : decode c_R_guessLost 81 = .ok (.ireturn, 1) := by decide +kernel
theorem d_R_sourceFor_0 : decode c_R_sourceFor 0 = .ok (.iconst 1, 1) := by decide +kernel
theorem d_R_sourceFor_1 : decode c_R_sourceFor 1 = .ok (.istore 4, 2) := by decide +kernel
theorem d_R_sourceFor_3 : decode c_R_sourceFor 3 = .ok (.iload_n 2, 1) := by decide +kernel
theorem d_R_sourceFor_4 : decode c_R_sourceFor 4 = .ok (.ifCond .le 56, 3) := by decide +kernel
theorem d_R_sourceFor_7 : decode c_R_sourceFor 7 = .ok (.iload 4, 2) := by decide +kernel
theorem d_R_sourceFor_9 : decode c_R_sourceFor 9 = .ok (.bipush 8, 2) := by decide +kernel
theorem d_R_sourceFor_11 : decode c_R_sourceFor 11 = .ok (.if_icmp .gt 49, 3) := by decide +kernel
theorem d_R_sourceFor_14 : decode c_R_sourceFor 14 = .ok (.aload_n 0, 1) := by decide +kernel
theorem d_R_sourceFor_15 : decode c_R_sourceFor 15 = .ok (.iload_n 1, 1) := by decide +kernel
theorem d_R_sourceFor_16 : decode c_R_sourceFor 16 = .ok (.iload 4, 2) := by decide +kernel
theorem d_R_sourceFor_18 : decode c_R_sourceFor 18 = .ok (.iload_n 2, 1) := by decide +kernel
theorem d_R_sourceFor_19 : decode c_R_sourceFor 19 = .ok (.imul, 1) := by decide +kernel
theorem d_R_sourceFor_20 : decode c_R_sourceFor 20 = .ok (.isub, 1) := by decide +kernel
theorem d_R_sourceFor_21 : decode c_R_sourceFor 21 = .ok (.invokevirtual 29, 3) := by decide +kernel
theorem d_R_sourceFor_24 : decode c_R_sourceFor 24 = .ok (.ifCond .eq 10, 3) := by decide +kernel
theorem d_R_sourceFor_27 : decode c_R_sourceFor 27 = .ok (.iload_n 1, 1) := by decide +kernel
theorem d_R_sourceFor_28 : decode c_R_sourceFor 28 = .ok (.iload 4, 2) := by decide +kernel
theorem d_R_sourceFor_30 : decode c_R_sourceFor 30 = .ok (.iload_n 2, 1) := by decide +kernel
theorem d_R_sourceFor_31 : decode c_R_sourceFor 31 = .ok (.imul, 1) := by decide +kernel
theorem d_R_sourceFor_32 : decode c_R_sourceFor 32 = .ok (.isub, 1) := by decide +kernel
theorem d_R_sourceFor_33 : decode c_R_sourceFor 33 = .ok (.ireturn, 1) := by decide +kernel
theorem d_R_sourceFor_34 : decode c_R_sourceFor 34 = .ok (.aload_n 0, 1) := by decide +kernel
theorem d_R_sourceFor_35 : decode c_R_sourceFor 35 = .ok (.iload_n 1, 1) := by decide +kernel
theorem d_R_sourceFor_36 : decode c_R_sourceFor 36 = .ok (.iload 4, 2) := by decide +kernel
theorem d_R_sourceFor_38 : decode c_R_sourceFor 38 = .ok (.iload_n 2, 1) := by decide +kernel
theorem d_R_sourceFor_39 : decode c_R_sourceFor 39 = .ok (.imul, 1) := by decide +kernel
theorem d_R_sourceFor_40 : decode c_R_sourceFor 40 = .ok (.iadd, 1) := by decide +kernel
theorem d_R_sourceFor_41 : decode c_R_sourceFor 41 = .ok (.invokevirtual 29, 3) := by decide +kernel
theorem d_R_sourceFor_44 : decode c_R_sourceFor 44 = .ok (.ifCond .eq 10, 3) := by decide +kernel
theorem d_R_sourceFor_47 : decode c_R_sourceFor 47 = .ok (.iload_n 1, 1) := by decide +kernel
theorem d_R_sourceFor_48 : decode c_R_sourceFor 48 = .ok (.iload 4, 2) := by decide +kernel
theorem d_R_sourceFor_50 : decode c_R_sourceFor 50 = .ok (.iload_n 2, 1) := by decide +kernel
theorem d_R_sourceFor_51 : decode c_R_sourceFor 51 = .ok (.imul, 1) := by decide +kernel
theorem d_R_sourceFor_52 : decode c_R_sourceFor 52 = .ok (.iadd, 1) := by decide +kernel
theorem d_R_sourceFor_53 : decode c_R_sourceFor 53 = .ok (.ireturn, 1) := by decide +kernel
theorem d_R_sourceFor_54 : decode c_R_sourceFor 54 = .ok (.iinc 4 1, 3) := by decide +kernel
theorem d_R_sourceFor_57 : decode c_R_sourceFor 57 = .ok (.goto (-54), 3) := by decide +kernel
theorem d_R_sourceFor_60 : decode c_R_sourceFor 60 = .ok (.iload_n 3, 1) := by decide +kernel
theorem d_R_sourceFor_61 : decode c_R_sourceFor 61 = .ok (.iconst (-1), 1) := by decide +kernel
theorem d_R_sourceFor_62 : decode c_R_sourceFor 62 = .ok (.if_icmp .eq 19, 3) := by decide +kernel
theorem d_R_sourceFor_65 : decode c_R_sourceFor 65 = .ok (.aload_n 0, 1) := by decide +kernel
theorem d_R_sourceFor_66 : decode c_R_sourceFor 66 = .ok (.iload_n 3, 1) := by decide +kernel
theorem d_R_sourceFor_67 : decode c_R_sourceFor 67 = .ok (.iload_n 1, 1) := by decide +kernel
theorem d_R_sourceFor_68 : decode c_R_sourceFor 68 = .ok (.isub, 1) := by decide +kernel
theorem d_R_sourceFor_69 : decode c_R_sourceFor 69 = .ok (.invokevirtual 29, 3) := by decide +kernel
theorem d_R_sourceFor_72 : decode c_R_sourceFor 72 = .ok (.ifCond .eq 9, 3) := by decide +kernel
theorem d_R_sourceFor_75 : decode c_R_sourceFor 75 = .ok (.iload_n 3, 1) := by decide +kernel
theorem d_R_sourceFor_76 : decode c_R_sourceFor 76 = .ok (.iload_n 1, 1) := by decide +kernel
theorem d_R_sourceFor_77 : decode c_R_sourceFor 77 = .ok (.isub, 1) := by decide +kernel
theorem d_R_sourceFor_78 : decode c_R_sourceFor 78 = .ok (.goto 4, 3) := by decide +kernel
theorem d_R_sourceFor_81 : decode c_R_sourceFor 81 = .ok (.iconst (-1), 1) := by decide +kernel
theorem d_R_sourceFor_82 : decode c_R_sourceFor 82 = .ok (.ireturn, 1) := by decide +kernel
theorem d_S_init_0 : decode c_S_init 0 = .ok (.aload_n 0, 1) := by decide +kernel
theorem d_S_init_1 : decode c_S_init 1 = .ok (.invokespecial 3, 3) := by decide +kernel
theorem d_S_init_4 : decode c_S_init 4 = .ok (.aload_n 0, 1) := by decide +kernel
theorem d_S_init_5 : decode c_S_init 5 = .ok (.iload_n 1, 1) := by decide +kernel
theorem d_S_init_6 : decode c_S_init 6 = .ok (.newarray .int, 2) := by decide +kernel
theorem d_S_init_8 : decode c_S_init 8 = .ok (.putfield 9, 3) := by decide +kernel
theorem d_S_init_11 : decode c_S_init 11 = .ok (.aload_n 0, 1) := by decide +kernel
theorem d_S_init_12 : decode c_S_init 12 = .ok (.getfield 9, 3) := by decide +kernel
theorem d_S_init_15 : decode c_S_init 15 = .ok (.sipush 128, 3) := by decide +kernel
theorem d_S_init_18 : decode c_S_init 18 = .ok (.invokestatic 15, 3) := by decide +kernel
theorem d_S_init_21 : decode c_S_init 21 = .ok (.return_, 1) := by decide +kernel
theorem d_S_has_0 : decode c_S_has 0 = .ok (.iload_n 1, 1) := by decide +kernel
theorem d_S_has_1 : decode c_S_has 1 = .ok (.ifCond .lt 16, 3) := by decide +kernel
theorem d_S_has_4 : decode c_S_has 4 = .ok (.iload_n 1, 1) := by decide +kernel
theorem d_S_has_5 : decode c_S_has 5 = .ok (.aload_n 0, 1) := by decide +kernel
theorem d_S_has_6 : decode c_S_has 6 = .ok (.getfield 9, 3) := by decide +kernel
theorem d_S_has_9 : decode c_S_has 9 = .ok (.arraylength, 1) := by decide +kernel
theorem d_S_has_10 : decode c_S_has 10 = .ok (.if_icmp .ge 7, 3) := by decide +kernel
theorem d_S_has_13 : decode c_S_has 13 = .ok (.iconst 1, 1) := by decide +kernel
theorem d_S_has_14 : decode c_S_has 14 = .ok (.goto 4, 3) := by decide +kernel
theorem d_S_has_17 : decode c_S_has 17 = .ok (.iconst 0, 1) := by decide +kernel
theorem d_S_has_18 : decode c_S_has 18 = .ok (.ireturn, 1) := by decide +kernel
theorem d_S_put_0 : decode c_S_put 0 = .ok (.aload_n 0, 1) := by decide +kernel
theorem d_S_put_1 : decode c_S_put 1 = .ok (.iload_n 1, 1) := by decide +kernel
theorem d_S_put_2 : decode c_S_put 2 = .ok (.invokevirtual 21, 3) := by decide +kernel
theorem d_S_put_5 : decode c_S_put 5 = .ok (.ifCond .eq 10, 3) := by decide +kernel
theorem d_S_put_8 : decode c_S_put 8 = .ok (.aload_n 0, 1) := by decide +kernel
theorem d_S_put_9 : decode c_S_put 9 = .ok (.getfield 9, 3) := by decide +kernel
theorem d_S_put_12 : decode c_S_put 12 = .ok (.iload_n 1, 1) := by decide +kernel
theorem d_S_put_13 : decode c_S_put 13 = .ok (.iload_n 2, 1) := by decide +kernel
theorem d_S_put_14 : decode c_S_put 14 = .ok (.iastore, 1) := by decide +kernel
theorem d_S_put_15 : decode c_S_put 15 = .ok (.return_, 1) := by decide +kernel
theorem d_S_coverAt_0 : decode c_S_coverAt 0 = .ok (.iconst 0, 1) := by decide +kernel
theorem d_S_coverAt_1 : decode c_S_coverAt 1 = .ok (.istore_n 3, 1) := by decide +kernel
theorem d_S_coverAt_2 : decode c_S_coverAt 2 = .ok (.iconst 0, 1) := by decide +kernel
theorem d_S_coverAt_3 : decode c_S_coverAt 3 = .ok (.istore 4, 2) := by decide +kernel
theorem d_S_coverAt_5 : decode c_S_coverAt 5 = .ok (.iload 4, 2) := by decide +kernel
theorem d_S_coverAt_7 : decode c_S_coverAt 7 = .ok (.aload_n 0, 1) := by decide +kernel
theorem d_S_coverAt_8 : decode c_S_coverAt 8 = .ok (.getfield 9, 3) := by decide +kernel
theorem d_S_coverAt_11 : decode c_S_coverAt 11 = .ok (.arraylength, 1) := by decide +kernel
theorem d_S_coverAt_12 : decode c_S_coverAt 12 = .ok (.if_icmp .ge 24, 3) := by decide +kernel
theorem d_S_coverAt_15 : decode c_S_coverAt 15 = .ok (.aload_n 1, 1) := by decide +kernel
theorem d_S_coverAt_16 : decode c_S_coverAt 16 = .ok (.iload_n 2, 1) := by decide +kernel
theorem d_S_coverAt_17 : decode c_S_coverAt 17 = .ok (.iload 4, 2) := by decide +kernel
theorem d_S_coverAt_19 : decode c_S_coverAt 19 = .ok (.iadd, 1) := by decide +kernel
theorem d_S_coverAt_20 : decode c_S_coverAt 20 = .ok (.invokevirtual 25, 3) := by decide +kernel
theorem d_S_coverAt_23 : decode c_S_coverAt 23 = .ok (.iconst (-1), 1) := by decide +kernel
theorem d_S_coverAt_24 : decode c_S_coverAt 24 = .ok (.if_icmp .eq 6, 3) := by decide +kernel
theorem d_S_coverAt_27 : decode c_S_coverAt 27 = .ok (.iinc 3 1, 3) := by decide +kernel
theorem d_S_coverAt_30 : decode c_S_coverAt 30 = .ok (.iinc 4 1, 3) := by decide +kernel
theorem d_S_coverAt_33 : decode c_S_coverAt 33 = .ok (.goto (-28), 3) := by decide +kernel
theorem d_S_coverAt_36 : decode c_S_coverAt 36 = .ok (.iload_n 3, 1) := by decide +kernel
theorem d_S_coverAt_37 : decode c_S_coverAt 37 = .ok (.ireturn, 1) := by decide +kernel
theorem d_S_leastCover_0 : decode c_S_leastCover 0 = .ok (.aload_n 0, 1) := by decide +kernel
theorem d_S_leastCover_1 : decode c_S_leastCover 1 = .ok (.getfield 9, 3) := by decide +kernel
theorem d_S_leastCover_4 : decode c_S_leastCover 4 = .ok (.arraylength, 1) := by decide +kernel
theorem d_S_leastCover_5 : decode c_S_leastCover 5 = .ok (.iconst 1, 1) := by decide +kernel
theorem d_S_leastCover_6 : decode c_S_leastCover 6 = .ok (.iadd, 1) := by decide +kernel
theorem d_S_leastCover_7 : decode c_S_leastCover 7 = .ok (.iconst 2, 1) := by decide +kernel
theorem d_S_leastCover_8 : decode c_S_leastCover 8 = .ok (.idiv, 1) := by decide +kernel
theorem d_S_leastCover_9 : decode c_S_leastCover 9 = .ok (.ireturn, 1) := by decide +kernel
theorem d_S_missAt_0 : decode c_S_missAt 0 = .ok (.iconst 0, 1) := by decide +kernel
theorem d_S_missAt_1 : decode c_S_missAt 1 = .ok (.istore_n 3, 1) := by decide +kernel
theorem d_S_missAt_2 : decode c_S_missAt 2 = .ok (.iconst 0, 1) := by decide +kernel
theorem d_S_missAt_3 : decode c_S_missAt 3 = .ok (.istore 4, 2) := by decide +kernel
theorem d_S_missAt_5 : decode c_S_missAt 5 = .ok (.iload 4, 2) := by decide +kernel
theorem d_S_missAt_7 : decode c_S_missAt 7 = .ok (.aload_n 0, 1) := by decide +kernel
theorem d_S_missAt_8 : decode c_S_missAt 8 = .ok (.getfield 9, 3) := by decide +kernel
theorem d_S_missAt_11 : decode c_S_missAt 11 = .ok (.arraylength, 1) := by decide +kernel
theorem d_S_missAt_12 : decode c_S_missAt 12 = .ok (.if_icmp .ge 41, 3) := by decide +kernel
theorem d_S_missAt_15 : decode c_S_missAt 15 = .ok (.aload_n 1, 1) := by decide +kernel
theorem d_S_missAt_16 : decode c_S_missAt 16 = .ok (.iload_n 2, 1) := by decide +kernel
theorem d_S_missAt_17 : decode c_S_missAt 17 = .ok (.iload 4, 2) := by decide +kernel
theorem d_S_missAt_19 : decode c_S_missAt 19 = .ok (.iadd, 1) := by decide +kernel
theorem d_S_missAt_20 : decode c_S_missAt 20 = .ok (.invokevirtual 25, 3) := by decide +kernel
theorem d_S_missAt_23 : decode c_S_missAt 23 = .ok (.istore 5, 2) := by decide +kernel
theorem d_S_missAt_25 : decode c_S_missAt 25 = .ok (.iload 5, 2) := by decide +kernel
theorem d_S_missAt_27 : decode c_S_missAt 27 = .ok (.iconst (-1), 1) := by decide +kernel
theorem d_S_missAt_28 : decode c_S_missAt 28 = .ok (.if_icmp .eq 19, 3) := by decide +kernel
theorem d_S_missAt_31 : decode c_S_missAt 31 = .ok (.iload_n 3, 1) := by decide +kernel
theorem d_S_missAt_32 : decode c_S_missAt 32 = .ok (.aload_n 0, 1) := by decide +kernel
theorem d_S_missAt_33 : decode c_S_missAt 33 = .ok (.getfield 9, 3) := by decide +kernel
theorem d_S_missAt_36 : decode c_S_missAt 36 = .ok (.iload 4, 2) := by decide +kernel
theorem d_S_missAt_38 : decode c_S_missAt 38 = .ok (.iaload, 1) := by decide +kernel
theorem d_S_missAt_39 : decode c_S_missAt 39 = .ok (.iload 5, 2) := by decide +kernel
theorem d_S_missAt_41 : decode c_S_missAt 41 = .ok (.isub, 1) := by decide +kernel
theorem d_S_missAt_42 : decode c_S_missAt 42 = .ok (.invokestatic 31, 3) := by decide +kernel
theorem d_S_missAt_45 : decode c_S_missAt 45 = .ok (.iadd, 1) := by decide +kernel
theorem d_S_missAt_46 : decode c_S_missAt 46 = .ok (.istore_n 3, 1) := by decide +kernel
theorem d_S_missAt_47 : decode c_S_missAt 47 = .ok (.iinc 4 1, 3) := by decide +kernel
theorem d_S_missAt_50 : decode c_S_missAt 50 = .ok (.goto (-45), 3) := by decide +kernel
theorem d_S_missAt_53 : decode c_S_missAt 53 = .ok (.iload_n 3, 1) := by decide +kernel
theorem d_S_missAt_54 : decode c_S_missAt 54 = .ok (.ireturn, 1) := by decide +kernel
theorem d_N_init_0 : decode c_N_init 0 = .ok (.aload_n 0, 1) := by decide +kernel
theorem d_N_init_1 : decode c_N_init 1 = .ok (.invokespecial 3, 3) := by decide +kernel
theorem d_N_init_4 : decode c_N_init 4 = .ok (.aload_n 0, 1) := by decide +kernel
theorem d_N_init_5 : decode c_N_init 5 = .ok (.iload_n 1, 1) := by decide +kernel
theorem d_N_init_6 : decode c_N_init 6 = .ok (.putfield 9, 3) := by decide +kernel
theorem d_N_init_9 : decode c_N_init 9 = .ok (.aload_n 0, 1) := by decide +kernel
theorem d_N_init_10 : decode c_N_init 10 = .ok (.iload_n 2, 1) := by decide +kernel
theorem d_N_init_11 : decode c_N_init 11 = .ok (.putfield 15, 3) := by decide +kernel
theorem d_N_init_14 : decode c_N_init 14 = .ok (.aload_n 0, 1) := by decide +kernel
theorem d_N_init_15 : decode c_N_init 15 = .ok (.iload_n 3, 1) := by decide +kernel
theorem d_N_init_16 : decode c_N_init 16 = .ok (.putfield 18, 3) := by decide +kernel
theorem d_N_init_19 : decode c_N_init 19 = .ok (.aload_n 0, 1) := by decide +kernel
theorem d_N_init_20 : decode c_N_init 20 = .ok (.iload 4, 2) := by decide +kernel
theorem d_N_init_22 : decode c_N_init 22 = .ok (.putfield 21, 3) := by decide +kernel
theorem d_N_init_25 : decode c_N_init 25 = .ok (.return_, 1) := by decide +kernel
theorem d_N_isAnsweredBy_0 : decode c_N_isAnsweredBy 0 = .ok (.aload_n 0, 1) := by decide +kernel
theorem d_N_isAnsweredBy_1 : decode c_N_isAnsweredBy 1 = .ok (.invokevirtual 24, 3) := by decide +kernel
theorem d_N_isAnsweredBy_4 : decode c_N_isAnsweredBy 4 = .ok (.ifCond .eq 19, 3) := by decide +kernel
theorem d_N_isAnsweredBy_7 : decode c_N_isAnsweredBy 7 = .ok (.iload_n 1, 1) := by decide +kernel
theorem d_N_isAnsweredBy_8 : decode c_N_isAnsweredBy 8 = .ok (.aload_n 0, 1) := by decide +kernel
theorem d_N_isAnsweredBy_9 : decode c_N_isAnsweredBy 9 = .ok (.getfield 9, 3) := by decide +kernel
theorem d_N_isAnsweredBy_12 : decode c_N_isAnsweredBy 12 = .ok (.ishr, 1) := by decide +kernel
theorem d_N_isAnsweredBy_13 : decode c_N_isAnsweredBy 13 = .ok (.iconst 1, 1) := by decide +kernel
theorem d_N_isAnsweredBy_14 : decode c_N_isAnsweredBy 14 = .ok (.iand, 1) := by decide +kernel
theorem d_N_isAnsweredBy_15 : decode c_N_isAnsweredBy 15 = .ok (.iconst 1, 1) := by decide +kernel
theorem d_N_isAnsweredBy_16 : decode c_N_isAnsweredBy 16 = .ok (.if_icmp .ne 7, 3) := by decide +kernel
theorem d_N_isAnsweredBy_19 : decode c_N_isAnsweredBy 19 = .ok (.iconst 1, 1) := by decide +kernel
theorem d_N_isAnsweredBy_20 : decode c_N_isAnsweredBy 20 = .ok (.goto 4, 3) := by decide +kernel
theorem d_N_isAnsweredBy_23 : decode c_N_isAnsweredBy 23 = .ok (.iconst 0, 1) := by decide +kernel
theorem d_N_isAnsweredBy_24 : decode c_N_isAnsweredBy 24 = .ok (.ireturn, 1) := by decide +kernel
theorem d_N_isQuestion_0 : decode c_N_isQuestion 0 = .ok (.aload_n 0, 1) := by decide +kernel
theorem d_N_isQuestion_1 : decode c_N_isQuestion 1 = .ok (.getfield 9, 3) := by decide +kernel
theorem d_N_isQuestion_4 : decode c_N_isQuestion 4 = .ok (.iconst (-1), 1) := by decide +kernel
theorem d_N_isQuestion_5 : decode c_N_isQuestion 5 = .ok (.if_icmp .eq 7, 3) := by decide +kernel
theorem d_N_isQuestion_8 : decode c_N_isQuestion 8 = .ok (.iconst 1, 1) := by decide +kernel
theorem d_N_isQuestion_9 : decode c_N_isQuestion 9 = .ok (.goto 4, 3) := by decide +kernel
theorem d_N_isQuestion_12 : decode c_N_isQuestion 12 = .ok (.iconst 0, 1) := by decide +kernel
theorem d_N_isQuestion_13 : decode c_N_isQuestion 13 = .ok (.ireturn, 1) := by decide +kernel
theorem d_N_nextBy_0 : decode c_N_nextBy 0 = .ok (.iload_n 1, 1) := by decide +kernel
theorem d_N_nextBy_1 : decode c_N_nextBy 1 = .ok (.aload_n 0, 1) := by decide +kernel
theorem d_N_nextBy_2 : decode c_N_nextBy 2 = .ok (.getfield 9, 3) := by decide +kernel
theorem d_N_nextBy_5 : decode c_N_nextBy 5 = .ok (.ishr, 1) := by decide +kernel
theorem d_N_nextBy_6 : decode c_N_nextBy 6 = .ok (.iconst 1, 1) := by decide +kernel
theorem d_N_nextBy_7 : decode c_N_nextBy 7 = .ok (.iand, 1) := by decide +kernel
theorem d_N_nextBy_8 : decode c_N_nextBy 8 = .ok (.iconst 1, 1) := by decide +kernel
theorem d_N_nextBy_9 : decode c_N_nextBy 9 = .ok (.if_icmp .ne 10, 3) := by decide +kernel
theorem d_N_nextBy_12 : decode c_N_nextBy 12 = .ok (.aload_n 0, 1) := by decide +kernel
theorem d_N_nextBy_13 : decode c_N_nextBy 13 = .ok (.getfield 21, 3) := by decide +kernel
theorem d_N_nextBy_16 : decode c_N_nextBy 16 = .ok (.goto 7, 3) := by decide +kernel
theorem d_N_nextBy_19 : decode c_N_nextBy 19 = .ok (.aload_n 0, 1) := by decide +kernel
theorem d_N_nextBy_20 : decode c_N_nextBy 20 = .ok (.getfield 18, 3) := by decide +kernel
theorem d_N_nextBy_23 : decode c_N_nextBy 23 = .ok (.ireturn, 1) := by decide +kernel
theorem d_U_init_0 : decode c_U_init 0 = .ok (.aload_n 0, 1) := by decide +kernel
theorem d_U_init_1 : decode c_U_init 1 = .ok (.invokespecial 1, 3) := by decide +kernel
theorem d_U_init_4 : decode c_U_init 4 = .ok (.aload_n 0, 1) := by decide +kernel
theorem d_U_init_5 : decode c_U_init 5 = .ok (.iload_n 1, 1) := by decide +kernel
theorem d_U_init_6 : decode c_U_init 6 = .ok (.putfield 7, 3) := by decide +kernel
theorem d_U_init_9 : decode c_U_init 9 = .ok (.aload_n 0, 1) := by decide +kernel
theorem d_U_init_10 : decode c_U_init 10 = .ok (.iload_n 2, 1) := by decide +kernel
theorem d_U_init_11 : decode c_U_init 11 = .ok (.putfield 13, 3) := by decide +kernel
theorem d_U_init_14 : decode c_U_init 14 = .ok (.aload_n 0, 1) := by decide +kernel
theorem d_U_init_15 : decode c_U_init 15 = .ok (.iload_n 3, 1) := by decide +kernel
theorem d_U_init_16 : decode c_U_init 16 = .ok (.putfield 16, 3) := by decide +kernel
theorem d_U_init_19 : decode c_U_init 19 = .ok (.aload_n 0, 1) := by decide +kernel
theorem d_U_init_20 : decode c_U_init 20 = .ok (.iload 4, 2) := by decide +kernel
theorem d_U_init_22 : decode c_U_init 22 = .ok (.putfield 19, 3) := by decide +kernel
theorem d_U_init_25 : decode c_U_init 25 = .ok (.aload_n 0, 1) := by decide +kernel
theorem d_U_init_26 : decode c_U_init 26 = .ok (.iload 5, 2) := by decide +kernel
theorem d_U_init_28 : decode c_U_init 28 = .ok (.putfield 22, 3) := by decide +kernel
theorem d_U_init_31 : decode c_U_init 31 = .ok (.aload_n 0, 1) := by decide +kernel
theorem d_U_init_32 : decode c_U_init 32 = .ok (.iload 6, 2) := by decide +kernel
theorem d_U_init_34 : decode c_U_init 34 = .ok (.putfield 25, 3) := by decide +kernel
theorem d_U_init_37 : decode c_U_init 37 = .ok (.return_, 1) := by decide +kernel
theorem d_U_holdsOn_0 : decode c_U_holdsOn 0 = .ok (.aload_n 0, 1) := by decide +kernel
theorem d_U_holdsOn_1 : decode c_U_holdsOn 1 = .ok (.getfield 7, 3) := by decide +kernel
theorem d_U_holdsOn_4 : decode c_U_holdsOn 4 = .ok (.istore_n 2, 1) := by decide +kernel
theorem d_U_holdsOn_5 : decode c_U_holdsOn 5 = .ok (.iload_n 2, 1) := by decide +kernel
theorem d_U_holdsOn_6 : decode c_U_holdsOn 6 = .ok (.aload_n 0, 1) := by decide +kernel
theorem d_U_holdsOn_7 : decode c_U_holdsOn 7 = .ok (.getfield 13, 3) := by decide +kernel
theorem d_U_holdsOn_10 : decode c_U_holdsOn 10 = .ok (.if_icmp .gt 30, 3) := by decide +kernel
theorem d_U_holdsOn_13 : decode c_U_holdsOn 13 = .ok (.aload_n 1, 1) := by decide +kernel
theorem d_U_holdsOn_14 : decode c_U_holdsOn 14 = .ok (.iload_n 2, 1) := by decide +kernel
theorem d_U_holdsOn_15 : decode c_U_holdsOn 15 = .ok (.invokevirtual 28, 3) := by decide +kernel
theorem d_U_holdsOn_18 : decode c_U_holdsOn 18 = .ok (.aload_n 0, 1) := by decide +kernel
theorem d_U_holdsOn_19 : decode c_U_holdsOn 19 = .ok (.getfield 16, 3) := by decide +kernel
theorem d_U_holdsOn_22 : decode c_U_holdsOn 22 = .ok (.aload_n 0, 1) := by decide +kernel
theorem d_U_holdsOn_23 : decode c_U_holdsOn 23 = .ok (.getfield 19, 3) := by decide +kernel
theorem d_U_holdsOn_26 : decode c_U_holdsOn 26 = .ok (.invokestatic 34, 3) := by decide +kernel
theorem d_U_holdsOn_29 : decode c_U_holdsOn 29 = .ok (.ifCond .ne 5, 3) := by decide +kernel
theorem d_U_holdsOn_32 : decode c_U_holdsOn 32 = .ok (.iconst 0, 1) := by decide +kernel
theorem d_U_holdsOn_33 : decode c_U_holdsOn 33 = .ok (.ireturn, 1) := by decide +kernel
theorem d_U_holdsOn_34 : decode c_U_holdsOn 34 = .ok (.iinc 2 1, 3) := by decide +kernel
theorem d_U_holdsOn_37 : decode c_U_holdsOn 37 = .ok (.goto (-32), 3) := by decide +kernel
theorem d_U_holdsOn_40 : decode c_U_holdsOn 40 = .ok (.iconst 1, 1) := by decide +kernel
theorem d_U_holdsOn_41 : decode c_U_holdsOn 41 = .ok (.ireturn, 1) := by decide +kernel
end
section
theorem d_M_init_0 : decode c_M_init 0 = .ok (.aload_n 0, 1) := by decide +kernel
theorem d_M_init_1 : decode c_M_init 1 = .ok (.invokespecial 1, 3) := by decide +kernel
theorem d_M_init_4 : decode c_M_init 4 = .ok (.aload_n 0, 1) := by decide +kernel
theorem d_M_init_5 : decode c_M_init 5 = .ok (.new 7, 3) := by decide +kernel
theorem d_M_init_8 : decode c_M_init 8 = .ok (.dup, 1) := by decide +kernel
theorem d_M_init_9 : decode c_M_init 9 = .ok (.invokespecial 9, 3) := by decide +kernel
theorem d_M_init_12 : decode c_M_init 12 = .ok (.putfield 10, 3) := by decide +kernel
theorem d_M_init_15 : decode c_M_init 15 = .ok (.aload_n 0, 1) := by decide +kernel
theorem d_M_init_16 : decode c_M_init 16 = .ok (.new 7, 3) := by decide +kernel
theorem d_M_init_19 : decode c_M_init 19 = .ok (.dup, 1) := by decide +kernel
theorem d_M_init_20 : decode c_M_init 20 = .ok (.invokespecial 9, 3) := by decide +kernel
theorem d_M_init_23 : decode c_M_init 23 = .ok (.putfield 16, 3) := by decide +kernel
theorem d_M_init_26 : decode c_M_init 26 = .ok (.aload_n 0, 1) := by decide +kernel
theorem d_M_init_27 : decode c_M_init 27 = .ok (.new 7, 3) := by decide +kernel
theorem d_M_init_30 : decode c_M_init 30 = .ok (.dup, 1) := by decide +kernel
theorem d_M_init_31 : decode c_M_init 31 = .ok (.invokespecial 9, 3) := by decide +kernel
theorem d_M_init_34 : decode c_M_init 34 = .ok (.putfield 19, 3) := by decide +kernel
theorem d_M_init_37 : decode c_M_init 37 = .ok (.aload_n 0, 1) := by decide +kernel
theorem d_M_init_38 : decode c_M_init 38 = .ok (.new 22, 3) := by decide +kernel
theorem d_M_init_41 : decode c_M_init 41 = .ok (.dup, 1) := by decide +kernel
theorem d_M_init_42 : decode c_M_init 42 = .ok (.invokespecial 24, 3) := by decide +kernel
theorem d_M_init_45 : decode c_M_init 45 = .ok (.putfield 25, 3) := by decide +kernel
theorem d_M_init_48 : decode c_M_init 48 = .ok (.aload_n 0, 1) := by decide +kernel
theorem d_M_init_49 : decode c_M_init 49 = .ok (.new 29, 3) := by decide +kernel
theorem d_M_init_52 : decode c_M_init 52 = .ok (.dup, 1) := by decide +kernel
theorem d_M_init_53 : decode c_M_init 53 = .ok (.iconst 4, 1) := by decide +kernel
theorem d_M_init_54 : decode c_M_init 54 = .ok (.bipush 64, 2) := by decide +kernel
theorem d_M_init_56 : decode c_M_init 56 = .ok (.iload_n 1, 1) := by decide +kernel
theorem d_M_init_57 : decode c_M_init 57 = .ok (.invokestatic 31, 3) := by decide +kernel
theorem d_M_init_60 : decode c_M_init 60 = .ok (.invokestatic 37, 3) := by decide +kernel
theorem d_M_init_63 : decode c_M_init 63 = .ok (.invokespecial 40, 3) := by decide +kernel
theorem d_M_init_66 : decode c_M_init 66 = .ok (.putfield 43, 3) := by decide +kernel
theorem d_M_init_69 : decode c_M_init 69 = .ok (.return_, 1) := by decide +kernel
theorem d_M_forget_0 : decode c_M_forget 0 = .ok (.aload_n 0, 1) := by decide +kernel
theorem d_M_forget_1 : decode c_M_forget 1 = .ok (.getfield 43, 3) := by decide +kernel
theorem d_M_forget_4 : decode c_M_forget 4 = .ok (.invokevirtual 124, 3) := by decide +kernel
theorem d_M_forget_7 : decode c_M_forget 7 = .ok (.ireturn, 1) := by decide +kernel
theorem d_M_depth_0 : decode c_M_depth 0 = .ok (.aload_n 0, 1) := by decide +kernel
theorem d_M_depth_1 : decode c_M_depth 1 = .ok (.getfield 43, 3) := by decide +kernel
theorem d_M_depth_4 : decode c_M_depth 4 = .ok (.iload_n 1, 1) := by decide +kernel
theorem d_M_depth_5 : decode c_M_depth 5 = .ok (.invokevirtual 47, 3) := by decide +kernel
theorem d_M_depth_8 : decode c_M_depth 8 = .ok (.ifCond .ne 13, 3) := by decide +kernel
theorem d_M_depth_11 : decode c_M_depth 11 = .ok (.new 51, 3) := by decide +kernel
theorem d_M_depth_14 : decode c_M_depth 14 = .ok (.dup, 1) := by decide +kernel
theorem d_M_depth_15 : decode c_M_depth 15 = .ok (.ldc 53, 2) := by decide +kernel
theorem d_M_depth_17 : decode c_M_depth 17 = .ok (.invokespecial 55, 3) := by decide +kernel
theorem d_M_depth_20 : decode c_M_depth 20 = .ok (.athrow, 1) := by decide +kernel
theorem d_M_depth_21 : decode c_M_depth 21 = .ok (.iload_n 2, 1) := by decide +kernel
theorem d_M_depth_22 : decode c_M_depth 22 = .ok (.iconst (-1), 1) := by decide +kernel
theorem d_M_depth_23 : decode c_M_depth 23 = .ok (.sipush 255, 3) := by decide +kernel
theorem d_M_depth_26 : decode c_M_depth 26 = .ok (.invokestatic 58, 3) := by decide +kernel
theorem d_M_depth_29 : decode c_M_depth 29 = .ok (.ifCond .ne 13, 3) := by decide +kernel
theorem d_M_depth_32 : decode c_M_depth 32 = .ok (.new 62, 3) := by decide +kernel
theorem d_M_depth_35 : decode c_M_depth 35 = .ok (.dup, 1) := by decide +kernel
theorem d_M_depth_36 : decode c_M_depth 36 = .ok (.ldc 64, 2) := by decide +kernel
theorem d_M_depth_38 : decode c_M_depth 38 = .ok (.invokespecial 66, 3) := by decide +kernel
theorem d_M_depth_41 : decode c_M_depth 41 = .ok (.athrow, 1) := by decide +kernel
theorem d_M_depth_42 : decode c_M_depth 42 = .ok (.aload_n 0, 1) := by decide +kernel
theorem d_M_depth_43 : decode c_M_depth 43 = .ok (.getfield 43, 3) := by decide +kernel
theorem d_M_depth_46 : decode c_M_depth 46 = .ok (.iload_n 1, 1) := by decide +kernel
theorem d_M_depth_47 : decode c_M_depth 47 = .ok (.iload_n 2, 1) := by decide +kernel
theorem d_M_depth_48 : decode c_M_depth 48 = .ok (.invokevirtual 67, 3) := by decide +kernel
theorem d_M_depth_51 : decode c_M_depth 51 = .ok (.return_, 1) := by decide +kernel
theorem d_M_isWithin_0 : decode c_M_isWithin 0 = .ok (.iload_n 0, 1) := by decide +kernel
theorem d_M_isWithin_1 : decode c_M_isWithin 1 = .ok (.iload_n 1, 1) := by decide +kernel
theorem d_M_isWithin_2 : decode c_M_isWithin 2 = .ok (.if_icmp .lt 12, 3) := by decide +kernel
theorem d_M_isWithin_5 : decode c_M_isWithin 5 = .ok (.iload_n 0, 1) := by decide +kernel
theorem d_M_isWithin_6 : decode c_M_isWithin 6 = .ok (.iload_n 2, 1) := by decide +kernel
theorem d_M_isWithin_7 : decode c_M_isWithin 7 = .ok (.if_icmp .gt 7, 3) := by decide +kernel
theorem d_M_isWithin_10 : decode c_M_isWithin 10 = .ok (.iconst 1, 1) := by decide +kernel
theorem d_M_isWithin_11 : decode c_M_isWithin 11 = .ok (.goto 4, 3) := by decide +kernel
theorem d_M_isWithin_14 : decode c_M_isWithin 14 = .ok (.iconst 0, 1) := by decide +kernel
theorem d_M_isWithin_15 : decode c_M_isWithin 15 = .ok (.ireturn, 1) := by decide +kernel
theorem d_M_place_0 : decode c_M_place 0 = .ok (.aload_n 0, 1) := by decide +kernel
theorem d_M_place_1 : decode c_M_place 1 = .ok (.getfield 43, 3) := by decide +kernel
theorem d_M_place_4 : decode c_M_place 4 = .ok (.iload_n 1, 1) := by decide +kernel
theorem d_M_place_5 : decode c_M_place 5 = .ok (.invokevirtual 47, 3) := by decide +kernel
theorem d_M_place_8 : decode c_M_place 8 = .ok (.ifCond .ne 13, 3) := by decide +kernel
theorem d_M_place_11 : decode c_M_place 11 = .ok (.new 51, 3) := by decide +kernel
theorem d_M_place_14 : decode c_M_place 14 = .ok (.dup, 1) := by decide +kernel
theorem d_M_place_15 : decode c_M_place 15 = .ok (.ldc 53, 2) := by decide +kernel
theorem d_M_place_17 : decode c_M_place 17 = .ok (.invokespecial 55, 3) := by decide +kernel
theorem d_M_place_20 : decode c_M_place 20 = .ok (.athrow, 1) := by decide +kernel
theorem d_M_place_21 : decode c_M_place 21 = .ok (.iload_n 2, 1) := by decide +kernel
theorem d_M_place_22 : decode c_M_place 22 = .ok (.iconst 0, 1) := by decide +kernel
theorem d_M_place_23 : decode c_M_place 23 = .ok (.iconst 1, 1) := by decide +kernel
theorem d_M_place_24 : decode c_M_place 24 = .ok (.invokestatic 58, 3) := by decide +kernel
theorem d_M_place_27 : decode c_M_place 27 = .ok (.ifCond .ne 13, 3) := by decide +kernel
theorem d_M_place_30 : decode c_M_place 30 = .ok (.new 51, 3) := by decide +kernel
theorem d_M_place_33 : decode c_M_place 33 = .ok (.dup, 1) := by decide +kernel
theorem d_M_place_34 : decode c_M_place 34 = .ok (.ldc 71, 2) := by decide +kernel
theorem d_M_place_36 : decode c_M_place 36 = .ok (.invokespecial 55, 3) := by decide +kernel
theorem d_M_place_39 : decode c_M_place 39 = .ok (.athrow, 1) := by decide +kernel
theorem d_M_place_40 : decode c_M_place 40 = .ok (.iload_n 2, 1) := by decide +kernel
theorem d_M_place_41 : decode c_M_place 41 = .ok (.ifCond .ne 12, 3) := by decide +kernel
theorem d_M_place_44 : decode c_M_place 44 = .ok (.aload_n 0, 1) := by decide +kernel
theorem d_M_place_45 : decode c_M_place 45 = .ok (.getfield 43, 3) := by decide +kernel
theorem d_M_place_48 : decode c_M_place 48 = .ok (.iload_n 1, 1) := by decide +kernel
theorem d_M_place_49 : decode c_M_place 49 = .ok (.invokevirtual 73, 3) := by decide +kernel
theorem d_M_place_52 : decode c_M_place 52 = .ok (.ireturn, 1) := by decide +kernel
theorem d_M_place_53 : decode c_M_place 53 = .ok (.aload_n 0, 1) := by decide +kernel
theorem d_M_place_54 : decode c_M_place 54 = .ok (.getfield 43, 3) := by decide +kernel
theorem d_M_place_57 : decode c_M_place 57 = .ok (.iload_n 1, 1) := by decide +kernel
theorem d_M_place_58 : decode c_M_place 58 = .ok (.invokevirtual 77, 3) := by decide +kernel
theorem d_M_place_61 : decode c_M_place 61 = .ok (.ifCond .eq 7, 3) := by decide +kernel
theorem d_M_place_64 : decode c_M_place 64 = .ok (.iconst 1, 1) := by decide +kernel
theorem d_M_place_65 : decode c_M_place 65 = .ok (.goto 4, 3) := by decide +kernel
theorem d_M_place_68 : decode c_M_place 68 = .ok (.iconst 0, 1) := by decide +kernel
theorem d_M_place_69 : decode c_M_place 69 = .ok (.ireturn, 1) := by decide +kernel
theorem d_M_mirror_0 : decode c_M_mirror 0 = .ok (.aload_n 0, 1) := by decide +kernel
theorem d_M_mirror_1 : decode c_M_mirror 1 = .ok (.invokevirtual 80, 3) := by decide +kernel
theorem d_M_mirror_4 : decode c_M_mirror 4 = .ok (.aload_n 0, 1) := by decide +kernel
theorem d_M_mirror_5 : decode c_M_mirror 5 = .ok (.getfield 25, 3) := by decide +kernel
theorem d_M_mirror_8 : decode c_M_mirror 8 = .ok (.getfield 83, 3) := by decide +kernel
theorem d_M_mirror_11 : decode c_M_mirror 11 = .ok (.ifCond .ne 13, 3) := by decide +kernel
theorem d_M_mirror_14 : decode c_M_mirror 14 = .ok (.new 87, 3) := by decide +kernel
theorem d_M_mirror_17 : decode c_M_mirror 17 = .ok (.dup, 1) := by decide +kernel
theorem d_M_mirror_18 : decode c_M_mirror 18 = .ok (.ldc 89, 2) := by decide +kernel
theorem d_M_mirror_20 : decode c_M_mirror 20 = .ok (.invokespecial 91, 3) := by decide +kernel
theorem d_M_mirror_23 : decode c_M_mirror 23 = .ok (.athrow, 1) := by decide +kernel
theorem d_M_mirror_24 : decode c_M_mirror 24 = .ok (.iload_n 1, 1) := by decide +kernel
theorem d_M_mirror_25 : decode c_M_mirror 25 = .ok (.iconst 0, 1) := by decide +kernel
theorem d_M_mirror_26 : decode c_M_mirror 26 = .ok (.iconst 2, 1) := by decide +kernel
theorem d_M_mirror_27 : decode c_M_mirror 27 = .ok (.invokestatic 58, 3) := by decide +kernel
theorem d_M_mirror_30 : decode c_M_mirror 30 = .ok (.ifCond .ne 13, 3) := by decide +kernel
theorem d_M_mirror_33 : decode c_M_mirror 33 = .ok (.new 51, 3) := by decide +kernel
theorem d_M_mirror_36 : decode c_M_mirror 36 = .ok (.dup, 1) := by decide +kernel
theorem d_M_mirror_37 : decode c_M_mirror 37 = .ok (.ldc 71, 2) := by decide +kernel
theorem d_M_mirror_39 : decode c_M_mirror 39 = .ok (.invokespecial 55, 3) := by decide +kernel
theorem d_M_mirror_42 : decode c_M_mirror 42 = .ok (.athrow, 1) := by decide +kernel
theorem d_M_mirror_43 : decode c_M_mirror 43 = .ok (.iload_n 1, 1) := by decide +kernel
theorem d_M_mirror_44 : decode c_M_mirror 44 = .ok (.ifCond .ne 12, 3) := by decide +kernel
theorem d_M_mirror_47 : decode c_M_mirror 47 = .ok (.aload_n 0, 1) := by decide +kernel
theorem d_M_mirror_48 : decode c_M_mirror 48 = .ok (.getfield 25, 3) := by decide +kernel
theorem d_M_mirror_51 : decode c_M_mirror 51 = .ok (.getfield 92, 3) := by decide +kernel
theorem d_M_mirror_54 : decode c_M_mirror 54 = .ok (.i2l, 1) := by decide +kernel
theorem d_M_mirror_55 : decode c_M_mirror 55 = .ok (.lreturn, 1) := by decide +kernel
theorem d_M_mirror_56 : decode c_M_mirror 56 = .ok (.iload_n 1, 1) := by decide +kernel
theorem d_M_mirror_57 : decode c_M_mirror 57 = .ok (.iconst 1, 1) := by decide +kernel
theorem d_M_mirror_58 : decode c_M_mirror 58 = .ok (.if_icmp .ne 14, 3) := by decide +kernel
theorem d_M_mirror_61 : decode c_M_mirror 61 = .ok (.aload_n 0, 1) := by decide +kernel
theorem d_M_mirror_62 : decode c_M_mirror 62 = .ok (.getfield 25, 3) := by decide +kernel
theorem d_M_mirror_65 : decode c_M_mirror 65 = .ok (.getfield 96, 3) := by decide +kernel
theorem d_M_mirror_68 : decode c_M_mirror 68 = .ok (.i2l, 1) := by decide +kernel
theorem d_M_mirror_69 : decode c_M_mirror 69 = .ok (.goto 11, 3) := by decide +kernel
theorem d_M_mirror_72 : decode c_M_mirror 72 = .ok (.aload_n 0, 1) := by decide +kernel
theorem d_M_mirror_73 : decode c_M_mirror 73 = .ok (.getfield 25, 3) := by decide +kernel
theorem d_M_mirror_76 : decode c_M_mirror 76 = .ok (.getfield 99, 3) := by decide +kernel
theorem d_M_mirror_79 : decode c_M_mirror 79 = .ok (.i2l, 1) := by decide +kernel
theorem d_M_mirror_80 : decode c_M_mirror 80 = .ok (.lreturn, 1) := by decide +kernel
theorem d_M_findMirror_0 : decode c_M_findMirror 0 = .ok (.iconst 1, 1) := by decide +kernel
theorem d_M_findMirror_1 : decode c_M_findMirror 1 = .ok (.aload_n 0, 1) := by decide +kernel
theorem d_M_findMirror_2 : decode c_M_findMirror 2 = .ok (.getfield 43, 3) := by decide +kernel
theorem d_M_findMirror_5 : decode c_M_findMirror 5 = .ok (.invokevirtual 102, 3) := by decide +kernel
theorem d_M_findMirror_8 : decode c_M_findMirror 8 = .ok (.iconst 4, 1) := by decide +kernel
theorem d_M_findMirror_9 : decode c_M_findMirror 9 = .ok (.idiv, 1) := by decide +kernel
theorem d_M_findMirror_10 : decode c_M_findMirror 10 = .ok (.invokestatic 37, 3) := by decide +kernel
theorem d_M_findMirror_13 : decode c_M_findMirror 13 = .ok (.istore_n 1, 1) := by decide +kernel
theorem d_M_findMirror_14 : decode c_M_findMirror 14 = .ok (.aload_n 0, 1) := by decide +kernel
theorem d_M_findMirror_15 : decode c_M_findMirror 15 = .ok (.getfield 25, 3) := by decide +kernel
theorem d_M_findMirror_18 : decode c_M_findMirror 18 = .ok (.invokevirtual 222, 3) := by decide +kernel
theorem d_M_findMirror_21 : decode c_M_findMirror 21 = .ok (.iconst 0, 1) := by decide +kernel
theorem d_M_findMirror_22 : decode c_M_findMirror 22 = .ok (.istore_n 2, 1) := by decide +kernel
theorem d_M_findMirror_23 : decode c_M_findMirror 23 = .ok (.iload_n 2, 1) := by decide +kernel
theorem d_M_findMirror_24 : decode c_M_findMirror 24 = .ok (.aload_n 0, 1) := by decide +kernel
theorem d_M_findMirror_25 : decode c_M_findMirror 25 = .ok (.getfield 43, 3) := by decide +kernel
theorem d_M_findMirror_28 : decode c_M_findMirror 28 = .ok (.invokevirtual 116, 3) := by decide +kernel
theorem d_M_findMirror_31 : decode c_M_findMirror 31 = .ok (.if_icmp .gt 41, 3) := by decide +kernel
theorem d_M_findMirror_34 : decode c_M_findMirror 34 = .ok (.aload_n 0, 1) := by decide +kernel
theorem d_M_findMirror_35 : decode c_M_findMirror 35 = .ok (.getfield 43, 3) := by decide +kernel
theorem d_M_findMirror_38 : decode c_M_findMirror 38 = .ok (.iload_n 2, 1) := by decide +kernel
theorem d_M_findMirror_39 : decode c_M_findMirror 39 = .ok (.invokevirtual 225, 3) := by decide +kernel
theorem d_M_findMirror_42 : decode c_M_findMirror 42 = .ok (.istore_n 3, 1) := by decide +kernel
theorem d_M_findMirror_43 : decode c_M_findMirror 43 = .ok (.iload_n 3, 1) := by decide +kernel
theorem d_M_findMirror_44 : decode c_M_findMirror 44 = .ok (.iload_n 1, 1) := by decide +kernel
theorem d_M_findMirror_45 : decode c_M_findMirror 45 = .ok (.if_icmp .lt 21, 3) := by decide +kernel
theorem d_M_findMirror_48 : decode c_M_findMirror 48 = .ok (.aload_n 0, 1) := by decide +kernel
theorem d_M_findMirror_49 : decode c_M_findMirror 49 = .ok (.getfield 25, 3) := by decide +kernel
theorem d_M_findMirror_52 : decode c_M_findMirror 52 = .ok (.iload_n 2, 1) := by decide +kernel
theorem d_M_findMirror_53 : decode c_M_findMirror 53 = .ok (.iconst (-1), 1) := by decide +kernel
theorem d_M_findMirror_54 : decode c_M_findMirror 54 = .ok (.aload_n 0, 1) := by decide +kernel
theorem d_M_findMirror_55 : decode c_M_findMirror 55 = .ok (.getfield 43, 3) := by decide +kernel
theorem d_M_findMirror_58 : decode c_M_findMirror 58 = .ok (.iload_n 2, 1) := by decide +kernel
theorem d_M_findMirror_59 : decode c_M_findMirror 59 = .ok (.invokevirtual 228, 3) := by decide +kernel
theorem d_M_findMirror_62 : decode c_M_findMirror 62 = .ok (.iload_n 3, 1) := by decide +kernel
theorem d_M_findMirror_63 : decode c_M_findMirror 63 = .ok (.invokevirtual 231, 3) := by decide +kernel
theorem d_M_findMirror_66 : decode c_M_findMirror 66 = .ok (.iinc 2 1, 3) := by decide +kernel
theorem d_M_findMirror_69 : decode c_M_findMirror 69 = .ok (.goto (-46), 3) := by decide +kernel
theorem d_M_findMirror_72 : decode c_M_findMirror 72 = .ok (.return_, 1) := by decide +kernel
theorem d_M_sum_0 : decode c_M_sum 0 = .ok (.iload_n 1, 1) := by decide +kernel
theorem d_M_sum_1 : decode c_M_sum 1 = .ok (.iconst 1, 1) := by decide +kernel
theorem d_M_sum_2 : decode c_M_sum 2 = .ok (.aload_n 0, 1) := by decide +kernel
theorem d_M_sum_3 : decode c_M_sum 3 = .ok (.getfield 43, 3) := by decide +kernel
theorem d_M_sum_6 : decode c_M_sum 6 = .ok (.invokevirtual 102, 3) := by decide +kernel
theorem d_M_sum_9 : decode c_M_sum 9 = .ok (.iconst 1, 1) := by decide +kernel
theorem d_M_sum_10 : decode c_M_sum 10 = .ok (.isub, 1) := by decide +kernel
theorem d_M_sum_11 : decode c_M_sum 11 = .ok (.invokestatic 58, 3) := by decide +kernel
theorem d_M_sum_14 : decode c_M_sum 14 = .ok (.ifCond .ne 13, 3) := by decide +kernel
theorem d_M_sum_17 : decode c_M_sum 17 = .ok (.new 62, 3) := by decide +kernel
theorem d_M_sum_20 : decode c_M_sum 20 = .ok (.dup, 1) := by decide +kernel
theorem d_M_sum_21 : decode c_M_sum 21 = .ok (.ldc 106, 2) := by decide +kernel
theorem d_M_sum_23 : decode c_M_sum 23 = .ok (.invokespecial 66, 3) := by decide +kernel
theorem d_M_sum_26 : decode c_M_sum 26 = .ok (.athrow, 1) := by decide +kernel
theorem d_M_sum_27 : decode c_M_sum 27 = .ok (.aload_n 0, 1) := by decide +kernel
theorem d_M_sum_28 : decode c_M_sum 28 = .ok (.getfield 43, 3) := by decide +kernel
theorem d_M_sum_31 : decode c_M_sum 31 = .ok (.iload_n 1, 1) := by decide +kernel
theorem d_M_sum_32 : decode c_M_sum 32 = .ok (.invokevirtual 108, 3) := by decide +kernel
theorem d_M_sum_35 : decode c_M_sum 35 = .ok (.lreturn, 1) := by decide +kernel
theorem d_M_repeat__0 : decode c_M_repeat_ 0 = .ok (.aload_n 0, 1) := by decide +kernel
theorem d_M_repeat__1 : decode c_M_repeat_ 1 = .ok (.getfield 43, 3) := by decide +kernel
theorem d_M_repeat__4 : decode c_M_repeat_ 4 = .ok (.invokevirtual 102, 3) := by decide +kernel
theorem d_M_repeat__7 : decode c_M_repeat_ 7 = .ok (.iconst 1, 1) := by decide +kernel
theorem d_M_repeat__8 : decode c_M_repeat_ 8 = .ok (.isub, 1) := by decide +kernel
theorem d_M_repeat__9 : decode c_M_repeat_ 9 = .ok (.istore_n 3, 1) := by decide +kernel
theorem d_M_repeat__10 : decode c_M_repeat_ 10 = .ok (.iload_n 1, 1) := by decide +kernel
theorem d_M_repeat__11 : decode c_M_repeat_ 11 = .ok (.iconst 1, 1) := by decide +kernel
theorem d_M_repeat__12 : decode c_M_repeat_ 12 = .ok (.iload_n 3, 1) := by decide +kernel
theorem d_M_repeat__13 : decode c_M_repeat_ 13 = .ok (.invokestatic 58, 3) := by decide +kernel
theorem d_M_repeat__16 : decode c_M_repeat_ 16 = .ok (.ifCond .eq 12, 3) := by decide +kernel
theorem d_M_repeat__19 : decode c_M_repeat_ 19 = .ok (.iload_n 2, 1) := by decide +kernel
theorem d_M_repeat__20 : decode c_M_repeat_ 20 = .ok (.iload_n 1, 1) := by decide +kernel
theorem d_M_repeat__21 : decode c_M_repeat_ 21 = .ok (.iload_n 3, 1) := by decide +kernel
theorem d_M_repeat__22 : decode c_M_repeat_ 22 = .ok (.invokestatic 58, 3) := by decide +kernel
theorem d_M_repeat__25 : decode c_M_repeat_ 25 = .ok (.ifCond .ne 13, 3) := by decide +kernel
theorem d_M_repeat__28 : decode c_M_repeat_ 28 = .ok (.new 62, 3) := by decide +kernel
theorem d_M_repeat__31 : decode c_M_repeat_ 31 = .ok (.dup, 1) := by decide +kernel
theorem d_M_repeat__32 : decode c_M_repeat_ 32 = .ok (.ldc 112, 2) := by decide +kernel
theorem d_M_repeat__34 : decode c_M_repeat_ 34 = .ok (.invokespecial 66, 3) := by decide +kernel
theorem d_M_repeat__37 : decode c_M_repeat_ 37 = .ok (.athrow, 1) := by decide +kernel
theorem d_M_repeat__38 : decode c_M_repeat_ 38 = .ok (.iload_n 1, 1) := by decide +kernel
theorem d_M_repeat__39 : decode c_M_repeat_ 39 = .ok (.istore 4, 2) := by decide +kernel
theorem d_M_repeat__41 : decode c_M_repeat_ 41 = .ok (.aload_n 0, 1) := by decide +kernel
theorem d_M_repeat__42 : decode c_M_repeat_ 42 = .ok (.getfield 43, 3) := by decide +kernel
theorem d_M_repeat__45 : decode c_M_repeat_ 45 = .ok (.iload_n 1, 1) := by decide +kernel
theorem d_M_repeat__46 : decode c_M_repeat_ 46 = .ok (.invokevirtual 108, 3) := by decide +kernel
theorem d_M_repeat__49 : decode c_M_repeat_ 49 = .ok (.lstore 5, 2) := by decide +kernel
theorem d_M_repeat__51 : decode c_M_repeat_ 51 = .ok (.iload_n 1, 1) := by decide +kernel
theorem d_M_repeat__52 : decode c_M_repeat_ 52 = .ok (.iconst 1, 1) := by decide +kernel
theorem d_M_repeat__53 : decode c_M_repeat_ 53 = .ok (.iadd, 1) := by decide +kernel
theorem d_M_repeat__54 : decode c_M_repeat_ 54 = .ok (.istore 7, 2) := by decide +kernel
theorem d_M_repeat__56 : decode c_M_repeat_ 56 = .ok (.iload 7, 2) := by decide +kernel
theorem d_M_repeat__58 : decode c_M_repeat_ 58 = .ok (.iload_n 2, 1) := by decide +kernel
theorem d_M_repeat__59 : decode c_M_repeat_ 59 = .ok (.if_icmp .gt 36, 3) := by decide +kernel
theorem d_M_repeat__62 : decode c_M_repeat_ 62 = .ok (.aload_n 0, 1) := by decide +kernel
theorem d_M_repeat__63 : decode c_M_repeat_ 63 = .ok (.getfield 43, 3) := by decide +kernel
theorem d_M_repeat__66 : decode c_M_repeat_ 66 = .ok (.iload 7, 2) := by decide +kernel
theorem d_M_repeat__68 : decode c_M_repeat_ 68 = .ok (.invokevirtual 108, 3) := by decide +kernel
theorem d_M_repeat__71 : decode c_M_repeat_ 71 = .ok (.lstore 8, 2) := by decide +kernel
theorem d_M_repeat__73 : decode c_M_repeat_ 73 = .ok (.lload 8, 2) := by decide +kernel
theorem d_M_repeat__75 : decode c_M_repeat_ 75 = .ok (.lload 5, 2) := by decide +kernel
theorem d_M_repeat__77 : decode c_M_repeat_ 77 = .ok (.lcmp, 1) := by decide +kernel
theorem d_M_repeat__78 : decode c_M_repeat_ 78 = .ok (.ifCond .le 11, 3) := by decide +kernel
theorem d_M_repeat__81 : decode c_M_repeat_ 81 = .ok (.iload 7, 2) := by decide +kernel
theorem d_M_repeat__83 : decode c_M_repeat_ 83 = .ok (.istore 4, 2) := by decide +kernel
theorem d_M_repeat__85 : decode c_M_repeat_ 85 = .ok (.lload 8, 2) := by decide +kernel
theorem d_M_repeat__87 : decode c_M_repeat_ 87 = .ok (.lstore 5, 2) := by decide +kernel
theorem d_M_repeat__89 : decode c_M_repeat_ 89 = .ok (.iinc 7 1, 3) := by decide +kernel
theorem d_M_repeat__92 : decode c_M_repeat_ 92 = .ok (.goto (-36), 3) := by decide +kernel
theorem d_M_repeat__95 : decode c_M_repeat_ 95 = .ok (.iload 4, 2) := by decide +kernel
theorem d_M_repeat__97 : decode c_M_repeat_ 97 = .ok (.ireturn, 1) := by decide +kernel
theorem d_M_fill_0 : decode c_M_fill 0 = .ok (.iload_n 1, 1) := by decide +kernel
theorem d_M_fill_1 : decode c_M_fill 1 = .ok (.iconst 0, 1) := by decide +kernel
theorem d_M_fill_2 : decode c_M_fill 2 = .ok (.aload_n 0, 1) := by decide +kernel
theorem d_M_fill_3 : decode c_M_fill 3 = .ok (.getfield 43, 3) := by decide +kernel
theorem d_M_fill_6 : decode c_M_fill 6 = .ok (.invokevirtual 102, 3) := by decide +kernel
theorem d_M_fill_9 : decode c_M_fill 9 = .ok (.iconst 1, 1) := by decide +kernel
theorem d_M_fill_10 : decode c_M_fill 10 = .ok (.isub, 1) := by decide +kernel
theorem d_M_fill_11 : decode c_M_fill 11 = .ok (.invokestatic 58, 3) := by decide +kernel
theorem d_M_fill_14 : decode c_M_fill 14 = .ok (.ifCond .ne 13, 3) := by decide +kernel
theorem d_M_fill_17 : decode c_M_fill 17 = .ok (.new 62, 3) := by decide +kernel
theorem d_M_fill_20 : decode c_M_fill 20 = .ok (.dup, 1) := by decide +kernel
theorem d_M_fill_21 : decode c_M_fill 21 = .ok (.ldc 114, 2) := by decide +kernel
theorem d_M_fill_23 : decode c_M_fill 23 = .ok (.invokespecial 66, 3) := by decide +kernel
theorem d_M_fill_26 : decode c_M_fill 26 = .ok (.athrow, 1) := by decide +kernel
theorem d_M_fill_27 : decode c_M_fill 27 = .ok (.iload_n 2, 1) := by decide +kernel
theorem d_M_fill_28 : decode c_M_fill 28 = .ok (.iconst (-1), 1) := by decide +kernel
theorem d_M_fill_29 : decode c_M_fill 29 = .ok (.aload_n 0, 1) := by decide +kernel
theorem d_M_fill_30 : decode c_M_fill 30 = .ok (.getfield 43, 3) := by decide +kernel
theorem d_M_fill_33 : decode c_M_fill 33 = .ok (.invokevirtual 116, 3) := by decide +kernel
theorem d_M_fill_36 : decode c_M_fill 36 = .ok (.invokestatic 58, 3) := by decide +kernel
theorem d_M_fill_39 : decode c_M_fill 39 = .ok (.ifCond .ne 13, 3) := by decide +kernel
theorem d_M_fill_42 : decode c_M_fill 42 = .ok (.new 62, 3) := by decide +kernel
theorem d_M_fill_45 : decode c_M_fill 45 = .ok (.dup, 1) := by decide +kernel
theorem d_M_fill_46 : decode c_M_fill 46 = .ok (.ldc 119, 2) := by decide +kernel
theorem d_M_fill_48 : decode c_M_fill 48 = .ok (.invokespecial 66, 3) := by decide +kernel
theorem d_M_fill_51 : decode c_M_fill 51 = .ok (.athrow, 1) := by decide +kernel
theorem d_M_fill_52 : decode c_M_fill 52 = .ok (.aload_n 0, 1) := by decide +kernel
theorem d_M_fill_53 : decode c_M_fill 53 = .ok (.getfield 43, 3) := by decide +kernel
theorem d_M_fill_56 : decode c_M_fill 56 = .ok (.iload_n 1, 1) := by decide +kernel
theorem d_M_fill_57 : decode c_M_fill 57 = .ok (.iload_n 2, 1) := by decide +kernel
theorem d_M_fill_58 : decode c_M_fill 58 = .ok (.invokevirtual 121, 3) := by decide +kernel
theorem d_M_fill_61 : decode c_M_fill 61 = .ok (.ireturn, 1) := by decide +kernel
theorem d_M_shape_0 : decode c_M_shape 0 = .ok (.iload_n 1, 1) := by decide +kernel
theorem d_M_shape_1 : decode c_M_shape 1 = .ok (.iconst 2, 1) := by decide +kernel
theorem d_M_shape_2 : decode c_M_shape 2 = .ok (.bipush 16, 2) := by decide +kernel
theorem d_M_shape_4 : decode c_M_shape 4 = .ok (.invokestatic 58, 3) := by decide +kernel
theorem d_M_shape_7 : decode c_M_shape 7 = .ok (.ifCond .ne 13, 3) := by decide +kernel
theorem d_M_shape_10 : decode c_M_shape 10 = .ok (.new 62, 3) := by decide +kernel
theorem d_M_shape_13 : decode c_M_shape 13 = .ok (.dup, 1) := by decide +kernel
theorem d_M_shape_14 : decode c_M_shape 14 = .ok (.ldc 127, 2) := by decide +kernel
theorem d_M_shape_16 : decode c_M_shape 16 = .ok (.invokespecial 66, 3) := by decide +kernel
theorem d_M_shape_19 : decode c_M_shape 19 = .ok (.athrow, 1) := by decide +kernel
theorem d_M_shape_20 : decode c_M_shape 20 = .ok (.aload_n 0, 1) := by decide +kernel
theorem d_M_shape_21 : decode c_M_shape 21 = .ok (.getfield 10, 3) := by decide +kernel
theorem d_M_shape_24 : decode c_M_shape 24 = .ok (.invokevirtual 129, 3) := by decide +kernel
theorem d_M_shape_27 : decode c_M_shape 27 = .ok (.bipush 8, 2) := by decide +kernel
theorem d_M_shape_29 : decode c_M_shape 29 = .ok (.if_icmp .lt 13, 3) := by decide +kernel
theorem d_M_shape_32 : decode c_M_shape 32 = .ok (.new 87, 3) := by decide +kernel
theorem d_M_shape_35 : decode c_M_shape 35 = .ok (.dup, 1) := by decide +kernel
theorem d_M_shape_36 : decode c_M_shape 36 = .ok (.ldc 130, 2) := by decide +kernel
theorem d_M_shape_38 : decode c_M_shape 38 = .ok (.invokespecial 91, 3) := by decide +kernel
theorem d_M_shape_41 : decode c_M_shape 41 = .ok (.athrow, 1) := by decide +kernel
theorem d_M_shape_42 : decode c_M_shape 42 = .ok (.aload_n 0, 1) := by decide +kernel
theorem d_M_shape_43 : decode c_M_shape 43 = .ok (.getfield 10, 3) := by decide +kernel
theorem d_M_shape_46 : decode c_M_shape 46 = .ok (.new 132, 3) := by decide +kernel
theorem d_M_shape_49 : decode c_M_shape 49 = .ok (.dup, 1) := by decide +kernel
theorem d_M_shape_50 : decode c_M_shape 50 = .ok (.iload_n 1, 1) := by decide +kernel
theorem d_M_shape_51 : decode c_M_shape 51 = .ok (.invokespecial 134, 3) := by decide +kernel
theorem d_M_shape_54 : decode c_M_shape 54 = .ok (.invokevirtual 135, 3) := by decide +kernel
theorem d_M_shape_57 : decode c_M_shape 57 = .ok (.pop, 1) := by decide +kernel
theorem d_M_shape_58 : decode c_M_shape 58 = .ok (.aload_n 0, 1) := by decide +kernel
theorem d_M_shape_59 : decode c_M_shape 59 = .ok (.getfield 10, 3) := by decide +kernel
theorem d_M_shape_62 : decode c_M_shape 62 = .ok (.invokevirtual 129, 3) := by decide +kernel
theorem d_M_shape_65 : decode c_M_shape 65 = .ok (.iconst 1, 1) := by decide +kernel
theorem d_M_shape_66 : decode c_M_shape 66 = .ok (.isub, 1) := by decide +kernel
theorem d_M_shape_67 : decode c_M_shape 67 = .ok (.ireturn, 1) := by decide +kernel
theorem d_M_carve_0 : decode c_M_carve 0 = .ok (.iload_n 1, 1) := by decide +kernel
theorem d_M_carve_1 : decode c_M_carve 1 = .ok (.iconst 0, 1) := by decide +kernel
theorem d_M_carve_2 : decode c_M_carve 2 = .ok (.aload_n 0, 1) := by decide +kernel
theorem d_M_carve_3 : decode c_M_carve 3 = .ok (.getfield 10, 3) := by decide +kernel
theorem d_M_carve_6 : decode c_M_carve 6 = .ok (.invokevirtual 129, 3) := by decide +kernel
theorem d_M_carve_9 : decode c_M_carve 9 = .ok (.iconst 1, 1) := by decide +kernel
theorem d_M_carve_10 : decode c_M_carve 10 = .ok (.isub, 1) := by decide +kernel
theorem d_M_carve_11 : decode c_M_carve 11 = .ok (.invokestatic 58, 3) := by decide +kernel
theorem d_M_carve_14 : decode c_M_carve 14 = .ok (.ifCond .ne 13, 3) := by decide +kernel
theorem d_M_carve_17 : decode c_M_carve 17 = .ok (.new 51, 3) := by decide +kernel
theorem d_M_carve_20 : decode c_M_carve 20 = .ok (.dup, 1) := by decide +kernel
theorem d_M_carve_21 : decode c_M_carve 21 = .ok (.ldc 139, 2) := by decide +kernel
theorem d_M_carve_23 : decode c_M_carve 23 = .ok (.invokespecial 55, 3) := by decide +kernel
theorem d_M_carve_26 : decode c_M_carve 26 = .ok (.athrow, 1) := by decide +kernel
theorem d_M_carve_27 : decode c_M_carve 27 = .ok (.aload_n 0, 1) := by decide +kernel
theorem d_M_carve_28 : decode c_M_carve 28 = .ok (.getfield 10, 3) := by decide +kernel
theorem d_M_carve_31 : decode c_M_carve 31 = .ok (.iload_n 1, 1) := by decide +kernel
theorem d_M_carve_32 : decode c_M_carve 32 = .ok (.invokevirtual 141, 3) := by decide +kernel
theorem d_M_carve_35 : decode c_M_carve 35 = .ok (.checkcast 132, 3) := by decide +kernel
theorem d_M_carve_38 : decode c_M_carve 38 = .ok (.astore 4, 2) := by decide +kernel
theorem d_M_carve_40 : decode c_M_carve 40 = .ok (.aload 4, 2) := by decide +kernel
theorem d_M_carve_42 : decode c_M_carve 42 = .ok (.iload_n 2, 1) := by decide +kernel
theorem d_M_carve_43 : decode c_M_carve 43 = .ok (.invokevirtual 145, 3) := by decide +kernel
theorem d_M_carve_46 : decode c_M_carve 46 = .ok (.ifCond .ne 13, 3) := by decide +kernel
theorem d_M_carve_49 : decode c_M_carve 49 = .ok (.new 51, 3) := by decide +kernel
theorem d_M_carve_52 : decode c_M_carve 52 = .ok (.dup, 1) := by decide +kernel
theorem d_M_carve_53 : decode c_M_carve 53 = .ok (.ldc 146, 2) := by decide +kernel
theorem d_M_carve_55 : decode c_M_carve 55 = .ok (.invokespecial 55, 3) := by decide +kernel
theorem d_M_carve_58 : decode c_M_carve 58 = .ok (.athrow, 1) := by decide +kernel
theorem d_M_carve_59 : decode c_M_carve 59 = .ok (.iload_n 3, 1) := by decide +kernel
theorem d_M_carve_60 : decode c_M_carve 60 = .ok (.iconst 0, 1) := by decide +kernel
theorem d_M_carve_61 : decode c_M_carve 61 = .ok (.sipush 255, 3) := by decide +kernel
theorem d_M_carve_64 : decode c_M_carve 64 = .ok (.invokestatic 58, 3) := by decide +kernel
theorem d_M_carve_67 : decode c_M_carve 67 = .ok (.ifCond .ne 13, 3) := by decide +kernel
theorem d_M_carve_70 : decode c_M_carve 70 = .ok (.new 62, 3) := by decide +kernel
theorem d_M_carve_73 : decode c_M_carve 73 = .ok (.dup, 1) := by decide +kernel
theorem d_M_carve_74 : decode c_M_carve 74 = .ok (.ldc 148, 2) := by decide +kernel
theorem d_M_carve_76 : decode c_M_carve 76 = .ok (.invokespecial 66, 3) := by decide +kernel
theorem d_M_carve_79 : decode c_M_carve 79 = .ok (.athrow, 1) := by decide +kernel
theorem d_M_carve_80 : decode c_M_carve 80 = .ok (.aload 4, 2) := by decide +kernel
theorem d_M_carve_82 : decode c_M_carve 82 = .ok (.iload_n 2, 1) := by decide +kernel
theorem d_M_carve_83 : decode c_M_carve 83 = .ok (.iload_n 3, 1) := by decide +kernel
theorem d_M_carve_84 : decode c_M_carve 84 = .ok (.invokevirtual 150, 3) := by decide +kernel
theorem d_M_carve_87 : decode c_M_carve 87 = .ok (.return_, 1) := by decide +kernel
theorem d_M_match__0 : decode c_M_match_ 0 = .ok (.aload_n 0, 1) := by decide +kernel
theorem d_M_match__1 : decode c_M_match_ 1 = .ok (.invokevirtual 151, 3) := by decide +kernel
theorem d_M_match__4 : decode c_M_match_ 4 = .ok (.aload_n 0, 1) := by decide +kernel
theorem d_M_match__5 : decode c_M_match_ 5 = .ok (.getfield 25, 3) := by decide +kernel
theorem d_M_match__8 : decode c_M_match_ 8 = .ok (.getfield 83, 3) := by decide +kernel
theorem d_M_match__11 : decode c_M_match_ 11 = .ok (.ifCond .ne 13, 3) := by decide +kernel
theorem d_M_match__14 : decode c_M_match_ 14 = .ok (.new 87, 3) := by decide +kernel
theorem d_M_match__17 : decode c_M_match_ 17 = .ok (.dup, 1) := by decide +kernel
theorem d_M_match__18 : decode c_M_match_ 18 = .ok (.ldc 154, 2) := by decide +kernel
theorem d_M_match__20 : decode c_M_match_ 20 = .ok (.invokespecial 91, 3) := by decide +kernel
theorem d_M_match__23 : decode c_M_match_ 23 = .ok (.athrow, 1) := by decide +kernel
theorem d_M_match__24 : decode c_M_match_ 24 = .ok (.iload_n 1, 1) := by decide +kernel
theorem d_M_match__25 : decode c_M_match_ 25 = .ok (.tableswitch 63 0 3 #[31, 39, 47, 55], 31) := by decide +kernel
theorem d_M_match__56 : decode c_M_match_ 56 = .ok (.aload_n 0, 1) := by decide +kernel
theorem d_M_match__57 : decode c_M_match_ 57 = .ok (.getfield 25, 3) := by decide +kernel
theorem d_M_match__60 : decode c_M_match_ 60 = .ok (.getfield 92, 3) := by decide +kernel
theorem d_M_match__63 : decode c_M_match_ 63 = .ok (.ireturn, 1) := by decide +kernel
theorem d_M_match__64 : decode c_M_match_ 64 = .ok (.aload_n 0, 1) := by decide +kernel
theorem d_M_match__65 : decode c_M_match_ 65 = .ok (.getfield 25, 3) := by decide +kernel
theorem d_M_match__68 : decode c_M_match_ 68 = .ok (.getfield 156, 3) := by decide +kernel
theorem d_M_match__71 : decode c_M_match_ 71 = .ok (.ireturn, 1) := by decide +kernel
theorem d_M_match__72 : decode c_M_match_ 72 = .ok (.aload_n 0, 1) := by decide +kernel
theorem d_M_match__73 : decode c_M_match_ 73 = .ok (.getfield 25, 3) := by decide +kernel
theorem d_M_match__76 : decode c_M_match_ 76 = .ok (.getfield 96, 3) := by decide +kernel
theorem d_M_match__79 : decode c_M_match_ 79 = .ok (.ireturn, 1) := by decide +kernel
theorem d_M_match__80 : decode c_M_match_ 80 = .ok (.aload_n 0, 1) := by decide +kernel
theorem d_M_match__81 : decode c_M_match_ 81 = .ok (.getfield 25, 3) := by decide +kernel
theorem d_M_match__84 : decode c_M_match_ 84 = .ok (.getfield 99, 3) := by decide +kernel
theorem d_M_match__87 : decode c_M_match_ 87 = .ok (.ireturn, 1) := by decide +kernel
theorem d_M_match__88 : decode c_M_match_ 88 = .ok (.new 51, 3) := by decide +kernel
theorem d_M_match__91 : decode c_M_match_ 91 = .ok (.dup, 1) := by decide +kernel
theorem d_M_match__92 : decode c_M_match_ 92 = .ok (.ldc 71, 2) := by decide +kernel
theorem d_M_match__94 : decode c_M_match_ 94 = .ok (.invokespecial 55, 3) := by decide +kernel
theorem d_M_match__97 : decode c_M_match_ 97 = .ok (.athrow, 1) := by decide +kernel
theorem d_M_findMatch_0 : decode c_M_findMatch 0 = .ok (.aload_n 0, 1) := by decide +kernel
theorem d_M_findMatch_1 : decode c_M_findMatch 1 = .ok (.getfield 25, 3) := by decide +kernel
theorem d_M_findMatch_4 : decode c_M_findMatch 4 = .ok (.invokevirtual 222, 3) := by decide +kernel
theorem d_M_findMatch_7 : decode c_M_findMatch 7 = .ok (.iconst 0, 1) := by decide +kernel
theorem d_M_findMatch_8 : decode c_M_findMatch 8 = .ok (.istore_n 1, 1) := by decide +kernel
theorem d_M_findMatch_9 : decode c_M_findMatch 9 = .ok (.iload_n 1, 1) := by decide +kernel
theorem d_M_findMatch_10 : decode c_M_findMatch 10 = .ok (.aload_n 0, 1) := by decide +kernel
theorem d_M_findMatch_11 : decode c_M_findMatch 11 = .ok (.getfield 10, 3) := by decide +kernel
theorem d_M_findMatch_14 : decode c_M_findMatch 14 = .ok (.invokevirtual 129, 3) := by decide +kernel
theorem d_M_findMatch_17 : decode c_M_findMatch 17 = .ok (.if_icmp .ge 80, 3) := by decide +kernel
theorem d_M_findMatch_20 : decode c_M_findMatch 20 = .ok (.aload_n 0, 1) := by decide +kernel
theorem d_M_findMatch_21 : decode c_M_findMatch 21 = .ok (.getfield 10, 3) := by decide +kernel
theorem d_M_findMatch_24 : decode c_M_findMatch 24 = .ok (.iload_n 1, 1) := by decide +kernel
theorem d_M_findMatch_25 : decode c_M_findMatch 25 = .ok (.invokevirtual 141, 3) := by decide +kernel
theorem d_M_findMatch_28 : decode c_M_findMatch 28 = .ok (.checkcast 132, 3) := by decide +kernel
theorem d_M_findMatch_31 : decode c_M_findMatch 31 = .ok (.astore_n 2, 1) := by decide +kernel
theorem d_M_findMatch_32 : decode c_M_findMatch 32 = .ok (.iconst 0, 1) := by decide +kernel
theorem d_M_findMatch_33 : decode c_M_findMatch 33 = .ok (.istore_n 3, 1) := by decide +kernel
theorem d_M_findMatch_34 : decode c_M_findMatch 34 = .ok (.iload_n 3, 1) := by decide +kernel
theorem d_M_findMatch_35 : decode c_M_findMatch 35 = .ok (.aload_n 0, 1) := by decide +kernel
theorem d_M_findMatch_36 : decode c_M_findMatch 36 = .ok (.getfield 43, 3) := by decide +kernel
theorem d_M_findMatch_39 : decode c_M_findMatch 39 = .ok (.invokevirtual 102, 3) := by decide +kernel
theorem d_M_findMatch_42 : decode c_M_findMatch 42 = .ok (.if_icmp .ge 49, 3) := by decide +kernel
theorem d_M_findMatch_45 : decode c_M_findMatch 45 = .ok (.aload_n 2, 1) := by decide +kernel
theorem d_M_findMatch_46 : decode c_M_findMatch 46 = .ok (.aload_n 0, 1) := by decide +kernel
theorem d_M_findMatch_47 : decode c_M_findMatch 47 = .ok (.getfield 43, 3) := by decide +kernel
theorem d_M_findMatch_50 : decode c_M_findMatch 50 = .ok (.iload_n 3, 1) := by decide +kernel
theorem d_M_findMatch_51 : decode c_M_findMatch 51 = .ok (.invokevirtual 234, 3) := by decide +kernel
theorem d_M_findMatch_54 : decode c_M_findMatch 54 = .ok (.istore 4, 2) := by decide +kernel
theorem d_M_findMatch_56 : decode c_M_findMatch 56 = .ok (.iload 4, 2) := by decide +kernel
theorem d_M_findMatch_58 : decode c_M_findMatch 58 = .ok (.aload_n 2, 1) := by decide +kernel
theorem d_M_findMatch_59 : decode c_M_findMatch 59 = .ok (.invokevirtual 238, 3) := by decide +kernel
theorem d_M_findMatch_62 : decode c_M_findMatch 62 = .ok (.if_icmp .lt 23, 3) := by decide +kernel
theorem d_M_findMatch_65 : decode c_M_findMatch 65 = .ok (.aload_n 0, 1) := by decide +kernel
theorem d_M_findMatch_66 : decode c_M_findMatch 66 = .ok (.getfield 25, 3) := by decide +kernel
theorem d_M_findMatch_69 : decode c_M_findMatch 69 = .ok (.iload_n 1, 1) := by decide +kernel
theorem d_M_findMatch_70 : decode c_M_findMatch 70 = .ok (.iload_n 3, 1) := by decide +kernel
theorem d_M_findMatch_71 : decode c_M_findMatch 71 = .ok (.aload_n 2, 1) := by decide +kernel
theorem d_M_findMatch_72 : decode c_M_findMatch 72 = .ok (.aload_n 0, 1) := by decide +kernel
theorem d_M_findMatch_73 : decode c_M_findMatch 73 = .ok (.getfield 43, 3) := by decide +kernel
theorem d_M_findMatch_76 : decode c_M_findMatch 76 = .ok (.iload_n 3, 1) := by decide +kernel
theorem d_M_findMatch_77 : decode c_M_findMatch 77 = .ok (.invokevirtual 241, 3) := by decide +kernel
theorem d_M_findMatch_80 : decode c_M_findMatch 80 = .ok (.iload 4, 2) := by decide +kernel
theorem d_M_findMatch_82 : decode c_M_findMatch 82 = .ok (.invokevirtual 231, 3) := by decide +kernel
theorem d_M_findMatch_85 : decode c_M_findMatch 85 = .ok (.iinc 3 1, 3) := by decide +kernel
theorem d_M_findMatch_88 : decode c_M_findMatch 88 = .ok (.goto (-54), 3) := by decide +kernel
theorem d_M_findMatch_91 : decode c_M_findMatch 91 = .ok (.iinc 1 1, 3) := by decide +kernel
theorem d_M_findMatch_94 : decode c_M_findMatch 94 = .ok (.goto (-85), 3) := by decide +kernel
theorem d_M_findMatch_97 : decode c_M_findMatch 97 = .ok (.return_, 1) := by decide +kernel
theorem d_M_kind_0 : decode c_M_kind 0 = .ok (.iload_n 1, 1) := by decide +kernel
theorem d_M_kind_1 : decode c_M_kind 1 = .ok (.iconst 0, 1) := by decide +kernel
theorem d_M_kind_2 : decode c_M_kind 2 = .ok (.sipush 1000, 3) := by decide +kernel
theorem d_M_kind_5 : decode c_M_kind 5 = .ok (.invokestatic 58, 3) := by decide +kernel
theorem d_M_kind_8 : decode c_M_kind 8 = .ok (.ifCond .ne 13, 3) := by decide +kernel
theorem d_M_kind_11 : decode c_M_kind 11 = .ok (.new 62, 3) := by decide +kernel
theorem d_M_kind_14 : decode c_M_kind 14 = .ok (.dup, 1) := by decide +kernel
theorem d_M_kind_15 : decode c_M_kind 15 = .ok (.ldc 159, 2) := by decide +kernel
theorem d_M_kind_17 : decode c_M_kind 17 = .ok (.invokespecial 66, 3) := by decide +kernel
theorem d_M_kind_20 : decode c_M_kind 20 = .ok (.athrow, 1) := by decide +kernel
theorem d_M_kind_21 : decode c_M_kind 21 = .ok (.aload_n 0, 1) := by decide +kernel
theorem d_M_kind_22 : decode c_M_kind 22 = .ok (.getfield 16, 3) := by decide +kernel
theorem d_M_kind_25 : decode c_M_kind 25 = .ok (.invokevirtual 129, 3) := by decide +kernel
theorem d_M_kind_28 : decode c_M_kind 28 = .ok (.bipush 16, 2) := by decide +kernel
theorem d_M_kind_30 : decode c_M_kind 30 = .ok (.if_icmp .lt 13, 3) := by decide +kernel
theorem d_M_kind_33 : decode c_M_kind 33 = .ok (.new 87, 3) := by decide +kernel
theorem d_M_kind_36 : decode c_M_kind 36 = .ok (.dup, 1) := by decide +kernel
theorem d_M_kind_37 : decode c_M_kind 37 = .ok (.ldc 161, 2) := by decide +kernel
theorem d_M_kind_39 : decode c_M_kind 39 = .ok (.invokespecial 91, 3) := by decide +kernel
theorem d_M_kind_42 : decode c_M_kind 42 = .ok (.athrow, 1) := by decide +kernel
theorem d_M_kind_43 : decode c_M_kind 43 = .ok (.aload_n 0, 1) := by decide +kernel
theorem d_M_kind_44 : decode c_M_kind 44 = .ok (.getfield 16, 3) := by decide +kernel
theorem d_M_kind_47 : decode c_M_kind 47 = .ok (.new 163, 3) := by decide +kernel
theorem d_M_kind_50 : decode c_M_kind 50 = .ok (.dup, 1) := by decide +kernel
theorem d_M_kind_51 : decode c_M_kind 51 = .ok (.iconst (-1), 1) := by decide +kernel
theorem d_M_kind_52 : decode c_M_kind 52 = .ok (.iload_n 1, 1) := by decide +kernel
theorem d_M_kind_53 : decode c_M_kind 53 = .ok (.iconst (-1), 1) := by decide +kernel
theorem d_M_kind_54 : decode c_M_kind 54 = .ok (.iconst (-1), 1) := by decide +kernel
theorem d_M_kind_55 : decode c_M_kind 55 = .ok (.invokespecial 165, 3) := by decide +kernel
theorem d_M_kind_58 : decode c_M_kind 58 = .ok (.invokevirtual 135, 3) := by decide +kernel
theorem d_M_kind_61 : decode c_M_kind 61 = .ok (.pop, 1) := by decide +kernel
theorem d_M_kind_62 : decode c_M_kind 62 = .ok (.aload_n 0, 1) := by decide +kernel
theorem d_M_kind_63 : decode c_M_kind 63 = .ok (.getfield 16, 3) := by decide +kernel
theorem d_M_kind_66 : decode c_M_kind 66 = .ok (.invokevirtual 129, 3) := by decide +kernel
theorem d_M_kind_69 : decode c_M_kind 69 = .ok (.iconst 1, 1) := by decide +kernel
theorem d_M_kind_70 : decode c_M_kind 70 = .ok (.isub, 1) := by decide +kernel
theorem d_M_kind_71 : decode c_M_kind 71 = .ok (.ireturn, 1) := by decide +kernel
theorem d_M_question_0 : decode c_M_question 0 = .ok (.aload_n 0, 1) := by decide +kernel
theorem d_M_question_1 : decode c_M_question 1 = .ok (.getfield 16, 3) := by decide +kernel
theorem d_M_question_4 : decode c_M_question 4 = .ok (.invokevirtual 129, 3) := by decide +kernel
theorem d_M_question_7 : decode c_M_question 7 = .ok (.iconst 1, 1) := by decide +kernel
theorem d_M_question_8 : decode c_M_question 8 = .ok (.isub, 1) := by decide +kernel
theorem d_M_question_9 : decode c_M_question 9 = .ok (.istore 4, 2) := by decide +kernel
theorem d_M_question_11 : decode c_M_question 11 = .ok (.iload_n 2, 1) := by decide +kernel
theorem d_M_question_12 : decode c_M_question 12 = .ok (.iconst 0, 1) := by decide +kernel
theorem d_M_question_13 : decode c_M_question 13 = .ok (.iload 4, 2) := by decide +kernel
theorem d_M_question_15 : decode c_M_question 15 = .ok (.invokestatic 58, 3) := by decide +kernel
theorem d_M_question_18 : decode c_M_question 18 = .ok (.ifCond .eq 13, 3) := by decide +kernel
theorem d_M_question_21 : decode c_M_question 21 = .ok (.iload_n 3, 1) := by decide +kernel
theorem d_M_question_22 : decode c_M_question 22 = .ok (.iconst 0, 1) := by decide +kernel
theorem d_M_question_23 : decode c_M_question 23 = .ok (.iload 4, 2) := by decide +kernel
theorem d_M_question_25 : decode c_M_question 25 = .ok (.invokestatic 58, 3) := by decide +kernel
theorem d_M_question_28 : decode c_M_question 28 = .ok (.ifCond .ne 13, 3) := by decide +kernel
theorem d_M_question_31 : decode c_M_question 31 = .ok (.new 51, 3) := by decide +kernel
theorem d_M_question_34 : decode c_M_question 34 = .ok (.dup, 1) := by decide +kernel
theorem d_M_question_35 : decode c_M_question 35 = .ok (.ldc 168, 2) := by decide +kernel
theorem d_M_question_37 : decode c_M_question 37 = .ok (.invokespecial 55, 3) := by decide +kernel
theorem d_M_question_40 : decode c_M_question 40 = .ok (.athrow, 1) := by decide +kernel
theorem d_M_question_41 : decode c_M_question 41 = .ok (.iload_n 1, 1) := by decide +kernel
theorem d_M_question_42 : decode c_M_question 42 = .ok (.iconst 0, 1) := by decide +kernel
theorem d_M_question_43 : decode c_M_question 43 = .ok (.bipush 15, 2) := by decide +kernel
theorem d_M_question_45 : decode c_M_question 45 = .ok (.invokestatic 58, 3) := by decide +kernel
theorem d_M_question_48 : decode c_M_question 48 = .ok (.ifCond .ne 13, 3) := by decide +kernel
theorem d_M_question_51 : decode c_M_question 51 = .ok (.new 62, 3) := by decide +kernel
theorem d_M_question_54 : decode c_M_question 54 = .ok (.dup, 1) := by decide +kernel
theorem d_M_question_55 : decode c_M_question 55 = .ok (.ldc 170, 2) := by decide +kernel
theorem d_M_question_57 : decode c_M_question 57 = .ok (.invokespecial 66, 3) := by decide +kernel
theorem d_M_question_60 : decode c_M_question 60 = .ok (.athrow, 1) := by decide +kernel
theorem d_M_question_61 : decode c_M_question 61 = .ok (.aload_n 0, 1) := by decide +kernel
theorem d_M_question_62 : decode c_M_question 62 = .ok (.getfield 16, 3) := by decide +kernel
theorem d_M_question_65 : decode c_M_question 65 = .ok (.invokevirtual 129, 3) := by decide +kernel
theorem d_M_question_68 : decode c_M_question 68 = .ok (.bipush 16, 2) := by decide +kernel
theorem d_M_question_70 : decode c_M_question 70 = .ok (.if_icmp .lt 13, 3) := by decide +kernel
theorem d_M_question_73 : decode c_M_question 73 = .ok (.new 87, 3) := by decide +kernel
theorem d_M_question_76 : decode c_M_question 76 = .ok (.dup, 1) := by decide +kernel
theorem d_M_question_77 : decode c_M_question 77 = .ok (.ldc 161, 2) := by decide +kernel
theorem d_M_question_79 : decode c_M_question 79 = .ok (.invokespecial 91, 3) := by decide +kernel
theorem d_M_question_82 : decode c_M_question 82 = .ok (.athrow, 1) := by decide +kernel
theorem d_M_question_83 : decode c_M_question 83 = .ok (.aload_n 0, 1) := by decide +kernel
theorem d_M_question_84 : decode c_M_question 84 = .ok (.getfield 16, 3) := by decide +kernel
theorem d_M_question_87 : decode c_M_question 87 = .ok (.new 163, 3) := by decide +kernel
theorem d_M_question_90 : decode c_M_question 90 = .ok (.dup, 1) := by decide +kernel
theorem d_M_question_91 : decode c_M_question 91 = .ok (.iload_n 1, 1) := by decide +kernel
theorem d_M_question_92 : decode c_M_question 92 = .ok (.iconst (-1), 1) := by decide +kernel
theorem d_M_question_93 : decode c_M_question 93 = .ok (.iload_n 2, 1) := by decide +kernel
theorem d_M_question_94 : decode c_M_question 94 = .ok (.iload_n 3, 1) := by decide +kernel
theorem d_M_question_95 : decode c_M_question 95 = .ok (.invokespecial 165, 3) := by decide +kernel
theorem d_M_question_98 : decode c_M_question 98 = .ok (.invokevirtual 135, 3) := by decide +kernel
theorem d_M_question_101 : decode c_M_question 101 = .ok (.pop, 1) := by decide +kernel
theorem d_M_question_102 : decode c_M_question 102 = .ok (.aload_n 0, 1) := by decide +kernel
theorem d_M_question_103 : decode c_M_question 103 = .ok (.getfield 16, 3) := by decide +kernel
theorem d_M_question_106 : decode c_M_question 106 = .ok (.invokevirtual 129, 3) := by decide +kernel
theorem d_M_question_109 : decode c_M_question 109 = .ok (.iconst 1, 1) := by decide +kernel
theorem d_M_question_110 : decode c_M_question 110 = .ok (.isub, 1) := by decide +kernel
theorem d_M_question_111 : decode c_M_question 111 = .ok (.ireturn, 1) := by decide +kernel
theorem d_M_ask_0 : decode c_M_ask 0 = .ok (.iload_n 1, 1) := by decide +kernel
theorem d_M_ask_1 : decode c_M_ask 1 = .ok (.iconst 0, 1) := by decide +kernel
theorem d_M_ask_2 : decode c_M_ask 2 = .ok (.ldc 172, 2) := by decide +kernel
theorem d_M_ask_4 : decode c_M_ask 4 = .ok (.invokestatic 58, 3) := by decide +kernel
theorem d_M_ask_7 : decode c_M_ask 7 = .ok (.ifCond .eq 13, 3) := by decide +kernel
theorem d_M_ask_10 : decode c_M_ask 10 = .ok (.iload_n 2, 1) := by decide +kernel
theorem d_M_ask_11 : decode c_M_ask 11 = .ok (.iconst 0, 1) := by decide +kernel
theorem d_M_ask_12 : decode c_M_ask 12 = .ok (.ldc 172, 2) := by decide +kernel
theorem d_M_ask_14 : decode c_M_ask 14 = .ok (.invokestatic 58, 3) := by decide +kernel
theorem d_M_ask_17 : decode c_M_ask 17 = .ok (.ifCond .ne 13, 3) := by decide +kernel
theorem d_M_ask_20 : decode c_M_ask 20 = .ok (.new 62, 3) := by decide +kernel
theorem d_M_ask_23 : decode c_M_ask 23 = .ok (.dup, 1) := by decide +kernel
theorem d_M_ask_24 : decode c_M_ask 24 = .ok (.ldc 173, 2) := by decide +kernel
theorem d_M_ask_26 : decode c_M_ask 26 = .ok (.invokespecial 66, 3) := by decide +kernel
theorem d_M_ask_29 : decode c_M_ask 29 = .ok (.athrow, 1) := by decide +kernel
theorem d_M_ask_30 : decode c_M_ask 30 = .ok (.aload_n 0, 1) := by decide +kernel
theorem d_M_ask_31 : decode c_M_ask 31 = .ok (.getfield 16, 3) := by decide +kernel
theorem d_M_ask_34 : decode c_M_ask 34 = .ok (.invokevirtual 175, 3) := by decide +kernel
theorem d_M_ask_37 : decode c_M_ask 37 = .ok (.ifCond .eq 13, 3) := by decide +kernel
theorem d_M_ask_40 : decode c_M_ask 40 = .ok (.new 87, 3) := by decide +kernel
theorem d_M_ask_43 : decode c_M_ask 43 = .ok (.dup, 1) := by decide +kernel
theorem d_M_ask_44 : decode c_M_ask 44 = .ok (.ldc 179, 2) := by decide +kernel
theorem d_M_ask_46 : decode c_M_ask 46 = .ok (.invokespecial 91, 3) := by decide +kernel
theorem d_M_ask_49 : decode c_M_ask 49 = .ok (.athrow, 1) := by decide +kernel
theorem d_M_ask_50 : decode c_M_ask 50 = .ok (.aload_n 0, 1) := by decide +kernel
theorem d_M_ask_51 : decode c_M_ask 51 = .ok (.getfield 16, 3) := by decide +kernel
theorem d_M_ask_54 : decode c_M_ask 54 = .ok (.aload_n 0, 1) := by decide +kernel
theorem d_M_ask_55 : decode c_M_ask 55 = .ok (.iload_n 1, 1) := by decide +kernel
theorem d_M_ask_56 : decode c_M_ask 56 = .ok (.iload_n 2, 1) := by decide +kernel
theorem d_M_ask_57 : decode c_M_ask 57 = .ok (.invokevirtual 181, 3) := by decide +kernel
theorem d_M_ask_60 : decode c_M_ask 60 = .ok (.invokevirtual 141, 3) := by decide +kernel
theorem d_M_ask_63 : decode c_M_ask 63 = .ok (.checkcast 163, 3) := by decide +kernel
theorem d_M_ask_66 : decode c_M_ask 66 = .ok (.astore_n 3, 1) := by decide +kernel
theorem d_M_ask_67 : decode c_M_ask 67 = .ok (.aload_n 3, 1) := by decide +kernel
theorem d_M_ask_68 : decode c_M_ask 68 = .ok (.invokevirtual 184, 3) := by decide +kernel
theorem d_M_ask_71 : decode c_M_ask 71 = .ok (.ifCond .eq 13, 3) := by decide +kernel
theorem d_M_ask_74 : decode c_M_ask 74 = .ok (.bipush (-2), 2) := by decide +kernel
theorem d_M_ask_76 : decode c_M_ask 76 = .ok (.aload_n 3, 1) := by decide +kernel
theorem d_M_ask_77 : decode c_M_ask 77 = .ok (.getfield 187, 3) := by decide +kernel
theorem d_M_ask_80 : decode c_M_ask 80 = .ok (.isub, 1) := by decide +kernel
theorem d_M_ask_81 : decode c_M_ask 81 = .ok (.goto 7, 3) := by decide +kernel
theorem d_M_ask_84 : decode c_M_ask 84 = .ok (.aload_n 3, 1) := by decide +kernel
theorem d_M_ask_85 : decode c_M_ask 85 = .ok (.getfield 190, 3) := by decide +kernel
theorem d_M_ask_88 : decode c_M_ask 88 = .ok (.ireturn, 1) := by decide +kernel
theorem d_M_lastAsked_0 : decode c_M_lastAsked 0 = .ok (.aload_n 0, 1) := by decide +kernel
theorem d_M_lastAsked_1 : decode c_M_lastAsked 1 = .ok (.getfield 16, 3) := by decide +kernel
theorem d_M_lastAsked_4 : decode c_M_lastAsked 4 = .ok (.invokevirtual 129, 3) := by decide +kernel
theorem d_M_lastAsked_7 : decode c_M_lastAsked 7 = .ok (.iconst 1, 1) := by decide +kernel
theorem d_M_lastAsked_8 : decode c_M_lastAsked 8 = .ok (.isub, 1) := by decide +kernel
theorem d_M_lastAsked_9 : decode c_M_lastAsked 9 = .ok (.istore_n 3, 1) := by decide +kernel
theorem d_M_lastAsked_10 : decode c_M_lastAsked 10 = .ok (.iconst 0, 1) := by decide +kernel
theorem d_M_lastAsked_11 : decode c_M_lastAsked 11 = .ok (.istore 4, 2) := by decide +kernel
theorem d_M_lastAsked_13 : decode c_M_lastAsked 13 = .ok (.iload 4, 2) := by decide +kernel
theorem d_M_lastAsked_15 : decode c_M_lastAsked 15 = .ok (.bipush 16, 2) := by decide +kernel
theorem d_M_lastAsked_17 : decode c_M_lastAsked 17 = .ok (.if_icmp .ge 43, 3) := by decide +kernel
theorem d_M_lastAsked_20 : decode c_M_lastAsked 20 = .ok (.aload_n 0, 1) := by decide +kernel
theorem d_M_lastAsked_21 : decode c_M_lastAsked 21 = .ok (.getfield 16, 3) := by decide +kernel
theorem d_M_lastAsked_24 : decode c_M_lastAsked 24 = .ok (.iload_n 3, 1) := by decide +kernel
theorem d_M_lastAsked_25 : decode c_M_lastAsked 25 = .ok (.invokevirtual 141, 3) := by decide +kernel
theorem d_M_lastAsked_28 : decode c_M_lastAsked 28 = .ok (.checkcast 163, 3) := by decide +kernel
theorem d_M_lastAsked_31 : decode c_M_lastAsked 31 = .ok (.iload_n 2, 1) := by decide +kernel
theorem d_M_lastAsked_32 : decode c_M_lastAsked 32 = .ok (.invokevirtual 244, 3) := by decide +kernel
theorem d_M_lastAsked_35 : decode c_M_lastAsked 35 = .ok (.ifCond .eq 25, 3) := by decide +kernel
theorem d_M_lastAsked_38 : decode c_M_lastAsked 38 = .ok (.aload_n 0, 1) := by decide +kernel
theorem d_M_lastAsked_39 : decode c_M_lastAsked 39 = .ok (.getfield 16, 3) := by decide +kernel
theorem d_M_lastAsked_42 : decode c_M_lastAsked 42 = .ok (.iload_n 3, 1) := by decide +kernel
theorem d_M_lastAsked_43 : decode c_M_lastAsked 43 = .ok (.invokevirtual 141, 3) := by decide +kernel
theorem d_M_lastAsked_46 : decode c_M_lastAsked 46 = .ok (.checkcast 163, 3) := by decide +kernel
theorem d_M_lastAsked_49 : decode c_M_lastAsked 49 = .ok (.iload_n 1, 1) := by decide +kernel
theorem d_M_lastAsked_50 : decode c_M_lastAsked 50 = .ok (.invokevirtual 247, 3) := by decide +kernel
theorem d_M_lastAsked_53 : decode c_M_lastAsked 53 = .ok (.istore_n 3, 1) := by decide +kernel
theorem d_M_lastAsked_54 : decode c_M_lastAsked 54 = .ok (.iinc 4 1, 3) := by decide +kernel
theorem d_M_lastAsked_57 : decode c_M_lastAsked 57 = .ok (.goto (-44), 3) := by decide +kernel
theorem d_M_lastAsked_60 : decode c_M_lastAsked 60 = .ok (.iload_n 3, 1) := by decide +kernel
theorem d_M_lastAsked_61 : decode c_M_lastAsked 61 = .ok (.ireturn, 1) := by decide +kernel
theorem d_M_rule_0 : decode c_M_rule 0 = .ok (.aload_n 0, 1) := by decide +kernel
theorem d_M_rule_1 : decode c_M_rule 1 = .ok (.getfield 43, 3) := by decide +kernel
theorem d_M_rule_4 : decode c_M_rule 4 = .ok (.iload_n 1, 1) := by decide +kernel
theorem d_M_rule_5 : decode c_M_rule 5 = .ok (.invokevirtual 47, 3) := by decide +kernel
theorem d_M_rule_8 : decode c_M_rule 8 = .ok (.ifCond .eq 14, 3) := by decide +kernel
theorem d_M_rule_11 : decode c_M_rule 11 = .ok (.aload_n 0, 1) := by decide +kernel
theorem d_M_rule_12 : decode c_M_rule 12 = .ok (.getfield 43, 3) := by decide +kernel
theorem d_M_rule_15 : decode c_M_rule 15 = .ok (.iload_n 2, 1) := by decide +kernel
theorem d_M_rule_16 : decode c_M_rule 16 = .ok (.invokevirtual 47, 3) := by decide +kernel
theorem d_M_rule_19 : decode c_M_rule 19 = .ok (.ifCond .ne 13, 3) := by decide +kernel
theorem d_M_rule_22 : decode c_M_rule 22 = .ok (.new 51, 3) := by decide +kernel
theorem d_M_rule_25 : decode c_M_rule 25 = .ok (.dup, 1) := by decide +kernel
theorem d_M_rule_26 : decode c_M_rule 26 = .ok (.ldc 193, 2) := by decide +kernel
theorem d_M_rule_28 : decode c_M_rule 28 = .ok (.invokespecial 55, 3) := by decide +kernel
theorem d_M_rule_31 : decode c_M_rule 31 = .ok (.athrow, 1) := by decide +kernel
theorem d_M_rule_32 : decode c_M_rule 32 = .ok (.iload_n 2, 1) := by decide +kernel
theorem d_M_rule_33 : decode c_M_rule 33 = .ok (.iload_n 1, 1) := by decide +kernel
theorem d_M_rule_34 : decode c_M_rule 34 = .ok (.if_icmp .ge 13, 3) := by decide +kernel
theorem d_M_rule_37 : decode c_M_rule 37 = .ok (.new 62, 3) := by decide +kernel
theorem d_M_rule_40 : decode c_M_rule 40 = .ok (.dup, 1) := by decide +kernel
theorem d_M_rule_41 : decode c_M_rule 41 = .ok (.ldc 195, 2) := by decide +kernel
theorem d_M_rule_43 : decode c_M_rule 43 = .ok (.invokespecial 66, 3) := by decide +kernel
theorem d_M_rule_46 : decode c_M_rule 46 = .ok (.athrow, 1) := by decide +kernel
theorem d_M_rule_47 : decode c_M_rule 47 = .ok (.iload_n 3, 1) := by decide +kernel
theorem d_M_rule_48 : decode c_M_rule 48 = .ok (.iconst 0, 1) := by decide +kernel
theorem d_M_rule_49 : decode c_M_rule 49 = .ok (.sipush 255, 3) := by decide +kernel
theorem d_M_rule_52 : decode c_M_rule 52 = .ok (.invokestatic 58, 3) := by decide +kernel
theorem d_M_rule_55 : decode c_M_rule 55 = .ok (.ifCond .eq 15, 3) := by decide +kernel
theorem d_M_rule_58 : decode c_M_rule 58 = .ok (.iload 4, 2) := by decide +kernel
theorem d_M_rule_60 : decode c_M_rule 60 = .ok (.iload_n 3, 1) := by decide +kernel
theorem d_M_rule_61 : decode c_M_rule 61 = .ok (.sipush 255, 3) := by decide +kernel
theorem d_M_rule_64 : decode c_M_rule 64 = .ok (.invokestatic 58, 3) := by decide +kernel
theorem d_M_rule_67 : decode c_M_rule 67 = .ok (.ifCond .ne 13, 3) := by decide +kernel
theorem d_M_rule_70 : decode c_M_rule 70 = .ok (.new 62, 3) := by decide +kernel
theorem d_M_rule_73 : decode c_M_rule 73 = .ok (.dup, 1) := by decide +kernel
theorem d_M_rule_74 : decode c_M_rule 74 = .ok (.ldc 197, 2) := by decide +kernel
theorem d_M_rule_76 : decode c_M_rule 76 = .ok (.invokespecial 66, 3) := by decide +kernel
theorem d_M_rule_79 : decode c_M_rule 79 = .ok (.athrow, 1) := by decide +kernel
theorem d_M_rule_80 : decode c_M_rule 80 = .ok (.iload 5, 2) := by decide +kernel
theorem d_M_rule_82 : decode c_M_rule 82 = .ok (.sipush (-10000), 3) := by decide +kernel
theorem d_M_rule_85 : decode c_M_rule 85 = .ok (.sipush 10000, 3) := by decide +kernel
theorem d_M_rule_88 : decode c_M_rule 88 = .ok (.invokestatic 58, 3) := by decide +kernel
theorem d_M_rule_91 : decode c_M_rule 91 = .ok (.ifCond .eq 16, 3) := by decide +kernel
theorem d_M_rule_94 : decode c_M_rule 94 = .ok (.iload 6, 2) := by decide +kernel
theorem d_M_rule_96 : decode c_M_rule 96 = .ok (.iload 5, 2) := by decide +kernel
theorem d_M_rule_98 : decode c_M_rule 98 = .ok (.sipush 10000, 3) := by decide +kernel
theorem d_M_rule_101 : decode c_M_rule 101 = .ok (.invokestatic 58, 3) := by decide +kernel
theorem d_M_rule_104 : decode c_M_rule 104 = .ok (.ifCond .ne 13, 3) := by decide +kernel
theorem d_M_rule_107 : decode c_M_rule 107 = .ok (.new 62, 3) := by decide +kernel
theorem d_M_rule_110 : decode c_M_rule 110 = .ok (.dup, 1) := by decide +kernel
theorem d_M_rule_111 : decode c_M_rule 111 = .ok (.ldc 199, 2) := by decide +kernel
theorem d_M_rule_113 : decode c_M_rule 113 = .ok (.invokespecial 66, 3) := by decide +kernel
theorem d_M_rule_116 : decode c_M_rule 116 = .ok (.athrow, 1) := by decide +kernel
theorem d_M_rule_117 : decode c_M_rule 117 = .ok (.aload_n 0, 1) := by decide +kernel
theorem d_M_rule_118 : decode c_M_rule 118 = .ok (.getfield 19, 3) := by decide +kernel
theorem d_M_rule_121 : decode c_M_rule 121 = .ok (.invokevirtual 129, 3) := by decide +kernel
theorem d_M_rule_124 : decode c_M_rule 124 = .ok (.bipush 8, 2) := by decide +kernel
theorem d_M_rule_126 : decode c_M_rule 126 = .ok (.if_icmp .lt 13, 3) := by decide +kernel
theorem d_M_rule_129 : decode c_M_rule 129 = .ok (.new 87, 3) := by decide +kernel
theorem d_M_rule_132 : decode c_M_rule 132 = .ok (.dup, 1) := by decide +kernel
theorem d_M_rule_133 : decode c_M_rule 133 = .ok (.ldc 201, 2) := by decide +kernel
theorem d_M_rule_135 : decode c_M_rule 135 = .ok (.invokespecial 91, 3) := by decide +kernel
theorem d_M_rule_138 : decode c_M_rule 138 = .ok (.athrow, 1) := by decide +kernel
theorem d_M_rule_139 : decode c_M_rule 139 = .ok (.aload_n 0, 1) := by decide +kernel
theorem d_M_rule_140 : decode c_M_rule 140 = .ok (.getfield 19, 3) := by decide +kernel
theorem d_M_rule_143 : decode c_M_rule 143 = .ok (.new 203, 3) := by decide +kernel
theorem d_M_rule_146 : decode c_M_rule 146 = .ok (.dup, 1) := by decide +kernel
theorem d_M_rule_147 : decode c_M_rule 147 = .ok (.iload_n 1, 1) := by decide +kernel
theorem d_M_rule_148 : decode c_M_rule 148 = .ok (.iload_n 2, 1) := by decide +kernel
theorem d_M_rule_149 : decode c_M_rule 149 = .ok (.iload_n 3, 1) := by decide +kernel
theorem d_M_rule_150 : decode c_M_rule 150 = .ok (.iload 4, 2) := by decide +kernel
theorem d_M_rule_152 : decode c_M_rule 152 = .ok (.iload 5, 2) := by decide +kernel
theorem d_M_rule_154 : decode c_M_rule 154 = .ok (.iload 6, 2) := by decide +kernel
theorem d_M_rule_156 : decode c_M_rule 156 = .ok (.invokespecial 205, 3) := by decide +kernel
theorem d_M_rule_159 : decode c_M_rule 159 = .ok (.invokevirtual 135, 3) := by decide +kernel
theorem d_M_rule_162 : decode c_M_rule 162 = .ok (.pop, 1) := by decide +kernel
theorem d_M_rule_163 : decode c_M_rule 163 = .ok (.aload_n 0, 1) := by decide +kernel
theorem d_M_rule_164 : decode c_M_rule 164 = .ok (.getfield 19, 3) := by decide +kernel
theorem d_M_rule_167 : decode c_M_rule 167 = .ok (.invokevirtual 129, 3) := by decide +kernel
theorem d_M_rule_170 : decode c_M_rule 170 = .ok (.ireturn, 1) := by decide +kernel
theorem d_M_age_0 : decode c_M_age 0 = .ok (.iload_n 1, 1) := by decide +kernel
theorem d_M_age_1 : decode c_M_age 1 = .ok (.iconst 0, 1) := by decide +kernel
theorem d_M_age_2 : decode c_M_age 2 = .ok (.iconst 1, 1) := by decide +kernel
theorem d_M_age_3 : decode c_M_age 3 = .ok (.invokestatic 58, 3) := by decide +kernel
theorem d_M_age_6 : decode c_M_age 6 = .ok (.ifCond .ne 13, 3) := by decide +kernel
theorem d_M_age_9 : decode c_M_age 9 = .ok (.new 51, 3) := by decide +kernel
theorem d_M_age_12 : decode c_M_age 12 = .ok (.dup, 1) := by decide +kernel
theorem d_M_age_13 : decode c_M_age 13 = .ok (.ldc 71, 2) := by decide +kernel
theorem d_M_age_15 : decode c_M_age 15 = .ok (.invokespecial 55, 3) := by decide +kernel
theorem d_M_age_18 : decode c_M_age 18 = .ok (.athrow, 1) := by decide +kernel
theorem d_M_age_19 : decode c_M_age 19 = .ok (.sipush (-10000), 3) := by decide +kernel
theorem d_M_age_22 : decode c_M_age 22 = .ok (.istore_n 2, 1) := by decide +kernel
theorem d_M_age_23 : decode c_M_age 23 = .ok (.sipush 10000, 3) := by decide +kernel
theorem d_M_age_26 : decode c_M_age 26 = .ok (.istore_n 3, 1) := by decide +kernel
theorem d_M_age_27 : decode c_M_age 27 = .ok (.iconst 0, 1) := by decide +kernel
theorem d_M_age_28 : decode c_M_age 28 = .ok (.istore 4, 2) := by decide +kernel
theorem d_M_age_30 : decode c_M_age 30 = .ok (.iconst 0, 1) := by decide +kernel
theorem d_M_age_31 : decode c_M_age 31 = .ok (.istore 5, 2) := by decide +kernel
theorem d_M_age_33 : decode c_M_age 33 = .ok (.iload 5, 2) := by decide +kernel
theorem d_M_age_35 : decode c_M_age 35 = .ok (.aload_n 0, 1) := by decide +kernel
theorem d_M_age_36 : decode c_M_age 36 = .ok (.getfield 19, 3) := by decide +kernel
theorem d_M_age_39 : decode c_M_age 39 = .ok (.invokevirtual 129, 3) := by decide +kernel
theorem d_M_age_42 : decode c_M_age 42 = .ok (.if_icmp .ge 58, 3) := by decide +kernel
theorem d_M_age_45 : decode c_M_age 45 = .ok (.aload_n 0, 1) := by decide +kernel
theorem d_M_age_46 : decode c_M_age 46 = .ok (.getfield 19, 3) := by decide +kernel
theorem d_M_age_49 : decode c_M_age 49 = .ok (.iload 5, 2) := by decide +kernel
theorem d_M_age_51 : decode c_M_age 51 = .ok (.invokevirtual 141, 3) := by decide +kernel
theorem d_M_age_54 : decode c_M_age 54 = .ok (.checkcast 203, 3) := by decide +kernel
theorem d_M_age_57 : decode c_M_age 57 = .ok (.astore 6, 2) := by decide +kernel
theorem d_M_age_59 : decode c_M_age 59 = .ok (.aload 6, 2) := by decide +kernel
theorem d_M_age_61 : decode c_M_age 61 = .ok (.aload_n 0, 1) := by decide +kernel
theorem d_M_age_62 : decode c_M_age 62 = .ok (.getfield 43, 3) := by decide +kernel
theorem d_M_age_65 : decode c_M_age 65 = .ok (.invokevirtual 208, 3) := by decide +kernel
theorem d_M_age_68 : decode c_M_age 68 = .ok (.ifCond .eq 26, 3) := by decide +kernel
theorem d_M_age_71 : decode c_M_age 71 = .ok (.iconst 1, 1) := by decide +kernel
theorem d_M_age_72 : decode c_M_age 72 = .ok (.istore 4, 2) := by decide +kernel
theorem d_M_age_74 : decode c_M_age 74 = .ok (.iload_n 2, 1) := by decide +kernel
theorem d_M_age_75 : decode c_M_age 75 = .ok (.aload 6, 2) := by decide +kernel
theorem d_M_age_77 : decode c_M_age 77 = .ok (.getfield 212, 3) := by decide +kernel
theorem d_M_age_80 : decode c_M_age 80 = .ok (.invokestatic 37, 3) := by decide +kernel
theorem d_M_age_83 : decode c_M_age 83 = .ok (.istore_n 2, 1) := by decide +kernel
theorem d_M_age_84 : decode c_M_age 84 = .ok (.iload_n 3, 1) := by decide +kernel
theorem d_M_age_85 : decode c_M_age 85 = .ok (.aload 6, 2) := by decide +kernel
theorem d_M_age_87 : decode c_M_age 87 = .ok (.getfield 215, 3) := by decide +kernel
theorem d_M_age_90 : decode c_M_age 90 = .ok (.invokestatic 31, 3) := by decide +kernel
theorem d_M_age_93 : decode c_M_age 93 = .ok (.istore_n 3, 1) := by decide +kernel
theorem d_M_age_94 : decode c_M_age 94 = .ok (.iinc 5 1, 3) := by decide +kernel
theorem d_M_age_97 : decode c_M_age 97 = .ok (.goto (-64), 3) := by decide +kernel
theorem d_M_age_100 : decode c_M_age 100 = .ok (.iload 4, 2) := by decide +kernel
theorem d_M_age_102 : decode c_M_age 102 = .ok (.ifCond .ne 13, 3) := by decide +kernel
theorem d_M_age_105 : decode c_M_age 105 = .ok (.new 87, 3) := by decide +kernel
theorem d_M_age_108 : decode c_M_age 108 = .ok (.dup, 1) := by decide +kernel
theorem d_M_age_109 : decode c_M_age 109 = .ok (.ldc 218, 2) := by decide +kernel
theorem d_M_age_111 : decode c_M_age 111 = .ok (.invokespecial 91, 3) := by decide +kernel
theorem d_M_age_114 : decode c_M_age 114 = .ok (.athrow, 1) := by decide +kernel
theorem d_M_age_115 : decode c_M_age 115 = .ok (.iload_n 2, 1) := by decide +kernel
theorem d_M_age_116 : decode c_M_age 116 = .ok (.iload_n 3, 1) := by decide +kernel
theorem d_M_age_117 : decode c_M_age 117 = .ok (.if_icmp .le 13, 3) := by decide +kernel
theorem d_M_age_120 : decode c_M_age 120 = .ok (.new 87, 3) := by decide +kernel
theorem d_M_age_123 : decode c_M_age 123 = .ok (.dup, 1) := by decide +kernel
theorem d_M_age_124 : decode c_M_age 124 = .ok (.ldc 220, 2) := by decide +kernel
theorem d_M_age_126 : decode c_M_age 126 = .ok (.invokespecial 91, 3) := by decide +kernel
theorem d_M_age_129 : decode c_M_age 129 = .ok (.athrow, 1) := by decide +kernel
theorem d_M_age_130 : decode c_M_age 130 = .ok (.iload_n 1, 1) := by decide +kernel
theorem d_M_age_131 : decode c_M_age 131 = .ok (.ifCond .ne 7, 3) := by decide +kernel
theorem d_M_age_134 : decode c_M_age 134 = .ok (.iload_n 2, 1) := by decide +kernel
theorem d_M_age_135 : decode c_M_age 135 = .ok (.goto 4, 3) := by decide +kernel
theorem d_M_age_138 : decode c_M_age 138 = .ok (.iload_n 3, 1) := by decide +kernel
theorem d_M_age_139 : decode c_M_age 139 = .ok (.ireturn, 1) := by decide +kernel
end
section
theorem d_A_init_0 : decode c_A_init 0 = .ok (.aload_n 0, 1) := by decide +kernel
theorem d_A_init_1 : decode c_A_init 1 = .ok (.invokespecial 1, 3) := by decide +kernel
theorem d_A_init_4 : decode c_A_init 4 = .ok (.aload_n 0, 1) := by decide +kernel
theorem d_A_init_5 : decode c_A_init 5 = .ok (.getstatic 39, 3) := by decide +kernel
theorem d_A_init_8 : decode c_A_init 8 = .ok (.putfield 9, 3) := by decide +kernel
theorem d_A_init_11 : decode c_A_init 11 = .ok (.return_, 1) := by decide +kernel
theorem d_AL_init_0 : decode c_AL_init 0 = .ok (.aload_n 0, 1) := by decide +kernel
theorem d_AL_init_1 : decode c_AL_init 1 = .ok (.invokespecial 1, 3) := by decide +kernel
theorem d_AL_init_4 : decode c_AL_init 4 = .ok (.aload_n 0, 1) := by decide +kernel
theorem d_AL_init_5 : decode c_AL_init 5 = .ok (.iconst 0, 1) := by decide +kernel
theorem d_AL_init_6 : decode c_AL_init 6 = .ok (.putfield 7, 3) := by decide +kernel
theorem d_AL_init_9 : decode c_AL_init 9 = .ok (.return_, 1) := by decide +kernel
theorem d_AC_init_0 : decode c_AC_init 0 = .ok (.aload_n 0, 1) := by decide +kernel
theorem d_AC_init_1 : decode c_AC_init 1 = .ok (.invokespecial 1, 3) := by decide +kernel
theorem d_AC_init_4 : decode c_AC_init 4 = .ok (.return_, 1) := by decide +kernel
theorem d_MA_min_0 : decode c_MA_min 0 = .ok (.iload_n 0, 1) := by decide +kernel
theorem d_MA_min_1 : decode c_MA_min 1 = .ok (.iload_n 1, 1) := by decide +kernel
theorem d_MA_min_2 : decode c_MA_min 2 = .ok (.if_icmp .gt 7, 3) := by decide +kernel
theorem d_MA_min_5 : decode c_MA_min 5 = .ok (.iload_n 0, 1) := by decide +kernel
theorem d_MA_min_6 : decode c_MA_min 6 = .ok (.goto 4, 3) := by decide +kernel
theorem d_MA_min_9 : decode c_MA_min 9 = .ok (.iload_n 1, 1) := by decide +kernel
theorem d_MA_min_10 : decode c_MA_min 10 = .ok (.ireturn, 1) := by decide +kernel
theorem d_MA_max_0 : decode c_MA_max 0 = .ok (.iload_n 0, 1) := by decide +kernel
theorem d_MA_max_1 : decode c_MA_max 1 = .ok (.iload_n 1, 1) := by decide +kernel
theorem d_MA_max_2 : decode c_MA_max 2 = .ok (.if_icmp .lt 7, 3) := by decide +kernel
theorem d_MA_max_5 : decode c_MA_max 5 = .ok (.iload_n 0, 1) := by decide +kernel
theorem d_MA_max_6 : decode c_MA_max 6 = .ok (.goto 4, 3) := by decide +kernel
theorem d_MA_max_9 : decode c_MA_max 9 = .ok (.iload_n 1, 1) := by decide +kernel
theorem d_MA_max_10 : decode c_MA_max 10 = .ok (.ireturn, 1) := by decide +kernel
theorem d_AR_fill_0 : decode c_AR_fill 0 = .ok (.iconst 0, 1) := by decide +kernel
theorem d_AR_fill_1 : decode c_AR_fill 1 = .ok (.istore_n 2, 1) := by decide +kernel
theorem d_AR_fill_2 : decode c_AR_fill 2 = .ok (.aload_n 0, 1) := by decide +kernel
theorem d_AR_fill_3 : decode c_AR_fill 3 = .ok (.arraylength, 1) := by decide +kernel
theorem d_AR_fill_4 : decode c_AR_fill 4 = .ok (.istore_n 3, 1) := by decide +kernel
theorem d_AR_fill_5 : decode c_AR_fill 5 = .ok (.iload_n 2, 1) := by decide +kernel
theorem d_AR_fill_6 : decode c_AR_fill 6 = .ok (.iload_n 3, 1) := by decide +kernel
theorem d_AR_fill_7 : decode c_AR_fill 7 = .ok (.if_icmp .ge 13, 3) := by decide +kernel
theorem d_AR_fill_10 : decode c_AR_fill 10 = .ok (.aload_n 0, 1) := by decide +kernel
theorem d_AR_fill_11 : decode c_AR_fill 11 = .ok (.iload_n 2, 1) := by decide +kernel
theorem d_AR_fill_12 : decode c_AR_fill 12 = .ok (.iload_n 1, 1) := by decide +kernel
theorem d_AR_fill_13 : decode c_AR_fill 13 = .ok (.iastore, 1) := by decide +kernel
theorem d_AR_fill_14 : decode c_AR_fill 14 = .ok (.iinc 2 1, 3) := by decide +kernel
theorem d_AR_fill_17 : decode c_AR_fill 17 = .ok (.goto (-12), 3) := by decide +kernel
theorem d_AR_fill_20 : decode c_AR_fill 20 = .ok (.return_, 1) := by decide +kernel
theorem d_A_size_0 : decode c_A_size 0 = .ok (.aload_n 0, 1) := by decide +kernel
theorem d_A_size_1 : decode c_A_size 1 = .ok (.getfield 48, 3) := by decide +kernel
theorem d_A_size_4 : decode c_A_size 4 = .ok (.ireturn, 1) := by decide +kernel
theorem d_A_add_0 : decode c_A_add 0 = .ok (.aload_n 0, 1) := by decide +kernel
theorem d_A_add_1 : decode c_A_add 1 = .ok (.dup, 1) := by decide +kernel
theorem d_A_add_2 : decode c_A_add 2 = .ok (.getfield 63, 3) := by decide +kernel
theorem d_A_add_5 : decode c_A_add 5 = .ok (.iconst 1, 1) := by decide +kernel
theorem d_A_add_6 : decode c_A_add 6 = .ok (.iadd, 1) := by decide +kernel
theorem d_A_add_7 : decode c_A_add 7 = .ok (.putfield 63, 3) := by decide +kernel
theorem d_A_add_10 : decode c_A_add 10 = .ok (.aload_n 0, 1) := by decide +kernel
theorem d_A_add_11 : decode c_A_add 11 = .ok (.aload_n 1, 1) := by decide +kernel
theorem d_A_add_12 : decode c_A_add 12 = .ok (.aload_n 0, 1) := by decide +kernel
theorem d_A_add_13 : decode c_A_add 13 = .ok (.getfield 9, 3) := by decide +kernel
theorem d_A_add_16 : decode c_A_add 16 = .ok (.aload_n 0, 1) := by decide +kernel
theorem d_A_add_17 : decode c_A_add 17 = .ok (.getfield 48, 3) := by decide +kernel
theorem d_A_add_20 : decode c_A_add 20 = .ok (.invokevirtual 131, 3) := by decide +kernel
theorem d_A_add_23 : decode c_A_add 23 = .ok (.iconst 1, 1) := by decide +kernel
theorem d_A_add_24 : decode c_A_add 24 = .ok (.ireturn, 1) := by decide +kernel
theorem d_A_add2_0 : decode c_A_add2 0 = .ok (.iload_n 3, 1) := by decide +kernel
theorem d_A_add2_1 : decode c_A_add2 1 = .ok (.aload_n 2, 1) := by decide +kernel
theorem d_A_add2_2 : decode c_A_add2 2 = .ok (.arraylength, 1) := by decide +kernel
theorem d_A_add2_3 : decode c_A_add2 3 = .ok (.if_icmp .ne 8, 3) := by decide +kernel
theorem d_A_add2_6 : decode c_A_add2 6 = .ok (.aload_n 0, 1) := by decide +kernel
theorem d_A_add2_7 : decode c_A_add2 7 = .ok (.invokevirtual 129, 3) := by decide +kernel
theorem d_A_add2_10 : decode c_A_add2 10 = .ok (.astore_n 2, 1) := by decide +kernel
theorem d_A_add2_11 : decode c_A_add2 11 = .ok (.aload_n 2, 1) := by decide +kernel
theorem d_A_add2_12 : decode c_A_add2 12 = .ok (.iload_n 3, 1) := by decide +kernel
theorem d_A_add2_13 : decode c_A_add2 13 = .ok (.aload_n 1, 1) := by decide +kernel
theorem d_A_add2_14 : decode c_A_add2 14 = .ok (.aastore, 1) := by decide +kernel
theorem d_A_add2_15 : decode c_A_add2 15 = .ok (.aload_n 0, 1) := by decide +kernel
theorem d_A_add2_16 : decode c_A_add2 16 = .ok (.iload_n 3, 1) := by decide +kernel
theorem d_A_add2_17 : decode c_A_add2 17 = .ok (.iconst 1, 1) := by decide +kernel
theorem d_A_add2_18 : decode c_A_add2 18 = .ok (.iadd, 1) := by decide +kernel
theorem d_A_add2_19 : decode c_A_add2 19 = .ok (.putfield 48, 3) := by decide +kernel
theorem d_A_add2_22 : decode c_A_add2 22 = .ok (.return_, 1) := by decide +kernel
theorem d_A_grow_0 : decode c_A_grow 0 = .ok (.aload_n 0, 1) := by decide +kernel
theorem d_A_grow_1 : decode c_A_grow 1 = .ok (.aload_n 0, 1) := by decide +kernel
theorem d_A_grow_2 : decode c_A_grow 2 = .ok (.getfield 48, 3) := by decide +kernel
theorem d_A_grow_5 : decode c_A_grow 5 = .ok (.iconst 1, 1) := by decide +kernel
theorem d_A_grow_6 : decode c_A_grow 6 = .ok (.iadd, 1) := by decide +kernel
theorem d_A_grow_7 : decode c_A_grow 7 = .ok (.invokevirtual 69, 3) := by decide +kernel
theorem d_A_grow_10 : decode c_A_grow 10 = .ok (.areturn, 1) := by decide +kernel
theorem d_A_grow2_0 : decode c_A_grow2 0 = .ok (.aload_n 0, 1) := by decide +kernel
theorem d_A_grow2_1 : decode c_A_grow2 1 = .ok (.getfield 9, 3) := by decide +kernel
theorem d_A_grow2_4 : decode c_A_grow2 4 = .ok (.arraylength, 1) := by decide +kernel
theorem d_A_grow2_5 : decode c_A_grow2 5 = .ok (.istore_n 2, 1) := by decide +kernel
theorem d_A_grow2_6 : decode c_A_grow2 6 = .ok (.iload_n 2, 1) := by decide +kernel
theorem d_A_grow2_7 : decode c_A_grow2 7 = .ok (.ifCond .gt 13, 3) := by decide +kernel
theorem d_A_grow2_10 : decode c_A_grow2 10 = .ok (.aload_n 0, 1) := by decide +kernel
theorem d_A_grow2_11 : decode c_A_grow2 11 = .ok (.getfield 9, 3) := by decide +kernel
theorem d_A_grow2_14 : decode c_A_grow2 14 = .ok (.getstatic 39, 3) := by decide +kernel
theorem d_A_grow2_17 : decode c_A_grow2 17 = .ok (.if_acmp .eq 28, 3) := by decide +kernel
theorem d_A_grow2_20 : decode c_A_grow2 20 = .ok (.iload_n 2, 1) := by decide +kernel
theorem d_A_grow2_21 : decode c_A_grow2 21 = .ok (.iload_n 1, 1) := by decide +kernel
theorem d_A_grow2_22 : decode c_A_grow2 22 = .ok (.iload_n 2, 1) := by decide +kernel
theorem d_A_grow2_23 : decode c_A_grow2 23 = .ok (.isub, 1) := by decide +kernel
theorem d_A_grow2_24 : decode c_A_grow2 24 = .ok (.iload_n 2, 1) := by decide +kernel
theorem d_A_grow2_25 : decode c_A_grow2 25 = .ok (.iconst 1, 1) := by decide +kernel
theorem d_A_grow2_26 : decode c_A_grow2 26 = .ok (.ishr, 1) := by decide +kernel
theorem d_A_grow2_27 : decode c_A_grow2 27 = .ok (.invokestatic 73, 3) := by decide +kernel
theorem d_A_grow2_30 : decode c_A_grow2 30 = .ok (.istore_n 3, 1) := by decide +kernel
theorem d_A_grow2_31 : decode c_A_grow2 31 = .ok (.aload_n 0, 1) := by decide +kernel
theorem d_A_grow2_32 : decode c_A_grow2 32 = .ok (.aload_n 0, 1) := by decide +kernel
theorem d_A_grow2_33 : decode c_A_grow2 33 = .ok (.getfield 9, 3) := by decide +kernel
theorem d_A_grow2_36 : decode c_A_grow2 36 = .ok (.iload_n 3, 1) := by decide +kernel
theorem d_A_grow2_37 : decode c_A_grow2 37 = .ok (.invokestatic 66, 3) := by decide +kernel
theorem d_A_grow2_40 : decode c_A_grow2 40 = .ok (.dup_x1, 1) := by decide +kernel
theorem d_A_grow2_41 : decode c_A_grow2 41 = .ok (.putfield 9, 3) := by decide +kernel
theorem d_A_grow2_44 : decode c_A_grow2 44 = .ok (.areturn, 1) := by decide +kernel
theorem d_A_grow2_45 : decode c_A_grow2 45 = .ok (.aload_n 0, 1) := by decide +kernel
theorem d_A_grow2_46 : decode c_A_grow2 46 = .ok (.bipush 10, 2) := by decide +kernel
theorem d_A_grow2_48 : decode c_A_grow2 48 = .ok (.iload_n 1, 1) := by decide +kernel
theorem d_A_grow2_49 : decode c_A_grow2 49 = .ok (.invokestatic 79, 3) := by decide +kernel
theorem d_A_grow2_52 : decode c_A_grow2 52 = .ok (.anewarray 7, 3) := by decide +kernel
theorem d_A_grow2_55 : decode c_A_grow2 55 = .ok (.dup_x1, 1) := by decide +kernel
theorem d_A_grow2_56 : decode c_A_grow2 56 = .ok (.putfield 9, 3) := by decide +kernel
theorem d_A_grow2_59 : decode c_A_grow2 59 = .ok (.areturn, 1) := by decide +kernel
theorem d_AS_newLength_0 : decode c_AS_newLength 0 = .ok (.iload_n 0, 1) := by decide +kernel
theorem d_AS_newLength_1 : decode c_AS_newLength 1 = .ok (.iload_n 1, 1) := by decide +kernel
theorem d_AS_newLength_2 : decode c_AS_newLength 2 = .ok (.iload_n 2, 1) := by decide +kernel
theorem d_AS_newLength_3 : decode c_AS_newLength 3 = .ok (.invokestatic 194, 3) := by decide +kernel
theorem d_AS_newLength_6 : decode c_AS_newLength 6 = .ok (.iadd, 1) := by decide +kernel
theorem d_AS_newLength_7 : decode c_AS_newLength 7 = .ok (.istore_n 3, 1) := by decide +kernel
theorem d_AS_newLength_8 : decode c_AS_newLength 8 = .ok (.iconst 0, 1) := by decide +kernel
theorem d_AS_newLength_9 : decode c_AS_newLength 9 = .ok (.iload_n 3, 1) := by decide +kernel
theorem d_AS_newLength_10 : decode c_AS_newLength 10 = .ok (.if_icmp .ge 11, 3) := by decide +kernel
theorem d_AS_newLength_13 : decode c_AS_newLength 13 = .ok (.iload_n 3, 1) := by decide +kernel
theorem d_AS_newLength_14 : decode c_AS_newLength 14 = .ok (.ldc 200, 2) := by decide +kernel
theorem d_AS_newLength_16 : decode c_AS_newLength 16 = .ok (.if_icmp .gt 5, 3) := by decide +kernel
theorem d_AS_newLength_19 : decode c_AS_newLength 19 = .ok (.iload_n 3, 1) := by decide +kernel
theorem d_AS_newLength_20 : decode c_AS_newLength 20 = .ok (.ireturn, 1) := by decide +kernel
theorem d_AS_newLength_21 : decode c_AS_newLength 21 = .ok (.iload_n 0, 1) := by decide +kernel
theorem d_AS_newLength_22 : decode c_AS_newLength 22 = .ok (.iload_n 1, 1) := by decide +kernel
theorem d_AS_newLength_23 : decode c_AS_newLength 23 = .ok (.invokestatic 201, 3) := by decide +kernel
theorem d_AS_newLength_26 : decode c_AS_newLength 26 = .ok (.ireturn, 1) := by decide +kernel
theorem d_AS_hugeLength_0 : decode c_AS_hugeLength 0 = .ok (.iload_n 0, 1) := by decide +kernel
theorem d_AS_hugeLength_1 : decode c_AS_hugeLength 1 = .ok (.iload_n 1, 1) := by decide +kernel
theorem d_AS_hugeLength_2 : decode c_AS_hugeLength 2 = .ok (.iadd, 1) := by decide +kernel
theorem d_AS_hugeLength_3 : decode c_AS_hugeLength 3 = .ok (.istore_n 2, 1) := by decide +kernel
theorem d_AS_hugeLength_4 : decode c_AS_hugeLength 4 = .ok (.iload_n 2, 1) := by decide +kernel
theorem d_AS_hugeLength_5 : decode c_AS_hugeLength 5 = .ok (.ifCond .ge 44, 3) := by decide +kernel
theorem d_AS_hugeLength_8 : decode c_AS_hugeLength 8 = .ok (.new 204, 3) := by decide +kernel
theorem d_AS_hugeLength_11 : decode c_AS_hugeLength 11 = .ok (.dup, 1) := by decide +kernel
theorem d_AS_hugeLength_12 : decode c_AS_hugeLength 12 = .ok (.new 89, 3) := by decide +kernel
theorem d_AS_hugeLength_15 : decode c_AS_hugeLength 15 = .ok (.dup, 1) := by decide +kernel
theorem d_AS_hugeLength_16 : decode c_AS_hugeLength 16 = .ok (.invokespecial 91, 3) := by decide +kernel
theorem d_AS_hugeLength_19 : decode c_AS_hugeLength 19 = .ok (.ldc 206, 2) := by decide +kernel
theorem d_AS_hugeLength_21 : decode c_AS_hugeLength 21 = .ok (.invokevirtual 94, 3) := by decide +kernel
theorem d_AS_hugeLength_24 : decode c_AS_hugeLength 24 = .ok (.iload_n 0, 1) := by decide +kernel
theorem d_AS_hugeLength_25 : decode c_AS_hugeLength 25 = .ok (.invokevirtual 98, 3) := by decide +kernel
theorem d_AS_hugeLength_28 : decode c_AS_hugeLength 28 = .ok (.ldc 208, 2) := by decide +kernel
theorem d_AS_hugeLength_30 : decode c_AS_hugeLength 30 = .ok (.invokevirtual 94, 3) := by decide +kernel
theorem d_AS_hugeLength_33 : decode c_AS_hugeLength 33 = .ok (.iload_n 1, 1) := by decide +kernel
theorem d_AS_hugeLength_34 : decode c_AS_hugeLength 34 = .ok (.invokevirtual 98, 3) := by decide +kernel
theorem d_AS_hugeLength_37 : decode c_AS_hugeLength 37 = .ok (.ldc 210, 2) := by decide +kernel
theorem d_AS_hugeLength_39 : decode c_AS_hugeLength 39 = .ok (.invokevirtual 94, 3) := by decide +kernel
theorem d_AS_hugeLength_42 : decode c_AS_hugeLength 42 = .ok (.invokevirtual 101, 3) := by decide +kernel
theorem d_AS_hugeLength_45 : decode c_AS_hugeLength 45 = .ok (.invokespecial 212, 3) := by decide +kernel
theorem d_AS_hugeLength_48 : decode c_AS_hugeLength 48 = .ok (.athrow, 1) := by decide +kernel
theorem d_AS_hugeLength_49 : decode c_AS_hugeLength 49 = .ok (.iload_n 2, 1) := by decide +kernel
theorem d_AS_hugeLength_50 : decode c_AS_hugeLength 50 = .ok (.ldc 200, 2) := by decide +kernel
theorem d_AS_hugeLength_52 : decode c_AS_hugeLength 52 = .ok (.if_icmp .gt 6, 3) := by decide +kernel
theorem d_AS_hugeLength_55 : decode c_AS_hugeLength 55 = .ok (.ldc 200, 2) := by decide +kernel
theorem d_AS_hugeLength_57 : decode c_AS_hugeLength 57 = .ok (.ireturn, 1) := by decide +kernel
theorem d_AS_hugeLength_58 : decode c_AS_hugeLength 58 = .ok (.iload_n 2, 1) := by decide +kernel
theorem d_AS_hugeLength_59 : decode c_AS_hugeLength 59 = .ok (.ireturn, 1) := by decide +kernel
theorem d_AR_copyOf_0 : decode c_AR_copyOf 0 = .ok (.aload_n 0, 1) := by decide +kernel
theorem d_AR_copyOf_1 : decode c_AR_copyOf 1 = .ok (.iload_n 1, 1) := by decide +kernel
theorem d_AR_copyOf_2 : decode c_AR_copyOf 2 = .ok (.aload_n 0, 1) := by decide +kernel
theorem d_AR_copyOf_3 : decode c_AR_copyOf 3 = .ok (.invokevirtual 86, 3) := by decide +kernel
theorem d_AR_copyOf_6 : decode c_AR_copyOf 6 = .ok (.invokestatic 300, 3) := by decide +kernel
theorem d_AR_copyOf_9 : decode c_AR_copyOf 9 = .ok (.areturn, 1) := by decide +kernel
theorem d_AR_copyOf2_0 : decode c_AR_copyOf2 0 = .ok (.aload_n 2, 1) := by decide +kernel
theorem d_AR_copyOf2_1 : decode c_AR_copyOf2 1 = .ok (.ldc 110, 2) := by decide +kernel
theorem d_AR_copyOf2_3 : decode c_AR_copyOf2 3 = .ok (.if_acmp .ne 10, 3) := by decide +kernel
theorem d_AR_copyOf2_6 : decode c_AR_copyOf2 6 = .ok (.iload_n 1, 1) := by decide +kernel
theorem d_AR_copyOf2_7 : decode c_AR_copyOf2 7 = .ok (.anewarray 2, 3) := by decide +kernel
theorem d_AR_copyOf2_10 : decode c_AR_copyOf2 10 = .ok (.goto 14, 3) := by decide +kernel
theorem d_AR_copyOf2_13 : decode c_AR_copyOf2 13 = .ok (.aload_n 2, 1) := by decide +kernel
theorem d_AR_copyOf2_14 : decode c_AR_copyOf2 14 = .ok (.invokevirtual 90, 3) := by decide +kernel
theorem d_AR_copyOf2_17 : decode c_AR_copyOf2 17 = .ok (.iload_n 1, 1) := by decide +kernel
theorem d_AR_copyOf2_18 : decode c_AR_copyOf2 18 = .ok (.invokestatic 95, 3) := by decide +kernel
theorem d_AR_copyOf2_21 : decode c_AR_copyOf2 21 = .ok (.checkcast 110, 3) := by decide +kernel
theorem d_AR_copyOf2_24 : decode c_AR_copyOf2 24 = .ok (.astore_n 3, 1) := by decide +kernel
theorem d_AR_copyOf2_25 : decode c_AR_copyOf2 25 = .ok (.aload_n 0, 1) := by decide +kernel
theorem d_AR_copyOf2_26 : decode c_AR_copyOf2 26 = .ok (.iconst 0, 1) := by decide +kernel
theorem d_AR_copyOf2_27 : decode c_AR_copyOf2 27 = .ok (.aload_n 3, 1) := by decide +kernel
theorem d_AR_copyOf2_28 : decode c_AR_copyOf2 28 = .ok (.iconst 0, 1) := by decide +kernel
theorem d_AR_copyOf2_29 : decode c_AR_copyOf2 29 = .ok (.aload_n 0, 1) := by decide +kernel
theorem d_AR_copyOf2_30 : decode c_AR_copyOf2 30 = .ok (.arraylength, 1) := by decide +kernel
theorem d_AR_copyOf2_31 : decode c_AR_copyOf2 31 = .ok (.iload_n 1, 1) := by decide +kernel
theorem d_AR_copyOf2_32 : decode c_AR_copyOf2 32 = .ok (.invokestatic 304, 3) := by decide +kernel
theorem d_AR_copyOf2_35 : decode c_AR_copyOf2 35 = .ok (.invokestatic 150, 3) := by decide +kernel
theorem d_AR_copyOf2_38 : decode c_AR_copyOf2 38 = .ok (.aload_n 3, 1) := by decide +kernel
theorem d_AR_copyOf2_39 : decode c_AR_copyOf2 39 = .ok (.areturn, 1) := by decide +kernel
theorem d_A_get_0 : decode c_A_get 0 = .ok (.iload_n 1, 1) := by decide +kernel
theorem d_A_get_1 : decode c_A_get 1 = .ok (.aload_n 0, 1) := by decide +kernel
theorem d_A_get_2 : decode c_A_get 2 = .ok (.getfield 48, 3) := by decide +kernel
theorem d_A_get_5 : decode c_A_get 5 = .ok (.invokestatic 118, 3) := by decide +kernel
theorem d_A_get_8 : decode c_A_get 8 = .ok (.pop, 1) := by decide +kernel
theorem d_A_get_9 : decode c_A_get 9 = .ok (.aload_n 0, 1) := by decide +kernel
theorem d_A_get_10 : decode c_A_get 10 = .ok (.iload_n 1, 1) := by decide +kernel
theorem d_A_get_11 : decode c_A_get 11 = .ok (.invokevirtual 123, 3) := by decide +kernel
theorem d_A_get_14 : decode c_A_get 14 = .ok (.areturn, 1) := by decide +kernel
theorem d_OB_checkIndex_0 : decode c_OB_checkIndex 0 = .ok (.iload_n 0, 1) := by decide +kernel
theorem d_OB_checkIndex_1 : decode c_OB_checkIndex 1 = .ok (.iload_n 1, 1) := by decide +kernel
theorem d_OB_checkIndex_2 : decode c_OB_checkIndex 2 = .ok (.aconst_null, 1) := by decide +kernel
theorem d_OB_checkIndex_3 : decode c_OB_checkIndex 3 = .ok (.invokestatic 105, 3) := by decide +kernel
theorem d_OB_checkIndex_6 : decode c_OB_checkIndex 6 = .ok (.ireturn, 1) := by decide +kernel
theorem d_PC_checkIndex_0 : decode c_PC_checkIndex 0 = .ok (.iload_n 0, 1) := by decide +kernel
theorem d_PC_checkIndex_1 : decode c_PC_checkIndex 1 = .ok (.ifCond .lt 8, 3) := by decide +kernel
theorem d_PC_checkIndex_4 : decode c_PC_checkIndex 4 = .ok (.iload_n 0, 1) := by decide +kernel
theorem d_PC_checkIndex_5 : decode c_PC_checkIndex 5 = .ok (.iload_n 1, 1) := by decide +kernel
theorem d_PC_checkIndex_6 : decode c_PC_checkIndex 6 = .ok (.if_icmp .lt 10, 3) := by decide +kernel
theorem d_PC_checkIndex_9 : decode c_PC_checkIndex 9 = .ok (.aload_n 2, 1) := by decide +kernel
theorem d_PC_checkIndex_10 : decode c_PC_checkIndex 10 = .ok (.iload_n 0, 1) := by decide +kernel
theorem d_PC_checkIndex_11 : decode c_PC_checkIndex 11 = .ok (.iload_n 1, 1) := by decide +kernel
theorem d_PC_checkIndex_12 : decode c_PC_checkIndex 12 = .ok (.invokestatic 95, 3) := by decide +kernel
theorem d_PC_checkIndex_15 : decode c_PC_checkIndex 15 = .ok (.athrow, 1) := by decide +kernel
theorem d_PC_checkIndex_16 : decode c_PC_checkIndex 16 = .ok (.iload_n 0, 1) := by decide +kernel
theorem d_PC_checkIndex_17 : decode c_PC_checkIndex 17 = .ok (.ireturn, 1) := by decide +kernel
theorem d_A_elementData_0 : decode c_A_elementData 0 = .ok (.aload_n 0, 1) := by decide +kernel
theorem d_A_elementData_1 : decode c_A_elementData 1 = .ok (.getfield 9, 3) := by decide +kernel
theorem d_A_elementData_4 : decode c_A_elementData 4 = .ok (.iload_n 1, 1) := by decide +kernel
theorem d_A_elementData_5 : decode c_A_elementData 5 = .ok (.aaload, 1) := by decide +kernel
theorem d_A_elementData_6 : decode c_A_elementData 6 = .ok (.areturn, 1) := by decide +kernel
theorem d_MA_abs_0 : decode c_MA_abs 0 = .ok (.iload_n 0, 1) := by decide +kernel
theorem d_MA_abs_1 : decode c_MA_abs 1 = .ok (.ifCond .ge 8, 3) := by decide +kernel
theorem d_MA_abs_4 : decode c_MA_abs 4 = .ok (.iload_n 0, 1) := by decide +kernel
theorem d_MA_abs_5 : decode c_MA_abs 5 = .ok (.ineg, 1) := by decide +kernel
theorem d_MA_abs_6 : decode c_MA_abs 6 = .ok (.goto 4, 3) := by decide +kernel
theorem d_MA_abs_9 : decode c_MA_abs 9 = .ok (.iload_n 0, 1) := by decide +kernel
theorem d_MA_abs_10 : decode c_MA_abs 10 = .ok (.ireturn, 1) := by decide +kernel
theorem d_A_isEmpty_0 : decode c_A_isEmpty 0 = .ok (.aload_n 0, 1) := by decide +kernel
theorem d_A_isEmpty_1 : decode c_A_isEmpty 1 = .ok (.getfield 48, 3) := by decide +kernel
theorem d_A_isEmpty_4 : decode c_A_isEmpty 4 = .ok (.ifCond .ne 7, 3) := by decide +kernel
theorem d_A_isEmpty_7 : decode c_A_isEmpty 7 = .ok (.iconst 1, 1) := by decide +kernel
theorem d_A_isEmpty_8 : decode c_A_isEmpty 8 = .ok (.goto 4, 3) := by decide +kernel
theorem d_A_isEmpty_11 : decode c_A_isEmpty 11 = .ok (.iconst 0, 1) := by decide +kernel
theorem d_A_isEmpty_12 : decode c_A_isEmpty 12 = .ok (.ireturn, 1) := by decide +kernel
end
section
theorem d_T_init_0 : decode c_T_init 0 = .ok (.aload_n 0, 1) := by decide +kernel
theorem d_T_init_1 : decode c_T_init 1 = .ok (.invokespecial 1, 3) := by decide +kernel
theorem d_T_init_4 : decode c_T_init 4 = .ok (.aload_n 0, 1) := by decide +kernel
theorem d_T_init_5 : decode c_T_init 5 = .ok (.bipush 64, 2) := by decide +kernel
theorem d_T_init_7 : decode c_T_init 7 = .ok (.newarray .int, 2) := by decide +kernel
theorem d_T_init_9 : decode c_T_init 9 = .ok (.putfield 7, 3) := by decide +kernel
theorem d_T_init_12 : decode c_T_init 12 = .ok (.aload_n 0, 1) := by decide +kernel
theorem d_T_init_13 : decode c_T_init 13 = .ok (.bipush 64, 2) := by decide +kernel
theorem d_T_init_15 : decode c_T_init 15 = .ok (.newarray .boolean, 2) := by decide +kernel
theorem d_T_init_17 : decode c_T_init 17 = .ok (.putfield 13, 3) := by decide +kernel
theorem d_T_init_20 : decode c_T_init 20 = .ok (.aload_n 0, 1) := by decide +kernel
theorem d_T_init_21 : decode c_T_init 21 = .ok (.bipush 8, 2) := by decide +kernel
theorem d_T_init_23 : decode c_T_init 23 = .ok (.newarray .int, 2) := by decide +kernel
theorem d_T_init_25 : decode c_T_init 25 = .ok (.putfield 17, 3) := by decide +kernel
theorem d_T_init_28 : decode c_T_init 28 = .ok (.aload_n 0, 1) := by decide +kernel
theorem d_T_init_29 : decode c_T_init 29 = .ok (.sipush 128, 3) := by decide +kernel
theorem d_T_init_32 : decode c_T_init 32 = .ok (.newarray .int, 2) := by decide +kernel
theorem d_T_init_34 : decode c_T_init 34 = .ok (.putfield 20, 3) := by decide +kernel
theorem d_T_init_37 : decode c_T_init 37 = .ok (.aload_n 0, 1) := by decide +kernel
theorem d_T_init_38 : decode c_T_init 38 = .ok (.bipush 16, 2) := by decide +kernel
theorem d_T_init_40 : decode c_T_init 40 = .ok (.newarray .int, 2) := by decide +kernel
theorem d_T_init_42 : decode c_T_init 42 = .ok (.putfield 23, 3) := by decide +kernel
theorem d_T_init_45 : decode c_T_init 45 = .ok (.aload_n 0, 1) := by decide +kernel
theorem d_T_init_46 : decode c_T_init 46 = .ok (.bipush 16, 2) := by decide +kernel
theorem d_T_init_48 : decode c_T_init 48 = .ok (.newarray .int, 2) := by decide +kernel
theorem d_T_init_50 : decode c_T_init 50 = .ok (.putfield 26, 3) := by decide +kernel
theorem d_T_init_53 : decode c_T_init 53 = .ok (.aload_n 0, 1) := by decide +kernel
theorem d_T_init_54 : decode c_T_init 54 = .ok (.bipush 16, 2) := by decide +kernel
theorem d_T_init_56 : decode c_T_init 56 = .ok (.newarray .int, 2) := by decide +kernel
theorem d_T_init_58 : decode c_T_init 58 = .ok (.putfield 29, 3) := by decide +kernel
theorem d_T_init_61 : decode c_T_init 61 = .ok (.aload_n 0, 1) := by decide +kernel
theorem d_T_init_62 : decode c_T_init 62 = .ok (.bipush 48, 2) := by decide +kernel
theorem d_T_init_64 : decode c_T_init 64 = .ok (.newarray .int, 2) := by decide +kernel
theorem d_T_init_66 : decode c_T_init 66 = .ok (.putfield 32, 3) := by decide +kernel
theorem d_T_init_69 : decode c_T_init 69 = .ok (.aload_n 0, 1) := by decide +kernel
theorem d_T_init_70 : decode c_T_init 70 = .ok (.iload_n 1, 1) := by decide +kernel
theorem d_T_init_71 : decode c_T_init 71 = .ok (.iconst 4, 1) := by decide +kernel
theorem d_T_init_72 : decode c_T_init 72 = .ok (.if_icmp .ge 7, 3) := by decide +kernel
theorem d_T_init_75 : decode c_T_init 75 = .ok (.iconst 4, 1) := by decide +kernel
theorem d_T_init_76 : decode c_T_init 76 = .ok (.goto 15, 3) := by decide +kernel
theorem d_T_init_79 : decode c_T_init 79 = .ok (.iload_n 1, 1) := by decide +kernel
theorem d_T_init_80 : decode c_T_init 80 = .ok (.bipush 64, 2) := by decide +kernel
theorem d_T_init_82 : decode c_T_init 82 = .ok (.if_icmp .le 8, 3) := by decide +kernel
theorem d_T_init_85 : decode c_T_init 85 = .ok (.bipush 64, 2) := by decide +kernel
theorem d_T_init_87 : decode c_T_init 87 = .ok (.goto 4, 3) := by decide +kernel
theorem d_T_init_90 : decode c_T_init 90 = .ok (.iload_n 1, 1) := by decide +kernel
theorem d_T_init_91 : decode c_T_init 91 = .ok (.putfield 35, 3) := by decide +kernel
theorem d_T_init_94 : decode c_T_init 94 = .ok (.iconst 0, 1) := by decide +kernel
theorem d_T_init_95 : decode c_T_init 95 = .ok (.istore_n 2, 1) := by decide +kernel
theorem d_T_init_96 : decode c_T_init 96 = .ok (.iload_n 2, 1) := by decide +kernel
theorem d_T_init_97 : decode c_T_init 97 = .ok (.bipush 64, 2) := by decide +kernel
theorem d_T_init_99 : decode c_T_init 99 = .ok (.if_icmp .ge 16, 3) := by decide +kernel
theorem d_T_init_102 : decode c_T_init 102 = .ok (.aload_n 0, 1) := by decide +kernel
theorem d_T_init_103 : decode c_T_init 103 = .ok (.getfield 7, 3) := by decide +kernel
theorem d_T_init_106 : decode c_T_init 106 = .ok (.iload_n 2, 1) := by decide +kernel
theorem d_T_init_107 : decode c_T_init 107 = .ok (.iconst (-1), 1) := by decide +kernel
theorem d_T_init_108 : decode c_T_init 108 = .ok (.iastore, 1) := by decide +kernel
theorem d_T_init_109 : decode c_T_init 109 = .ok (.iinc 2 1, 3) := by decide +kernel
theorem d_T_init_112 : decode c_T_init 112 = .ok (.goto (-16), 3) := by decide +kernel
theorem d_T_init_115 : decode c_T_init 115 = .ok (.return_, 1) := by decide +kernel
theorem d_T_thrown_0 : decode c_T_thrown 0 = .ok (.aload_n 0, 1) := by decide +kernel
theorem d_T_thrown_1 : decode c_T_thrown 1 = .ok (.getfield 39, 3) := by decide +kernel
theorem d_T_thrown_4 : decode c_T_thrown 4 = .ok (.ireturn, 1) := by decide +kernel
theorem d_T_depth_0 : decode c_T_depth 0 = .ok (.aload_n 0, 1) := by decide +kernel
theorem d_T_depth_1 : decode c_T_depth 1 = .ok (.aload_n 0, 1) := by decide +kernel
theorem d_T_depth_2 : decode c_T_depth 2 = .ok (.iload_n 1, 1) := by decide +kernel
theorem d_T_depth_3 : decode c_T_depth 3 = .ok (.i2l, 1) := by decide +kernel
theorem d_T_depth_4 : decode c_T_depth 4 = .ok (.invokevirtual 46, 3) := by decide +kernel
theorem d_T_depth_7 : decode c_T_depth 7 = .ok (.ifCond .ne 7, 3) := by decide +kernel
theorem d_T_depth_10 : decode c_T_depth 10 = .ok (.iconst 1, 1) := by decide +kernel
theorem d_T_depth_11 : decode c_T_depth 11 = .ok (.goto 22, 3) := by decide +kernel
theorem d_T_depth_14 : decode c_T_depth 14 = .ok (.iload_n 2, 1) := by decide +kernel
theorem d_T_depth_15 : decode c_T_depth 15 = .ok (.i2l, 1) := by decide +kernel
theorem d_T_depth_16 : decode c_T_depth 16 = .ok (.ldc2_w 50, 3) := by decide +kernel
theorem d_T_depth_19 : decode c_T_depth 19 = .ok (.ldc2_w 52, 3) := by decide +kernel
theorem d_T_depth_22 : decode c_T_depth 22 = .ok (.invokestatic 42, 3) := by decide +kernel
theorem d_T_depth_25 : decode c_T_depth 25 = .ok (.ifCond .ne 7, 3) := by decide +kernel
theorem d_T_depth_28 : decode c_T_depth 28 = .ok (.iconst 2, 1) := by decide +kernel
theorem d_T_depth_29 : decode c_T_depth 29 = .ok (.goto 4, 3) := by decide +kernel
theorem d_T_depth_32 : decode c_T_depth 32 = .ok (.iconst 0, 1) := by decide +kernel
theorem d_T_depth_33 : decode c_T_depth 33 = .ok (.putfield 39, 3) := by decide +kernel
theorem d_T_depth_36 : decode c_T_depth 36 = .ok (.aload_n 0, 1) := by decide +kernel
theorem d_T_depth_37 : decode c_T_depth 37 = .ok (.getfield 39, 3) := by decide +kernel
theorem d_T_depth_40 : decode c_T_depth 40 = .ok (.ifCond .ne 17, 3) := by decide +kernel
theorem d_T_depth_43 : decode c_T_depth 43 = .ok (.aload_n 0, 1) := by decide +kernel
theorem d_T_depth_44 : decode c_T_depth 44 = .ok (.getfield 7, 3) := by decide +kernel
theorem d_T_depth_47 : decode c_T_depth 47 = .ok (.iload_n 1, 1) := by decide +kernel
theorem d_T_depth_48 : decode c_T_depth 48 = .ok (.iload_n 2, 1) := by decide +kernel
theorem d_T_depth_49 : decode c_T_depth 49 = .ok (.iastore, 1) := by decide +kernel
theorem d_T_depth_50 : decode c_T_depth 50 = .ok (.aload_n 0, 1) := by decide +kernel
theorem d_T_depth_51 : decode c_T_depth 51 = .ok (.getfield 13, 3) := by decide +kernel
theorem d_T_depth_54 : decode c_T_depth 54 = .ok (.iload_n 1, 1) := by decide +kernel
theorem d_T_depth_55 : decode c_T_depth 55 = .ok (.iconst 0, 1) := by decide +kernel
theorem d_T_depth_56 : decode c_T_depth 56 = .ok (.bastore, 1) := by decide +kernel
theorem d_T_depth_57 : decode c_T_depth 57 = .ok (.return_, 1) := by decide +kernel
theorem d_T_isPlace_0 : decode c_T_isPlace 0 = .ok (.lload_n 1, 1) := by decide +kernel
theorem d_T_isPlace_1 : decode c_T_isPlace 1 = .ok (.lconst 0, 1) := by decide +kernel
theorem d_T_isPlace_2 : decode c_T_isPlace 2 = .ok (.aload_n 0, 1) := by decide +kernel
theorem d_T_isPlace_3 : decode c_T_isPlace 3 = .ok (.getfield 35, 3) := by decide +kernel
theorem d_T_isPlace_6 : decode c_T_isPlace 6 = .ok (.iconst 1, 1) := by decide +kernel
theorem d_T_isPlace_7 : decode c_T_isPlace 7 = .ok (.isub, 1) := by decide +kernel
theorem d_T_isPlace_8 : decode c_T_isPlace 8 = .ok (.i2l, 1) := by decide +kernel
theorem d_T_isPlace_9 : decode c_T_isPlace 9 = .ok (.invokestatic 42, 3) := by decide +kernel
theorem d_T_isPlace_12 : decode c_T_isPlace 12 = .ok (.ireturn, 1) := by decide +kernel
theorem d_T_isIn_0 : decode c_T_isIn 0 = .ok (.lload_n 0, 1) := by decide +kernel
theorem d_T_isIn_1 : decode c_T_isIn 1 = .ok (.lload_n 2, 1) := by decide +kernel
theorem d_T_isIn_2 : decode c_T_isIn 2 = .ok (.lcmp, 1) := by decide +kernel
theorem d_T_isIn_3 : decode c_T_isIn 3 = .ok (.ifCond .lt 14, 3) := by decide +kernel
theorem d_T_isIn_6 : decode c_T_isIn 6 = .ok (.lload_n 0, 1) := by decide +kernel
theorem d_T_isIn_7 : decode c_T_isIn 7 = .ok (.lload 4, 2) := by decide +kernel
theorem d_T_isIn_9 : decode c_T_isIn 9 = .ok (.lcmp, 1) := by decide +kernel
theorem d_T_isIn_10 : decode c_T_isIn 10 = .ok (.ifCond .gt 7, 3) := by decide +kernel
theorem d_T_isIn_13 : decode c_T_isIn 13 = .ok (.iconst 1, 1) := by decide +kernel
theorem d_T_isIn_14 : decode c_T_isIn 14 = .ok (.goto 4, 3) := by decide +kernel
theorem d_T_isIn_17 : decode c_T_isIn 17 = .ok (.iconst 0, 1) := by decide +kernel
theorem d_T_isIn_18 : decode c_T_isIn 18 = .ok (.ireturn, 1) := by decide +kernel
theorem d_T_place_0 : decode c_T_place 0 = .ok (.aload_n 0, 1) := by decide +kernel
theorem d_T_place_1 : decode c_T_place 1 = .ok (.aload_n 0, 1) := by decide +kernel
theorem d_T_place_2 : decode c_T_place 2 = .ok (.iload_n 1, 1) := by decide +kernel
theorem d_T_place_3 : decode c_T_place 3 = .ok (.i2l, 1) := by decide +kernel
theorem d_T_place_4 : decode c_T_place 4 = .ok (.invokevirtual 46, 3) := by decide +kernel
theorem d_T_place_7 : decode c_T_place 7 = .ok (.ifCond .eq 13, 3) := by decide +kernel
theorem d_T_place_10 : decode c_T_place 10 = .ok (.iload_n 2, 1) := by decide +kernel
theorem d_T_place_11 : decode c_T_place 11 = .ok (.i2l, 1) := by decide +kernel
theorem d_T_place_12 : decode c_T_place 12 = .ok (.lconst 0, 1) := by decide +kernel
theorem d_T_place_13 : decode c_T_place 13 = .ok (.lconst 1, 1) := by decide +kernel
theorem d_T_place_14 : decode c_T_place 14 = .ok (.invokestatic 42, 3) := by decide +kernel
theorem d_T_place_17 : decode c_T_place 17 = .ok (.ifCond .ne 7, 3) := by decide +kernel
theorem d_T_place_20 : decode c_T_place 20 = .ok (.iconst 1, 1) := by decide +kernel
theorem d_T_place_21 : decode c_T_place 21 = .ok (.goto 4, 3) := by decide +kernel
theorem d_T_place_24 : decode c_T_place 24 = .ok (.iconst 0, 1) := by decide +kernel
theorem d_T_place_25 : decode c_T_place 25 = .ok (.putfield 39, 3) := by decide +kernel
theorem d_T_place_28 : decode c_T_place 28 = .ok (.aload_n 0, 1) := by decide +kernel
theorem d_T_place_29 : decode c_T_place 29 = .ok (.getfield 39, 3) := by decide +kernel
theorem d_T_place_32 : decode c_T_place 32 = .ok (.ifCond .le 7, 3) := by decide +kernel
theorem d_T_place_35 : decode c_T_place 35 = .ok (.iconst 0, 1) := by decide +kernel
theorem d_T_place_36 : decode c_T_place 36 = .ok (.goto 30, 3) := by decide +kernel
theorem d_T_place_39 : decode c_T_place 39 = .ok (.iload_n 2, 1) := by decide +kernel
theorem d_T_place_40 : decode c_T_place 40 = .ok (.ifCond .ne 12, 3) := by decide +kernel
theorem d_T_place_43 : decode c_T_place 43 = .ok (.aload_n 0, 1) := by decide +kernel
theorem d_T_place_44 : decode c_T_place 44 = .ok (.getfield 7, 3) := by decide +kernel
theorem d_T_place_47 : decode c_T_place 47 = .ok (.iload_n 1, 1) := by decide +kernel
theorem d_T_place_48 : decode c_T_place 48 = .ok (.iaload, 1) := by decide +kernel
theorem d_T_place_49 : decode c_T_place 49 = .ok (.goto 17, 3) := by decide +kernel
theorem d_T_place_52 : decode c_T_place 52 = .ok (.aload_n 0, 1) := by decide +kernel
theorem d_T_place_53 : decode c_T_place 53 = .ok (.getfield 13, 3) := by decide +kernel
theorem d_T_place_56 : decode c_T_place 56 = .ok (.iload_n 1, 1) := by decide +kernel
theorem d_T_place_57 : decode c_T_place 57 = .ok (.baload, 1) := by decide +kernel
theorem d_T_place_58 : decode c_T_place 58 = .ok (.ifCond .eq 7, 3) := by decide +kernel
theorem d_T_place_61 : decode c_T_place 61 = .ok (.iconst 1, 1) := by decide +kernel
theorem d_T_place_62 : decode c_T_place 62 = .ok (.goto 4, 3) := by decide +kernel
theorem d_T_place_65 : decode c_T_place 65 = .ok (.iconst 0, 1) := by decide +kernel
theorem d_T_place_66 : decode c_T_place 66 = .ok (.ireturn, 1) := by decide +kernel
theorem d_T_mirror_0 : decode c_T_mirror 0 = .ok (.aload_n 0, 1) := by decide +kernel
theorem d_T_mirror_1 : decode c_T_mirror 1 = .ok (.invokevirtual 71, 3) := by decide +kernel
theorem d_T_mirror_4 : decode c_T_mirror 4 = .ok (.aload_n 0, 1) := by decide +kernel
theorem d_T_mirror_5 : decode c_T_mirror 5 = .ok (.aload_n 0, 1) := by decide +kernel
theorem d_T_mirror_6 : decode c_T_mirror 6 = .ok (.getfield 61, 3) := by decide +kernel
theorem d_T_mirror_9 : decode c_T_mirror 9 = .ok (.iconst (-1), 1) := by decide +kernel
theorem d_T_mirror_10 : decode c_T_mirror 10 = .ok (.if_icmp .ne 7, 3) := by decide +kernel
theorem d_T_mirror_13 : decode c_T_mirror 13 = .ok (.iconst 1, 1) := by decide +kernel
theorem d_T_mirror_14 : decode c_T_mirror 14 = .ok (.goto 20, 3) := by decide +kernel
theorem d_T_mirror_17 : decode c_T_mirror 17 = .ok (.iload_n 1, 1) := by decide +kernel
theorem d_T_mirror_18 : decode c_T_mirror 18 = .ok (.i2l, 1) := by decide +kernel
theorem d_T_mirror_19 : decode c_T_mirror 19 = .ok (.lconst 0, 1) := by decide +kernel
theorem d_T_mirror_20 : decode c_T_mirror 20 = .ok (.ldc2_w 74, 3) := by decide +kernel
theorem d_T_mirror_23 : decode c_T_mirror 23 = .ok (.invokestatic 42, 3) := by decide +kernel
theorem d_T_mirror_26 : decode c_T_mirror 26 = .ok (.ifCond .ne 7, 3) := by decide +kernel
theorem d_T_mirror_29 : decode c_T_mirror 29 = .ok (.iconst 2, 1) := by decide +kernel
theorem d_T_mirror_30 : decode c_T_mirror 30 = .ok (.goto 4, 3) := by decide +kernel
theorem d_T_mirror_33 : decode c_T_mirror 33 = .ok (.iconst 0, 1) := by decide +kernel
theorem d_T_mirror_34 : decode c_T_mirror 34 = .ok (.putfield 39, 3) := by decide +kernel
theorem d_T_mirror_37 : decode c_T_mirror 37 = .ok (.aload_n 0, 1) := by decide +kernel
theorem d_T_mirror_38 : decode c_T_mirror 38 = .ok (.getfield 39, 3) := by decide +kernel
theorem d_T_mirror_41 : decode c_T_mirror 41 = .ok (.ifCond .le 7, 3) := by decide +kernel
theorem d_T_mirror_44 : decode c_T_mirror 44 = .ok (.lconst 0, 1) := by decide +kernel
theorem d_T_mirror_45 : decode c_T_mirror 45 = .ok (.goto 32, 3) := by decide +kernel
theorem d_T_mirror_48 : decode c_T_mirror 48 = .ok (.iload_n 1, 1) := by decide +kernel
theorem d_T_mirror_49 : decode c_T_mirror 49 = .ok (.ifCond .ne 11, 3) := by decide +kernel
theorem d_T_mirror_52 : decode c_T_mirror 52 = .ok (.aload_n 0, 1) := by decide +kernel
theorem d_T_mirror_53 : decode c_T_mirror 53 = .ok (.getfield 61, 3) := by decide +kernel
theorem d_T_mirror_56 : decode c_T_mirror 56 = .ok (.i2l, 1) := by decide +kernel
theorem d_T_mirror_57 : decode c_T_mirror 57 = .ok (.goto 20, 3) := by decide +kernel
theorem d_T_mirror_60 : decode c_T_mirror 60 = .ok (.iload_n 1, 1) := by decide +kernel
theorem d_T_mirror_61 : decode c_T_mirror 61 = .ok (.iconst 1, 1) := by decide +kernel
theorem d_T_mirror_62 : decode c_T_mirror 62 = .ok (.if_icmp .ne 10, 3) := by decide +kernel
theorem d_T_mirror_65 : decode c_T_mirror 65 = .ok (.aload_n 0, 1) := by decide +kernel
theorem d_T_mirror_66 : decode c_T_mirror 66 = .ok (.getfield 57, 3) := by decide +kernel
theorem d_T_mirror_69 : decode c_T_mirror 69 = .ok (.goto 8, 3) := by decide +kernel
theorem d_T_mirror_72 : decode c_T_mirror 72 = .ok (.aload_n 0, 1) := by decide +kernel
theorem d_T_mirror_73 : decode c_T_mirror 73 = .ok (.getfield 54, 3) := by decide +kernel
theorem d_T_mirror_76 : decode c_T_mirror 76 = .ok (.i2l, 1) := by decide +kernel
theorem d_T_mirror_77 : decode c_T_mirror 77 = .ok (.lreturn, 1) := by decide +kernel
theorem d_T_findMirror_0 : decode c_T_findMirror 0 = .ok (.aload_n 0, 1) := by decide +kernel
theorem d_T_findMirror_1 : decode c_T_findMirror 1 = .ok (.iconst (-1), 1) := by decide +kernel
theorem d_T_findMirror_2 : decode c_T_findMirror 2 = .ok (.putfield 61, 3) := by decide +kernel
theorem d_T_findMirror_5 : decode c_T_findMirror 5 = .ok (.iconst 0, 1) := by decide +kernel
theorem d_T_findMirror_6 : decode c_T_findMirror 6 = .ok (.istore_n 1, 1) := by decide +kernel
theorem d_T_findMirror_7 : decode c_T_findMirror 7 = .ok (.iload_n 1, 1) := by decide +kernel
theorem d_T_findMirror_8 : decode c_T_findMirror 8 = .ok (.iconst 2, 1) := by decide +kernel
theorem d_T_findMirror_9 : decode c_T_findMirror 9 = .ok (.aload_n 0, 1) := by decide +kernel
theorem d_T_findMirror_10 : decode c_T_findMirror 10 = .ok (.getfield 35, 3) := by decide +kernel
theorem d_T_findMirror_13 : decode c_T_findMirror 13 = .ok (.imul, 1) := by decide +kernel
theorem d_T_findMirror_14 : decode c_T_findMirror 14 = .ok (.iconst 2, 1) := by decide +kernel
theorem d_T_findMirror_15 : decode c_T_findMirror 15 = .ok (.isub, 1) := by decide +kernel
theorem d_T_findMirror_16 : decode c_T_findMirror 16 = .ok (.if_icmp .gt 127, 3) := by decide +kernel
theorem d_T_findMirror_19 : decode c_T_findMirror 19 = .ok (.lconst 0, 1) := by decide +kernel
theorem d_T_findMirror_20 : decode c_T_findMirror 20 = .ok (.lstore_n 2, 1) := by decide +kernel
theorem d_T_findMirror_21 : decode c_T_findMirror 21 = .ok (.iconst 0, 1) := by decide +kernel
theorem d_T_findMirror_22 : decode c_T_findMirror 22 = .ok (.istore 4, 2) := by decide +kernel
theorem d_T_findMirror_24 : decode c_T_findMirror 24 = .ok (.iconst 0, 1) := by decide +kernel
theorem d_T_findMirror_25 : decode c_T_findMirror 25 = .ok (.istore 5, 2) := by decide +kernel
theorem d_T_findMirror_27 : decode c_T_findMirror 27 = .ok (.iload 5, 2) := by decide +kernel
theorem d_T_findMirror_29 : decode c_T_findMirror 29 = .ok (.iload_n 1, 1) := by decide +kernel
theorem d_T_findMirror_30 : decode c_T_findMirror 30 = .ok (.iload 5, 2) := by decide +kernel
theorem d_T_findMirror_32 : decode c_T_findMirror 32 = .ok (.isub, 1) := by decide +kernel
theorem d_T_findMirror_33 : decode c_T_findMirror 33 = .ok (.if_icmp .ge 62, 3) := by decide +kernel
theorem d_T_findMirror_36 : decode c_T_findMirror 36 = .ok (.aload_n 0, 1) := by decide +kernel
theorem d_T_findMirror_37 : decode c_T_findMirror 37 = .ok (.iload 5, 2) := by decide +kernel
theorem d_T_findMirror_39 : decode c_T_findMirror 39 = .ok (.i2l, 1) := by decide +kernel
theorem d_T_findMirror_40 : decode c_T_findMirror 40 = .ok (.invokevirtual 64, 3) := by decide +kernel
theorem d_T_findMirror_43 : decode c_T_findMirror 43 = .ok (.ifCond .eq 46, 3) := by decide +kernel
theorem d_T_findMirror_46 : decode c_T_findMirror 46 = .ok (.aload_n 0, 1) := by decide +kernel
theorem d_T_findMirror_47 : decode c_T_findMirror 47 = .ok (.iload_n 1, 1) := by decide +kernel
theorem d_T_findMirror_48 : decode c_T_findMirror 48 = .ok (.iload 5, 2) := by decide +kernel
theorem d_T_findMirror_50 : decode c_T_findMirror 50 = .ok (.isub, 1) := by decide +kernel
theorem d_T_findMirror_51 : decode c_T_findMirror 51 = .ok (.i2l, 1) := by decide +kernel
theorem d_T_findMirror_52 : decode c_T_findMirror 52 = .ok (.invokevirtual 64, 3) := by decide +kernel
theorem d_T_findMirror_55 : decode c_T_findMirror 55 = .ok (.ifCond .eq 34, 3) := by decide +kernel
theorem d_T_findMirror_58 : decode c_T_findMirror 58 = .ok (.aload_n 0, 1) := by decide +kernel
theorem d_T_findMirror_59 : decode c_T_findMirror 59 = .ok (.getfield 7, 3) := by decide +kernel
theorem d_T_findMirror_62 : decode c_T_findMirror 62 = .ok (.iload 5, 2) := by decide +kernel
theorem d_T_findMirror_64 : decode c_T_findMirror 64 = .ok (.iaload, 1) := by decide +kernel
theorem d_T_findMirror_65 : decode c_T_findMirror 65 = .ok (.aload_n 0, 1) := by decide +kernel
theorem d_T_findMirror_66 : decode c_T_findMirror 66 = .ok (.getfield 7, 3) := by decide +kernel
theorem d_T_findMirror_69 : decode c_T_findMirror 69 = .ok (.iload_n 1, 1) := by decide +kernel
theorem d_T_findMirror_70 : decode c_T_findMirror 70 = .ok (.iload 5, 2) := by decide +kernel
theorem d_T_findMirror_72 : decode c_T_findMirror 72 = .ok (.isub, 1) := by decide +kernel
theorem d_T_findMirror_73 : decode c_T_findMirror 73 = .ok (.iaload, 1) := by decide +kernel
theorem d_T_findMirror_74 : decode c_T_findMirror 74 = .ok (.isub, 1) := by decide +kernel
theorem d_T_findMirror_75 : decode c_T_findMirror 75 = .ok (.istore 6, 2) := by decide +kernel
theorem d_T_findMirror_77 : decode c_T_findMirror 77 = .ok (.lload_n 2, 1) := by decide +kernel
theorem d_T_findMirror_78 : decode c_T_findMirror 78 = .ok (.iload 6, 2) := by decide +kernel
theorem d_T_findMirror_80 : decode c_T_findMirror 80 = .ok (.iload 6, 2) := by decide +kernel
theorem d_T_findMirror_82 : decode c_T_findMirror 82 = .ok (.imul, 1) := by decide +kernel
theorem d_T_findMirror_83 : decode c_T_findMirror 83 = .ok (.i2l, 1) := by decide +kernel
theorem d_T_findMirror_84 : decode c_T_findMirror 84 = .ok (.ladd, 1) := by decide +kernel
theorem d_T_findMirror_85 : decode c_T_findMirror 85 = .ok (.lstore_n 2, 1) := by decide +kernel
theorem d_T_findMirror_86 : decode c_T_findMirror 86 = .ok (.iinc 4 1, 3) := by decide +kernel
theorem d_T_findMirror_89 : decode c_T_findMirror 89 = .ok (.iinc 5 1, 3) := by decide +kernel
theorem d_T_findMirror_92 : decode c_T_findMirror 92 = .ok (.goto (-65), 3) := by decide +kernel
theorem d_T_findMirror_95 : decode c_T_findMirror 95 = .ok (.iload 4, 2) := by decide +kernel
theorem d_T_findMirror_97 : decode c_T_findMirror 97 = .ok (.ifCond .le 40, 3) := by decide +kernel
theorem d_T_findMirror_100 : decode c_T_findMirror 100 = .ok (.iload 4, 2) := by decide +kernel
theorem d_T_findMirror_102 : decode c_T_findMirror 102 = .ok (.aload_n 0, 1) := by decide +kernel
theorem d_T_findMirror_103 : decode c_T_findMirror 103 = .ok (.getfield 35, 3) := by decide +kernel
theorem d_T_findMirror_106 : decode c_T_findMirror 106 = .ok (.iconst 4, 1) := by decide +kernel
theorem d_T_findMirror_107 : decode c_T_findMirror 107 = .ok (.idiv, 1) := by decide +kernel
theorem d_T_findMirror_108 : decode c_T_findMirror 108 = .ok (.if_icmp .lt 29, 3) := by decide +kernel
theorem d_T_findMirror_111 : decode c_T_findMirror 111 = .ok (.aload_n 0, 1) := by decide +kernel
theorem d_T_findMirror_112 : decode c_T_findMirror 112 = .ok (.lload_n 2, 1) := by decide +kernel
theorem d_T_findMirror_113 : decode c_T_findMirror 113 = .ok (.iload 4, 2) := by decide +kernel
theorem d_T_findMirror_115 : decode c_T_findMirror 115 = .ok (.invokevirtual 67, 3) := by decide +kernel
theorem d_T_findMirror_118 : decode c_T_findMirror 118 = .ok (.ifCond .eq 19, 3) := by decide +kernel
theorem d_T_findMirror_121 : decode c_T_findMirror 121 = .ok (.aload_n 0, 1) := by decide +kernel
theorem d_T_findMirror_122 : decode c_T_findMirror 122 = .ok (.iload_n 1, 1) := by decide +kernel
theorem d_T_findMirror_123 : decode c_T_findMirror 123 = .ok (.putfield 61, 3) := by decide +kernel
theorem d_T_findMirror_126 : decode c_T_findMirror 126 = .ok (.aload_n 0, 1) := by decide +kernel
theorem d_T_findMirror_127 : decode c_T_findMirror 127 = .ok (.lload_n 2, 1) := by decide +kernel
theorem d_T_findMirror_128 : decode c_T_findMirror 128 = .ok (.putfield 57, 3) := by decide +kernel
theorem d_T_findMirror_131 : decode c_T_findMirror 131 = .ok (.aload_n 0, 1) := by decide +kernel
theorem d_T_findMirror_132 : decode c_T_findMirror 132 = .ok (.iload 4, 2) := by decide +kernel
theorem d_T_findMirror_134 : decode c_T_findMirror 134 = .ok (.putfield 54, 3) := by decide +kernel
theorem d_T_findMirror_137 : decode c_T_findMirror 137 = .ok (.iinc 1 1, 3) := by decide +kernel
theorem d_T_findMirror_140 : decode c_T_findMirror 140 = .ok (.goto (-133), 3) := by decide +kernel
theorem d_T_findMirror_143 : decode c_T_findMirror 143 = .ok (.return_, 1) := by decide +kernel
theorem d_T_isKnown_0 : decode c_T_isKnown 0 = .ok (.aload_n 0, 1) := by decide +kernel
theorem d_T_isKnown_1 : decode c_T_isKnown 1 = .ok (.lload_n 1, 1) := by decide +kernel
theorem d_T_isKnown_2 : decode c_T_isKnown 2 = .ok (.invokevirtual 46, 3) := by decide +kernel
theorem d_T_isKnown_5 : decode c_T_isKnown 5 = .ok (.ifCond .eq 27, 3) := by decide +kernel
theorem d_T_isKnown_8 : decode c_T_isKnown 8 = .ok (.aload_n 0, 1) := by decide +kernel
theorem d_T_isKnown_9 : decode c_T_isKnown 9 = .ok (.getfield 7, 3) := by decide +kernel
theorem d_T_isKnown_12 : decode c_T_isKnown 12 = .ok (.lload_n 1, 1) := by decide +kernel
theorem d_T_isKnown_13 : decode c_T_isKnown 13 = .ok (.l2i, 1) := by decide +kernel
theorem d_T_isKnown_14 : decode c_T_isKnown 14 = .ok (.iaload, 1) := by decide +kernel
theorem d_T_isKnown_15 : decode c_T_isKnown 15 = .ok (.ifCond .lt 17, 3) := by decide +kernel
theorem d_T_isKnown_18 : decode c_T_isKnown 18 = .ok (.aload_n 0, 1) := by decide +kernel
theorem d_T_isKnown_19 : decode c_T_isKnown 19 = .ok (.getfield 13, 3) := by decide +kernel
theorem d_T_isKnown_22 : decode c_T_isKnown 22 = .ok (.lload_n 1, 1) := by decide +kernel
theorem d_T_isKnown_23 : decode c_T_isKnown 23 = .ok (.l2i, 1) := by decide +kernel
theorem d_T_isKnown_24 : decode c_T_isKnown 24 = .ok (.baload, 1) := by decide +kernel
theorem d_T_isKnown_25 : decode c_T_isKnown 25 = .ok (.ifCond .ne 7, 3) := by decide +kernel
theorem d_T_isKnown_28 : decode c_T_isKnown 28 = .ok (.iconst 1, 1) := by decide +kernel
theorem d_T_isKnown_29 : decode c_T_isKnown 29 = .ok (.goto 4, 3) := by decide +kernel
theorem d_T_isKnown_32 : decode c_T_isKnown 32 = .ok (.iconst 0, 1) := by decide +kernel
theorem d_T_isKnown_33 : decode c_T_isKnown 33 = .ok (.ireturn, 1) := by decide +kernel
theorem d_T_isBetter_0 : decode c_T_isBetter 0 = .ok (.lload_n 1, 1) := by decide +kernel
theorem d_T_isBetter_1 : decode c_T_isBetter 1 = .ok (.aload_n 0, 1) := by decide +kernel
theorem d_T_isBetter_2 : decode c_T_isBetter 2 = .ok (.getfield 54, 3) := by decide +kernel
theorem d_T_isBetter_5 : decode c_T_isBetter 5 = .ok (.i2l, 1) := by decide +kernel
theorem d_T_isBetter_6 : decode c_T_isBetter 6 = .ok (.lmul, 1) := by decide +kernel
theorem d_T_isBetter_7 : decode c_T_isBetter 7 = .ok (.lstore 4, 2) := by decide +kernel
theorem d_T_isBetter_9 : decode c_T_isBetter 9 = .ok (.aload_n 0, 1) := by decide +kernel
theorem d_T_isBetter_10 : decode c_T_isBetter 10 = .ok (.getfield 57, 3) := by decide +kernel
theorem d_T_isBetter_13 : decode c_T_isBetter 13 = .ok (.iload_n 3, 1) := by decide +kernel
theorem d_T_isBetter_14 : decode c_T_isBetter 14 = .ok (.i2l, 1) := by decide +kernel
theorem d_T_isBetter_15 : decode c_T_isBetter 15 = .ok (.lmul, 1) := by decide +kernel
theorem d_T_isBetter_16 : decode c_T_isBetter 16 = .ok (.lstore 6, 2) := by decide +kernel
theorem d_T_isBetter_18 : decode c_T_isBetter 18 = .ok (.aload_n 0, 1) := by decide +kernel
theorem d_T_isBetter_19 : decode c_T_isBetter 19 = .ok (.getfield 61, 3) := by decide +kernel
theorem d_T_isBetter_22 : decode c_T_isBetter 22 = .ok (.iconst (-1), 1) := by decide +kernel
theorem d_T_isBetter_23 : decode c_T_isBetter 23 = .ok (.if_icmp .eq 27, 3) := by decide +kernel
theorem d_T_isBetter_26 : decode c_T_isBetter 26 = .ok (.lload 4, 2) := by decide +kernel
theorem d_T_isBetter_28 : decode c_T_isBetter 28 = .ok (.lload 6, 2) := by decide +kernel
theorem d_T_isBetter_30 : decode c_T_isBetter 30 = .ok (.lcmp, 1) := by decide +kernel
theorem d_T_isBetter_31 : decode c_T_isBetter 31 = .ok (.ifCond .lt 19, 3) := by decide +kernel
theorem d_T_isBetter_34 : decode c_T_isBetter 34 = .ok (.lload 4, 2) := by decide +kernel
theorem d_T_isBetter_36 : decode c_T_isBetter 36 = .ok (.lload 6, 2) := by decide +kernel
theorem d_T_isBetter_38 : decode c_T_isBetter 38 = .ok (.lcmp, 1) := by decide +kernel
theorem d_T_isBetter_39 : decode c_T_isBetter 39 = .ok (.ifCond .ne 15, 3) := by decide +kernel
theorem d_T_isBetter_42 : decode c_T_isBetter 42 = .ok (.iload_n 3, 1) := by decide +kernel
theorem d_T_isBetter_43 : decode c_T_isBetter 43 = .ok (.aload_n 0, 1) := by decide +kernel
theorem d_T_isBetter_44 : decode c_T_isBetter 44 = .ok (.getfield 54, 3) := by decide +kernel
theorem d_T_isBetter_47 : decode c_T_isBetter 47 = .ok (.if_icmp .le 7, 3) := by decide +kernel
theorem d_T_isBetter_50 : decode c_T_isBetter 50 = .ok (.iconst 1, 1) := by decide +kernel
theorem d_T_isBetter_51 : decode c_T_isBetter 51 = .ok (.goto 4, 3) := by decide +kernel
theorem d_T_isBetter_54 : decode c_T_isBetter 54 = .ok (.iconst 0, 1) := by decide +kernel
theorem d_T_isBetter_55 : decode c_T_isBetter 55 = .ok (.ireturn, 1) := by decide +kernel
theorem d_T_sum_0 : decode c_T_sum 0 = .ok (.aload_n 0, 1) := by decide +kernel
theorem d_T_sum_1 : decode c_T_sum 1 = .ok (.iload_n 1, 1) := by decide +kernel
theorem d_T_sum_2 : decode c_T_sum 2 = .ok (.i2l, 1) := by decide +kernel
theorem d_T_sum_3 : decode c_T_sum 3 = .ok (.lconst 1, 1) := by decide +kernel
theorem d_T_sum_4 : decode c_T_sum 4 = .ok (.aload_n 0, 1) := by decide +kernel
theorem d_T_sum_5 : decode c_T_sum 5 = .ok (.getfield 35, 3) := by decide +kernel
theorem d_T_sum_8 : decode c_T_sum 8 = .ok (.iconst 1, 1) := by decide +kernel
theorem d_T_sum_9 : decode c_T_sum 9 = .ok (.isub, 1) := by decide +kernel
theorem d_T_sum_10 : decode c_T_sum 10 = .ok (.i2l, 1) := by decide +kernel
theorem d_T_sum_11 : decode c_T_sum 11 = .ok (.invokestatic 42, 3) := by decide +kernel
theorem d_T_sum_14 : decode c_T_sum 14 = .ok (.ifCond .ne 7, 3) := by decide +kernel
theorem d_T_sum_17 : decode c_T_sum 17 = .ok (.iconst 1, 1) := by decide +kernel
theorem d_T_sum_18 : decode c_T_sum 18 = .ok (.goto 4, 3) := by decide +kernel
theorem d_T_sum_21 : decode c_T_sum 21 = .ok (.iconst 0, 1) := by decide +kernel
theorem d_T_sum_22 : decode c_T_sum 22 = .ok (.putfield 39, 3) := by decide +kernel
theorem d_T_sum_25 : decode c_T_sum 25 = .ok (.aload_n 0, 1) := by decide +kernel
theorem d_T_sum_26 : decode c_T_sum 26 = .ok (.getfield 39, 3) := by decide +kernel
theorem d_T_sum_29 : decode c_T_sum 29 = .ok (.ifCond .le 7, 3) := by decide +kernel
theorem d_T_sum_32 : decode c_T_sum 32 = .ok (.lconst 0, 1) := by decide +kernel
theorem d_T_sum_33 : decode c_T_sum 33 = .ok (.goto 8, 3) := by decide +kernel
theorem d_T_sum_36 : decode c_T_sum 36 = .ok (.aload_n 0, 1) := by decide +kernel
theorem d_T_sum_37 : decode c_T_sum 37 = .ok (.iload_n 1, 1) := by decide +kernel
theorem d_T_sum_38 : decode c_T_sum 38 = .ok (.invokevirtual 76, 3) := by decide +kernel
theorem d_T_sum_41 : decode c_T_sum 41 = .ok (.lreturn, 1) := by decide +kernel
theorem d_T_sumOf_0 : decode c_T_sumOf 0 = .ok (.lconst 0, 1) := by decide +kernel
theorem d_T_sumOf_1 : decode c_T_sumOf 1 = .ok (.lstore_n 2, 1) := by decide +kernel
theorem d_T_sumOf_2 : decode c_T_sumOf 2 = .ok (.iconst 0, 1) := by decide +kernel
theorem d_T_sumOf_3 : decode c_T_sumOf 3 = .ok (.istore 4, 2) := by decide +kernel
theorem d_T_sumOf_5 : decode c_T_sumOf 5 = .ok (.iload 4, 2) := by decide +kernel
theorem d_T_sumOf_7 : decode c_T_sumOf 7 = .ok (.iload_n 1, 1) := by decide +kernel
theorem d_T_sumOf_8 : decode c_T_sumOf 8 = .ok (.iadd, 1) := by decide +kernel
theorem d_T_sumOf_9 : decode c_T_sumOf 9 = .ok (.aload_n 0, 1) := by decide +kernel
theorem d_T_sumOf_10 : decode c_T_sumOf 10 = .ok (.getfield 35, 3) := by decide +kernel
theorem d_T_sumOf_13 : decode c_T_sumOf 13 = .ok (.if_icmp .ge 64, 3) := by decide +kernel
theorem d_T_sumOf_16 : decode c_T_sumOf 16 = .ok (.aload_n 0, 1) := by decide +kernel
theorem d_T_sumOf_17 : decode c_T_sumOf 17 = .ok (.iload 4, 2) := by decide +kernel
theorem d_T_sumOf_19 : decode c_T_sumOf 19 = .ok (.i2l, 1) := by decide +kernel
theorem d_T_sumOf_20 : decode c_T_sumOf 20 = .ok (.invokevirtual 64, 3) := by decide +kernel
theorem d_T_sumOf_23 : decode c_T_sumOf 23 = .ok (.ifCond .eq 46, 3) := by decide +kernel
theorem d_T_sumOf_26 : decode c_T_sumOf 26 = .ok (.aload_n 0, 1) := by decide +kernel
theorem d_T_sumOf_27 : decode c_T_sumOf 27 = .ok (.iload 4, 2) := by decide +kernel
theorem d_T_sumOf_29 : decode c_T_sumOf 29 = .ok (.iload_n 1, 1) := by decide +kernel
theorem d_T_sumOf_30 : decode c_T_sumOf 30 = .ok (.iadd, 1) := by decide +kernel
theorem d_T_sumOf_31 : decode c_T_sumOf 31 = .ok (.i2l, 1) := by decide +kernel
theorem d_T_sumOf_32 : decode c_T_sumOf 32 = .ok (.invokevirtual 64, 3) := by decide +kernel
theorem d_T_sumOf_35 : decode c_T_sumOf 35 = .ok (.ifCond .eq 34, 3) := by decide +kernel
theorem d_T_sumOf_38 : decode c_T_sumOf 38 = .ok (.lload_n 2, 1) := by decide +kernel
theorem d_T_sumOf_39 : decode c_T_sumOf 39 = .ok (.aload_n 0, 1) := by decide +kernel
theorem d_T_sumOf_40 : decode c_T_sumOf 40 = .ok (.getfield 7, 3) := by decide +kernel
theorem d_T_sumOf_43 : decode c_T_sumOf 43 = .ok (.iload 4, 2) := by decide +kernel
theorem d_T_sumOf_45 : decode c_T_sumOf 45 = .ok (.iaload, 1) := by decide +kernel
theorem d_T_sumOf_46 : decode c_T_sumOf 46 = .ok (.sipush 128, 3) := by decide +kernel
theorem d_T_sumOf_49 : decode c_T_sumOf 49 = .ok (.isub, 1) := by decide +kernel
theorem d_T_sumOf_50 : decode c_T_sumOf 50 = .ok (.aload_n 0, 1) := by decide +kernel
theorem d_T_sumOf_51 : decode c_T_sumOf 51 = .ok (.getfield 7, 3) := by decide +kernel
theorem d_T_sumOf_54 : decode c_T_sumOf 54 = .ok (.iload 4, 2) := by decide +kernel
theorem d_T_sumOf_56 : decode c_T_sumOf 56 = .ok (.iload_n 1, 1) := by decide +kernel
theorem d_T_sumOf_57 : decode c_T_sumOf 57 = .ok (.iadd, 1) := by decide +kernel
theorem d_T_sumOf_58 : decode c_T_sumOf 58 = .ok (.iaload, 1) := by decide +kernel
theorem d_T_sumOf_59 : decode c_T_sumOf 59 = .ok (.sipush 128, 3) := by decide +kernel
theorem d_T_sumOf_62 : decode c_T_sumOf 62 = .ok (.isub, 1) := by decide +kernel
theorem d_T_sumOf_63 : decode c_T_sumOf 63 = .ok (.imul, 1) := by decide +kernel
theorem d_T_sumOf_64 : decode c_T_sumOf 64 = .ok (.i2l, 1) := by decide +kernel
theorem d_T_sumOf_65 : decode c_T_sumOf 65 = .ok (.ladd, 1) := by decide +kernel
theorem d_T_sumOf_66 : decode c_T_sumOf 66 = .ok (.goto 4, 3) := by decide +kernel
theorem d_T_sumOf_69 : decode c_T_sumOf 69 = .ok (.lload_n 2, 1) := by decide +kernel
theorem d_T_sumOf_70 : decode c_T_sumOf 70 = .ok (.lstore_n 2, 1) := by decide +kernel
theorem d_T_sumOf_71 : decode c_T_sumOf 71 = .ok (.iinc 4 1, 3) := by decide +kernel
theorem d_T_sumOf_74 : decode c_T_sumOf 74 = .ok (.goto (-69), 3) := by decide +kernel
theorem d_T_sumOf_77 : decode c_T_sumOf 77 = .ok (.lload_n 2, 1) := by decide +kernel
theorem d_T_sumOf_78 : decode c_T_sumOf 78 = .ok (.lreturn, 1) := by decide +kernel
theorem d_T_repeat__0 : decode c_T_repeat_ 0 = .ok (.aload_n 0, 1) := by decide +kernel
theorem d_T_repeat__1 : decode c_T_repeat_ 1 = .ok (.iload_n 1, 1) := by decide +kernel
theorem d_T_repeat__2 : decode c_T_repeat_ 2 = .ok (.i2l, 1) := by decide +kernel
theorem d_T_repeat__3 : decode c_T_repeat_ 3 = .ok (.lconst 1, 1) := by decide +kernel
theorem d_T_repeat__4 : decode c_T_repeat_ 4 = .ok (.aload_n 0, 1) := by decide +kernel
theorem d_T_repeat__5 : decode c_T_repeat_ 5 = .ok (.getfield 35, 3) := by decide +kernel
theorem d_T_repeat__8 : decode c_T_repeat_ 8 = .ok (.iconst 1, 1) := by decide +kernel
theorem d_T_repeat__9 : decode c_T_repeat_ 9 = .ok (.isub, 1) := by decide +kernel
theorem d_T_repeat__10 : decode c_T_repeat_ 10 = .ok (.i2l, 1) := by decide +kernel
theorem d_T_repeat__11 : decode c_T_repeat_ 11 = .ok (.invokestatic 42, 3) := by decide +kernel
theorem d_T_repeat__14 : decode c_T_repeat_ 14 = .ok (.ifCond .eq 20, 3) := by decide +kernel
theorem d_T_repeat__17 : decode c_T_repeat_ 17 = .ok (.iload_n 2, 1) := by decide +kernel
theorem d_T_repeat__18 : decode c_T_repeat_ 18 = .ok (.i2l, 1) := by decide +kernel
theorem d_T_repeat__19 : decode c_T_repeat_ 19 = .ok (.iload_n 1, 1) := by decide +kernel
theorem d_T_repeat__20 : decode c_T_repeat_ 20 = .ok (.i2l, 1) := by decide +kernel
theorem d_T_repeat__21 : decode c_T_repeat_ 21 = .ok (.aload_n 0, 1) := by decide +kernel
theorem d_T_repeat__22 : decode c_T_repeat_ 22 = .ok (.getfield 35, 3) := by decide +kernel
theorem d_T_repeat__25 : decode c_T_repeat_ 25 = .ok (.iconst 1, 1) := by decide +kernel
theorem d_T_repeat__26 : decode c_T_repeat_ 26 = .ok (.isub, 1) := by decide +kernel
theorem d_T_repeat__27 : decode c_T_repeat_ 27 = .ok (.i2l, 1) := by decide +kernel
theorem d_T_repeat__28 : decode c_T_repeat_ 28 = .ok (.invokestatic 42, 3) := by decide +kernel
theorem d_T_repeat__31 : decode c_T_repeat_ 31 = .ok (.ifCond .ne 7, 3) := by decide +kernel
theorem d_T_repeat__34 : decode c_T_repeat_ 34 = .ok (.iconst 1, 1) := by decide +kernel
theorem d_T_repeat__35 : decode c_T_repeat_ 35 = .ok (.goto 4, 3) := by decide +kernel
theorem d_T_repeat__38 : decode c_T_repeat_ 38 = .ok (.iconst 0, 1) := by decide +kernel
theorem d_T_repeat__39 : decode c_T_repeat_ 39 = .ok (.putfield 39, 3) := by decide +kernel
theorem d_T_repeat__42 : decode c_T_repeat_ 42 = .ok (.aload_n 0, 1) := by decide +kernel
theorem d_T_repeat__43 : decode c_T_repeat_ 43 = .ok (.getfield 39, 3) := by decide +kernel
theorem d_T_repeat__46 : decode c_T_repeat_ 46 = .ok (.ifCond .le 5, 3) := by decide +kernel
theorem d_T_repeat__49 : decode c_T_repeat_ 49 = .ok (.iconst 0, 1) := by decide +kernel
theorem d_T_repeat__50 : decode c_T_repeat_ 50 = .ok (.ireturn, 1) := by decide +kernel
theorem d_T_repeat__51 : decode c_T_repeat_ 51 = .ok (.iload_n 1, 1) := by decide +kernel
theorem d_T_repeat__52 : decode c_T_repeat_ 52 = .ok (.istore_n 3, 1) := by decide +kernel
theorem d_T_repeat__53 : decode c_T_repeat_ 53 = .ok (.iload_n 1, 1) := by decide +kernel
theorem d_T_repeat__54 : decode c_T_repeat_ 54 = .ok (.iconst 1, 1) := by decide +kernel
theorem d_T_repeat__55 : decode c_T_repeat_ 55 = .ok (.iadd, 1) := by decide +kernel
theorem d_T_repeat__56 : decode c_T_repeat_ 56 = .ok (.istore 4, 2) := by decide +kernel
theorem d_T_repeat__58 : decode c_T_repeat_ 58 = .ok (.iload 4, 2) := by decide +kernel
theorem d_T_repeat__60 : decode c_T_repeat_ 60 = .ok (.iload_n 2, 1) := by decide +kernel
theorem d_T_repeat__61 : decode c_T_repeat_ 61 = .ok (.if_icmp .gt 31, 3) := by decide +kernel
theorem d_T_repeat__64 : decode c_T_repeat_ 64 = .ok (.aload_n 0, 1) := by decide +kernel
theorem d_T_repeat__65 : decode c_T_repeat_ 65 = .ok (.iload 4, 2) := by decide +kernel
theorem d_T_repeat__67 : decode c_T_repeat_ 67 = .ok (.invokevirtual 76, 3) := by decide +kernel
theorem d_T_repeat__70 : decode c_T_repeat_ 70 = .ok (.aload_n 0, 1) := by decide +kernel
theorem d_T_repeat__71 : decode c_T_repeat_ 71 = .ok (.iload_n 3, 1) := by decide +kernel
theorem d_T_repeat__72 : decode c_T_repeat_ 72 = .ok (.invokevirtual 76, 3) := by decide +kernel
theorem d_T_repeat__75 : decode c_T_repeat_ 75 = .ok (.lcmp, 1) := by decide +kernel
theorem d_T_repeat__76 : decode c_T_repeat_ 76 = .ok (.ifCond .le 8, 3) := by decide +kernel
theorem d_T_repeat__79 : decode c_T_repeat_ 79 = .ok (.iload 4, 2) := by decide +kernel
theorem d_T_repeat__81 : decode c_T_repeat_ 81 = .ok (.goto 4, 3) := by decide +kernel
theorem d_T_repeat__84 : decode c_T_repeat_ 84 = .ok (.iload_n 3, 1) := by decide +kernel
theorem d_T_repeat__85 : decode c_T_repeat_ 85 = .ok (.istore_n 3, 1) := by decide +kernel
theorem d_T_repeat__86 : decode c_T_repeat_ 86 = .ok (.iinc 4 1, 3) := by decide +kernel
theorem d_T_repeat__89 : decode c_T_repeat_ 89 = .ok (.goto (-31), 3) := by decide +kernel
theorem d_T_repeat__92 : decode c_T_repeat_ 92 = .ok (.iload_n 3, 1) := by decide +kernel
theorem d_T_repeat__93 : decode c_T_repeat_ 93 = .ok (.ireturn, 1) := by decide +kernel
theorem d_T_fill_0 : decode c_T_fill 0 = .ok (.aload_n 0, 1) := by decide +kernel
theorem d_T_fill_1 : decode c_T_fill 1 = .ok (.iload_n 1, 1) := by decide +kernel
theorem d_T_fill_2 : decode c_T_fill 2 = .ok (.i2l, 1) := by decide +kernel
theorem d_T_fill_3 : decode c_T_fill 3 = .ok (.lconst 0, 1) := by decide +kernel
theorem d_T_fill_4 : decode c_T_fill 4 = .ok (.aload_n 0, 1) := by decide +kernel
theorem d_T_fill_5 : decode c_T_fill 5 = .ok (.getfield 35, 3) := by decide +kernel
theorem d_T_fill_8 : decode c_T_fill 8 = .ok (.iconst 1, 1) := by decide +kernel
theorem d_T_fill_9 : decode c_T_fill 9 = .ok (.isub, 1) := by decide +kernel
theorem d_T_fill_10 : decode c_T_fill 10 = .ok (.i2l, 1) := by decide +kernel
theorem d_T_fill_11 : decode c_T_fill 11 = .ok (.invokestatic 42, 3) := by decide +kernel
theorem d_T_fill_14 : decode c_T_fill 14 = .ok (.ifCond .eq 23, 3) := by decide +kernel
theorem d_T_fill_17 : decode c_T_fill 17 = .ok (.iload_n 2, 1) := by decide +kernel
theorem d_T_fill_18 : decode c_T_fill 18 = .ok (.i2l, 1) := by decide +kernel
theorem d_T_fill_19 : decode c_T_fill 19 = .ok (.ldc2_w 50, 3) := by decide +kernel
theorem d_T_fill_22 : decode c_T_fill 22 = .ok (.iconst 2, 1) := by decide +kernel
theorem d_T_fill_23 : decode c_T_fill 23 = .ok (.aload_n 0, 1) := by decide +kernel
theorem d_T_fill_24 : decode c_T_fill 24 = .ok (.getfield 35, 3) := by decide +kernel
theorem d_T_fill_27 : decode c_T_fill 27 = .ok (.imul, 1) := by decide +kernel
theorem d_T_fill_28 : decode c_T_fill 28 = .ok (.iconst 2, 1) := by decide +kernel
theorem d_T_fill_29 : decode c_T_fill 29 = .ok (.isub, 1) := by decide +kernel
theorem d_T_fill_30 : decode c_T_fill 30 = .ok (.i2l, 1) := by decide +kernel
theorem d_T_fill_31 : decode c_T_fill 31 = .ok (.invokestatic 42, 3) := by decide +kernel
theorem d_T_fill_34 : decode c_T_fill 34 = .ok (.ifCond .ne 7, 3) := by decide +kernel
theorem d_T_fill_37 : decode c_T_fill 37 = .ok (.iconst 1, 1) := by decide +kernel
theorem d_T_fill_38 : decode c_T_fill 38 = .ok (.goto 4, 3) := by decide +kernel
theorem d_T_fill_41 : decode c_T_fill 41 = .ok (.iconst 0, 1) := by decide +kernel
theorem d_T_fill_42 : decode c_T_fill 42 = .ok (.putfield 39, 3) := by decide +kernel
theorem d_T_fill_45 : decode c_T_fill 45 = .ok (.iconst 0, 1) := by decide +kernel
theorem d_T_fill_46 : decode c_T_fill 46 = .ok (.istore_n 3, 1) := by decide +kernel
theorem d_T_fill_47 : decode c_T_fill 47 = .ok (.iconst 0, 1) := by decide +kernel
theorem d_T_fill_48 : decode c_T_fill 48 = .ok (.istore 4, 2) := by decide +kernel
theorem d_T_fill_50 : decode c_T_fill 50 = .ok (.iload 4, 2) := by decide +kernel
theorem d_T_fill_52 : decode c_T_fill 52 = .ok (.aload_n 0, 1) := by decide +kernel
theorem d_T_fill_53 : decode c_T_fill 53 = .ok (.getfield 35, 3) := by decide +kernel
theorem d_T_fill_56 : decode c_T_fill 56 = .ok (.if_icmp .ge 70, 3) := by decide +kernel
theorem d_T_fill_59 : decode c_T_fill 59 = .ok (.aload_n 0, 1) := by decide +kernel
theorem d_T_fill_60 : decode c_T_fill 60 = .ok (.getfield 39, 3) := by decide +kernel
theorem d_T_fill_63 : decode c_T_fill 63 = .ok (.ifCond .ne 63, 3) := by decide +kernel
theorem d_T_fill_66 : decode c_T_fill 66 = .ok (.aload_n 0, 1) := by decide +kernel
theorem d_T_fill_67 : decode c_T_fill 67 = .ok (.getfield 7, 3) := by decide +kernel
theorem d_T_fill_70 : decode c_T_fill 70 = .ok (.iload 4, 2) := by decide +kernel
theorem d_T_fill_72 : decode c_T_fill 72 = .ok (.iaload, 1) := by decide +kernel
theorem d_T_fill_73 : decode c_T_fill 73 = .ok (.ifCond .ge 14, 3) := by decide +kernel
theorem d_T_fill_76 : decode c_T_fill 76 = .ok (.aload_n 0, 1) := by decide +kernel
theorem d_T_fill_77 : decode c_T_fill 77 = .ok (.iload 4, 2) := by decide +kernel
theorem d_T_fill_79 : decode c_T_fill 79 = .ok (.iload_n 1, 1) := by decide +kernel
theorem d_T_fill_80 : decode c_T_fill 80 = .ok (.iload_n 2, 1) := by decide +kernel
theorem d_T_fill_81 : decode c_T_fill 81 = .ok (.invokevirtual 80, 3) := by decide +kernel
theorem d_T_fill_84 : decode c_T_fill 84 = .ok (.goto 4, 3) := by decide +kernel
theorem d_T_fill_87 : decode c_T_fill 87 = .ok (.iconst (-1), 1) := by decide +kernel
theorem d_T_fill_88 : decode c_T_fill 88 = .ok (.istore 5, 2) := by decide +kernel
theorem d_T_fill_90 : decode c_T_fill 90 = .ok (.iload 5, 2) := by decide +kernel
theorem d_T_fill_92 : decode c_T_fill 92 = .ok (.ifCond .lt 28, 3) := by decide +kernel
theorem d_T_fill_95 : decode c_T_fill 95 = .ok (.aload_n 0, 1) := by decide +kernel
theorem d_T_fill_96 : decode c_T_fill 96 = .ok (.getfield 7, 3) := by decide +kernel
theorem d_T_fill_99 : decode c_T_fill 99 = .ok (.iload 4, 2) := by decide +kernel
theorem d_T_fill_101 : decode c_T_fill 101 = .ok (.aload_n 0, 1) := by decide +kernel
theorem d_T_fill_102 : decode c_T_fill 102 = .ok (.getfield 7, 3) := by decide +kernel
theorem d_T_fill_105 : decode c_T_fill 105 = .ok (.iload 5, 2) := by decide +kernel
theorem d_T_fill_107 : decode c_T_fill 107 = .ok (.iaload, 1) := by decide +kernel
theorem d_T_fill_108 : decode c_T_fill 108 = .ok (.iastore, 1) := by decide +kernel
theorem d_T_fill_109 : decode c_T_fill 109 = .ok (.aload_n 0, 1) := by decide +kernel
theorem d_T_fill_110 : decode c_T_fill 110 = .ok (.getfield 13, 3) := by decide +kernel
theorem d_T_fill_113 : decode c_T_fill 113 = .ok (.iload 4, 2) := by decide +kernel
theorem d_T_fill_115 : decode c_T_fill 115 = .ok (.iconst 1, 1) := by decide +kernel
theorem d_T_fill_116 : decode c_T_fill 116 = .ok (.bastore, 1) := by decide +kernel
theorem d_T_fill_117 : decode c_T_fill 117 = .ok (.iinc 3 1, 3) := by decide +kernel
theorem d_T_fill_120 : decode c_T_fill 120 = .ok (.iinc 4 1, 3) := by decide +kernel
theorem d_T_fill_123 : decode c_T_fill 123 = .ok (.goto (-73), 3) := by decide +kernel
theorem d_T_fill_126 : decode c_T_fill 126 = .ok (.iload_n 3, 1) := by decide +kernel
theorem d_T_fill_127 : decode c_T_fill 127 = .ok (.ireturn, 1) := by decide +kernel
theorem d_T_source_0 : decode c_T_source 0 = .ok (.iconst 2, 1) := by decide +kernel
theorem d_T_source_1 : decode c_T_source 1 = .ok (.istore 4, 2) := by decide +kernel
theorem d_T_source_3 : decode c_T_source 3 = .ok (.iload 4, 2) := by decide +kernel
theorem d_T_source_5 : decode c_T_source 5 = .ok (.bipush 18, 2) := by decide +kernel
theorem d_T_source_7 : decode c_T_source 7 = .ok (.if_icmp .ge 54, 3) := by decide +kernel
theorem d_T_source_10 : decode c_T_source 10 = .ok (.iload_n 2, 1) := by decide +kernel
theorem d_T_source_11 : decode c_T_source 11 = .ok (.ifCond .le 50, 3) := by decide +kernel
theorem d_T_source_14 : decode c_T_source 14 = .ok (.iload_n 1, 1) := by decide +kernel
theorem d_T_source_15 : decode c_T_source 15 = .ok (.i2l, 1) := by decide +kernel
theorem d_T_source_16 : decode c_T_source 16 = .ok (.iload 4, 2) := by decide +kernel
theorem d_T_source_18 : decode c_T_source 18 = .ok (.iconst 2, 1) := by decide +kernel
theorem d_T_source_19 : decode c_T_source 19 = .ok (.irem, 1) := by decide +kernel
theorem d_T_source_20 : decode c_T_source 20 = .ok (.ifCond .ne 9, 3) := by decide +kernel
theorem d_T_source_23 : decode c_T_source 23 = .ok (.ldc2_w 50, 3) := by decide +kernel
theorem d_T_source_26 : decode c_T_source 26 = .ok (.goto 4, 3) := by decide +kernel
theorem d_T_source_29 : decode c_T_source 29 = .ok (.lconst 1, 1) := by decide +kernel
theorem d_T_source_30 : decode c_T_source 30 = .ok (.iload 4, 2) := by decide +kernel
theorem d_T_source_32 : decode c_T_source 32 = .ok (.iconst 2, 1) := by decide +kernel
theorem d_T_source_33 : decode c_T_source 33 = .ok (.idiv, 1) := by decide +kernel
theorem d_T_source_34 : decode c_T_source 34 = .ok (.i2l, 1) := by decide +kernel
theorem d_T_source_35 : decode c_T_source 35 = .ok (.lmul, 1) := by decide +kernel
theorem d_T_source_36 : decode c_T_source 36 = .ok (.iload_n 2, 1) := by decide +kernel
theorem d_T_source_37 : decode c_T_source 37 = .ok (.i2l, 1) := by decide +kernel
theorem d_T_source_38 : decode c_T_source 38 = .ok (.lmul, 1) := by decide +kernel
theorem d_T_source_39 : decode c_T_source 39 = .ok (.ladd, 1) := by decide +kernel
theorem d_T_source_40 : decode c_T_source 40 = .ok (.lstore 5, 2) := by decide +kernel
theorem d_T_source_42 : decode c_T_source 42 = .ok (.aload_n 0, 1) := by decide +kernel
theorem d_T_source_43 : decode c_T_source 43 = .ok (.lload 5, 2) := by decide +kernel
theorem d_T_source_45 : decode c_T_source 45 = .ok (.invokevirtual 64, 3) := by decide +kernel
theorem d_T_source_48 : decode c_T_source 48 = .ok (.ifCond .eq 7, 3) := by decide +kernel
theorem d_T_source_51 : decode c_T_source 51 = .ok (.lload 5, 2) := by decide +kernel
theorem d_T_source_53 : decode c_T_source 53 = .ok (.l2i, 1) := by decide +kernel
theorem d_T_source_54 : decode c_T_source 54 = .ok (.ireturn, 1) := by decide +kernel
theorem d_T_source_55 : decode c_T_source 55 = .ok (.iinc 4 1, 3) := by decide +kernel
theorem d_T_source_58 : decode c_T_source 58 = .ok (.goto (-55), 3) := by decide +kernel
theorem d_T_source_61 : decode c_T_source 61 = .ok (.iload_n 3, 1) := by decide +kernel
theorem d_T_source_62 : decode c_T_source 62 = .ok (.ifCond .lt 20, 3) := by decide +kernel
theorem d_T_source_65 : decode c_T_source 65 = .ok (.aload_n 0, 1) := by decide +kernel
theorem d_T_source_66 : decode c_T_source 66 = .ok (.iload_n 3, 1) := by decide +kernel
theorem d_T_source_67 : decode c_T_source 67 = .ok (.iload_n 1, 1) := by decide +kernel
theorem d_T_source_68 : decode c_T_source 68 = .ok (.isub, 1) := by decide +kernel
theorem d_T_source_69 : decode c_T_source 69 = .ok (.i2l, 1) := by decide +kernel
theorem d_T_source_70 : decode c_T_source 70 = .ok (.invokevirtual 64, 3) := by decide +kernel
theorem d_T_source_73 : decode c_T_source 73 = .ok (.ifCond .eq 9, 3) := by decide +kernel
theorem d_T_source_76 : decode c_T_source 76 = .ok (.iload_n 3, 1) := by decide +kernel
theorem d_T_source_77 : decode c_T_source 77 = .ok (.iload_n 1, 1) := by decide +kernel
theorem d_T_source_78 : decode c_T_source 78 = .ok (.isub, 1) := by decide +kernel
theorem d_T_source_79 : decode c_T_source 79 = .ok (.goto 4, 3) := by decide +kernel
theorem d_T_source_82 : decode c_T_source 82 = .ok (.iconst (-1), 1) := by decide +kernel
theorem d_T_source_83 : decode c_T_source 83 = .ok (.ireturn, 1) := by decide +kernel
theorem d_T_forget_0 : decode c_T_forget 0 = .ok (.aload_n 0, 1) := by decide +kernel
theorem d_T_forget_1 : decode c_T_forget 1 = .ok (.iconst 0, 1) := by decide +kernel
theorem d_T_forget_2 : decode c_T_forget 2 = .ok (.putfield 39, 3) := by decide +kernel
theorem d_T_forget_5 : decode c_T_forget 5 = .ok (.iconst 0, 1) := by decide +kernel
theorem d_T_forget_6 : decode c_T_forget 6 = .ok (.istore_n 1, 1) := by decide +kernel
theorem d_T_forget_7 : decode c_T_forget 7 = .ok (.iconst 0, 1) := by decide +kernel
theorem d_T_forget_8 : decode c_T_forget 8 = .ok (.istore_n 2, 1) := by decide +kernel
theorem d_T_forget_9 : decode c_T_forget 9 = .ok (.iload_n 2, 1) := by decide +kernel
theorem d_T_forget_10 : decode c_T_forget 10 = .ok (.aload_n 0, 1) := by decide +kernel
theorem d_T_forget_11 : decode c_T_forget 11 = .ok (.getfield 35, 3) := by decide +kernel
theorem d_T_forget_14 : decode c_T_forget 14 = .ok (.if_icmp .ge 35, 3) := by decide +kernel
theorem d_T_forget_17 : decode c_T_forget 17 = .ok (.aload_n 0, 1) := by decide +kernel
theorem d_T_forget_18 : decode c_T_forget 18 = .ok (.getfield 13, 3) := by decide +kernel
theorem d_T_forget_21 : decode c_T_forget 21 = .ok (.iload_n 2, 1) := by decide +kernel
theorem d_T_forget_22 : decode c_T_forget 22 = .ok (.baload, 1) := by decide +kernel
theorem d_T_forget_23 : decode c_T_forget 23 = .ok (.ifCond .eq 20, 3) := by decide +kernel
theorem d_T_forget_26 : decode c_T_forget 26 = .ok (.aload_n 0, 1) := by decide +kernel
theorem d_T_forget_27 : decode c_T_forget 27 = .ok (.getfield 7, 3) := by decide +kernel
theorem d_T_forget_30 : decode c_T_forget 30 = .ok (.iload_n 2, 1) := by decide +kernel
theorem d_T_forget_31 : decode c_T_forget 31 = .ok (.iconst (-1), 1) := by decide +kernel
theorem d_T_forget_32 : decode c_T_forget 32 = .ok (.iastore, 1) := by decide +kernel
theorem d_T_forget_33 : decode c_T_forget 33 = .ok (.aload_n 0, 1) := by decide +kernel
theorem d_T_forget_34 : decode c_T_forget 34 = .ok (.getfield 13, 3) := by decide +kernel
theorem d_T_forget_37 : decode c_T_forget 37 = .ok (.iload_n 2, 1) := by decide +kernel
theorem d_T_forget_38 : decode c_T_forget 38 = .ok (.iconst 0, 1) := by decide +kernel
theorem d_T_forget_39 : decode c_T_forget 39 = .ok (.bastore, 1) := by decide +kernel
theorem d_T_forget_40 : decode c_T_forget 40 = .ok (.iinc 1 1, 3) := by decide +kernel
theorem d_T_forget_43 : decode c_T_forget 43 = .ok (.iinc 2 1, 3) := by decide +kernel
theorem d_T_forget_46 : decode c_T_forget 46 = .ok (.goto (-37), 3) := by decide +kernel
theorem d_T_forget_49 : decode c_T_forget 49 = .ok (.iload_n 1, 1) := by decide +kernel
theorem d_T_forget_50 : decode c_T_forget 50 = .ok (.ireturn, 1) := by decide +kernel
theorem d_T_shape_0 : decode c_T_shape 0 = .ok (.aload_n 0, 1) := by decide +kernel
theorem d_T_shape_1 : decode c_T_shape 1 = .ok (.iload_n 1, 1) := by decide +kernel
theorem d_T_shape_2 : decode c_T_shape 2 = .ok (.i2l, 1) := by decide +kernel
theorem d_T_shape_3 : decode c_T_shape 3 = .ok (.ldc2_w 74, 3) := by decide +kernel
theorem d_T_shape_6 : decode c_T_shape 6 = .ok (.ldc2_w 84, 3) := by decide +kernel
theorem d_T_shape_9 : decode c_T_shape 9 = .ok (.invokestatic 42, 3) := by decide +kernel
theorem d_T_shape_12 : decode c_T_shape 12 = .ok (.ifCond .ne 7, 3) := by decide +kernel
theorem d_T_shape_15 : decode c_T_shape 15 = .ok (.iconst 1, 1) := by decide +kernel
theorem d_T_shape_16 : decode c_T_shape 16 = .ok (.goto 17, 3) := by decide +kernel
theorem d_T_shape_19 : decode c_T_shape 19 = .ok (.aload_n 0, 1) := by decide +kernel
theorem d_T_shape_20 : decode c_T_shape 20 = .ok (.getfield 86, 3) := by decide +kernel
theorem d_T_shape_23 : decode c_T_shape 23 = .ok (.bipush 8, 2) := by decide +kernel
theorem d_T_shape_25 : decode c_T_shape 25 = .ok (.if_icmp .ne 7, 3) := by decide +kernel
theorem d_T_shape_28 : decode c_T_shape 28 = .ok (.iconst 2, 1) := by decide +kernel
theorem d_T_shape_29 : decode c_T_shape 29 = .ok (.goto 4, 3) := by decide +kernel
theorem d_T_shape_32 : decode c_T_shape 32 = .ok (.iconst 0, 1) := by decide +kernel
theorem d_T_shape_33 : decode c_T_shape 33 = .ok (.putfield 39, 3) := by decide +kernel
theorem d_T_shape_36 : decode c_T_shape 36 = .ok (.aload_n 0, 1) := by decide +kernel
theorem d_T_shape_37 : decode c_T_shape 37 = .ok (.getfield 39, 3) := by decide +kernel
theorem d_T_shape_40 : decode c_T_shape 40 = .ok (.ifCond .le 5, 3) := by decide +kernel
theorem d_T_shape_43 : decode c_T_shape 43 = .ok (.iconst 0, 1) := by decide +kernel
theorem d_T_shape_44 : decode c_T_shape 44 = .ok (.ireturn, 1) := by decide +kernel
theorem d_T_shape_45 : decode c_T_shape 45 = .ok (.aload_n 0, 1) := by decide +kernel
theorem d_T_shape_46 : decode c_T_shape 46 = .ok (.getfield 17, 3) := by decide +kernel
theorem d_T_shape_49 : decode c_T_shape 49 = .ok (.aload_n 0, 1) := by decide +kernel
theorem d_T_shape_50 : decode c_T_shape 50 = .ok (.getfield 86, 3) := by decide +kernel
theorem d_T_shape_53 : decode c_T_shape 53 = .ok (.iload_n 1, 1) := by decide +kernel
theorem d_T_shape_54 : decode c_T_shape 54 = .ok (.iastore, 1) := by decide +kernel
theorem d_T_shape_55 : decode c_T_shape 55 = .ok (.iconst 0, 1) := by decide +kernel
theorem d_T_shape_56 : decode c_T_shape 56 = .ok (.istore_n 2, 1) := by decide +kernel
theorem d_T_shape_57 : decode c_T_shape 57 = .ok (.iload_n 2, 1) := by decide +kernel
theorem d_T_shape_58 : decode c_T_shape 58 = .ok (.bipush 16, 2) := by decide +kernel
theorem d_T_shape_60 : decode c_T_shape 60 = .ok (.if_icmp .ge 26, 3) := by decide +kernel
theorem d_T_shape_63 : decode c_T_shape 63 = .ok (.aload_n 0, 1) := by decide +kernel
theorem d_T_shape_64 : decode c_T_shape 64 = .ok (.getfield 20, 3) := by decide +kernel
theorem d_T_shape_67 : decode c_T_shape 67 = .ok (.bipush 16, 2) := by decide +kernel
theorem d_T_shape_69 : decode c_T_shape 69 = .ok (.aload_n 0, 1) := by decide +kernel
theorem d_T_shape_70 : decode c_T_shape 70 = .ok (.getfield 86, 3) := by decide +kernel
theorem d_T_shape_73 : decode c_T_shape 73 = .ok (.imul, 1) := by decide +kernel
theorem d_T_shape_74 : decode c_T_shape 74 = .ok (.iload_n 2, 1) := by decide +kernel
theorem d_T_shape_75 : decode c_T_shape 75 = .ok (.iadd, 1) := by decide +kernel
theorem d_T_shape_76 : decode c_T_shape 76 = .ok (.sipush 128, 3) := by decide +kernel
theorem d_T_shape_79 : decode c_T_shape 79 = .ok (.iastore, 1) := by decide +kernel
theorem d_T_shape_80 : decode c_T_shape 80 = .ok (.iinc 2 1, 3) := by decide +kernel
theorem d_T_shape_83 : decode c_T_shape 83 = .ok (.goto (-26), 3) := by decide +kernel
theorem d_T_shape_86 : decode c_T_shape 86 = .ok (.aload_n 0, 1) := by decide +kernel
theorem d_T_shape_87 : decode c_T_shape 87 = .ok (.dup, 1) := by decide +kernel
theorem d_T_shape_88 : decode c_T_shape 88 = .ok (.getfield 86, 3) := by decide +kernel
theorem d_T_shape_91 : decode c_T_shape 91 = .ok (.iconst 1, 1) := by decide +kernel
theorem d_T_shape_92 : decode c_T_shape 92 = .ok (.iadd, 1) := by decide +kernel
theorem d_T_shape_93 : decode c_T_shape 93 = .ok (.putfield 86, 3) := by decide +kernel
theorem d_T_shape_96 : decode c_T_shape 96 = .ok (.aload_n 0, 1) := by decide +kernel
theorem d_T_shape_97 : decode c_T_shape 97 = .ok (.getfield 86, 3) := by decide +kernel
theorem d_T_shape_100 : decode c_T_shape 100 = .ok (.iconst 1, 1) := by decide +kernel
theorem d_T_shape_101 : decode c_T_shape 101 = .ok (.isub, 1) := by decide +kernel
theorem d_T_shape_102 : decode c_T_shape 102 = .ok (.ireturn, 1) := by decide +kernel
theorem d_T_carve_0 : decode c_T_carve 0 = .ok (.aload_n 0, 1) := by decide +kernel
theorem d_T_carve_1 : decode c_T_carve 1 = .ok (.iload_n 1, 1) := by decide +kernel
theorem d_T_carve_2 : decode c_T_carve 2 = .ok (.i2l, 1) := by decide +kernel
theorem d_T_carve_3 : decode c_T_carve 3 = .ok (.lconst 0, 1) := by decide +kernel
theorem d_T_carve_4 : decode c_T_carve 4 = .ok (.aload_n 0, 1) := by decide +kernel
theorem d_T_carve_5 : decode c_T_carve 5 = .ok (.getfield 86, 3) := by decide +kernel
theorem d_T_carve_8 : decode c_T_carve 8 = .ok (.iconst 1, 1) := by decide +kernel
theorem d_T_carve_9 : decode c_T_carve 9 = .ok (.isub, 1) := by decide +kernel
theorem d_T_carve_10 : decode c_T_carve 10 = .ok (.i2l, 1) := by decide +kernel
theorem d_T_carve_11 : decode c_T_carve 11 = .ok (.invokestatic 42, 3) := by decide +kernel
theorem d_T_carve_14 : decode c_T_carve 14 = .ok (.ifCond .eq 21, 3) := by decide +kernel
theorem d_T_carve_17 : decode c_T_carve 17 = .ok (.iload_n 2, 1) := by decide +kernel
theorem d_T_carve_18 : decode c_T_carve 18 = .ok (.i2l, 1) := by decide +kernel
theorem d_T_carve_19 : decode c_T_carve 19 = .ok (.lconst 0, 1) := by decide +kernel
theorem d_T_carve_20 : decode c_T_carve 20 = .ok (.aload_n 0, 1) := by decide +kernel
theorem d_T_carve_21 : decode c_T_carve 21 = .ok (.getfield 17, 3) := by decide +kernel
theorem d_T_carve_24 : decode c_T_carve 24 = .ok (.iload_n 1, 1) := by decide +kernel
theorem d_T_carve_25 : decode c_T_carve 25 = .ok (.iaload, 1) := by decide +kernel
theorem d_T_carve_26 : decode c_T_carve 26 = .ok (.iconst 1, 1) := by decide +kernel
theorem d_T_carve_27 : decode c_T_carve 27 = .ok (.isub, 1) := by decide +kernel
theorem d_T_carve_28 : decode c_T_carve 28 = .ok (.i2l, 1) := by decide +kernel
theorem d_T_carve_29 : decode c_T_carve 29 = .ok (.invokestatic 42, 3) := by decide +kernel
theorem d_T_carve_32 : decode c_T_carve 32 = .ok (.ifCond .ne 7, 3) := by decide +kernel
theorem d_T_carve_35 : decode c_T_carve 35 = .ok (.iconst 1, 1) := by decide +kernel
theorem d_T_carve_36 : decode c_T_carve 36 = .ok (.goto 20, 3) := by decide +kernel
theorem d_T_carve_39 : decode c_T_carve 39 = .ok (.iload_n 3, 1) := by decide +kernel
theorem d_T_carve_40 : decode c_T_carve 40 = .ok (.i2l, 1) := by decide +kernel
theorem d_T_carve_41 : decode c_T_carve 41 = .ok (.lconst 0, 1) := by decide +kernel
theorem d_T_carve_42 : decode c_T_carve 42 = .ok (.ldc2_w 52, 3) := by decide +kernel
theorem d_T_carve_45 : decode c_T_carve 45 = .ok (.invokestatic 42, 3) := by decide +kernel
theorem d_T_carve_48 : decode c_T_carve 48 = .ok (.ifCond .ne 7, 3) := by decide +kernel
theorem d_T_carve_51 : decode c_T_carve 51 = .ok (.iconst 2, 1) := by decide +kernel
theorem d_T_carve_52 : decode c_T_carve 52 = .ok (.goto 4, 3) := by decide +kernel
theorem d_T_carve_55 : decode c_T_carve 55 = .ok (.iconst 0, 1) := by decide +kernel
theorem d_T_carve_56 : decode c_T_carve 56 = .ok (.putfield 39, 3) := by decide +kernel
theorem d_T_carve_59 : decode c_T_carve 59 = .ok (.aload_n 0, 1) := by decide +kernel
theorem d_T_carve_60 : decode c_T_carve 60 = .ok (.getfield 39, 3) := by decide +kernel
theorem d_T_carve_63 : decode c_T_carve 63 = .ok (.ifCond .ne 15, 3) := by decide +kernel
theorem d_T_carve_66 : decode c_T_carve 66 = .ok (.aload_n 0, 1) := by decide +kernel
theorem d_T_carve_67 : decode c_T_carve 67 = .ok (.getfield 20, 3) := by decide +kernel
theorem d_T_carve_70 : decode c_T_carve 70 = .ok (.bipush 16, 2) := by decide +kernel
theorem d_T_carve_72 : decode c_T_carve 72 = .ok (.iload_n 1, 1) := by decide +kernel
theorem d_T_carve_73 : decode c_T_carve 73 = .ok (.imul, 1) := by decide +kernel
theorem d_T_carve_74 : decode c_T_carve 74 = .ok (.iload_n 2, 1) := by decide +kernel
theorem d_T_carve_75 : decode c_T_carve 75 = .ok (.iadd, 1) := by decide +kernel
theorem d_T_carve_76 : decode c_T_carve 76 = .ok (.iload_n 3, 1) := by decide +kernel
theorem d_T_carve_77 : decode c_T_carve 77 = .ok (.iastore, 1) := by decide +kernel
theorem d_T_carve_78 : decode c_T_carve 78 = .ok (.return_, 1) := by decide +kernel
theorem d_T_match__0 : decode c_T_match_ 0 = .ok (.aload_n 0, 1) := by decide +kernel
theorem d_T_match__1 : decode c_T_match_ 1 = .ok (.invokevirtual 92, 3) := by decide +kernel
theorem d_T_match__4 : decode c_T_match_ 4 = .ok (.aload_n 0, 1) := by decide +kernel
theorem d_T_match__5 : decode c_T_match_ 5 = .ok (.aload_n 0, 1) := by decide +kernel
theorem d_T_match__6 : decode c_T_match_ 6 = .ok (.getfield 61, 3) := by decide +kernel
theorem d_T_match__9 : decode c_T_match_ 9 = .ok (.iconst (-1), 1) := by decide +kernel
theorem d_T_match__10 : decode c_T_match_ 10 = .ok (.if_icmp .ne 7, 3) := by decide +kernel
theorem d_T_match__13 : decode c_T_match_ 13 = .ok (.iconst 1, 1) := by decide +kernel
theorem d_T_match__14 : decode c_T_match_ 14 = .ok (.goto 20, 3) := by decide +kernel
theorem d_T_match__17 : decode c_T_match_ 17 = .ok (.iload_n 1, 1) := by decide +kernel
theorem d_T_match__18 : decode c_T_match_ 18 = .ok (.i2l, 1) := by decide +kernel
theorem d_T_match__19 : decode c_T_match_ 19 = .ok (.lconst 0, 1) := by decide +kernel
theorem d_T_match__20 : decode c_T_match_ 20 = .ok (.ldc2_w 95, 3) := by decide +kernel
theorem d_T_match__23 : decode c_T_match_ 23 = .ok (.invokestatic 42, 3) := by decide +kernel
theorem d_T_match__26 : decode c_T_match_ 26 = .ok (.ifCond .ne 7, 3) := by decide +kernel
theorem d_T_match__29 : decode c_T_match_ 29 = .ok (.iconst 2, 1) := by decide +kernel
theorem d_T_match__30 : decode c_T_match_ 30 = .ok (.goto 4, 3) := by decide +kernel
theorem d_T_match__33 : decode c_T_match_ 33 = .ok (.iconst 0, 1) := by decide +kernel
theorem d_T_match__34 : decode c_T_match_ 34 = .ok (.putfield 39, 3) := by decide +kernel
theorem d_T_match__37 : decode c_T_match_ 37 = .ok (.aload_n 0, 1) := by decide +kernel
theorem d_T_match__38 : decode c_T_match_ 38 = .ok (.getfield 39, 3) := by decide +kernel
theorem d_T_match__41 : decode c_T_match_ 41 = .ok (.ifCond .le 7, 3) := by decide +kernel
theorem d_T_match__44 : decode c_T_match_ 44 = .ok (.iconst 0, 1) := by decide +kernel
theorem d_T_match__45 : decode c_T_match_ 45 = .ok (.goto 43, 3) := by decide +kernel
theorem d_T_match__48 : decode c_T_match_ 48 = .ok (.iload_n 1, 1) := by decide +kernel
theorem d_T_match__49 : decode c_T_match_ 49 = .ok (.ifCond .ne 10, 3) := by decide +kernel
theorem d_T_match__52 : decode c_T_match_ 52 = .ok (.aload_n 0, 1) := by decide +kernel
theorem d_T_match__53 : decode c_T_match_ 53 = .ok (.getfield 61, 3) := by decide +kernel
theorem d_T_match__56 : decode c_T_match_ 56 = .ok (.goto 32, 3) := by decide +kernel
theorem d_T_match__59 : decode c_T_match_ 59 = .ok (.iload_n 1, 1) := by decide +kernel
theorem d_T_match__60 : decode c_T_match_ 60 = .ok (.iconst 1, 1) := by decide +kernel
theorem d_T_match__61 : decode c_T_match_ 61 = .ok (.if_icmp .ne 10, 3) := by decide +kernel
theorem d_T_match__64 : decode c_T_match_ 64 = .ok (.aload_n 0, 1) := by decide +kernel
theorem d_T_match__65 : decode c_T_match_ 65 = .ok (.getfield 89, 3) := by decide +kernel
theorem d_T_match__68 : decode c_T_match_ 68 = .ok (.goto 20, 3) := by decide +kernel
theorem d_T_match__71 : decode c_T_match_ 71 = .ok (.iload_n 1, 1) := by decide +kernel
theorem d_T_match__72 : decode c_T_match_ 72 = .ok (.iconst 2, 1) := by decide +kernel
theorem d_T_match__73 : decode c_T_match_ 73 = .ok (.if_icmp .ne 11, 3) := by decide +kernel
theorem d_T_match__76 : decode c_T_match_ 76 = .ok (.aload_n 0, 1) := by decide +kernel
theorem d_T_match__77 : decode c_T_match_ 77 = .ok (.getfield 57, 3) := by decide +kernel
theorem d_T_match__80 : decode c_T_match_ 80 = .ok (.l2i, 1) := by decide +kernel
theorem d_T_match__81 : decode c_T_match_ 81 = .ok (.goto 7, 3) := by decide +kernel
theorem d_T_match__84 : decode c_T_match_ 84 = .ok (.aload_n 0, 1) := by decide +kernel
theorem d_T_match__85 : decode c_T_match_ 85 = .ok (.getfield 54, 3) := by decide +kernel
theorem d_T_match__88 : decode c_T_match_ 88 = .ok (.ireturn, 1) := by decide +kernel
theorem d_T_findMatch_0 : decode c_T_findMatch 0 = .ok (.aload_n 0, 1) := by decide +kernel
theorem d_T_findMatch_1 : decode c_T_findMatch 1 = .ok (.iconst (-1), 1) := by decide +kernel
theorem d_T_findMatch_2 : decode c_T_findMatch 2 = .ok (.putfield 61, 3) := by decide +kernel
theorem d_T_findMatch_5 : decode c_T_findMatch 5 = .ok (.iconst 0, 1) := by decide +kernel
theorem d_T_findMatch_6 : decode c_T_findMatch 6 = .ok (.istore_n 1, 1) := by decide +kernel
theorem d_T_findMatch_7 : decode c_T_findMatch 7 = .ok (.iload_n 1, 1) := by decide +kernel
theorem d_T_findMatch_8 : decode c_T_findMatch 8 = .ok (.aload_n 0, 1) := by decide +kernel
theorem d_T_findMatch_9 : decode c_T_findMatch 9 = .ok (.getfield 86, 3) := by decide +kernel
theorem d_T_findMatch_12 : decode c_T_findMatch 12 = .ok (.if_icmp .ge 161, 3) := by decide +kernel
theorem d_T_findMatch_15 : decode c_T_findMatch 15 = .ok (.iconst 0, 1) := by decide +kernel
theorem d_T_findMatch_16 : decode c_T_findMatch 16 = .ok (.istore_n 2, 1) := by decide +kernel
theorem d_T_findMatch_17 : decode c_T_findMatch 17 = .ok (.iload_n 2, 1) := by decide +kernel
theorem d_T_findMatch_18 : decode c_T_findMatch 18 = .ok (.aload_n 0, 1) := by decide +kernel
theorem d_T_findMatch_19 : decode c_T_findMatch 19 = .ok (.getfield 35, 3) := by decide +kernel
theorem d_T_findMatch_22 : decode c_T_findMatch 22 = .ok (.if_icmp .ge 145, 3) := by decide +kernel
theorem d_T_findMatch_25 : decode c_T_findMatch 25 = .ok (.lconst 0, 1) := by decide +kernel
theorem d_T_findMatch_26 : decode c_T_findMatch 26 = .ok (.lstore_n 3, 1) := by decide +kernel
theorem d_T_findMatch_27 : decode c_T_findMatch 27 = .ok (.iconst 0, 1) := by decide +kernel
theorem d_T_findMatch_28 : decode c_T_findMatch 28 = .ok (.istore 5, 2) := by decide +kernel
theorem d_T_findMatch_30 : decode c_T_findMatch 30 = .ok (.iconst 0, 1) := by decide +kernel
theorem d_T_findMatch_31 : decode c_T_findMatch 31 = .ok (.istore 6, 2) := by decide +kernel
theorem d_T_findMatch_33 : decode c_T_findMatch 33 = .ok (.iload 6, 2) := by decide +kernel
theorem d_T_findMatch_35 : decode c_T_findMatch 35 = .ok (.aload_n 0, 1) := by decide +kernel
theorem d_T_findMatch_36 : decode c_T_findMatch 36 = .ok (.getfield 17, 3) := by decide +kernel
theorem d_T_findMatch_39 : decode c_T_findMatch 39 = .ok (.iload_n 1, 1) := by decide +kernel
theorem d_T_findMatch_40 : decode c_T_findMatch 40 = .ok (.iaload, 1) := by decide +kernel
theorem d_T_findMatch_41 : decode c_T_findMatch 41 = .ok (.if_icmp .ge 76, 3) := by decide +kernel
theorem d_T_findMatch_44 : decode c_T_findMatch 44 = .ok (.iload_n 2, 1) := by decide +kernel
theorem d_T_findMatch_45 : decode c_T_findMatch 45 = .ok (.iload 6, 2) := by decide +kernel
theorem d_T_findMatch_47 : decode c_T_findMatch 47 = .ok (.iadd, 1) := by decide +kernel
theorem d_T_findMatch_48 : decode c_T_findMatch 48 = .ok (.aload_n 0, 1) := by decide +kernel
theorem d_T_findMatch_49 : decode c_T_findMatch 49 = .ok (.getfield 35, 3) := by decide +kernel
theorem d_T_findMatch_52 : decode c_T_findMatch 52 = .ok (.if_icmp .ge 65, 3) := by decide +kernel
theorem d_T_findMatch_55 : decode c_T_findMatch 55 = .ok (.aload_n 0, 1) := by decide +kernel
theorem d_T_findMatch_56 : decode c_T_findMatch 56 = .ok (.getfield 7, 3) := by decide +kernel
theorem d_T_findMatch_59 : decode c_T_findMatch 59 = .ok (.iload_n 2, 1) := by decide +kernel
theorem d_T_findMatch_60 : decode c_T_findMatch 60 = .ok (.iload 6, 2) := by decide +kernel
theorem d_T_findMatch_62 : decode c_T_findMatch 62 = .ok (.iadd, 1) := by decide +kernel
theorem d_T_findMatch_63 : decode c_T_findMatch 63 = .ok (.iaload, 1) := by decide +kernel
theorem d_T_findMatch_64 : decode c_T_findMatch 64 = .ok (.ifCond .lt 47, 3) := by decide +kernel
theorem d_T_findMatch_67 : decode c_T_findMatch 67 = .ok (.aload_n 0, 1) := by decide +kernel
theorem d_T_findMatch_68 : decode c_T_findMatch 68 = .ok (.getfield 7, 3) := by decide +kernel
theorem d_T_findMatch_71 : decode c_T_findMatch 71 = .ok (.iload_n 2, 1) := by decide +kernel
theorem d_T_findMatch_72 : decode c_T_findMatch 72 = .ok (.iload 6, 2) := by decide +kernel
theorem d_T_findMatch_74 : decode c_T_findMatch 74 = .ok (.iadd, 1) := by decide +kernel
theorem d_T_findMatch_75 : decode c_T_findMatch 75 = .ok (.iaload, 1) := by decide +kernel
theorem d_T_findMatch_76 : decode c_T_findMatch 76 = .ok (.aload_n 0, 1) := by decide +kernel
theorem d_T_findMatch_77 : decode c_T_findMatch 77 = .ok (.getfield 20, 3) := by decide +kernel
theorem d_T_findMatch_80 : decode c_T_findMatch 80 = .ok (.bipush 16, 2) := by decide +kernel
theorem d_T_findMatch_82 : decode c_T_findMatch 82 = .ok (.iload_n 1, 1) := by decide +kernel
theorem d_T_findMatch_83 : decode c_T_findMatch 83 = .ok (.imul, 1) := by decide +kernel
theorem d_T_findMatch_84 : decode c_T_findMatch 84 = .ok (.iload 6, 2) := by decide +kernel
theorem d_T_findMatch_86 : decode c_T_findMatch 86 = .ok (.iadd, 1) := by decide +kernel
theorem d_T_findMatch_87 : decode c_T_findMatch 87 = .ok (.iaload, 1) := by decide +kernel
theorem d_T_findMatch_88 : decode c_T_findMatch 88 = .ok (.isub, 1) := by decide +kernel
theorem d_T_findMatch_89 : decode c_T_findMatch 89 = .ok (.istore 7, 2) := by decide +kernel
theorem d_T_findMatch_91 : decode c_T_findMatch 91 = .ok (.lload_n 3, 1) := by decide +kernel
theorem d_T_findMatch_92 : decode c_T_findMatch 92 = .ok (.iload 7, 2) := by decide +kernel
theorem d_T_findMatch_94 : decode c_T_findMatch 94 = .ok (.ifCond .ge 9, 3) := by decide +kernel
theorem d_T_findMatch_97 : decode c_T_findMatch 97 = .ok (.iload 7, 2) := by decide +kernel
theorem d_T_findMatch_99 : decode c_T_findMatch 99 = .ok (.ineg, 1) := by decide +kernel
theorem d_T_findMatch_100 : decode c_T_findMatch 100 = .ok (.goto 5, 3) := by decide +kernel
theorem d_T_findMatch_103 : decode c_T_findMatch 103 = .ok (.iload 7, 2) := by decide +kernel
theorem d_T_findMatch_105 : decode c_T_findMatch 105 = .ok (.i2l, 1) := by decide +kernel
theorem d_T_findMatch_106 : decode c_T_findMatch 106 = .ok (.ladd, 1) := by decide +kernel
theorem d_T_findMatch_107 : decode c_T_findMatch 107 = .ok (.lstore_n 3, 1) := by decide +kernel
theorem d_T_findMatch_108 : decode c_T_findMatch 108 = .ok (.iinc 5 1, 3) := by decide +kernel
theorem d_T_findMatch_111 : decode c_T_findMatch 111 = .ok (.iinc 6 1, 3) := by decide +kernel
theorem d_T_findMatch_114 : decode c_T_findMatch 114 = .ok (.goto (-81), 3) := by decide +kernel
theorem d_T_findMatch_117 : decode c_T_findMatch 117 = .ok (.iconst 2, 1) := by decide +kernel
theorem d_T_findMatch_118 : decode c_T_findMatch 118 = .ok (.iload 5, 2) := by decide +kernel
theorem d_T_findMatch_120 : decode c_T_findMatch 120 = .ok (.imul, 1) := by decide +kernel
theorem d_T_findMatch_121 : decode c_T_findMatch 121 = .ok (.aload_n 0, 1) := by decide +kernel
theorem d_T_findMatch_122 : decode c_T_findMatch 122 = .ok (.getfield 17, 3) := by decide +kernel
theorem d_T_findMatch_125 : decode c_T_findMatch 125 = .ok (.iload_n 1, 1) := by decide +kernel
theorem d_T_findMatch_126 : decode c_T_findMatch 126 = .ok (.iaload, 1) := by decide +kernel
theorem d_T_findMatch_127 : decode c_T_findMatch 127 = .ok (.if_icmp .lt 34, 3) := by decide +kernel
theorem d_T_findMatch_130 : decode c_T_findMatch 130 = .ok (.aload_n 0, 1) := by decide +kernel
theorem d_T_findMatch_131 : decode c_T_findMatch 131 = .ok (.lload_n 3, 1) := by decide +kernel
theorem d_T_findMatch_132 : decode c_T_findMatch 132 = .ok (.iload 5, 2) := by decide +kernel
theorem d_T_findMatch_134 : decode c_T_findMatch 134 = .ok (.invokevirtual 67, 3) := by decide +kernel
theorem d_T_findMatch_137 : decode c_T_findMatch 137 = .ok (.ifCond .eq 24, 3) := by decide +kernel
theorem d_T_findMatch_140 : decode c_T_findMatch 140 = .ok (.aload_n 0, 1) := by decide +kernel
theorem d_T_findMatch_141 : decode c_T_findMatch 141 = .ok (.iload_n 1, 1) := by decide +kernel
theorem d_T_findMatch_142 : decode c_T_findMatch 142 = .ok (.putfield 61, 3) := by decide +kernel
theorem d_T_findMatch_145 : decode c_T_findMatch 145 = .ok (.aload_n 0, 1) := by decide +kernel
theorem d_T_findMatch_146 : decode c_T_findMatch 146 = .ok (.iload_n 2, 1) := by decide +kernel
theorem d_T_findMatch_147 : decode c_T_findMatch 147 = .ok (.putfield 89, 3) := by decide +kernel
theorem d_T_findMatch_150 : decode c_T_findMatch 150 = .ok (.aload_n 0, 1) := by decide +kernel
theorem d_T_findMatch_151 : decode c_T_findMatch 151 = .ok (.lload_n 3, 1) := by decide +kernel
theorem d_T_findMatch_152 : decode c_T_findMatch 152 = .ok (.putfield 57, 3) := by decide +kernel
theorem d_T_findMatch_155 : decode c_T_findMatch 155 = .ok (.aload_n 0, 1) := by decide +kernel
theorem d_T_findMatch_156 : decode c_T_findMatch 156 = .ok (.iload 5, 2) := by decide +kernel
theorem d_T_findMatch_158 : decode c_T_findMatch 158 = .ok (.putfield 54, 3) := by decide +kernel
theorem d_T_findMatch_161 : decode c_T_findMatch 161 = .ok (.iinc 2 1, 3) := by decide +kernel
theorem d_T_findMatch_164 : decode c_T_findMatch 164 = .ok (.goto (-147), 3) := by decide +kernel
theorem d_T_findMatch_167 : decode c_T_findMatch 167 = .ok (.iinc 1 1, 3) := by decide +kernel
theorem d_T_findMatch_170 : decode c_T_findMatch 170 = .ok (.goto (-163), 3) := by decide +kernel
theorem d_T_findMatch_173 : decode c_T_findMatch 173 = .ok (.return_, 1) := by decide +kernel
theorem d_T_kind_0 : decode c_T_kind 0 = .ok (.aload_n 0, 1) := by decide +kernel
theorem d_T_kind_1 : decode c_T_kind 1 = .ok (.iload_n 1, 1) := by decide +kernel
theorem d_T_kind_2 : decode c_T_kind 2 = .ok (.i2l, 1) := by decide +kernel
theorem d_T_kind_3 : decode c_T_kind 3 = .ok (.lconst 0, 1) := by decide +kernel
theorem d_T_kind_4 : decode c_T_kind 4 = .ok (.ldc2_w 97, 3) := by decide +kernel
theorem d_T_kind_7 : decode c_T_kind 7 = .ok (.invokestatic 42, 3) := by decide +kernel
theorem d_T_kind_10 : decode c_T_kind 10 = .ok (.ifCond .ne 7, 3) := by decide +kernel
theorem d_T_kind_13 : decode c_T_kind 13 = .ok (.iconst 1, 1) := by decide +kernel
theorem d_T_kind_14 : decode c_T_kind 14 = .ok (.goto 17, 3) := by decide +kernel
theorem d_T_kind_17 : decode c_T_kind 17 = .ok (.aload_n 0, 1) := by decide +kernel
theorem d_T_kind_18 : decode c_T_kind 18 = .ok (.getfield 99, 3) := by decide +kernel
theorem d_T_kind_21 : decode c_T_kind 21 = .ok (.bipush 16, 2) := by decide +kernel
theorem d_T_kind_23 : decode c_T_kind 23 = .ok (.if_icmp .ne 7, 3) := by decide +kernel
theorem d_T_kind_26 : decode c_T_kind 26 = .ok (.iconst 2, 1) := by decide +kernel
theorem d_T_kind_27 : decode c_T_kind 27 = .ok (.goto 4, 3) := by decide +kernel
theorem d_T_kind_30 : decode c_T_kind 30 = .ok (.iconst 0, 1) := by decide +kernel
theorem d_T_kind_31 : decode c_T_kind 31 = .ok (.putfield 39, 3) := by decide +kernel
theorem d_T_kind_34 : decode c_T_kind 34 = .ok (.aload_n 0, 1) := by decide +kernel
theorem d_T_kind_35 : decode c_T_kind 35 = .ok (.getfield 39, 3) := by decide +kernel
theorem d_T_kind_38 : decode c_T_kind 38 = .ok (.ifCond .le 5, 3) := by decide +kernel
theorem d_T_kind_41 : decode c_T_kind 41 = .ok (.iconst 0, 1) := by decide +kernel
theorem d_T_kind_42 : decode c_T_kind 42 = .ok (.ireturn, 1) := by decide +kernel
theorem d_T_kind_43 : decode c_T_kind 43 = .ok (.aload_n 0, 1) := by decide +kernel
theorem d_T_kind_44 : decode c_T_kind 44 = .ok (.getfield 23, 3) := by decide +kernel
theorem d_T_kind_47 : decode c_T_kind 47 = .ok (.aload_n 0, 1) := by decide +kernel
theorem d_T_kind_48 : decode c_T_kind 48 = .ok (.getfield 99, 3) := by decide +kernel
theorem d_T_kind_51 : decode c_T_kind 51 = .ok (.iload_n 1, 1) := by decide +kernel
theorem d_T_kind_52 : decode c_T_kind 52 = .ok (.iastore, 1) := by decide +kernel
theorem d_T_kind_53 : decode c_T_kind 53 = .ok (.aload_n 0, 1) := by decide +kernel
theorem d_T_kind_54 : decode c_T_kind 54 = .ok (.dup, 1) := by decide +kernel
theorem d_T_kind_55 : decode c_T_kind 55 = .ok (.getfield 99, 3) := by decide +kernel
theorem d_T_kind_58 : decode c_T_kind 58 = .ok (.iconst 1, 1) := by decide +kernel
theorem d_T_kind_59 : decode c_T_kind 59 = .ok (.iadd, 1) := by decide +kernel
theorem d_T_kind_60 : decode c_T_kind 60 = .ok (.putfield 99, 3) := by decide +kernel
theorem d_T_kind_63 : decode c_T_kind 63 = .ok (.aload_n 0, 1) := by decide +kernel
theorem d_T_kind_64 : decode c_T_kind 64 = .ok (.getfield 99, 3) := by decide +kernel
theorem d_T_kind_67 : decode c_T_kind 67 = .ok (.iconst 1, 1) := by decide +kernel
theorem d_T_kind_68 : decode c_T_kind 68 = .ok (.isub, 1) := by decide +kernel
theorem d_T_kind_69 : decode c_T_kind 69 = .ok (.ireturn, 1) := by decide +kernel
theorem d_T_question_0 : decode c_T_question 0 = .ok (.aload_n 0, 1) := by decide +kernel
theorem d_T_question_1 : decode c_T_question 1 = .ok (.iload_n 2, 1) := by decide +kernel
theorem d_T_question_2 : decode c_T_question 2 = .ok (.i2l, 1) := by decide +kernel
theorem d_T_question_3 : decode c_T_question 3 = .ok (.lconst 0, 1) := by decide +kernel
theorem d_T_question_4 : decode c_T_question 4 = .ok (.aload_n 0, 1) := by decide +kernel
theorem d_T_question_5 : decode c_T_question 5 = .ok (.getfield 99, 3) := by decide +kernel
theorem d_T_question_8 : decode c_T_question 8 = .ok (.iconst 1, 1) := by decide +kernel
theorem d_T_question_9 : decode c_T_question 9 = .ok (.isub, 1) := by decide +kernel
theorem d_T_question_10 : decode c_T_question 10 = .ok (.i2l, 1) := by decide +kernel
theorem d_T_question_11 : decode c_T_question 11 = .ok (.invokestatic 42, 3) := by decide +kernel
theorem d_T_question_14 : decode c_T_question 14 = .ok (.ifCond .eq 19, 3) := by decide +kernel
theorem d_T_question_17 : decode c_T_question 17 = .ok (.iload_n 3, 1) := by decide +kernel
theorem d_T_question_18 : decode c_T_question 18 = .ok (.i2l, 1) := by decide +kernel
theorem d_T_question_19 : decode c_T_question 19 = .ok (.lconst 0, 1) := by decide +kernel
theorem d_T_question_20 : decode c_T_question 20 = .ok (.aload_n 0, 1) := by decide +kernel
theorem d_T_question_21 : decode c_T_question 21 = .ok (.getfield 99, 3) := by decide +kernel
theorem d_T_question_24 : decode c_T_question 24 = .ok (.iconst 1, 1) := by decide +kernel
theorem d_T_question_25 : decode c_T_question 25 = .ok (.isub, 1) := by decide +kernel
theorem d_T_question_26 : decode c_T_question 26 = .ok (.i2l, 1) := by decide +kernel
theorem d_T_question_27 : decode c_T_question 27 = .ok (.invokestatic 42, 3) := by decide +kernel
theorem d_T_question_30 : decode c_T_question 30 = .ok (.ifCond .ne 7, 3) := by decide +kernel
theorem d_T_question_33 : decode c_T_question 33 = .ok (.iconst 1, 1) := by decide +kernel
theorem d_T_question_34 : decode c_T_question 34 = .ok (.goto 33, 3) := by decide +kernel
theorem d_T_question_37 : decode c_T_question 37 = .ok (.iload_n 1, 1) := by decide +kernel
theorem d_T_question_38 : decode c_T_question 38 = .ok (.i2l, 1) := by decide +kernel
theorem d_T_question_39 : decode c_T_question 39 = .ok (.lconst 0, 1) := by decide +kernel
theorem d_T_question_40 : decode c_T_question 40 = .ok (.ldc2_w 102, 3) := by decide +kernel
theorem d_T_question_43 : decode c_T_question 43 = .ok (.invokestatic 42, 3) := by decide +kernel
theorem d_T_question_46 : decode c_T_question 46 = .ok (.ifCond .ne 7, 3) := by decide +kernel
theorem d_T_question_49 : decode c_T_question 49 = .ok (.iconst 2, 1) := by decide +kernel
theorem d_T_question_50 : decode c_T_question 50 = .ok (.goto 17, 3) := by decide +kernel
theorem d_T_question_53 : decode c_T_question 53 = .ok (.aload_n 0, 1) := by decide +kernel
theorem d_T_question_54 : decode c_T_question 54 = .ok (.getfield 99, 3) := by decide +kernel
theorem d_T_question_57 : decode c_T_question 57 = .ok (.bipush 16, 2) := by decide +kernel
theorem d_T_question_59 : decode c_T_question 59 = .ok (.if_icmp .ne 7, 3) := by decide +kernel
theorem d_T_question_62 : decode c_T_question 62 = .ok (.iconst 3, 1) := by decide +kernel
theorem d_T_question_63 : decode c_T_question 63 = .ok (.goto 4, 3) := by decide +kernel
theorem d_T_question_66 : decode c_T_question 66 = .ok (.iconst 0, 1) := by decide +kernel
theorem d_T_question_67 : decode c_T_question 67 = .ok (.putfield 39, 3) := by decide +kernel
theorem d_T_question_70 : decode c_T_question 70 = .ok (.aload_n 0, 1) := by decide +kernel
theorem d_T_question_71 : decode c_T_question 71 = .ok (.getfield 39, 3) := by decide +kernel
theorem d_T_question_74 : decode c_T_question 74 = .ok (.ifCond .le 5, 3) := by decide +kernel
theorem d_T_question_77 : decode c_T_question 77 = .ok (.iconst 0, 1) := by decide +kernel
theorem d_T_question_78 : decode c_T_question 78 = .ok (.ireturn, 1) := by decide +kernel
theorem d_T_question_79 : decode c_T_question 79 = .ok (.aload_n 0, 1) := by decide +kernel
theorem d_T_question_80 : decode c_T_question 80 = .ok (.getfield 23, 3) := by decide +kernel
theorem d_T_question_83 : decode c_T_question 83 = .ok (.aload_n 0, 1) := by decide +kernel
theorem d_T_question_84 : decode c_T_question 84 = .ok (.getfield 99, 3) := by decide +kernel
theorem d_T_question_87 : decode c_T_question 87 = .ok (.iconst (-1), 1) := by decide +kernel
theorem d_T_question_88 : decode c_T_question 88 = .ok (.iload_n 1, 1) := by decide +kernel
theorem d_T_question_89 : decode c_T_question 89 = .ok (.isub, 1) := by decide +kernel
theorem d_T_question_90 : decode c_T_question 90 = .ok (.iastore, 1) := by decide +kernel
theorem d_T_question_91 : decode c_T_question 91 = .ok (.aload_n 0, 1) := by decide +kernel
theorem d_T_question_92 : decode c_T_question 92 = .ok (.getfield 26, 3) := by decide +kernel
theorem d_T_question_95 : decode c_T_question 95 = .ok (.aload_n 0, 1) := by decide +kernel
theorem d_T_question_96 : decode c_T_question 96 = .ok (.getfield 99, 3) := by decide +kernel
theorem d_T_question_99 : decode c_T_question 99 = .ok (.iload_n 2, 1) := by decide +kernel
theorem d_T_question_100 : decode c_T_question 100 = .ok (.iastore, 1) := by decide +kernel
theorem d_T_question_101 : decode c_T_question 101 = .ok (.aload_n 0, 1) := by decide +kernel
theorem d_T_question_102 : decode c_T_question 102 = .ok (.getfield 29, 3) := by decide +kernel
theorem d_T_question_105 : decode c_T_question 105 = .ok (.aload_n 0, 1) := by decide +kernel
theorem d_T_question_106 : decode c_T_question 106 = .ok (.getfield 99, 3) := by decide +kernel
theorem d_T_question_109 : decode c_T_question 109 = .ok (.iload_n 3, 1) := by decide +kernel
theorem d_T_question_110 : decode c_T_question 110 = .ok (.iastore, 1) := by decide +kernel
theorem d_T_question_111 : decode c_T_question 111 = .ok (.aload_n 0, 1) := by decide +kernel
theorem d_T_question_112 : decode c_T_question 112 = .ok (.dup, 1) := by decide +kernel
theorem d_T_question_113 : decode c_T_question 113 = .ok (.getfield 99, 3) := by decide +kernel
theorem d_T_question_116 : decode c_T_question 116 = .ok (.iconst 1, 1) := by decide +kernel
theorem d_T_question_117 : decode c_T_question 117 = .ok (.iadd, 1) := by decide +kernel
theorem d_T_question_118 : decode c_T_question 118 = .ok (.putfield 99, 3) := by decide +kernel
theorem d_T_question_121 : decode c_T_question 121 = .ok (.aload_n 0, 1) := by decide +kernel
theorem d_T_question_122 : decode c_T_question 122 = .ok (.getfield 99, 3) := by decide +kernel
theorem d_T_question_125 : decode c_T_question 125 = .ok (.iconst 1, 1) := by decide +kernel
theorem d_T_question_126 : decode c_T_question 126 = .ok (.isub, 1) := by decide +kernel
theorem d_T_question_127 : decode c_T_question 127 = .ok (.ireturn, 1) := by decide +kernel
theorem d_T_ask_0 : decode c_T_ask 0 = .ok (.aload_n 0, 1) := by decide +kernel
theorem d_T_ask_1 : decode c_T_ask 1 = .ok (.iload_n 1, 1) := by decide +kernel
theorem d_T_ask_2 : decode c_T_ask 2 = .ok (.i2l, 1) := by decide +kernel
theorem d_T_ask_3 : decode c_T_ask 3 = .ok (.lconst 0, 1) := by decide +kernel
theorem d_T_ask_4 : decode c_T_ask 4 = .ok (.ldc2_w 104, 3) := by decide +kernel
theorem d_T_ask_7 : decode c_T_ask 7 = .ok (.invokestatic 42, 3) := by decide +kernel
theorem d_T_ask_10 : decode c_T_ask 10 = .ok (.ifCond .eq 15, 3) := by decide +kernel
theorem d_T_ask_13 : decode c_T_ask 13 = .ok (.iload_n 2, 1) := by decide +kernel
theorem d_T_ask_14 : decode c_T_ask 14 = .ok (.i2l, 1) := by decide +kernel
theorem d_T_ask_15 : decode c_T_ask 15 = .ok (.lconst 0, 1) := by decide +kernel
theorem d_T_ask_16 : decode c_T_ask 16 = .ok (.ldc2_w 104, 3) := by decide +kernel
theorem d_T_ask_19 : decode c_T_ask 19 = .ok (.invokestatic 42, 3) := by decide +kernel
theorem d_T_ask_22 : decode c_T_ask 22 = .ok (.ifCond .ne 7, 3) := by decide +kernel
theorem d_T_ask_25 : decode c_T_ask 25 = .ok (.iconst 1, 1) := by decide +kernel
theorem d_T_ask_26 : decode c_T_ask 26 = .ok (.goto 15, 3) := by decide +kernel
theorem d_T_ask_29 : decode c_T_ask 29 = .ok (.aload_n 0, 1) := by decide +kernel
theorem d_T_ask_30 : decode c_T_ask 30 = .ok (.getfield 99, 3) := by decide +kernel
theorem d_T_ask_33 : decode c_T_ask 33 = .ok (.ifCond .ne 7, 3) := by decide +kernel
theorem d_T_ask_36 : decode c_T_ask 36 = .ok (.iconst 2, 1) := by decide +kernel
theorem d_T_ask_37 : decode c_T_ask 37 = .ok (.goto 4, 3) := by decide +kernel
theorem d_T_ask_40 : decode c_T_ask 40 = .ok (.iconst 0, 1) := by decide +kernel
theorem d_T_ask_41 : decode c_T_ask 41 = .ok (.putfield 39, 3) := by decide +kernel
theorem d_T_ask_44 : decode c_T_ask 44 = .ok (.aload_n 0, 1) := by decide +kernel
theorem d_T_ask_45 : decode c_T_ask 45 = .ok (.getfield 39, 3) := by decide +kernel
theorem d_T_ask_48 : decode c_T_ask 48 = .ok (.ifCond .le 5, 3) := by decide +kernel
theorem d_T_ask_51 : decode c_T_ask 51 = .ok (.iconst 0, 1) := by decide +kernel
theorem d_T_ask_52 : decode c_T_ask 52 = .ok (.ireturn, 1) := by decide +kernel
theorem d_T_ask_53 : decode c_T_ask 53 = .ok (.aload_n 0, 1) := by decide +kernel
theorem d_T_ask_54 : decode c_T_ask 54 = .ok (.getfield 99, 3) := by decide +kernel
theorem d_T_ask_57 : decode c_T_ask 57 = .ok (.iconst 1, 1) := by decide +kernel
theorem d_T_ask_58 : decode c_T_ask 58 = .ok (.isub, 1) := by decide +kernel
theorem d_T_ask_59 : decode c_T_ask 59 = .ok (.istore_n 3, 1) := by decide +kernel
theorem d_T_ask_60 : decode c_T_ask 60 = .ok (.aload_n 0, 1) := by decide +kernel
theorem d_T_ask_61 : decode c_T_ask 61 = .ok (.getfield 23, 3) := by decide +kernel
theorem d_T_ask_64 : decode c_T_ask 64 = .ok (.iload_n 3, 1) := by decide +kernel
theorem d_T_ask_65 : decode c_T_ask 65 = .ok (.iaload, 1) := by decide +kernel
theorem d_T_ask_66 : decode c_T_ask 66 = .ok (.ifCond .ge 57, 3) := by decide +kernel
theorem d_T_ask_69 : decode c_T_ask 69 = .ok (.iconst (-1), 1) := by decide +kernel
theorem d_T_ask_70 : decode c_T_ask 70 = .ok (.aload_n 0, 1) := by decide +kernel
theorem d_T_ask_71 : decode c_T_ask 71 = .ok (.getfield 23, 3) := by decide +kernel
theorem d_T_ask_74 : decode c_T_ask 74 = .ok (.iload_n 3, 1) := by decide +kernel
theorem d_T_ask_75 : decode c_T_ask 75 = .ok (.iaload, 1) := by decide +kernel
theorem d_T_ask_76 : decode c_T_ask 76 = .ok (.isub, 1) := by decide +kernel
theorem d_T_ask_77 : decode c_T_ask 77 = .ok (.istore 4, 2) := by decide +kernel
theorem d_T_ask_79 : decode c_T_ask 79 = .ok (.iload_n 2, 1) := by decide +kernel
theorem d_T_ask_80 : decode c_T_ask 80 = .ok (.iload 4, 2) := by decide +kernel
theorem d_T_ask_82 : decode c_T_ask 82 = .ok (.ishr, 1) := by decide +kernel
theorem d_T_ask_83 : decode c_T_ask 83 = .ok (.iconst 1, 1) := by decide +kernel
theorem d_T_ask_84 : decode c_T_ask 84 = .ok (.iand, 1) := by decide +kernel
theorem d_T_ask_85 : decode c_T_ask 85 = .ok (.ifCond .ne 9, 3) := by decide +kernel
theorem d_T_ask_88 : decode c_T_ask 88 = .ok (.bipush (-2), 2) := by decide +kernel
theorem d_T_ask_90 : decode c_T_ask 90 = .ok (.iload 4, 2) := by decide +kernel
theorem d_T_ask_92 : decode c_T_ask 92 = .ok (.isub, 1) := by decide +kernel
theorem d_T_ask_93 : decode c_T_ask 93 = .ok (.ireturn, 1) := by decide +kernel
theorem d_T_ask_94 : decode c_T_ask 94 = .ok (.iload_n 1, 1) := by decide +kernel
theorem d_T_ask_95 : decode c_T_ask 95 = .ok (.iload 4, 2) := by decide +kernel
theorem d_T_ask_97 : decode c_T_ask 97 = .ok (.ishr, 1) := by decide +kernel
theorem d_T_ask_98 : decode c_T_ask 98 = .ok (.iconst 1, 1) := by decide +kernel
theorem d_T_ask_99 : decode c_T_ask 99 = .ok (.iand, 1) := by decide +kernel
theorem d_T_ask_100 : decode c_T_ask 100 = .ok (.iconst 1, 1) := by decide +kernel
theorem d_T_ask_101 : decode c_T_ask 101 = .ok (.if_icmp .ne 12, 3) := by decide +kernel
theorem d_T_ask_104 : decode c_T_ask 104 = .ok (.aload_n 0, 1) := by decide +kernel
theorem d_T_ask_105 : decode c_T_ask 105 = .ok (.getfield 29, 3) := by decide +kernel
theorem d_T_ask_108 : decode c_T_ask 108 = .ok (.iload_n 3, 1) := by decide +kernel
theorem d_T_ask_109 : decode c_T_ask 109 = .ok (.iaload, 1) := by decide +kernel
theorem d_T_ask_110 : decode c_T_ask 110 = .ok (.goto 9, 3) := by decide +kernel
theorem d_T_ask_113 : decode c_T_ask 113 = .ok (.aload_n 0, 1) := by decide +kernel
theorem d_T_ask_114 : decode c_T_ask 114 = .ok (.getfield 26, 3) := by decide +kernel
theorem d_T_ask_117 : decode c_T_ask 117 = .ok (.iload_n 3, 1) := by decide +kernel
theorem d_T_ask_118 : decode c_T_ask 118 = .ok (.iaload, 1) := by decide +kernel
theorem d_T_ask_119 : decode c_T_ask 119 = .ok (.istore_n 3, 1) := by decide +kernel
theorem d_T_ask_120 : decode c_T_ask 120 = .ok (.goto (-60), 3) := by decide +kernel
theorem d_T_ask_123 : decode c_T_ask 123 = .ok (.aload_n 0, 1) := by decide +kernel
theorem d_T_ask_124 : decode c_T_ask 124 = .ok (.getfield 23, 3) := by decide +kernel
theorem d_T_ask_127 : decode c_T_ask 127 = .ok (.iload_n 3, 1) := by decide +kernel
theorem d_T_ask_128 : decode c_T_ask 128 = .ok (.iaload, 1) := by decide +kernel
theorem d_T_ask_129 : decode c_T_ask 129 = .ok (.ireturn, 1) := by decide +kernel
theorem d_T_rule_0 : decode c_T_rule 0 = .ok (.iload_n 2, 1) := by decide +kernel
theorem d_T_rule_1 : decode c_T_rule 1 = .ok (.iload_n 1, 1) := by decide +kernel
theorem d_T_rule_2 : decode c_T_rule 2 = .ok (.if_icmp .lt 59, 3) := by decide +kernel
theorem d_T_rule_5 : decode c_T_rule 5 = .ok (.iload_n 3, 1) := by decide +kernel
theorem d_T_rule_6 : decode c_T_rule 6 = .ok (.i2l, 1) := by decide +kernel
theorem d_T_rule_7 : decode c_T_rule 7 = .ok (.lconst 0, 1) := by decide +kernel
theorem d_T_rule_8 : decode c_T_rule 8 = .ok (.ldc2_w 52, 3) := by decide +kernel
theorem d_T_rule_11 : decode c_T_rule 11 = .ok (.invokestatic 42, 3) := by decide +kernel
theorem d_T_rule_14 : decode c_T_rule 14 = .ok (.ifCond .eq 47, 3) := by decide +kernel
theorem d_T_rule_17 : decode c_T_rule 17 = .ok (.iload 4, 2) := by decide +kernel
theorem d_T_rule_19 : decode c_T_rule 19 = .ok (.i2l, 1) := by decide +kernel
theorem d_T_rule_20 : decode c_T_rule 20 = .ok (.iload_n 3, 1) := by decide +kernel
theorem d_T_rule_21 : decode c_T_rule 21 = .ok (.i2l, 1) := by decide +kernel
theorem d_T_rule_22 : decode c_T_rule 22 = .ok (.ldc2_w 52, 3) := by decide +kernel
theorem d_T_rule_25 : decode c_T_rule 25 = .ok (.invokestatic 42, 3) := by decide +kernel
theorem d_T_rule_28 : decode c_T_rule 28 = .ok (.ifCond .eq 33, 3) := by decide +kernel
theorem d_T_rule_31 : decode c_T_rule 31 = .ok (.iload 5, 2) := by decide +kernel
theorem d_T_rule_33 : decode c_T_rule 33 = .ok (.i2l, 1) := by decide +kernel
theorem d_T_rule_34 : decode c_T_rule 34 = .ok (.ldc2_w 106, 3) := by decide +kernel
theorem d_T_rule_37 : decode c_T_rule 37 = .ok (.ldc2_w 108, 3) := by decide +kernel
theorem d_T_rule_40 : decode c_T_rule 40 = .ok (.invokestatic 42, 3) := by decide +kernel
theorem d_T_rule_43 : decode c_T_rule 43 = .ok (.ifCond .eq 18, 3) := by decide +kernel
theorem d_T_rule_46 : decode c_T_rule 46 = .ok (.iload 6, 2) := by decide +kernel
theorem d_T_rule_48 : decode c_T_rule 48 = .ok (.i2l, 1) := by decide +kernel
theorem d_T_rule_49 : decode c_T_rule 49 = .ok (.iload 5, 2) := by decide +kernel
theorem d_T_rule_51 : decode c_T_rule 51 = .ok (.i2l, 1) := by decide +kernel
theorem d_T_rule_52 : decode c_T_rule 52 = .ok (.ldc2_w 108, 3) := by decide +kernel
theorem d_T_rule_55 : decode c_T_rule 55 = .ok (.invokestatic 42, 3) := by decide +kernel
theorem d_T_rule_58 : decode c_T_rule 58 = .ok (.ifCond .ne 7, 3) := by decide +kernel
theorem d_T_rule_61 : decode c_T_rule 61 = .ok (.iconst 1, 1) := by decide +kernel
theorem d_T_rule_62 : decode c_T_rule 62 = .ok (.goto 4, 3) := by decide +kernel
theorem d_T_rule_65 : decode c_T_rule 65 = .ok (.iconst 0, 1) := by decide +kernel
theorem d_T_rule_66 : decode c_T_rule 66 = .ok (.istore 7, 2) := by decide +kernel
theorem d_T_rule_68 : decode c_T_rule 68 = .ok (.aload_n 0, 1) := by decide +kernel
theorem d_T_rule_69 : decode c_T_rule 69 = .ok (.aload_n 0, 1) := by decide +kernel
theorem d_T_rule_70 : decode c_T_rule 70 = .ok (.iload_n 1, 1) := by decide +kernel
theorem d_T_rule_71 : decode c_T_rule 71 = .ok (.i2l, 1) := by decide +kernel
theorem d_T_rule_72 : decode c_T_rule 72 = .ok (.invokevirtual 46, 3) := by decide +kernel
theorem d_T_rule_75 : decode c_T_rule 75 = .ok (.ifCond .eq 12, 3) := by decide +kernel
theorem d_T_rule_78 : decode c_T_rule 78 = .ok (.aload_n 0, 1) := by decide +kernel
theorem d_T_rule_79 : decode c_T_rule 79 = .ok (.iload_n 2, 1) := by decide +kernel
theorem d_T_rule_80 : decode c_T_rule 80 = .ok (.i2l, 1) := by decide +kernel
theorem d_T_rule_81 : decode c_T_rule 81 = .ok (.invokevirtual 46, 3) := by decide +kernel
theorem d_T_rule_84 : decode c_T_rule 84 = .ok (.ifCond .ne 7, 3) := by decide +kernel
theorem d_T_rule_87 : decode c_T_rule 87 = .ok (.iconst 1, 1) := by decide +kernel
theorem d_T_rule_88 : decode c_T_rule 88 = .ok (.goto 26, 3) := by decide +kernel
theorem d_T_rule_91 : decode c_T_rule 91 = .ok (.iload 7, 2) := by decide +kernel
theorem d_T_rule_93 : decode c_T_rule 93 = .ok (.ifCond .eq 7, 3) := by decide +kernel
theorem d_T_rule_96 : decode c_T_rule 96 = .ok (.iconst 2, 1) := by decide +kernel
theorem d_T_rule_97 : decode c_T_rule 97 = .ok (.goto 17, 3) := by decide +kernel
theorem d_T_rule_100 : decode c_T_rule 100 = .ok (.aload_n 0, 1) := by decide +kernel
theorem d_T_rule_101 : decode c_T_rule 101 = .ok (.getfield 110, 3) := by decide +kernel
theorem d_T_rule_104 : decode c_T_rule 104 = .ok (.bipush 8, 2) := by decide +kernel
theorem d_T_rule_106 : decode c_T_rule 106 = .ok (.if_icmp .ne 7, 3) := by decide +kernel
theorem d_T_rule_109 : decode c_T_rule 109 = .ok (.iconst 3, 1) := by decide +kernel
theorem d_T_rule_110 : decode c_T_rule 110 = .ok (.goto 4, 3) := by decide +kernel
theorem d_T_rule_113 : decode c_T_rule 113 = .ok (.iconst 0, 1) := by decide +kernel
theorem d_T_rule_114 : decode c_T_rule 114 = .ok (.putfield 39, 3) := by decide +kernel
theorem d_T_rule_117 : decode c_T_rule 117 = .ok (.aload_n 0, 1) := by decide +kernel
theorem d_T_rule_118 : decode c_T_rule 118 = .ok (.getfield 39, 3) := by decide +kernel
theorem d_T_rule_121 : decode c_T_rule 121 = .ok (.ifCond .le 5, 3) := by decide +kernel
theorem d_T_rule_124 : decode c_T_rule 124 = .ok (.iconst 0, 1) := by decide +kernel
theorem d_T_rule_125 : decode c_T_rule 125 = .ok (.ireturn, 1) := by decide +kernel
theorem d_T_rule_126 : decode c_T_rule 126 = .ok (.aload_n 0, 1) := by decide +kernel
theorem d_T_rule_127 : decode c_T_rule 127 = .ok (.getfield 32, 3) := by decide +kernel
theorem d_T_rule_130 : decode c_T_rule 130 = .ok (.bipush 6, 2) := by decide +kernel
theorem d_T_rule_132 : decode c_T_rule 132 = .ok (.aload_n 0, 1) := by decide +kernel
theorem d_T_rule_133 : decode c_T_rule 133 = .ok (.getfield 110, 3) := by decide +kernel
theorem d_T_rule_136 : decode c_T_rule 136 = .ok (.imul, 1) := by decide +kernel
theorem d_T_rule_137 : decode c_T_rule 137 = .ok (.iload_n 1, 1) := by decide +kernel
theorem d_T_rule_138 : decode c_T_rule 138 = .ok (.iastore, 1) := by decide +kernel
theorem d_T_rule_139 : decode c_T_rule 139 = .ok (.aload_n 0, 1) := by decide +kernel
theorem d_T_rule_140 : decode c_T_rule 140 = .ok (.getfield 32, 3) := by decide +kernel
theorem d_T_rule_143 : decode c_T_rule 143 = .ok (.bipush 6, 2) := by decide +kernel
theorem d_T_rule_145 : decode c_T_rule 145 = .ok (.aload_n 0, 1) := by decide +kernel
theorem d_T_rule_146 : decode c_T_rule 146 = .ok (.getfield 110, 3) := by decide +kernel
theorem d_T_rule_149 : decode c_T_rule 149 = .ok (.imul, 1) := by decide +kernel
theorem d_T_rule_150 : decode c_T_rule 150 = .ok (.iconst 1, 1) := by decide +kernel
theorem d_T_rule_151 : decode c_T_rule 151 = .ok (.iadd, 1) := by decide +kernel
theorem d_T_rule_152 : decode c_T_rule 152 = .ok (.iload_n 2, 1) := by decide +kernel
theorem d_T_rule_153 : decode c_T_rule 153 = .ok (.iastore, 1) := by decide +kernel
theorem d_T_rule_154 : decode c_T_rule 154 = .ok (.aload_n 0, 1) := by decide +kernel
theorem d_T_rule_155 : decode c_T_rule 155 = .ok (.getfield 32, 3) := by decide +kernel
theorem d_T_rule_158 : decode c_T_rule 158 = .ok (.bipush 6, 2) := by decide +kernel
theorem d_T_rule_160 : decode c_T_rule 160 = .ok (.aload_n 0, 1) := by decide +kernel
theorem d_T_rule_161 : decode c_T_rule 161 = .ok (.getfield 110, 3) := by decide +kernel
theorem d_T_rule_164 : decode c_T_rule 164 = .ok (.imul, 1) := by decide +kernel
theorem d_T_rule_165 : decode c_T_rule 165 = .ok (.iconst 2, 1) := by decide +kernel
theorem d_T_rule_166 : decode c_T_rule 166 = .ok (.iadd, 1) := by decide +kernel
theorem d_T_rule_167 : decode c_T_rule 167 = .ok (.iload_n 3, 1) := by decide +kernel
theorem d_T_rule_168 : decode c_T_rule 168 = .ok (.iastore, 1) := by decide +kernel
theorem d_T_rule_169 : decode c_T_rule 169 = .ok (.aload_n 0, 1) := by decide +kernel
theorem d_T_rule_170 : decode c_T_rule 170 = .ok (.getfield 32, 3) := by decide +kernel
theorem d_T_rule_173 : decode c_T_rule 173 = .ok (.bipush 6, 2) := by decide +kernel
theorem d_T_rule_175 : decode c_T_rule 175 = .ok (.aload_n 0, 1) := by decide +kernel
theorem d_T_rule_176 : decode c_T_rule 176 = .ok (.getfield 110, 3) := by decide +kernel
theorem d_T_rule_179 : decode c_T_rule 179 = .ok (.imul, 1) := by decide +kernel
theorem d_T_rule_180 : decode c_T_rule 180 = .ok (.iconst 3, 1) := by decide +kernel
theorem d_T_rule_181 : decode c_T_rule 181 = .ok (.iadd, 1) := by decide +kernel
theorem d_T_rule_182 : decode c_T_rule 182 = .ok (.iload 4, 2) := by decide +kernel
theorem d_T_rule_184 : decode c_T_rule 184 = .ok (.iastore, 1) := by decide +kernel
theorem d_T_rule_185 : decode c_T_rule 185 = .ok (.aload_n 0, 1) := by decide +kernel
theorem d_T_rule_186 : decode c_T_rule 186 = .ok (.getfield 32, 3) := by decide +kernel
theorem d_T_rule_189 : decode c_T_rule 189 = .ok (.bipush 6, 2) := by decide +kernel
theorem d_T_rule_191 : decode c_T_rule 191 = .ok (.aload_n 0, 1) := by decide +kernel
theorem d_T_rule_192 : decode c_T_rule 192 = .ok (.getfield 110, 3) := by decide +kernel
theorem d_T_rule_195 : decode c_T_rule 195 = .ok (.imul, 1) := by decide +kernel
theorem d_T_rule_196 : decode c_T_rule 196 = .ok (.iconst 4, 1) := by decide +kernel
theorem d_T_rule_197 : decode c_T_rule 197 = .ok (.iadd, 1) := by decide +kernel
theorem d_T_rule_198 : decode c_T_rule 198 = .ok (.iload 5, 2) := by decide +kernel
theorem d_T_rule_200 : decode c_T_rule 200 = .ok (.iastore, 1) := by decide +kernel
theorem d_T_rule_201 : decode c_T_rule 201 = .ok (.aload_n 0, 1) := by decide +kernel
theorem d_T_rule_202 : decode c_T_rule 202 = .ok (.getfield 32, 3) := by decide +kernel
theorem d_T_rule_205 : decode c_T_rule 205 = .ok (.bipush 6, 2) := by decide +kernel
theorem d_T_rule_207 : decode c_T_rule 207 = .ok (.aload_n 0, 1) := by decide +kernel
theorem d_T_rule_208 : decode c_T_rule 208 = .ok (.getfield 110, 3) := by decide +kernel
theorem d_T_rule_211 : decode c_T_rule 211 = .ok (.imul, 1) := by decide +kernel
theorem d_T_rule_212 : decode c_T_rule 212 = .ok (.iconst 5, 1) := by decide +kernel
theorem d_T_rule_213 : decode c_T_rule 213 = .ok (.iadd, 1) := by decide +kernel
theorem d_T_rule_214 : decode c_T_rule 214 = .ok (.iload 6, 2) := by decide +kernel
theorem d_T_rule_216 : decode c_T_rule 216 = .ok (.iastore, 1) := by decide +kernel
theorem d_T_rule_217 : decode c_T_rule 217 = .ok (.aload_n 0, 1) := by decide +kernel
theorem d_T_rule_218 : decode c_T_rule 218 = .ok (.dup, 1) := by decide +kernel
theorem d_T_rule_219 : decode c_T_rule 219 = .ok (.getfield 110, 3) := by decide +kernel
theorem d_T_rule_222 : decode c_T_rule 222 = .ok (.iconst 1, 1) := by decide +kernel
theorem d_T_rule_223 : decode c_T_rule 223 = .ok (.iadd, 1) := by decide +kernel
theorem d_T_rule_224 : decode c_T_rule 224 = .ok (.putfield 110, 3) := by decide +kernel
theorem d_T_rule_227 : decode c_T_rule 227 = .ok (.aload_n 0, 1) := by decide +kernel
theorem d_T_rule_228 : decode c_T_rule 228 = .ok (.getfield 110, 3) := by decide +kernel
theorem d_T_rule_231 : decode c_T_rule 231 = .ok (.ireturn, 1) := by decide +kernel
theorem d_T_age_0 : decode c_T_age 0 = .ok (.sipush (-20000), 3) := by decide +kernel
theorem d_T_age_3 : decode c_T_age 3 = .ok (.istore_n 2, 1) := by decide +kernel
theorem d_T_age_4 : decode c_T_age 4 = .ok (.sipush 20000, 3) := by decide +kernel
theorem d_T_age_7 : decode c_T_age 7 = .ok (.istore_n 3, 1) := by decide +kernel
theorem d_T_age_8 : decode c_T_age 8 = .ok (.iconst 0, 1) := by decide +kernel
theorem d_T_age_9 : decode c_T_age 9 = .ok (.istore 4, 2) := by decide +kernel
theorem d_T_age_11 : decode c_T_age 11 = .ok (.iconst 0, 1) := by decide +kernel
theorem d_T_age_12 : decode c_T_age 12 = .ok (.istore 5, 2) := by decide +kernel
theorem d_T_age_14 : decode c_T_age 14 = .ok (.iload 5, 2) := by decide +kernel
theorem d_T_age_16 : decode c_T_age 16 = .ok (.aload_n 0, 1) := by decide +kernel
theorem d_T_age_17 : decode c_T_age 17 = .ok (.getfield 110, 3) := by decide +kernel
theorem d_T_age_20 : decode c_T_age 20 = .ok (.if_icmp .ge 87, 3) := by decide +kernel
theorem d_T_age_23 : decode c_T_age 23 = .ok (.aload_n 0, 1) := by decide +kernel
theorem d_T_age_24 : decode c_T_age 24 = .ok (.iload 5, 2) := by decide +kernel
theorem d_T_age_26 : decode c_T_age 26 = .ok (.invokevirtual 113, 3) := by decide +kernel
theorem d_T_age_29 : decode c_T_age 29 = .ok (.ifCond .eq 72, 3) := by decide +kernel
theorem d_T_age_32 : decode c_T_age 32 = .ok (.iconst 1, 1) := by decide +kernel
theorem d_T_age_33 : decode c_T_age 33 = .ok (.istore 4, 2) := by decide +kernel
theorem d_T_age_35 : decode c_T_age 35 = .ok (.aload_n 0, 1) := by decide +kernel
theorem d_T_age_36 : decode c_T_age 36 = .ok (.getfield 32, 3) := by decide +kernel
theorem d_T_age_39 : decode c_T_age 39 = .ok (.bipush 6, 2) := by decide +kernel
theorem d_T_age_41 : decode c_T_age 41 = .ok (.iload 5, 2) := by decide +kernel
theorem d_T_age_43 : decode c_T_age 43 = .ok (.imul, 1) := by decide +kernel
theorem d_T_age_44 : decode c_T_age 44 = .ok (.iconst 4, 1) := by decide +kernel
theorem d_T_age_45 : decode c_T_age 45 = .ok (.iadd, 1) := by decide +kernel
theorem d_T_age_46 : decode c_T_age 46 = .ok (.iaload, 1) := by decide +kernel
theorem d_T_age_47 : decode c_T_age 47 = .ok (.iload_n 2, 1) := by decide +kernel
theorem d_T_age_48 : decode c_T_age 48 = .ok (.if_icmp .le 18, 3) := by decide +kernel
theorem d_T_age_51 : decode c_T_age 51 = .ok (.aload_n 0, 1) := by decide +kernel
theorem d_T_age_52 : decode c_T_age 52 = .ok (.getfield 32, 3) := by decide +kernel
theorem d_T_age_55 : decode c_T_age 55 = .ok (.bipush 6, 2) := by decide +kernel
theorem d_T_age_57 : decode c_T_age 57 = .ok (.iload 5, 2) := by decide +kernel
theorem d_T_age_59 : decode c_T_age 59 = .ok (.imul, 1) := by decide +kernel
theorem d_T_age_60 : decode c_T_age 60 = .ok (.iconst 4, 1) := by decide +kernel
theorem d_T_age_61 : decode c_T_age 61 = .ok (.iadd, 1) := by decide +kernel
theorem d_T_age_62 : decode c_T_age 62 = .ok (.iaload, 1) := by decide +kernel
theorem d_T_age_63 : decode c_T_age 63 = .ok (.goto 4, 3) := by decide +kernel
theorem d_T_age_66 : decode c_T_age 66 = .ok (.iload_n 2, 1) := by decide +kernel
theorem d_T_age_67 : decode c_T_age 67 = .ok (.istore_n 2, 1) := by decide +kernel
theorem d_T_age_68 : decode c_T_age 68 = .ok (.aload_n 0, 1) := by decide +kernel
theorem d_T_age_69 : decode c_T_age 69 = .ok (.getfield 32, 3) := by decide +kernel
theorem d_T_age_72 : decode c_T_age 72 = .ok (.bipush 6, 2) := by decide +kernel
theorem d_T_age_74 : decode c_T_age 74 = .ok (.iload 5, 2) := by decide +kernel
theorem d_T_age_76 : decode c_T_age 76 = .ok (.imul, 1) := by decide +kernel
theorem d_T_age_77 : decode c_T_age 77 = .ok (.iconst 5, 1) := by decide +kernel
theorem d_T_age_78 : decode c_T_age 78 = .ok (.iadd, 1) := by decide +kernel
theorem d_T_age_79 : decode c_T_age 79 = .ok (.iaload, 1) := by decide +kernel
theorem d_T_age_80 : decode c_T_age 80 = .ok (.iload_n 3, 1) := by decide +kernel
theorem d_T_age_81 : decode c_T_age 81 = .ok (.if_icmp .ge 18, 3) := by decide +kernel
theorem d_T_age_84 : decode c_T_age 84 = .ok (.aload_n 0, 1) := by decide +kernel
theorem d_T_age_85 : decode c_T_age 85 = .ok (.getfield 32, 3) := by decide +kernel
theorem d_T_age_88 : decode c_T_age 88 = .ok (.bipush 6, 2) := by decide +kernel
theorem d_T_age_90 : decode c_T_age 90 = .ok (.iload 5, 2) := by decide +kernel
theorem d_T_age_92 : decode c_T_age 92 = .ok (.imul, 1) := by decide +kernel
theorem d_T_age_93 : decode c_T_age 93 = .ok (.iconst 5, 1) := by decide +kernel
theorem d_T_age_94 : decode c_T_age 94 = .ok (.iadd, 1) := by decide +kernel
theorem d_T_age_95 : decode c_T_age 95 = .ok (.iaload, 1) := by decide +kernel
theorem d_T_age_96 : decode c_T_age 96 = .ok (.goto 4, 3) := by decide +kernel
theorem d_T_age_99 : decode c_T_age 99 = .ok (.iload_n 3, 1) := by decide +kernel
theorem d_T_age_100 : decode c_T_age 100 = .ok (.istore_n 3, 1) := by decide +kernel
theorem d_T_age_101 : decode c_T_age 101 = .ok (.iinc 5 1, 3) := by decide +kernel
theorem d_T_age_104 : decode c_T_age 104 = .ok (.goto (-90), 3) := by decide +kernel
theorem d_T_age_107 : decode c_T_age 107 = .ok (.aload_n 0, 1) := by decide +kernel
theorem d_T_age_108 : decode c_T_age 108 = .ok (.iload_n 1, 1) := by decide +kernel
theorem d_T_age_109 : decode c_T_age 109 = .ok (.i2l, 1) := by decide +kernel
theorem d_T_age_110 : decode c_T_age 110 = .ok (.lconst 0, 1) := by decide +kernel
theorem d_T_age_111 : decode c_T_age 111 = .ok (.lconst 1, 1) := by decide +kernel
theorem d_T_age_112 : decode c_T_age 112 = .ok (.invokestatic 42, 3) := by decide +kernel
theorem d_T_age_115 : decode c_T_age 115 = .ok (.ifCond .ne 7, 3) := by decide +kernel
theorem d_T_age_118 : decode c_T_age 118 = .ok (.iconst 1, 1) := by decide +kernel
theorem d_T_age_119 : decode c_T_age 119 = .ok (.goto 18, 3) := by decide +kernel
theorem d_T_age_122 : decode c_T_age 122 = .ok (.iload 4, 2) := by decide +kernel
theorem d_T_age_124 : decode c_T_age 124 = .ok (.ifCond .eq 8, 3) := by decide +kernel
theorem d_T_age_127 : decode c_T_age 127 = .ok (.iload_n 2, 1) := by decide +kernel
theorem d_T_age_128 : decode c_T_age 128 = .ok (.iload_n 3, 1) := by decide +kernel
theorem d_T_age_129 : decode c_T_age 129 = .ok (.if_icmp .le 7, 3) := by decide +kernel
theorem d_T_age_132 : decode c_T_age 132 = .ok (.iconst 2, 1) := by decide +kernel
theorem d_T_age_133 : decode c_T_age 133 = .ok (.goto 4, 3) := by decide +kernel
theorem d_T_age_136 : decode c_T_age 136 = .ok (.iconst 0, 1) := by decide +kernel
theorem d_T_age_137 : decode c_T_age 137 = .ok (.putfield 39, 3) := by decide +kernel
theorem d_T_age_140 : decode c_T_age 140 = .ok (.aload_n 0, 1) := by decide +kernel
theorem d_T_age_141 : decode c_T_age 141 = .ok (.getfield 39, 3) := by decide +kernel
theorem d_T_age_144 : decode c_T_age 144 = .ok (.ifCond .le 7, 3) := by decide +kernel
theorem d_T_age_147 : decode c_T_age 147 = .ok (.iconst 0, 1) := by decide +kernel
theorem d_T_age_148 : decode c_T_age 148 = .ok (.goto 12, 3) := by decide +kernel
theorem d_T_age_151 : decode c_T_age 151 = .ok (.iload_n 1, 1) := by decide +kernel
theorem d_T_age_152 : decode c_T_age 152 = .ok (.ifCond .ne 7, 3) := by decide +kernel
theorem d_T_age_155 : decode c_T_age 155 = .ok (.iload_n 2, 1) := by decide +kernel
theorem d_T_age_156 : decode c_T_age 156 = .ok (.goto 4, 3) := by decide +kernel
theorem d_T_age_159 : decode c_T_age 159 = .ok (.iload_n 3, 1) := by decide +kernel
theorem d_T_age_160 : decode c_T_age 160 = .ok (.ireturn, 1) := by decide +kernel
theorem d_T_holds_0 : decode c_T_holds 0 = .ok (.iconst 1, 1) := by decide +kernel
theorem d_T_holds_1 : decode c_T_holds 1 = .ok (.istore_n 2, 1) := by decide +kernel
theorem d_T_holds_2 : decode c_T_holds 2 = .ok (.aload_n 0, 1) := by decide +kernel
theorem d_T_holds_3 : decode c_T_holds 3 = .ok (.getfield 32, 3) := by decide +kernel
theorem d_T_holds_6 : decode c_T_holds 6 = .ok (.bipush 6, 2) := by decide +kernel
theorem d_T_holds_8 : decode c_T_holds 8 = .ok (.iload_n 1, 1) := by decide +kernel
theorem d_T_holds_9 : decode c_T_holds 9 = .ok (.imul, 1) := by decide +kernel
theorem d_T_holds_10 : decode c_T_holds 10 = .ok (.iaload, 1) := by decide +kernel
theorem d_T_holds_11 : decode c_T_holds 11 = .ok (.istore_n 3, 1) := by decide +kernel
theorem d_T_holds_12 : decode c_T_holds 12 = .ok (.iload_n 3, 1) := by decide +kernel
theorem d_T_holds_13 : decode c_T_holds 13 = .ok (.aload_n 0, 1) := by decide +kernel
theorem d_T_holds_14 : decode c_T_holds 14 = .ok (.getfield 32, 3) := by decide +kernel
theorem d_T_holds_17 : decode c_T_holds 17 = .ok (.bipush 6, 2) := by decide +kernel
theorem d_T_holds_19 : decode c_T_holds 19 = .ok (.iload_n 1, 1) := by decide +kernel
theorem d_T_holds_20 : decode c_T_holds 20 = .ok (.imul, 1) := by decide +kernel
theorem d_T_holds_21 : decode c_T_holds 21 = .ok (.iconst 1, 1) := by decide +kernel
theorem d_T_holds_22 : decode c_T_holds 22 = .ok (.iadd, 1) := by decide +kernel
theorem d_T_holds_23 : decode c_T_holds 23 = .ok (.iaload, 1) := by decide +kernel
theorem d_T_holds_24 : decode c_T_holds 24 = .ok (.if_icmp .gt 65, 3) := by decide +kernel
theorem d_T_holds_27 : decode c_T_holds 27 = .ok (.iload_n 2, 1) := by decide +kernel
theorem d_T_holds_28 : decode c_T_holds 28 = .ok (.ifCond .eq 53, 3) := by decide +kernel
theorem d_T_holds_31 : decode c_T_holds 31 = .ok (.aload_n 0, 1) := by decide +kernel
theorem d_T_holds_32 : decode c_T_holds 32 = .ok (.getfield 7, 3) := by decide +kernel
theorem d_T_holds_35 : decode c_T_holds 35 = .ok (.iload_n 3, 1) := by decide +kernel
theorem d_T_holds_36 : decode c_T_holds 36 = .ok (.iaload, 1) := by decide +kernel
theorem d_T_holds_37 : decode c_T_holds 37 = .ok (.ifCond .lt 44, 3) := by decide +kernel
theorem d_T_holds_40 : decode c_T_holds 40 = .ok (.aload_n 0, 1) := by decide +kernel
theorem d_T_holds_41 : decode c_T_holds 41 = .ok (.getfield 7, 3) := by decide +kernel
theorem d_T_holds_44 : decode c_T_holds 44 = .ok (.iload_n 3, 1) := by decide +kernel
theorem d_T_holds_45 : decode c_T_holds 45 = .ok (.iaload, 1) := by decide +kernel
theorem d_T_holds_46 : decode c_T_holds 46 = .ok (.i2l, 1) := by decide +kernel
theorem d_T_holds_47 : decode c_T_holds 47 = .ok (.aload_n 0, 1) := by decide +kernel
theorem d_T_holds_48 : decode c_T_holds 48 = .ok (.getfield 32, 3) := by decide +kernel
theorem d_T_holds_51 : decode c_T_holds 51 = .ok (.bipush 6, 2) := by decide +kernel
theorem d_T_holds_53 : decode c_T_holds 53 = .ok (.iload_n 1, 1) := by decide +kernel
theorem d_T_holds_54 : decode c_T_holds 54 = .ok (.imul, 1) := by decide +kernel
theorem d_T_holds_55 : decode c_T_holds 55 = .ok (.iconst 2, 1) := by decide +kernel
theorem d_T_holds_56 : decode c_T_holds 56 = .ok (.iadd, 1) := by decide +kernel
theorem d_T_holds_57 : decode c_T_holds 57 = .ok (.iaload, 1) := by decide +kernel
theorem d_T_holds_58 : decode c_T_holds 58 = .ok (.i2l, 1) := by decide +kernel
theorem d_T_holds_59 : decode c_T_holds 59 = .ok (.aload_n 0, 1) := by decide +kernel
theorem d_T_holds_60 : decode c_T_holds 60 = .ok (.getfield 32, 3) := by decide +kernel
theorem d_T_holds_63 : decode c_T_holds 63 = .ok (.bipush 6, 2) := by decide +kernel
theorem d_T_holds_65 : decode c_T_holds 65 = .ok (.iload_n 1, 1) := by decide +kernel
theorem d_T_holds_66 : decode c_T_holds 66 = .ok (.imul, 1) := by decide +kernel
theorem d_T_holds_67 : decode c_T_holds 67 = .ok (.iconst 3, 1) := by decide +kernel
theorem d_T_holds_68 : decode c_T_holds 68 = .ok (.iadd, 1) := by decide +kernel
theorem d_T_holds_69 : decode c_T_holds 69 = .ok (.iaload, 1) := by decide +kernel
theorem d_T_holds_70 : decode c_T_holds 70 = .ok (.i2l, 1) := by decide +kernel
theorem d_T_holds_71 : decode c_T_holds 71 = .ok (.invokestatic 42, 3) := by decide +kernel
theorem d_T_holds_74 : decode c_T_holds 74 = .ok (.ifCond .eq 7, 3) := by decide +kernel
theorem d_T_holds_77 : decode c_T_holds 77 = .ok (.iconst 1, 1) := by decide +kernel
theorem d_T_holds_78 : decode c_T_holds 78 = .ok (.goto 4, 3) := by decide +kernel
theorem d_T_holds_81 : decode c_T_holds 81 = .ok (.iconst 0, 1) := by decide +kernel
theorem d_T_holds_82 : decode c_T_holds 82 = .ok (.istore_n 2, 1) := by decide +kernel
theorem d_T_holds_83 : decode c_T_holds 83 = .ok (.iinc 3 1, 3) := by decide +kernel
theorem d_T_holds_86 : decode c_T_holds 86 = .ok (.goto (-74), 3) := by decide +kernel
theorem d_T_holds_89 : decode c_T_holds 89 = .ok (.iload_n 2, 1) := by decide +kernel
theorem d_T_holds_90 : decode c_T_holds 90 = .ok (.ireturn, 1) := by decide +kernel
end
section
theorem d_L_cell_0 : decode c_L_cell 0 = .ok (.iload_n 1, 1) := by decide +kernel
theorem d_L_cell_1 : decode c_L_cell 1 = .ok (.aload_n 0, 1) := by decide +kernel
theorem d_L_cell_2 : decode c_L_cell 2 = .ok (.arraylength, 1) := by decide +kernel
theorem d_L_cell_3 : decode c_L_cell 3 = .ok (.if_icmp .ge 9, 3) := by decide +kernel
theorem d_L_cell_6 : decode c_L_cell 6 = .ok (.aload_n 0, 1) := by decide +kernel
theorem d_L_cell_7 : decode c_L_cell 7 = .ok (.iload_n 1, 1) := by decide +kernel
theorem d_L_cell_8 : decode c_L_cell 8 = .ok (.iaload, 1) := by decide +kernel
theorem d_L_cell_9 : decode c_L_cell 9 = .ok (.goto 4, 3) := by decide +kernel
theorem d_L_cell_12 : decode c_L_cell 12 = .ok (.iconst 0, 1) := by decide +kernel
theorem d_L_cell_13 : decode c_L_cell 13 = .ok (.ireturn, 1) := by decide +kernel
theorem d_L_depth_0 : decode c_L_depth 0 = .ok (.aload_n 0, 1) := by decide +kernel
theorem d_L_depth_1 : decode c_L_depth 1 = .ok (.iload_n 1, 1) := by decide +kernel
theorem d_L_depth_2 : decode c_L_depth 2 = .ok (.iload_n 2, 1) := by decide +kernel
theorem d_L_depth_3 : decode c_L_depth 3 = .ok (.invokevirtual 7, 3) := by decide +kernel
theorem d_L_depth_6 : decode c_L_depth 6 = .ok (.goto 9, 3) := by decide +kernel
theorem d_L_depth_9 : decode c_L_depth 9 = .ok (.astore_n 3, 1) := by decide +kernel
theorem d_L_depth_10 : decode c_L_depth 10 = .ok (.iconst 1, 1) := by decide +kernel
theorem d_L_depth_11 : decode c_L_depth 11 = .ok (.ireturn, 1) := by decide +kernel
theorem d_L_depth_12 : decode c_L_depth 12 = .ok (.astore_n 3, 1) := by decide +kernel
theorem d_L_depth_13 : decode c_L_depth 13 = .ok (.iconst 2, 1) := by decide +kernel
theorem d_L_depth_14 : decode c_L_depth 14 = .ok (.ireturn, 1) := by decide +kernel
theorem d_L_depth_15 : decode c_L_depth 15 = .ok (.iconst 0, 1) := by decide +kernel
theorem d_L_depth_16 : decode c_L_depth 16 = .ok (.ireturn, 1) := by decide +kernel
theorem d_L_place_0 : decode c_L_place 0 = .ok (.aload_n 3, 1) := by decide +kernel
theorem d_L_place_1 : decode c_L_place 1 = .ok (.iconst 0, 1) := by decide +kernel
theorem d_L_place_2 : decode c_L_place 2 = .ok (.aload_n 0, 1) := by decide +kernel
theorem d_L_place_3 : decode c_L_place 3 = .ok (.iload_n 1, 1) := by decide +kernel
theorem d_L_place_4 : decode c_L_place 4 = .ok (.iload_n 2, 1) := by decide +kernel
theorem d_L_place_5 : decode c_L_place 5 = .ok (.invokevirtual 17, 3) := by decide +kernel
theorem d_L_place_8 : decode c_L_place 8 = .ok (.i2l, 1) := by decide +kernel
theorem d_L_place_9 : decode c_L_place 9 = .ok (.lastore, 1) := by decide +kernel
theorem d_L_place_10 : decode c_L_place 10 = .ok (.goto 7, 3) := by decide +kernel
theorem d_L_place_13 : decode c_L_place 13 = .ok (.astore 4, 2) := by decide +kernel
theorem d_L_place_15 : decode c_L_place 15 = .ok (.iconst 1, 1) := by decide +kernel
theorem d_L_place_16 : decode c_L_place 16 = .ok (.ireturn, 1) := by decide +kernel
theorem d_L_place_17 : decode c_L_place 17 = .ok (.iconst 0, 1) := by decide +kernel
theorem d_L_place_18 : decode c_L_place 18 = .ok (.ireturn, 1) := by decide +kernel
theorem d_L_mirror_0 : decode c_L_mirror 0 = .ok (.aload_n 2, 1) := by decide +kernel
theorem d_L_mirror_1 : decode c_L_mirror 1 = .ok (.iconst 0, 1) := by decide +kernel
theorem d_L_mirror_2 : decode c_L_mirror 2 = .ok (.aload_n 0, 1) := by decide +kernel
theorem d_L_mirror_3 : decode c_L_mirror 3 = .ok (.iload_n 1, 1) := by decide +kernel
theorem d_L_mirror_4 : decode c_L_mirror 4 = .ok (.invokevirtual 21, 3) := by decide +kernel
theorem d_L_mirror_7 : decode c_L_mirror 7 = .ok (.lastore, 1) := by decide +kernel
theorem d_L_mirror_8 : decode c_L_mirror 8 = .ok (.goto 9, 3) := by decide +kernel
theorem d_L_mirror_11 : decode c_L_mirror 11 = .ok (.astore_n 3, 1) := by decide +kernel
theorem d_L_mirror_12 : decode c_L_mirror 12 = .ok (.iconst 1, 1) := by decide +kernel
theorem d_L_mirror_13 : decode c_L_mirror 13 = .ok (.ireturn, 1) := by decide +kernel
theorem d_L_mirror_14 : decode c_L_mirror 14 = .ok (.astore_n 3, 1) := by decide +kernel
theorem d_L_mirror_15 : decode c_L_mirror 15 = .ok (.iconst 2, 1) := by decide +kernel
theorem d_L_mirror_16 : decode c_L_mirror 16 = .ok (.ireturn, 1) := by decide +kernel
theorem d_L_mirror_17 : decode c_L_mirror 17 = .ok (.iconst 0, 1) := by decide +kernel
theorem d_L_mirror_18 : decode c_L_mirror 18 = .ok (.ireturn, 1) := by decide +kernel
theorem d_L_sum_0 : decode c_L_sum 0 = .ok (.aload_n 2, 1) := by decide +kernel
theorem d_L_sum_1 : decode c_L_sum 1 = .ok (.iconst 0, 1) := by decide +kernel
theorem d_L_sum_2 : decode c_L_sum 2 = .ok (.aload_n 0, 1) := by decide +kernel
theorem d_L_sum_3 : decode c_L_sum 3 = .ok (.iload_n 1, 1) := by decide +kernel
theorem d_L_sum_4 : decode c_L_sum 4 = .ok (.invokevirtual 27, 3) := by decide +kernel
theorem d_L_sum_7 : decode c_L_sum 7 = .ok (.lastore, 1) := by decide +kernel
theorem d_L_sum_8 : decode c_L_sum 8 = .ok (.goto 6, 3) := by decide +kernel
theorem d_L_sum_11 : decode c_L_sum 11 = .ok (.astore_n 3, 1) := by decide +kernel
theorem d_L_sum_12 : decode c_L_sum 12 = .ok (.iconst 1, 1) := by decide +kernel
theorem d_L_sum_13 : decode c_L_sum 13 = .ok (.ireturn, 1) := by decide +kernel
theorem d_L_sum_14 : decode c_L_sum 14 = .ok (.iconst 0, 1) := by decide +kernel
theorem d_L_sum_15 : decode c_L_sum 15 = .ok (.ireturn, 1) := by decide +kernel
theorem d_L_repeat__0 : decode c_L_repeat_ 0 = .ok (.aload_n 3, 1) := by decide +kernel
theorem d_L_repeat__1 : decode c_L_repeat_ 1 = .ok (.iconst 0, 1) := by decide +kernel
theorem d_L_repeat__2 : decode c_L_repeat_ 2 = .ok (.aload_n 0, 1) := by decide +kernel
theorem d_L_repeat__3 : decode c_L_repeat_ 3 = .ok (.iload_n 1, 1) := by decide +kernel
theorem d_L_repeat__4 : decode c_L_repeat_ 4 = .ok (.iload_n 2, 1) := by decide +kernel
theorem d_L_repeat__5 : decode c_L_repeat_ 5 = .ok (.invokevirtual 30, 3) := by decide +kernel
theorem d_L_repeat__8 : decode c_L_repeat_ 8 = .ok (.i2l, 1) := by decide +kernel
theorem d_L_repeat__9 : decode c_L_repeat_ 9 = .ok (.lastore, 1) := by decide +kernel
theorem d_L_repeat__10 : decode c_L_repeat_ 10 = .ok (.goto 7, 3) := by decide +kernel
theorem d_L_repeat__13 : decode c_L_repeat_ 13 = .ok (.astore 4, 2) := by decide +kernel
theorem d_L_repeat__15 : decode c_L_repeat_ 15 = .ok (.iconst 1, 1) := by decide +kernel
theorem d_L_repeat__16 : decode c_L_repeat_ 16 = .ok (.ireturn, 1) := by decide +kernel
theorem d_L_repeat__17 : decode c_L_repeat_ 17 = .ok (.iconst 0, 1) := by decide +kernel
theorem d_L_repeat__18 : decode c_L_repeat_ 18 = .ok (.ireturn, 1) := by decide +kernel
theorem d_L_fill_0 : decode c_L_fill 0 = .ok (.aload_n 3, 1) := by decide +kernel
theorem d_L_fill_1 : decode c_L_fill 1 = .ok (.iconst 0, 1) := by decide +kernel
theorem d_L_fill_2 : decode c_L_fill 2 = .ok (.aload_n 0, 1) := by decide +kernel
theorem d_L_fill_3 : decode c_L_fill 3 = .ok (.iload_n 1, 1) := by decide +kernel
theorem d_L_fill_4 : decode c_L_fill 4 = .ok (.iload_n 2, 1) := by decide +kernel
theorem d_L_fill_5 : decode c_L_fill 5 = .ok (.invokevirtual 33, 3) := by decide +kernel
theorem d_L_fill_8 : decode c_L_fill 8 = .ok (.i2l, 1) := by decide +kernel
theorem d_L_fill_9 : decode c_L_fill 9 = .ok (.lastore, 1) := by decide +kernel
theorem d_L_fill_10 : decode c_L_fill 10 = .ok (.goto 7, 3) := by decide +kernel
theorem d_L_fill_13 : decode c_L_fill 13 = .ok (.astore 4, 2) := by decide +kernel
theorem d_L_fill_15 : decode c_L_fill 15 = .ok (.iconst 1, 1) := by decide +kernel
theorem d_L_fill_16 : decode c_L_fill 16 = .ok (.ireturn, 1) := by decide +kernel
theorem d_L_fill_17 : decode c_L_fill 17 = .ok (.iconst 0, 1) := by decide +kernel
theorem d_L_fill_18 : decode c_L_fill 18 = .ok (.ireturn, 1) := by decide +kernel
theorem d_L_shape_0 : decode c_L_shape 0 = .ok (.aload_n 2, 1) := by decide +kernel
theorem d_L_shape_1 : decode c_L_shape 1 = .ok (.iconst 0, 1) := by decide +kernel
theorem d_L_shape_2 : decode c_L_shape 2 = .ok (.aload_n 0, 1) := by decide +kernel
theorem d_L_shape_3 : decode c_L_shape 3 = .ok (.iload_n 1, 1) := by decide +kernel
theorem d_L_shape_4 : decode c_L_shape 4 = .ok (.invokevirtual 36, 3) := by decide +kernel
theorem d_L_shape_7 : decode c_L_shape 7 = .ok (.i2l, 1) := by decide +kernel
theorem d_L_shape_8 : decode c_L_shape 8 = .ok (.lastore, 1) := by decide +kernel
theorem d_L_shape_9 : decode c_L_shape 9 = .ok (.goto 9, 3) := by decide +kernel
theorem d_L_shape_12 : decode c_L_shape 12 = .ok (.astore_n 3, 1) := by decide +kernel
theorem d_L_shape_13 : decode c_L_shape 13 = .ok (.iconst 1, 1) := by decide +kernel
theorem d_L_shape_14 : decode c_L_shape 14 = .ok (.ireturn, 1) := by decide +kernel
theorem d_L_shape_15 : decode c_L_shape 15 = .ok (.astore_n 3, 1) := by decide +kernel
theorem d_L_shape_16 : decode c_L_shape 16 = .ok (.iconst 2, 1) := by decide +kernel
theorem d_L_shape_17 : decode c_L_shape 17 = .ok (.ireturn, 1) := by decide +kernel
theorem d_L_shape_18 : decode c_L_shape 18 = .ok (.iconst 0, 1) := by decide +kernel
theorem d_L_shape_19 : decode c_L_shape 19 = .ok (.ireturn, 1) := by decide +kernel
theorem d_L_carve_0 : decode c_L_carve 0 = .ok (.aload_n 0, 1) := by decide +kernel
theorem d_L_carve_1 : decode c_L_carve 1 = .ok (.iload_n 1, 1) := by decide +kernel
theorem d_L_carve_2 : decode c_L_carve 2 = .ok (.iload_n 2, 1) := by decide +kernel
theorem d_L_carve_3 : decode c_L_carve 3 = .ok (.iload_n 3, 1) := by decide +kernel
theorem d_L_carve_4 : decode c_L_carve 4 = .ok (.invokevirtual 40, 3) := by decide +kernel
theorem d_L_carve_7 : decode c_L_carve 7 = .ok (.goto 11, 3) := by decide +kernel
theorem d_L_carve_10 : decode c_L_carve 10 = .ok (.astore 4, 2) := by decide +kernel
theorem d_L_carve_12 : decode c_L_carve 12 = .ok (.iconst 1, 1) := by decide +kernel
theorem d_L_carve_13 : decode c_L_carve 13 = .ok (.ireturn, 1) := by decide +kernel
theorem d_L_carve_14 : decode c_L_carve 14 = .ok (.astore 4, 2) := by decide +kernel
theorem d_L_carve_16 : decode c_L_carve 16 = .ok (.iconst 2, 1) := by decide +kernel
theorem d_L_carve_17 : decode c_L_carve 17 = .ok (.ireturn, 1) := by decide +kernel
theorem d_L_carve_18 : decode c_L_carve 18 = .ok (.iconst 0, 1) := by decide +kernel
theorem d_L_carve_19 : decode c_L_carve 19 = .ok (.ireturn, 1) := by decide +kernel
theorem d_L_match__0 : decode c_L_match_ 0 = .ok (.aload_n 2, 1) := by decide +kernel
theorem d_L_match__1 : decode c_L_match_ 1 = .ok (.iconst 0, 1) := by decide +kernel
theorem d_L_match__2 : decode c_L_match_ 2 = .ok (.aload_n 0, 1) := by decide +kernel
theorem d_L_match__3 : decode c_L_match_ 3 = .ok (.iload_n 1, 1) := by decide +kernel
theorem d_L_match__4 : decode c_L_match_ 4 = .ok (.invokevirtual 44, 3) := by decide +kernel
theorem d_L_match__7 : decode c_L_match_ 7 = .ok (.i2l, 1) := by decide +kernel
theorem d_L_match__8 : decode c_L_match_ 8 = .ok (.lastore, 1) := by decide +kernel
theorem d_L_match__9 : decode c_L_match_ 9 = .ok (.goto 9, 3) := by decide +kernel
theorem d_L_match__12 : decode c_L_match_ 12 = .ok (.astore_n 3, 1) := by decide +kernel
theorem d_L_match__13 : decode c_L_match_ 13 = .ok (.iconst 1, 1) := by decide +kernel
theorem d_L_match__14 : decode c_L_match_ 14 = .ok (.ireturn, 1) := by decide +kernel
theorem d_L_match__15 : decode c_L_match_ 15 = .ok (.astore_n 3, 1) := by decide +kernel
theorem d_L_match__16 : decode c_L_match_ 16 = .ok (.iconst 2, 1) := by decide +kernel
theorem d_L_match__17 : decode c_L_match_ 17 = .ok (.ireturn, 1) := by decide +kernel
theorem d_L_match__18 : decode c_L_match_ 18 = .ok (.iconst 0, 1) := by decide +kernel
theorem d_L_match__19 : decode c_L_match_ 19 = .ok (.ireturn, 1) := by decide +kernel
theorem d_L_kind_0 : decode c_L_kind 0 = .ok (.aload_n 2, 1) := by decide +kernel
theorem d_L_kind_1 : decode c_L_kind 1 = .ok (.iconst 0, 1) := by decide +kernel
theorem d_L_kind_2 : decode c_L_kind 2 = .ok (.aload_n 0, 1) := by decide +kernel
theorem d_L_kind_3 : decode c_L_kind 3 = .ok (.iload_n 1, 1) := by decide +kernel
theorem d_L_kind_4 : decode c_L_kind 4 = .ok (.invokevirtual 47, 3) := by decide +kernel
theorem d_L_kind_7 : decode c_L_kind 7 = .ok (.i2l, 1) := by decide +kernel
theorem d_L_kind_8 : decode c_L_kind 8 = .ok (.lastore, 1) := by decide +kernel
theorem d_L_kind_9 : decode c_L_kind 9 = .ok (.goto 9, 3) := by decide +kernel
theorem d_L_kind_12 : decode c_L_kind 12 = .ok (.astore_n 3, 1) := by decide +kernel
theorem d_L_kind_13 : decode c_L_kind 13 = .ok (.iconst 1, 1) := by decide +kernel
theorem d_L_kind_14 : decode c_L_kind 14 = .ok (.ireturn, 1) := by decide +kernel
theorem d_L_kind_15 : decode c_L_kind 15 = .ok (.astore_n 3, 1) := by decide +kernel
theorem d_L_kind_16 : decode c_L_kind 16 = .ok (.iconst 2, 1) := by decide +kernel
theorem d_L_kind_17 : decode c_L_kind 17 = .ok (.ireturn, 1) := by decide +kernel
theorem d_L_kind_18 : decode c_L_kind 18 = .ok (.iconst 0, 1) := by decide +kernel
theorem d_L_kind_19 : decode c_L_kind 19 = .ok (.ireturn, 1) := by decide +kernel
theorem d_L_question_0 : decode c_L_question 0 = .ok (.aload 4, 2) := by decide +kernel
theorem d_L_question_2 : decode c_L_question 2 = .ok (.iconst 0, 1) := by decide +kernel
theorem d_L_question_3 : decode c_L_question 3 = .ok (.aload_n 0, 1) := by decide +kernel
theorem d_L_question_4 : decode c_L_question 4 = .ok (.iload_n 1, 1) := by decide +kernel
theorem d_L_question_5 : decode c_L_question 5 = .ok (.iload_n 2, 1) := by decide +kernel
theorem d_L_question_6 : decode c_L_question 6 = .ok (.iload_n 3, 1) := by decide +kernel
theorem d_L_question_7 : decode c_L_question 7 = .ok (.invokevirtual 50, 3) := by decide +kernel
theorem d_L_question_10 : decode c_L_question 10 = .ok (.i2l, 1) := by decide +kernel
theorem d_L_question_11 : decode c_L_question 11 = .ok (.lastore, 1) := by decide +kernel
theorem d_L_question_12 : decode c_L_question 12 = .ok (.goto 15, 3) := by decide +kernel
theorem d_L_question_15 : decode c_L_question 15 = .ok (.astore 5, 2) := by decide +kernel
theorem d_L_question_17 : decode c_L_question 17 = .ok (.iconst 1, 1) := by decide +kernel
theorem d_L_question_18 : decode c_L_question 18 = .ok (.ireturn, 1) := by decide +kernel
theorem d_L_question_19 : decode c_L_question 19 = .ok (.astore 5, 2) := by decide +kernel
theorem d_L_question_21 : decode c_L_question 21 = .ok (.iconst 2, 1) := by decide +kernel
theorem d_L_question_22 : decode c_L_question 22 = .ok (.ireturn, 1) := by decide +kernel
theorem d_L_question_23 : decode c_L_question 23 = .ok (.astore 5, 2) := by decide +kernel
theorem d_L_question_25 : decode c_L_question 25 = .ok (.iconst 3, 1) := by decide +kernel
theorem d_L_question_26 : decode c_L_question 26 = .ok (.ireturn, 1) := by decide +kernel
theorem d_L_question_27 : decode c_L_question 27 = .ok (.iconst 0, 1) := by decide +kernel
theorem d_L_question_28 : decode c_L_question 28 = .ok (.ireturn, 1) := by decide +kernel
theorem d_L_ask_0 : decode c_L_ask 0 = .ok (.aload_n 3, 1) := by decide +kernel
theorem d_L_ask_1 : decode c_L_ask 1 = .ok (.iconst 0, 1) := by decide +kernel
theorem d_L_ask_2 : decode c_L_ask 2 = .ok (.aload_n 0, 1) := by decide +kernel
theorem d_L_ask_3 : decode c_L_ask 3 = .ok (.iload_n 1, 1) := by decide +kernel
theorem d_L_ask_4 : decode c_L_ask 4 = .ok (.iload_n 2, 1) := by decide +kernel
theorem d_L_ask_5 : decode c_L_ask 5 = .ok (.invokevirtual 54, 3) := by decide +kernel
theorem d_L_ask_8 : decode c_L_ask 8 = .ok (.i2l, 1) := by decide +kernel
theorem d_L_ask_9 : decode c_L_ask 9 = .ok (.lastore, 1) := by decide +kernel
theorem d_L_ask_10 : decode c_L_ask 10 = .ok (.goto 11, 3) := by decide +kernel
theorem d_L_ask_13 : decode c_L_ask 13 = .ok (.astore 4, 2) := by decide +kernel
theorem d_L_ask_15 : decode c_L_ask 15 = .ok (.iconst 1, 1) := by decide +kernel
theorem d_L_ask_16 : decode c_L_ask 16 = .ok (.ireturn, 1) := by decide +kernel
theorem d_L_ask_17 : decode c_L_ask 17 = .ok (.astore 4, 2) := by decide +kernel
theorem d_L_ask_19 : decode c_L_ask 19 = .ok (.iconst 2, 1) := by decide +kernel
theorem d_L_ask_20 : decode c_L_ask 20 = .ok (.ireturn, 1) := by decide +kernel
theorem d_L_ask_21 : decode c_L_ask 21 = .ok (.iconst 0, 1) := by decide +kernel
theorem d_L_ask_22 : decode c_L_ask 22 = .ok (.ireturn, 1) := by decide +kernel
theorem d_L_rule_0 : decode c_L_rule 0 = .ok (.aload 7, 2) := by decide +kernel
theorem d_L_rule_2 : decode c_L_rule 2 = .ok (.iconst 0, 1) := by decide +kernel
theorem d_L_rule_3 : decode c_L_rule 3 = .ok (.aload_n 0, 1) := by decide +kernel
theorem d_L_rule_4 : decode c_L_rule 4 = .ok (.iload_n 1, 1) := by decide +kernel
theorem d_L_rule_5 : decode c_L_rule 5 = .ok (.iload_n 2, 1) := by decide +kernel
theorem d_L_rule_6 : decode c_L_rule 6 = .ok (.iload_n 3, 1) := by decide +kernel
theorem d_L_rule_7 : decode c_L_rule 7 = .ok (.iload 4, 2) := by decide +kernel
theorem d_L_rule_9 : decode c_L_rule 9 = .ok (.iload 5, 2) := by decide +kernel
theorem d_L_rule_11 : decode c_L_rule 11 = .ok (.iload 6, 2) := by decide +kernel
theorem d_L_rule_13 : decode c_L_rule 13 = .ok (.invokevirtual 57, 3) := by decide +kernel
theorem d_L_rule_16 : decode c_L_rule 16 = .ok (.i2l, 1) := by decide +kernel
theorem d_L_rule_17 : decode c_L_rule 17 = .ok (.lastore, 1) := by decide +kernel
theorem d_L_rule_18 : decode c_L_rule 18 = .ok (.goto 15, 3) := by decide +kernel
theorem d_L_rule_21 : decode c_L_rule 21 = .ok (.astore 8, 2) := by decide +kernel
theorem d_L_rule_23 : decode c_L_rule 23 = .ok (.iconst 1, 1) := by decide +kernel
theorem d_L_rule_24 : decode c_L_rule 24 = .ok (.ireturn, 1) := by decide +kernel
theorem d_L_rule_25 : decode c_L_rule 25 = .ok (.astore 8, 2) := by decide +kernel
theorem d_L_rule_27 : decode c_L_rule 27 = .ok (.iconst 2, 1) := by decide +kernel
theorem d_L_rule_28 : decode c_L_rule 28 = .ok (.ireturn, 1) := by decide +kernel
theorem d_L_rule_29 : decode c_L_rule 29 = .ok (.astore 8, 2) := by decide +kernel
theorem d_L_rule_31 : decode c_L_rule 31 = .ok (.iconst 3, 1) := by decide +kernel
theorem d_L_rule_32 : decode c_L_rule 32 = .ok (.ireturn, 1) := by decide +kernel
theorem d_L_rule_33 : decode c_L_rule 33 = .ok (.iconst 0, 1) := by decide +kernel
theorem d_L_rule_34 : decode c_L_rule 34 = .ok (.ireturn, 1) := by decide +kernel
theorem d_L_age_0 : decode c_L_age 0 = .ok (.aload_n 2, 1) := by decide +kernel
theorem d_L_age_1 : decode c_L_age 1 = .ok (.iconst 0, 1) := by decide +kernel
theorem d_L_age_2 : decode c_L_age 2 = .ok (.aload_n 0, 1) := by decide +kernel
theorem d_L_age_3 : decode c_L_age 3 = .ok (.iload_n 1, 1) := by decide +kernel
theorem d_L_age_4 : decode c_L_age 4 = .ok (.invokevirtual 61, 3) := by decide +kernel
theorem d_L_age_7 : decode c_L_age 7 = .ok (.i2l, 1) := by decide +kernel
theorem d_L_age_8 : decode c_L_age 8 = .ok (.lastore, 1) := by decide +kernel
theorem d_L_age_9 : decode c_L_age 9 = .ok (.goto 9, 3) := by decide +kernel
theorem d_L_age_12 : decode c_L_age 12 = .ok (.astore_n 3, 1) := by decide +kernel
theorem d_L_age_13 : decode c_L_age 13 = .ok (.iconst 1, 1) := by decide +kernel
theorem d_L_age_14 : decode c_L_age 14 = .ok (.ireturn, 1) := by decide +kernel
theorem d_L_age_15 : decode c_L_age 15 = .ok (.astore_n 3, 1) := by decide +kernel
theorem d_L_age_16 : decode c_L_age 16 = .ok (.iconst 2, 1) := by decide +kernel
theorem d_L_age_17 : decode c_L_age 17 = .ok (.ireturn, 1) := by decide +kernel
theorem d_L_age_18 : decode c_L_age 18 = .ok (.iconst 0, 1) := by decide +kernel
theorem d_L_age_19 : decode c_L_age 19 = .ok (.ireturn, 1) := by decide +kernel
end
section
theorem d_L_law_0 : decode c_L_law 0 = .ok (.new 8, 3) := by decide +kernel
theorem d_L_law_3 : decode c_L_law 3 = .ok (.dup, 1) := by decide +kernel
theorem d_L_law_4 : decode c_L_law 4 = .ok (.aload_n 0, 1) := by decide +kernel
theorem d_L_law_5 : decode c_L_law 5 = .ok (.iconst 0, 1) := by decide +kernel
theorem d_L_law_6 : decode c_L_law 6 = .ok (.invokestatic 64, 3) := by decide +kernel
theorem d_L_law_9 : decode c_L_law 9 = .ok (.invokespecial 70, 3) := by decide +kernel
theorem d_L_law_12 : decode c_L_law 12 = .ok (.astore_n 1, 1) := by decide +kernel
theorem d_L_law_13 : decode c_L_law 13 = .ok (.new 73, 3) := by decide +kernel
theorem d_L_law_16 : decode c_L_law 16 = .ok (.dup, 1) := by decide +kernel
theorem d_L_law_17 : decode c_L_law 17 = .ok (.aload_n 0, 1) := by decide +kernel
theorem d_L_law_18 : decode c_L_law 18 = .ok (.iconst 0, 1) := by decide +kernel
theorem d_L_law_19 : decode c_L_law 19 = .ok (.invokestatic 64, 3) := by decide +kernel
theorem d_L_law_22 : decode c_L_law 22 = .ok (.invokespecial 75, 3) := by decide +kernel
theorem d_L_law_25 : decode c_L_law 25 = .ok (.astore_n 2, 1) := by decide +kernel
theorem d_L_law_26 : decode c_L_law 26 = .ok (.iconst 1, 1) := by decide +kernel
theorem d_L_law_27 : decode c_L_law 27 = .ok (.newarray .long, 2) := by decide +kernel
theorem d_L_law_29 : decode c_L_law 29 = .ok (.astore_n 3, 1) := by decide +kernel
theorem d_L_law_30 : decode c_L_law 30 = .ok (.iconst 1, 1) := by decide +kernel
theorem d_L_law_31 : decode c_L_law 31 = .ok (.istore 4, 2) := by decide +kernel
theorem d_L_law_33 : decode c_L_law 33 = .ok (.iload 4, 2) := by decide +kernel
theorem d_L_law_35 : decode c_L_law 35 = .ok (.aload_n 0, 1) := by decide +kernel
theorem d_L_law_36 : decode c_L_law 36 = .ok (.arraylength, 1) := by decide +kernel
theorem d_L_law_37 : decode c_L_law 37 = .ok (.bipush 7, 2) := by decide +kernel
theorem d_L_law_39 : decode c_L_law 39 = .ok (.isub, 1) := by decide +kernel
theorem d_L_law_40 : decode c_L_law 40 = .ok (.if_icmp .gt 1015, 3) := by decide +kernel
theorem d_L_law_43 : decode c_L_law 43 = .ok (.aload_n 0, 1) := by decide +kernel
theorem d_L_law_44 : decode c_L_law 44 = .ok (.iload 4, 2) := by decide +kernel
theorem d_L_law_46 : decode c_L_law 46 = .ok (.iaload, 1) := by decide +kernel
theorem d_L_law_47 : decode c_L_law 47 = .ok (.bipush 15, 2) := by decide +kernel
theorem d_L_law_49 : decode c_L_law 49 = .ok (.iand, 1) := by decide +kernel
theorem d_L_law_50 : decode c_L_law 50 = .ok (.tableswitch 999 0 14 #[74, 122, 190, 245, 300, 368, 436, 449, 505, 565, 621, 677, 757, 825, 943], 74) := by decide +kernel
theorem d_L_law_124 : decode c_L_law 124 = .ok (.aload_n 1, 1) := by decide +kernel
theorem d_L_law_125 : decode c_L_law 125 = .ok (.aload_n 0, 1) := by decide +kernel
theorem d_L_law_126 : decode c_L_law 126 = .ok (.iload 4, 2) := by decide +kernel
theorem d_L_law_128 : decode c_L_law 128 = .ok (.iconst 1, 1) := by decide +kernel
theorem d_L_law_129 : decode c_L_law 129 = .ok (.iadd, 1) := by decide +kernel
theorem d_L_law_130 : decode c_L_law 130 = .ok (.iaload, 1) := by decide +kernel
theorem d_L_law_131 : decode c_L_law 131 = .ok (.aload_n 0, 1) := by decide +kernel
theorem d_L_law_132 : decode c_L_law 132 = .ok (.iload 4, 2) := by decide +kernel
theorem d_L_law_134 : decode c_L_law 134 = .ok (.iconst 2, 1) := by decide +kernel
theorem d_L_law_135 : decode c_L_law 135 = .ok (.iadd, 1) := by decide +kernel
theorem d_L_law_136 : decode c_L_law 136 = .ok (.iaload, 1) := by decide +kernel
theorem d_L_law_137 : decode c_L_law 137 = .ok (.invokestatic 76, 3) := by decide +kernel
theorem d_L_law_140 : decode c_L_law 140 = .ok (.istore 5, 2) := by decide +kernel
theorem d_L_law_142 : decode c_L_law 142 = .ok (.aload_n 2, 1) := by decide +kernel
theorem d_L_law_143 : decode c_L_law 143 = .ok (.aload_n 0, 1) := by decide +kernel
theorem d_L_law_144 : decode c_L_law 144 = .ok (.iload 4, 2) := by decide +kernel
theorem d_L_law_146 : decode c_L_law 146 = .ok (.iconst 1, 1) := by decide +kernel
theorem d_L_law_147 : decode c_L_law 147 = .ok (.iadd, 1) := by decide +kernel
theorem d_L_law_148 : decode c_L_law 148 = .ok (.iaload, 1) := by decide +kernel
theorem d_L_law_149 : decode c_L_law 149 = .ok (.aload_n 0, 1) := by decide +kernel
theorem d_L_law_150 : decode c_L_law 150 = .ok (.iload 4, 2) := by decide +kernel
theorem d_L_law_152 : decode c_L_law 152 = .ok (.iconst 2, 1) := by decide +kernel
theorem d_L_law_153 : decode c_L_law 153 = .ok (.iadd, 1) := by decide +kernel
theorem d_L_law_154 : decode c_L_law 154 = .ok (.iaload, 1) := by decide +kernel
theorem d_L_law_155 : decode c_L_law 155 = .ok (.invokevirtual 79, 3) := by decide +kernel
theorem d_L_law_158 : decode c_L_law 158 = .ok (.aload_n 2, 1) := by decide +kernel
theorem d_L_law_159 : decode c_L_law 159 = .ok (.invokevirtual 80, 3) := by decide +kernel
theorem d_L_law_162 : decode c_L_law 162 = .ok (.iload 5, 2) := by decide +kernel
theorem d_L_law_164 : decode c_L_law 164 = .ok (.if_icmp .eq 5, 3) := by decide +kernel
theorem d_L_law_167 : decode c_L_law 167 = .ok (.iconst 0, 1) := by decide +kernel
theorem d_L_law_168 : decode c_L_law 168 = .ok (.ireturn, 1) := by decide +kernel
theorem d_L_law_169 : decode c_L_law 169 = .ok (.goto 880, 3) := by decide +kernel
theorem d_L_law_172 : decode c_L_law 172 = .ok (.aload_n 1, 1) := by decide +kernel
theorem d_L_law_173 : decode c_L_law 173 = .ok (.aload_n 0, 1) := by decide +kernel
theorem d_L_law_174 : decode c_L_law 174 = .ok (.iload 4, 2) := by decide +kernel
theorem d_L_law_176 : decode c_L_law 176 = .ok (.iconst 1, 1) := by decide +kernel
theorem d_L_law_177 : decode c_L_law 177 = .ok (.iadd, 1) := by decide +kernel
theorem d_L_law_178 : decode c_L_law 178 = .ok (.iaload, 1) := by decide +kernel
theorem d_L_law_179 : decode c_L_law 179 = .ok (.aload_n 0, 1) := by decide +kernel
theorem d_L_law_180 : decode c_L_law 180 = .ok (.iload 4, 2) := by decide +kernel
theorem d_L_law_182 : decode c_L_law 182 = .ok (.iconst 2, 1) := by decide +kernel
theorem d_L_law_183 : decode c_L_law 183 = .ok (.iadd, 1) := by decide +kernel
theorem d_L_law_184 : decode c_L_law 184 = .ok (.iaload, 1) := by decide +kernel
theorem d_L_law_185 : decode c_L_law 185 = .ok (.aload_n 3, 1) := by decide +kernel
theorem d_L_law_186 : decode c_L_law 186 = .ok (.invokestatic 84, 3) := by decide +kernel
theorem d_L_law_189 : decode c_L_law 189 = .ok (.istore 5, 2) := by decide +kernel
theorem d_L_law_191 : decode c_L_law 191 = .ok (.aload_n 2, 1) := by decide +kernel
theorem d_L_law_192 : decode c_L_law 192 = .ok (.aload_n 0, 1) := by decide +kernel
theorem d_L_law_193 : decode c_L_law 193 = .ok (.iload 4, 2) := by decide +kernel
theorem d_L_law_195 : decode c_L_law 195 = .ok (.iconst 1, 1) := by decide +kernel
theorem d_L_law_196 : decode c_L_law 196 = .ok (.iadd, 1) := by decide +kernel
theorem d_L_law_197 : decode c_L_law 197 = .ok (.iaload, 1) := by decide +kernel
theorem d_L_law_198 : decode c_L_law 198 = .ok (.aload_n 0, 1) := by decide +kernel
theorem d_L_law_199 : decode c_L_law 199 = .ok (.iload 4, 2) := by decide +kernel
theorem d_L_law_201 : decode c_L_law 201 = .ok (.iconst 2, 1) := by decide +kernel
theorem d_L_law_202 : decode c_L_law 202 = .ok (.iadd, 1) := by decide +kernel
theorem d_L_law_203 : decode c_L_law 203 = .ok (.iaload, 1) := by decide +kernel
theorem d_L_law_204 : decode c_L_law 204 = .ok (.invokevirtual 87, 3) := by decide +kernel
theorem d_L_law_207 : decode c_L_law 207 = .ok (.istore 6, 2) := by decide +kernel
theorem d_L_law_209 : decode c_L_law 209 = .ok (.aload_n 2, 1) := by decide +kernel
theorem d_L_law_210 : decode c_L_law 210 = .ok (.invokevirtual 80, 3) := by decide +kernel
theorem d_L_law_213 : decode c_L_law 213 = .ok (.iload 5, 2) := by decide +kernel
theorem d_L_law_215 : decode c_L_law 215 = .ok (.if_icmp .eq 5, 3) := by decide +kernel
theorem d_L_law_218 : decode c_L_law 218 = .ok (.iconst 0, 1) := by decide +kernel
theorem d_L_law_219 : decode c_L_law 219 = .ok (.ireturn, 1) := by decide +kernel
theorem d_L_law_220 : decode c_L_law 220 = .ok (.iload 5, 2) := by decide +kernel
theorem d_L_law_222 : decode c_L_law 222 = .ok (.ifCond .ne 15, 3) := by decide +kernel
theorem d_L_law_225 : decode c_L_law 225 = .ok (.aload_n 3, 1) := by decide +kernel
theorem d_L_law_226 : decode c_L_law 226 = .ok (.iconst 0, 1) := by decide +kernel
theorem d_L_law_227 : decode c_L_law 227 = .ok (.laload, 1) := by decide +kernel
theorem d_L_law_228 : decode c_L_law 228 = .ok (.iload 6, 2) := by decide +kernel
theorem d_L_law_230 : decode c_L_law 230 = .ok (.i2l, 1) := by decide +kernel
theorem d_L_law_231 : decode c_L_law 231 = .ok (.lcmp, 1) := by decide +kernel
theorem d_L_law_232 : decode c_L_law 232 = .ok (.ifCond .eq 5, 3) := by decide +kernel
theorem d_L_law_235 : decode c_L_law 235 = .ok (.iconst 0, 1) := by decide +kernel
theorem d_L_law_236 : decode c_L_law 236 = .ok (.ireturn, 1) := by decide +kernel
theorem d_L_law_237 : decode c_L_law 237 = .ok (.goto 812, 3) := by decide +kernel
theorem d_L_law_240 : decode c_L_law 240 = .ok (.aload_n 1, 1) := by decide +kernel
theorem d_L_law_241 : decode c_L_law 241 = .ok (.aload_n 0, 1) := by decide +kernel
end
section
theorem d_L_law_242 : decode c_L_law 242 = .ok (.iload 4, 2) := by decide +kernel
theorem d_L_law_244 : decode c_L_law 244 = .ok (.iconst 1, 1) := by decide +kernel
theorem d_L_law_245 : decode c_L_law 245 = .ok (.iadd, 1) := by decide +kernel
theorem d_L_law_246 : decode c_L_law 246 = .ok (.iaload, 1) := by decide +kernel
theorem d_L_law_247 : decode c_L_law 247 = .ok (.aload_n 3, 1) := by decide +kernel
theorem d_L_law_248 : decode c_L_law 248 = .ok (.invokestatic 88, 3) := by decide +kernel
theorem d_L_law_251 : decode c_L_law 251 = .ok (.istore 5, 2) := by decide +kernel
theorem d_L_law_253 : decode c_L_law 253 = .ok (.aload_n 2, 1) := by decide +kernel
theorem d_L_law_254 : decode c_L_law 254 = .ok (.aload_n 0, 1) := by decide +kernel
theorem d_L_law_255 : decode c_L_law 255 = .ok (.iload 4, 2) := by decide +kernel
theorem d_L_law_257 : decode c_L_law 257 = .ok (.iconst 1, 1) := by decide +kernel
theorem d_L_law_258 : decode c_L_law 258 = .ok (.iadd, 1) := by decide +kernel
theorem d_L_law_259 : decode c_L_law 259 = .ok (.iaload, 1) := by decide +kernel
theorem d_L_law_260 : decode c_L_law 260 = .ok (.invokevirtual 91, 3) := by decide +kernel
theorem d_L_law_263 : decode c_L_law 263 = .ok (.lstore 6, 2) := by decide +kernel
theorem d_L_law_265 : decode c_L_law 265 = .ok (.aload_n 2, 1) := by decide +kernel
theorem d_L_law_266 : decode c_L_law 266 = .ok (.invokevirtual 80, 3) := by decide +kernel
theorem d_L_law_269 : decode c_L_law 269 = .ok (.iload 5, 2) := by decide +kernel
theorem d_L_law_271 : decode c_L_law 271 = .ok (.if_icmp .eq 5, 3) := by decide +kernel
theorem d_L_law_274 : decode c_L_law 274 = .ok (.iconst 0, 1) := by decide +kernel
theorem d_L_law_275 : decode c_L_law 275 = .ok (.ireturn, 1) := by decide +kernel
theorem d_L_law_276 : decode c_L_law 276 = .ok (.iload 5, 2) := by decide +kernel
theorem d_L_law_278 : decode c_L_law 278 = .ok (.ifCond .ne 14, 3) := by decide +kernel
theorem d_L_law_281 : decode c_L_law 281 = .ok (.aload_n 3, 1) := by decide +kernel
theorem d_L_law_282 : decode c_L_law 282 = .ok (.iconst 0, 1) := by decide +kernel
theorem d_L_law_283 : decode c_L_law 283 = .ok (.laload, 1) := by decide +kernel
theorem d_L_law_284 : decode c_L_law 284 = .ok (.lload 6, 2) := by decide +kernel
theorem d_L_law_286 : decode c_L_law 286 = .ok (.lcmp, 1) := by decide +kernel
theorem d_L_law_287 : decode c_L_law 287 = .ok (.ifCond .eq 5, 3) := by decide +kernel
theorem d_L_law_290 : decode c_L_law 290 = .ok (.iconst 0, 1) := by decide +kernel
theorem d_L_law_291 : decode c_L_law 291 = .ok (.ireturn, 1) := by decide +kernel
theorem d_L_law_292 : decode c_L_law 292 = .ok (.goto 757, 3) := by decide +kernel
theorem d_L_law_295 : decode c_L_law 295 = .ok (.aload_n 1, 1) := by decide +kernel
theorem d_L_law_296 : decode c_L_law 296 = .ok (.aload_n 0, 1) := by decide +kernel
theorem d_L_law_297 : decode c_L_law 297 = .ok (.iload 4, 2) := by decide +kernel
theorem d_L_law_299 : decode c_L_law 299 = .ok (.iconst 1, 1) := by decide +kernel
theorem d_L_law_300 : decode c_L_law 300 = .ok (.iadd, 1) := by decide +kernel
theorem d_L_law_301 : decode c_L_law 301 = .ok (.iaload, 1) := by decide +kernel
theorem d_L_law_302 : decode c_L_law 302 = .ok (.aload_n 3, 1) := by decide +kernel
theorem d_L_law_303 : decode c_L_law 303 = .ok (.invokestatic 92, 3) := by decide +kernel
theorem d_L_law_306 : decode c_L_law 306 = .ok (.istore 5, 2) := by decide +kernel
theorem d_L_law_308 : decode c_L_law 308 = .ok (.aload_n 2, 1) := by decide +kernel
theorem d_L_law_309 : decode c_L_law 309 = .ok (.aload_n 0, 1) := by decide +kernel
theorem d_L_law_310 : decode c_L_law 310 = .ok (.iload 4, 2) := by decide +kernel
theorem d_L_law_312 : decode c_L_law 312 = .ok (.iconst 1, 1) := by decide +kernel
theorem d_L_law_313 : decode c_L_law 313 = .ok (.iadd, 1) := by decide +kernel
theorem d_L_law_314 : decode c_L_law 314 = .ok (.iaload, 1) := by decide +kernel
theorem d_L_law_315 : decode c_L_law 315 = .ok (.invokevirtual 94, 3) := by decide +kernel
theorem d_L_law_318 : decode c_L_law 318 = .ok (.lstore 6, 2) := by decide +kernel
theorem d_L_law_320 : decode c_L_law 320 = .ok (.aload_n 2, 1) := by decide +kernel
theorem d_L_law_321 : decode c_L_law 321 = .ok (.invokevirtual 80, 3) := by decide +kernel
theorem d_L_law_324 : decode c_L_law 324 = .ok (.iload 5, 2) := by decide +kernel
theorem d_L_law_326 : decode c_L_law 326 = .ok (.if_icmp .eq 5, 3) := by decide +kernel
theorem d_L_law_329 : decode c_L_law 329 = .ok (.iconst 0, 1) := by decide +kernel
theorem d_L_law_330 : decode c_L_law 330 = .ok (.ireturn, 1) := by decide +kernel
theorem d_L_law_331 : decode c_L_law 331 = .ok (.iload 5, 2) := by decide +kernel
theorem d_L_law_333 : decode c_L_law 333 = .ok (.ifCond .ne 14, 3) := by decide +kernel
theorem d_L_law_336 : decode c_L_law 336 = .ok (.aload_n 3, 1) := by decide +kernel
theorem d_L_law_337 : decode c_L_law 337 = .ok (.iconst 0, 1) := by decide +kernel
theorem d_L_law_338 : decode c_L_law 338 = .ok (.laload, 1) := by decide +kernel
theorem d_L_law_339 : decode c_L_law 339 = .ok (.lload 6, 2) := by decide +kernel
theorem d_L_law_341 : decode c_L_law 341 = .ok (.lcmp, 1) := by decide +kernel
theorem d_L_law_342 : decode c_L_law 342 = .ok (.ifCond .eq 5, 3) := by decide +kernel
theorem d_L_law_345 : decode c_L_law 345 = .ok (.iconst 0, 1) := by decide +kernel
theorem d_L_law_346 : decode c_L_law 346 = .ok (.ireturn, 1) := by decide +kernel
theorem d_L_law_347 : decode c_L_law 347 = .ok (.goto 702, 3) := by decide +kernel
theorem d_L_law_350 : decode c_L_law 350 = .ok (.aload_n 1, 1) := by decide +kernel
theorem d_L_law_351 : decode c_L_law 351 = .ok (.aload_n 0, 1) := by decide +kernel
theorem d_L_law_352 : decode c_L_law 352 = .ok (.iload 4, 2) := by decide +kernel
theorem d_L_law_354 : decode c_L_law 354 = .ok (.iconst 1, 1) := by decide +kernel
theorem d_L_law_355 : decode c_L_law 355 = .ok (.iadd, 1) := by decide +kernel
theorem d_L_law_356 : decode c_L_law 356 = .ok (.iaload, 1) := by decide +kernel
theorem d_L_law_357 : decode c_L_law 357 = .ok (.aload_n 0, 1) := by decide +kernel
theorem d_L_law_358 : decode c_L_law 358 = .ok (.iload 4, 2) := by decide +kernel
theorem d_L_law_360 : decode c_L_law 360 = .ok (.iconst 2, 1) := by decide +kernel
theorem d_L_law_361 : decode c_L_law 361 = .ok (.iadd, 1) := by decide +kernel
theorem d_L_law_362 : decode c_L_law 362 = .ok (.iaload, 1) := by decide +kernel
theorem d_L_law_363 : decode c_L_law 363 = .ok (.aload_n 3, 1) := by decide +kernel
theorem d_L_law_364 : decode c_L_law 364 = .ok (.invokestatic 95, 3) := by decide +kernel
theorem d_L_law_367 : decode c_L_law 367 = .ok (.istore 5, 2) := by decide +kernel
theorem d_L_law_369 : decode c_L_law 369 = .ok (.aload_n 2, 1) := by decide +kernel
theorem d_L_law_370 : decode c_L_law 370 = .ok (.aload_n 0, 1) := by decide +kernel
theorem d_L_law_371 : decode c_L_law 371 = .ok (.iload 4, 2) := by decide +kernel
theorem d_L_law_373 : decode c_L_law 373 = .ok (.iconst 1, 1) := by decide +kernel
theorem d_L_law_374 : decode c_L_law 374 = .ok (.iadd, 1) := by decide +kernel
theorem d_L_law_375 : decode c_L_law 375 = .ok (.iaload, 1) := by decide +kernel
theorem d_L_law_376 : decode c_L_law 376 = .ok (.aload_n 0, 1) := by decide +kernel
theorem d_L_law_377 : decode c_L_law 377 = .ok (.iload 4, 2) := by decide +kernel
theorem d_L_law_379 : decode c_L_law 379 = .ok (.iconst 2, 1) := by decide +kernel
theorem d_L_law_380 : decode c_L_law 380 = .ok (.iadd, 1) := by decide +kernel
theorem d_L_law_381 : decode c_L_law 381 = .ok (.iaload, 1) := by decide +kernel
theorem d_L_law_382 : decode c_L_law 382 = .ok (.invokevirtual 97, 3) := by decide +kernel
theorem d_L_law_385 : decode c_L_law 385 = .ok (.istore 6, 2) := by decide +kernel
theorem d_L_law_387 : decode c_L_law 387 = .ok (.aload_n 2, 1) := by decide +kernel
theorem d_L_law_388 : decode c_L_law 388 = .ok (.invokevirtual 80, 3) := by decide +kernel
theorem d_L_law_391 : decode c_L_law 391 = .ok (.iload 5, 2) := by decide +kernel
theorem d_L_law_393 : decode c_L_law 393 = .ok (.if_icmp .eq 5, 3) := by decide +kernel
theorem d_L_law_396 : decode c_L_law 396 = .ok (.iconst 0, 1) := by decide +kernel
theorem d_L_law_397 : decode c_L_law 397 = .ok (.ireturn, 1) := by decide +kernel
theorem d_L_law_398 : decode c_L_law 398 = .ok (.iload 5, 2) := by decide +kernel
theorem d_L_law_400 : decode c_L_law 400 = .ok (.ifCond .ne 15, 3) := by decide +kernel
theorem d_L_law_403 : decode c_L_law 403 = .ok (.aload_n 3, 1) := by decide +kernel
theorem d_L_law_404 : decode c_L_law 404 = .ok (.iconst 0, 1) := by decide +kernel
theorem d_L_law_405 : decode c_L_law 405 = .ok (.laload, 1) := by decide +kernel
theorem d_L_law_406 : decode c_L_law 406 = .ok (.iload 6, 2) := by decide +kernel
theorem d_L_law_408 : decode c_L_law 408 = .ok (.i2l, 1) := by decide +kernel
theorem d_L_law_409 : decode c_L_law 409 = .ok (.lcmp, 1) := by decide +kernel
theorem d_L_law_410 : decode c_L_law 410 = .ok (.ifCond .eq 5, 3) := by decide +kernel
theorem d_L_law_413 : decode c_L_law 413 = .ok (.iconst 0, 1) := by decide +kernel
theorem d_L_law_414 : decode c_L_law 414 = .ok (.ireturn, 1) := by decide +kernel
end
section
theorem d_L_law_415 : decode c_L_law 415 = .ok (.goto 634, 3) := by decide +kernel
theorem d_L_law_418 : decode c_L_law 418 = .ok (.aload_n 1, 1) := by decide +kernel
theorem d_L_law_419 : decode c_L_law 419 = .ok (.aload_n 0, 1) := by decide +kernel
theorem d_L_law_420 : decode c_L_law 420 = .ok (.iload 4, 2) := by decide +kernel
theorem d_L_law_422 : decode c_L_law 422 = .ok (.iconst 1, 1) := by decide +kernel
theorem d_L_law_423 : decode c_L_law 423 = .ok (.iadd, 1) := by decide +kernel
theorem d_L_law_424 : decode c_L_law 424 = .ok (.iaload, 1) := by decide +kernel
theorem d_L_law_425 : decode c_L_law 425 = .ok (.aload_n 0, 1) := by decide +kernel
theorem d_L_law_426 : decode c_L_law 426 = .ok (.iload 4, 2) := by decide +kernel
theorem d_L_law_428 : decode c_L_law 428 = .ok (.iconst 2, 1) := by decide +kernel
theorem d_L_law_429 : decode c_L_law 429 = .ok (.iadd, 1) := by decide +kernel
theorem d_L_law_430 : decode c_L_law 430 = .ok (.iaload, 1) := by decide +kernel
theorem d_L_law_431 : decode c_L_law 431 = .ok (.aload_n 3, 1) := by decide +kernel
theorem d_L_law_432 : decode c_L_law 432 = .ok (.invokestatic 98, 3) := by decide +kernel
theorem d_L_law_435 : decode c_L_law 435 = .ok (.istore 5, 2) := by decide +kernel
theorem d_L_law_437 : decode c_L_law 437 = .ok (.aload_n 2, 1) := by decide +kernel
theorem d_L_law_438 : decode c_L_law 438 = .ok (.aload_n 0, 1) := by decide +kernel
theorem d_L_law_439 : decode c_L_law 439 = .ok (.iload 4, 2) := by decide +kernel
theorem d_L_law_441 : decode c_L_law 441 = .ok (.iconst 1, 1) := by decide +kernel
theorem d_L_law_442 : decode c_L_law 442 = .ok (.iadd, 1) := by decide +kernel
theorem d_L_law_443 : decode c_L_law 443 = .ok (.iaload, 1) := by decide +kernel
theorem d_L_law_444 : decode c_L_law 444 = .ok (.aload_n 0, 1) := by decide +kernel
theorem d_L_law_445 : decode c_L_law 445 = .ok (.iload 4, 2) := by decide +kernel
theorem d_L_law_447 : decode c_L_law 447 = .ok (.iconst 2, 1) := by decide +kernel
theorem d_L_law_448 : decode c_L_law 448 = .ok (.iadd, 1) := by decide +kernel
theorem d_L_law_449 : decode c_L_law 449 = .ok (.iaload, 1) := by decide +kernel
theorem d_L_law_450 : decode c_L_law 450 = .ok (.invokevirtual 100, 3) := by decide +kernel
theorem d_L_law_453 : decode c_L_law 453 = .ok (.istore 6, 2) := by decide +kernel
theorem d_L_law_455 : decode c_L_law 455 = .ok (.aload_n 2, 1) := by decide +kernel
theorem d_L_law_456 : decode c_L_law 456 = .ok (.invokevirtual 80, 3) := by decide +kernel
theorem d_L_law_459 : decode c_L_law 459 = .ok (.iload 5, 2) := by decide +kernel
theorem d_L_law_461 : decode c_L_law 461 = .ok (.if_icmp .eq 5, 3) := by decide +kernel
theorem d_L_law_464 : decode c_L_law 464 = .ok (.iconst 0, 1) := by decide +kernel
theorem d_L_law_465 : decode c_L_law 465 = .ok (.ireturn, 1) := by decide +kernel
theorem d_L_law_466 : decode c_L_law 466 = .ok (.iload 5, 2) := by decide +kernel
theorem d_L_law_468 : decode c_L_law 468 = .ok (.ifCond .ne 15, 3) := by decide +kernel
theorem d_L_law_471 : decode c_L_law 471 = .ok (.aload_n 3, 1) := by decide +kernel
theorem d_L_law_472 : decode c_L_law 472 = .ok (.iconst 0, 1) := by decide +kernel
theorem d_L_law_473 : decode c_L_law 473 = .ok (.laload, 1) := by decide +kernel
theorem d_L_law_474 : decode c_L_law 474 = .ok (.iload 6, 2) := by decide +kernel
theorem d_L_law_476 : decode c_L_law 476 = .ok (.i2l, 1) := by decide +kernel
theorem d_L_law_477 : decode c_L_law 477 = .ok (.lcmp, 1) := by decide +kernel
theorem d_L_law_478 : decode c_L_law 478 = .ok (.ifCond .eq 5, 3) := by decide +kernel
theorem d_L_law_481 : decode c_L_law 481 = .ok (.iconst 0, 1) := by decide +kernel
theorem d_L_law_482 : decode c_L_law 482 = .ok (.ireturn, 1) := by decide +kernel
theorem d_L_law_483 : decode c_L_law 483 = .ok (.goto 566, 3) := by decide +kernel
theorem d_L_law_486 : decode c_L_law 486 = .ok (.aload_n 1, 1) := by decide +kernel
theorem d_L_law_487 : decode c_L_law 487 = .ok (.invokevirtual 101, 3) := by decide +kernel
theorem d_L_law_490 : decode c_L_law 490 = .ok (.aload_n 2, 1) := by decide +kernel
theorem d_L_law_491 : decode c_L_law 491 = .ok (.invokevirtual 104, 3) := by decide +kernel
theorem d_L_law_494 : decode c_L_law 494 = .ok (.if_icmp .eq 555, 3) := by decide +kernel
theorem d_L_law_497 : decode c_L_law 497 = .ok (.iconst 0, 1) := by decide +kernel
theorem d_L_law_498 : decode c_L_law 498 = .ok (.ireturn, 1) := by decide +kernel
theorem d_L_law_499 : decode c_L_law 499 = .ok (.aload_n 1, 1) := by decide +kernel
theorem d_L_law_500 : decode c_L_law 500 = .ok (.aload_n 0, 1) := by decide +kernel
theorem d_L_law_501 : decode c_L_law 501 = .ok (.iload 4, 2) := by decide +kernel
theorem d_L_law_503 : decode c_L_law 503 = .ok (.iconst 1, 1) := by decide +kernel
theorem d_L_law_504 : decode c_L_law 504 = .ok (.iadd, 1) := by decide +kernel
theorem d_L_law_505 : decode c_L_law 505 = .ok (.iaload, 1) := by decide +kernel
theorem d_L_law_506 : decode c_L_law 506 = .ok (.aload_n 3, 1) := by decide +kernel
theorem d_L_law_507 : decode c_L_law 507 = .ok (.invokestatic 105, 3) := by decide +kernel
theorem d_L_law_510 : decode c_L_law 510 = .ok (.istore 5, 2) := by decide +kernel
theorem d_L_law_512 : decode c_L_law 512 = .ok (.aload_n 2, 1) := by decide +kernel
theorem d_L_law_513 : decode c_L_law 513 = .ok (.aload_n 0, 1) := by decide +kernel
theorem d_L_law_514 : decode c_L_law 514 = .ok (.iload 4, 2) := by decide +kernel
theorem d_L_law_516 : decode c_L_law 516 = .ok (.iconst 1, 1) := by decide +kernel
theorem d_L_law_517 : decode c_L_law 517 = .ok (.iadd, 1) := by decide +kernel
theorem d_L_law_518 : decode c_L_law 518 = .ok (.iaload, 1) := by decide +kernel
theorem d_L_law_519 : decode c_L_law 519 = .ok (.invokevirtual 107, 3) := by decide +kernel
theorem d_L_law_522 : decode c_L_law 522 = .ok (.istore 6, 2) := by decide +kernel
theorem d_L_law_524 : decode c_L_law 524 = .ok (.aload_n 2, 1) := by decide +kernel
theorem d_L_law_525 : decode c_L_law 525 = .ok (.invokevirtual 80, 3) := by decide +kernel
theorem d_L_law_528 : decode c_L_law 528 = .ok (.iload 5, 2) := by decide +kernel
theorem d_L_law_530 : decode c_L_law 530 = .ok (.if_icmp .eq 5, 3) := by decide +kernel
theorem d_L_law_533 : decode c_L_law 533 = .ok (.iconst 0, 1) := by decide +kernel
theorem d_L_law_534 : decode c_L_law 534 = .ok (.ireturn, 1) := by decide +kernel
theorem d_L_law_535 : decode c_L_law 535 = .ok (.iload 5, 2) := by decide +kernel
theorem d_L_law_537 : decode c_L_law 537 = .ok (.ifCond .ne 15, 3) := by decide +kernel
theorem d_L_law_540 : decode c_L_law 540 = .ok (.aload_n 3, 1) := by decide +kernel
theorem d_L_law_541 : decode c_L_law 541 = .ok (.iconst 0, 1) := by decide +kernel
theorem d_L_law_542 : decode c_L_law 542 = .ok (.laload, 1) := by decide +kernel
theorem d_L_law_543 : decode c_L_law 543 = .ok (.iload 6, 2) := by decide +kernel
theorem d_L_law_545 : decode c_L_law 545 = .ok (.i2l, 1) := by decide +kernel
theorem d_L_law_546 : decode c_L_law 546 = .ok (.lcmp, 1) := by decide +kernel
theorem d_L_law_547 : decode c_L_law 547 = .ok (.ifCond .eq 5, 3) := by decide +kernel
theorem d_L_law_550 : decode c_L_law 550 = .ok (.iconst 0, 1) := by decide +kernel
theorem d_L_law_551 : decode c_L_law 551 = .ok (.ireturn, 1) := by decide +kernel
theorem d_L_law_552 : decode c_L_law 552 = .ok (.goto 497, 3) := by decide +kernel
theorem d_L_law_555 : decode c_L_law 555 = .ok (.aload_n 1, 1) := by decide +kernel
theorem d_L_law_556 : decode c_L_law 556 = .ok (.aload_n 0, 1) := by decide +kernel
theorem d_L_law_557 : decode c_L_law 557 = .ok (.iload 4, 2) := by decide +kernel
theorem d_L_law_559 : decode c_L_law 559 = .ok (.iconst 1, 1) := by decide +kernel
theorem d_L_law_560 : decode c_L_law 560 = .ok (.iadd, 1) := by decide +kernel
theorem d_L_law_561 : decode c_L_law 561 = .ok (.iaload, 1) := by decide +kernel
theorem d_L_law_562 : decode c_L_law 562 = .ok (.aload_n 0, 1) := by decide +kernel
theorem d_L_law_563 : decode c_L_law 563 = .ok (.iload 4, 2) := by decide +kernel
theorem d_L_law_565 : decode c_L_law 565 = .ok (.iconst 2, 1) := by decide +kernel
theorem d_L_law_566 : decode c_L_law 566 = .ok (.iadd, 1) := by decide +kernel
theorem d_L_law_567 : decode c_L_law 567 = .ok (.iaload, 1) := by decide +kernel
theorem d_L_law_568 : decode c_L_law 568 = .ok (.aload_n 0, 1) := by decide +kernel
theorem d_L_law_569 : decode c_L_law 569 = .ok (.iload 4, 2) := by decide +kernel
theorem d_L_law_571 : decode c_L_law 571 = .ok (.iconst 3, 1) := by decide +kernel
theorem d_L_law_572 : decode c_L_law 572 = .ok (.iadd, 1) := by decide +kernel
theorem d_L_law_573 : decode c_L_law 573 = .ok (.iaload, 1) := by decide +kernel
theorem d_L_law_574 : decode c_L_law 574 = .ok (.invokestatic 108, 3) := by decide +kernel
theorem d_L_law_577 : decode c_L_law 577 = .ok (.istore 5, 2) := by decide +kernel
theorem d_L_law_579 : decode c_L_law 579 = .ok (.aload_n 2, 1) := by decide +kernel
theorem d_L_law_580 : decode c_L_law 580 = .ok (.aload_n 0, 1) := by decide +kernel
theorem d_L_law_581 : decode c_L_law 581 = .ok (.iload 4, 2) := by decide +kernel
theorem d_L_law_583 : decode c_L_law 583 = .ok (.iconst 1, 1) := by decide +kernel
end
section
theorem d_L_law_584 : decode c_L_law 584 = .ok (.iadd, 1) := by decide +kernel
theorem d_L_law_585 : decode c_L_law 585 = .ok (.iaload, 1) := by decide +kernel
theorem d_L_law_586 : decode c_L_law 586 = .ok (.aload_n 0, 1) := by decide +kernel
theorem d_L_law_587 : decode c_L_law 587 = .ok (.iload 4, 2) := by decide +kernel
theorem d_L_law_589 : decode c_L_law 589 = .ok (.iconst 2, 1) := by decide +kernel
theorem d_L_law_590 : decode c_L_law 590 = .ok (.iadd, 1) := by decide +kernel
theorem d_L_law_591 : decode c_L_law 591 = .ok (.iaload, 1) := by decide +kernel
theorem d_L_law_592 : decode c_L_law 592 = .ok (.aload_n 0, 1) := by decide +kernel
theorem d_L_law_593 : decode c_L_law 593 = .ok (.iload 4, 2) := by decide +kernel
theorem d_L_law_595 : decode c_L_law 595 = .ok (.iconst 3, 1) := by decide +kernel
theorem d_L_law_596 : decode c_L_law 596 = .ok (.iadd, 1) := by decide +kernel
theorem d_L_law_597 : decode c_L_law 597 = .ok (.iaload, 1) := by decide +kernel
theorem d_L_law_598 : decode c_L_law 598 = .ok (.invokevirtual 111, 3) := by decide +kernel
theorem d_L_law_601 : decode c_L_law 601 = .ok (.aload_n 2, 1) := by decide +kernel
theorem d_L_law_602 : decode c_L_law 602 = .ok (.invokevirtual 80, 3) := by decide +kernel
theorem d_L_law_605 : decode c_L_law 605 = .ok (.iload 5, 2) := by decide +kernel
theorem d_L_law_607 : decode c_L_law 607 = .ok (.if_icmp .eq 5, 3) := by decide +kernel
theorem d_L_law_610 : decode c_L_law 610 = .ok (.iconst 0, 1) := by decide +kernel
theorem d_L_law_611 : decode c_L_law 611 = .ok (.ireturn, 1) := by decide +kernel
theorem d_L_law_612 : decode c_L_law 612 = .ok (.goto 437, 3) := by decide +kernel
theorem d_L_law_615 : decode c_L_law 615 = .ok (.aload_n 1, 1) := by decide +kernel
theorem d_L_law_616 : decode c_L_law 616 = .ok (.aload_n 0, 1) := by decide +kernel
theorem d_L_law_617 : decode c_L_law 617 = .ok (.iload 4, 2) := by decide +kernel
theorem d_L_law_619 : decode c_L_law 619 = .ok (.iconst 1, 1) := by decide +kernel
theorem d_L_law_620 : decode c_L_law 620 = .ok (.iadd, 1) := by decide +kernel
theorem d_L_law_621 : decode c_L_law 621 = .ok (.iaload, 1) := by decide +kernel
theorem d_L_law_622 : decode c_L_law 622 = .ok (.aload_n 3, 1) := by decide +kernel
theorem d_L_law_623 : decode c_L_law 623 = .ok (.invokestatic 112, 3) := by decide +kernel
theorem d_L_law_626 : decode c_L_law 626 = .ok (.istore 5, 2) := by decide +kernel
theorem d_L_law_628 : decode c_L_law 628 = .ok (.aload_n 2, 1) := by decide +kernel
theorem d_L_law_629 : decode c_L_law 629 = .ok (.aload_n 0, 1) := by decide +kernel
theorem d_L_law_630 : decode c_L_law 630 = .ok (.iload 4, 2) := by decide +kernel
theorem d_L_law_632 : decode c_L_law 632 = .ok (.iconst 1, 1) := by decide +kernel
theorem d_L_law_633 : decode c_L_law 633 = .ok (.iadd, 1) := by decide +kernel
theorem d_L_law_634 : decode c_L_law 634 = .ok (.iaload, 1) := by decide +kernel
theorem d_L_law_635 : decode c_L_law 635 = .ok (.invokevirtual 114, 3) := by decide +kernel
theorem d_L_law_638 : decode c_L_law 638 = .ok (.istore 6, 2) := by decide +kernel
theorem d_L_law_640 : decode c_L_law 640 = .ok (.aload_n 2, 1) := by decide +kernel
theorem d_L_law_641 : decode c_L_law 641 = .ok (.invokevirtual 80, 3) := by decide +kernel
theorem d_L_law_644 : decode c_L_law 644 = .ok (.iload 5, 2) := by decide +kernel
theorem d_L_law_646 : decode c_L_law 646 = .ok (.if_icmp .eq 5, 3) := by decide +kernel
theorem d_L_law_649 : decode c_L_law 649 = .ok (.iconst 0, 1) := by decide +kernel
theorem d_L_law_650 : decode c_L_law 650 = .ok (.ireturn, 1) := by decide +kernel
theorem d_L_law_651 : decode c_L_law 651 = .ok (.iload 5, 2) := by decide +kernel
theorem d_L_law_653 : decode c_L_law 653 = .ok (.ifCond .ne 15, 3) := by decide +kernel
theorem d_L_law_656 : decode c_L_law 656 = .ok (.aload_n 3, 1) := by decide +kernel
theorem d_L_law_657 : decode c_L_law 657 = .ok (.iconst 0, 1) := by decide +kernel
theorem d_L_law_658 : decode c_L_law 658 = .ok (.laload, 1) := by decide +kernel
theorem d_L_law_659 : decode c_L_law 659 = .ok (.iload 6, 2) := by decide +kernel
theorem d_L_law_661 : decode c_L_law 661 = .ok (.i2l, 1) := by decide +kernel
theorem d_L_law_662 : decode c_L_law 662 = .ok (.lcmp, 1) := by decide +kernel
theorem d_L_law_663 : decode c_L_law 663 = .ok (.ifCond .eq 5, 3) := by decide +kernel
theorem d_L_law_666 : decode c_L_law 666 = .ok (.iconst 0, 1) := by decide +kernel
theorem d_L_law_667 : decode c_L_law 667 = .ok (.ireturn, 1) := by decide +kernel
theorem d_L_law_668 : decode c_L_law 668 = .ok (.goto 381, 3) := by decide +kernel
theorem d_L_law_671 : decode c_L_law 671 = .ok (.aload_n 1, 1) := by decide +kernel
theorem d_L_law_672 : decode c_L_law 672 = .ok (.aload_n 0, 1) := by decide +kernel
theorem d_L_law_673 : decode c_L_law 673 = .ok (.iload 4, 2) := by decide +kernel
theorem d_L_law_675 : decode c_L_law 675 = .ok (.iconst 1, 1) := by decide +kernel
theorem d_L_law_676 : decode c_L_law 676 = .ok (.iadd, 1) := by decide +kernel
theorem d_L_law_677 : decode c_L_law 677 = .ok (.iaload, 1) := by decide +kernel
theorem d_L_law_678 : decode c_L_law 678 = .ok (.aload_n 3, 1) := by decide +kernel
theorem d_L_law_679 : decode c_L_law 679 = .ok (.invokestatic 115, 3) := by decide +kernel
theorem d_L_law_682 : decode c_L_law 682 = .ok (.istore 5, 2) := by decide +kernel
theorem d_L_law_684 : decode c_L_law 684 = .ok (.aload_n 2, 1) := by decide +kernel
theorem d_L_law_685 : decode c_L_law 685 = .ok (.aload_n 0, 1) := by decide +kernel
theorem d_L_law_686 : decode c_L_law 686 = .ok (.iload 4, 2) := by decide +kernel
theorem d_L_law_688 : decode c_L_law 688 = .ok (.iconst 1, 1) := by decide +kernel
theorem d_L_law_689 : decode c_L_law 689 = .ok (.iadd, 1) := by decide +kernel
theorem d_L_law_690 : decode c_L_law 690 = .ok (.iaload, 1) := by decide +kernel
theorem d_L_law_691 : decode c_L_law 691 = .ok (.invokevirtual 117, 3) := by decide +kernel
theorem d_L_law_694 : decode c_L_law 694 = .ok (.istore 6, 2) := by decide +kernel
theorem d_L_law_696 : decode c_L_law 696 = .ok (.aload_n 2, 1) := by decide +kernel
theorem d_L_law_697 : decode c_L_law 697 = .ok (.invokevirtual 80, 3) := by decide +kernel
theorem d_L_law_700 : decode c_L_law 700 = .ok (.iload 5, 2) := by decide +kernel
theorem d_L_law_702 : decode c_L_law 702 = .ok (.if_icmp .eq 5, 3) := by decide +kernel
theorem d_L_law_705 : decode c_L_law 705 = .ok (.iconst 0, 1) := by decide +kernel
theorem d_L_law_706 : decode c_L_law 706 = .ok (.ireturn, 1) := by decide +kernel
theorem d_L_law_707 : decode c_L_law 707 = .ok (.iload 5, 2) := by decide +kernel
theorem d_L_law_709 : decode c_L_law 709 = .ok (.ifCond .ne 15, 3) := by decide +kernel
theorem d_L_law_712 : decode c_L_law 712 = .ok (.aload_n 3, 1) := by decide +kernel
theorem d_L_law_713 : decode c_L_law 713 = .ok (.iconst 0, 1) := by decide +kernel
theorem d_L_law_714 : decode c_L_law 714 = .ok (.laload, 1) := by decide +kernel
theorem d_L_law_715 : decode c_L_law 715 = .ok (.iload 6, 2) := by decide +kernel
theorem d_L_law_717 : decode c_L_law 717 = .ok (.i2l, 1) := by decide +kernel
theorem d_L_law_718 : decode c_L_law 718 = .ok (.lcmp, 1) := by decide +kernel
theorem d_L_law_719 : decode c_L_law 719 = .ok (.ifCond .eq 5, 3) := by decide +kernel
theorem d_L_law_722 : decode c_L_law 722 = .ok (.iconst 0, 1) := by decide +kernel
theorem d_L_law_723 : decode c_L_law 723 = .ok (.ireturn, 1) := by decide +kernel
theorem d_L_law_724 : decode c_L_law 724 = .ok (.goto 325, 3) := by decide +kernel
theorem d_L_law_727 : decode c_L_law 727 = .ok (.aload_n 1, 1) := by decide +kernel
theorem d_L_law_728 : decode c_L_law 728 = .ok (.aload_n 0, 1) := by decide +kernel
theorem d_L_law_729 : decode c_L_law 729 = .ok (.iload 4, 2) := by decide +kernel
theorem d_L_law_731 : decode c_L_law 731 = .ok (.iconst 1, 1) := by decide +kernel
theorem d_L_law_732 : decode c_L_law 732 = .ok (.iadd, 1) := by decide +kernel
theorem d_L_law_733 : decode c_L_law 733 = .ok (.iaload, 1) := by decide +kernel
theorem d_L_law_734 : decode c_L_law 734 = .ok (.aload_n 0, 1) := by decide +kernel
theorem d_L_law_735 : decode c_L_law 735 = .ok (.iload 4, 2) := by decide +kernel
theorem d_L_law_737 : decode c_L_law 737 = .ok (.iconst 2, 1) := by decide +kernel
theorem d_L_law_738 : decode c_L_law 738 = .ok (.iadd, 1) := by decide +kernel
theorem d_L_law_739 : decode c_L_law 739 = .ok (.iaload, 1) := by decide +kernel
theorem d_L_law_740 : decode c_L_law 740 = .ok (.aload_n 0, 1) := by decide +kernel
theorem d_L_law_741 : decode c_L_law 741 = .ok (.iload 4, 2) := by decide +kernel
theorem d_L_law_743 : decode c_L_law 743 = .ok (.iconst 3, 1) := by decide +kernel
theorem d_L_law_744 : decode c_L_law 744 = .ok (.iadd, 1) := by decide +kernel
theorem d_L_law_745 : decode c_L_law 745 = .ok (.iaload, 1) := by decide +kernel
theorem d_L_law_746 : decode c_L_law 746 = .ok (.aload_n 3, 1) := by decide +kernel
theorem d_L_law_747 : decode c_L_law 747 = .ok (.invokestatic 118, 3) := by decide +kernel
theorem d_L_law_750 : decode c_L_law 750 = .ok (.istore 5, 2) := by decide +kernel
theorem d_L_law_752 : decode c_L_law 752 = .ok (.aload_n 2, 1) := by decide +kernel
end
section
theorem d_L_law_753 : decode c_L_law 753 = .ok (.aload_n 0, 1) := by decide +kernel
theorem d_L_law_754 : decode c_L_law 754 = .ok (.iload 4, 2) := by decide +kernel
theorem d_L_law_756 : decode c_L_law 756 = .ok (.iconst 1, 1) := by decide +kernel
theorem d_L_law_757 : decode c_L_law 757 = .ok (.iadd, 1) := by decide +kernel
theorem d_L_law_758 : decode c_L_law 758 = .ok (.iaload, 1) := by decide +kernel
theorem d_L_law_759 : decode c_L_law 759 = .ok (.aload_n 0, 1) := by decide +kernel
theorem d_L_law_760 : decode c_L_law 760 = .ok (.iload 4, 2) := by decide +kernel
theorem d_L_law_762 : decode c_L_law 762 = .ok (.iconst 2, 1) := by decide +kernel
theorem d_L_law_763 : decode c_L_law 763 = .ok (.iadd, 1) := by decide +kernel
theorem d_L_law_764 : decode c_L_law 764 = .ok (.iaload, 1) := by decide +kernel
theorem d_L_law_765 : decode c_L_law 765 = .ok (.aload_n 0, 1) := by decide +kernel
theorem d_L_law_766 : decode c_L_law 766 = .ok (.iload 4, 2) := by decide +kernel
theorem d_L_law_768 : decode c_L_law 768 = .ok (.iconst 3, 1) := by decide +kernel
theorem d_L_law_769 : decode c_L_law 769 = .ok (.iadd, 1) := by decide +kernel
theorem d_L_law_770 : decode c_L_law 770 = .ok (.iaload, 1) := by decide +kernel
theorem d_L_law_771 : decode c_L_law 771 = .ok (.invokevirtual 121, 3) := by decide +kernel
theorem d_L_law_774 : decode c_L_law 774 = .ok (.istore 6, 2) := by decide +kernel
theorem d_L_law_776 : decode c_L_law 776 = .ok (.aload_n 2, 1) := by decide +kernel
theorem d_L_law_777 : decode c_L_law 777 = .ok (.invokevirtual 80, 3) := by decide +kernel
theorem d_L_law_780 : decode c_L_law 780 = .ok (.iload 5, 2) := by decide +kernel
theorem d_L_law_782 : decode c_L_law 782 = .ok (.if_icmp .eq 5, 3) := by decide +kernel
theorem d_L_law_785 : decode c_L_law 785 = .ok (.iconst 0, 1) := by decide +kernel
theorem d_L_law_786 : decode c_L_law 786 = .ok (.ireturn, 1) := by decide +kernel
theorem d_L_law_787 : decode c_L_law 787 = .ok (.iload 5, 2) := by decide +kernel
theorem d_L_law_789 : decode c_L_law 789 = .ok (.ifCond .ne 15, 3) := by decide +kernel
theorem d_L_law_792 : decode c_L_law 792 = .ok (.aload_n 3, 1) := by decide +kernel
theorem d_L_law_793 : decode c_L_law 793 = .ok (.iconst 0, 1) := by decide +kernel
theorem d_L_law_794 : decode c_L_law 794 = .ok (.laload, 1) := by decide +kernel
theorem d_L_law_795 : decode c_L_law 795 = .ok (.iload 6, 2) := by decide +kernel
theorem d_L_law_797 : decode c_L_law 797 = .ok (.i2l, 1) := by decide +kernel
theorem d_L_law_798 : decode c_L_law 798 = .ok (.lcmp, 1) := by decide +kernel
theorem d_L_law_799 : decode c_L_law 799 = .ok (.ifCond .eq 5, 3) := by decide +kernel
theorem d_L_law_802 : decode c_L_law 802 = .ok (.iconst 0, 1) := by decide +kernel
theorem d_L_law_803 : decode c_L_law 803 = .ok (.ireturn, 1) := by decide +kernel
theorem d_L_law_804 : decode c_L_law 804 = .ok (.goto 245, 3) := by decide +kernel
theorem d_L_law_807 : decode c_L_law 807 = .ok (.aload_n 1, 1) := by decide +kernel
theorem d_L_law_808 : decode c_L_law 808 = .ok (.aload_n 0, 1) := by decide +kernel
theorem d_L_law_809 : decode c_L_law 809 = .ok (.iload 4, 2) := by decide +kernel
theorem d_L_law_811 : decode c_L_law 811 = .ok (.iconst 1, 1) := by decide +kernel
theorem d_L_law_812 : decode c_L_law 812 = .ok (.iadd, 1) := by decide +kernel
theorem d_L_law_813 : decode c_L_law 813 = .ok (.iaload, 1) := by decide +kernel
theorem d_L_law_814 : decode c_L_law 814 = .ok (.aload_n 0, 1) := by decide +kernel
theorem d_L_law_815 : decode c_L_law 815 = .ok (.iload 4, 2) := by decide +kernel
theorem d_L_law_817 : decode c_L_law 817 = .ok (.iconst 2, 1) := by decide +kernel
theorem d_L_law_818 : decode c_L_law 818 = .ok (.iadd, 1) := by decide +kernel
theorem d_L_law_819 : decode c_L_law 819 = .ok (.iaload, 1) := by decide +kernel
theorem d_L_law_820 : decode c_L_law 820 = .ok (.aload_n 3, 1) := by decide +kernel
theorem d_L_law_821 : decode c_L_law 821 = .ok (.invokestatic 122, 3) := by decide +kernel
theorem d_L_law_824 : decode c_L_law 824 = .ok (.istore 5, 2) := by decide +kernel
theorem d_L_law_826 : decode c_L_law 826 = .ok (.aload_n 2, 1) := by decide +kernel
theorem d_L_law_827 : decode c_L_law 827 = .ok (.aload_n 0, 1) := by decide +kernel
theorem d_L_law_828 : decode c_L_law 828 = .ok (.iload 4, 2) := by decide +kernel
theorem d_L_law_830 : decode c_L_law 830 = .ok (.iconst 1, 1) := by decide +kernel
theorem d_L_law_831 : decode c_L_law 831 = .ok (.iadd, 1) := by decide +kernel
theorem d_L_law_832 : decode c_L_law 832 = .ok (.iaload, 1) := by decide +kernel
theorem d_L_law_833 : decode c_L_law 833 = .ok (.aload_n 0, 1) := by decide +kernel
theorem d_L_law_834 : decode c_L_law 834 = .ok (.iload 4, 2) := by decide +kernel
theorem d_L_law_836 : decode c_L_law 836 = .ok (.iconst 2, 1) := by decide +kernel
theorem d_L_law_837 : decode c_L_law 837 = .ok (.iadd, 1) := by decide +kernel
theorem d_L_law_838 : decode c_L_law 838 = .ok (.iaload, 1) := by decide +kernel
theorem d_L_law_839 : decode c_L_law 839 = .ok (.invokevirtual 124, 3) := by decide +kernel
theorem d_L_law_842 : decode c_L_law 842 = .ok (.istore 6, 2) := by decide +kernel
theorem d_L_law_844 : decode c_L_law 844 = .ok (.aload_n 2, 1) := by decide +kernel
theorem d_L_law_845 : decode c_L_law 845 = .ok (.invokevirtual 80, 3) := by decide +kernel
theorem d_L_law_848 : decode c_L_law 848 = .ok (.iload 5, 2) := by decide +kernel
theorem d_L_law_850 : decode c_L_law 850 = .ok (.if_icmp .eq 5, 3) := by decide +kernel
theorem d_L_law_853 : decode c_L_law 853 = .ok (.iconst 0, 1) := by decide +kernel
theorem d_L_law_854 : decode c_L_law 854 = .ok (.ireturn, 1) := by decide +kernel
theorem d_L_law_855 : decode c_L_law 855 = .ok (.iload 5, 2) := by decide +kernel
theorem d_L_law_857 : decode c_L_law 857 = .ok (.ifCond .ne 15, 3) := by decide +kernel
theorem d_L_law_860 : decode c_L_law 860 = .ok (.aload_n 3, 1) := by decide +kernel
theorem d_L_law_861 : decode c_L_law 861 = .ok (.iconst 0, 1) := by decide +kernel
theorem d_L_law_862 : decode c_L_law 862 = .ok (.laload, 1) := by decide +kernel
theorem d_L_law_863 : decode c_L_law 863 = .ok (.iload 6, 2) := by decide +kernel
theorem d_L_law_865 : decode c_L_law 865 = .ok (.i2l, 1) := by decide +kernel
theorem d_L_law_866 : decode c_L_law 866 = .ok (.lcmp, 1) := by decide +kernel
theorem d_L_law_867 : decode c_L_law 867 = .ok (.ifCond .eq 5, 3) := by decide +kernel
theorem d_L_law_870 : decode c_L_law 870 = .ok (.iconst 0, 1) := by decide +kernel
theorem d_L_law_871 : decode c_L_law 871 = .ok (.ireturn, 1) := by decide +kernel
theorem d_L_law_872 : decode c_L_law 872 = .ok (.goto 177, 3) := by decide +kernel
theorem d_L_law_875 : decode c_L_law 875 = .ok (.aload_n 1, 1) := by decide +kernel
theorem d_L_law_876 : decode c_L_law 876 = .ok (.aload_n 0, 1) := by decide +kernel
theorem d_L_law_877 : decode c_L_law 877 = .ok (.iload 4, 2) := by decide +kernel
theorem d_L_law_879 : decode c_L_law 879 = .ok (.iconst 1, 1) := by decide +kernel
theorem d_L_law_880 : decode c_L_law 880 = .ok (.iadd, 1) := by decide +kernel
theorem d_L_law_881 : decode c_L_law 881 = .ok (.iaload, 1) := by decide +kernel
theorem d_L_law_882 : decode c_L_law 882 = .ok (.aload_n 0, 1) := by decide +kernel
theorem d_L_law_883 : decode c_L_law 883 = .ok (.iload 4, 2) := by decide +kernel
theorem d_L_law_885 : decode c_L_law 885 = .ok (.iconst 2, 1) := by decide +kernel
theorem d_L_law_886 : decode c_L_law 886 = .ok (.iadd, 1) := by decide +kernel
theorem d_L_law_887 : decode c_L_law 887 = .ok (.iaload, 1) := by decide +kernel
theorem d_L_law_888 : decode c_L_law 888 = .ok (.aload_n 0, 1) := by decide +kernel
theorem d_L_law_889 : decode c_L_law 889 = .ok (.iload 4, 2) := by decide +kernel
theorem d_L_law_891 : decode c_L_law 891 = .ok (.iconst 3, 1) := by decide +kernel
theorem d_L_law_892 : decode c_L_law 892 = .ok (.iadd, 1) := by decide +kernel
theorem d_L_law_893 : decode c_L_law 893 = .ok (.iaload, 1) := by decide +kernel
theorem d_L_law_894 : decode c_L_law 894 = .ok (.aload_n 0, 1) := by decide +kernel
theorem d_L_law_895 : decode c_L_law 895 = .ok (.iload 4, 2) := by decide +kernel
theorem d_L_law_897 : decode c_L_law 897 = .ok (.iconst 4, 1) := by decide +kernel
theorem d_L_law_898 : decode c_L_law 898 = .ok (.iadd, 1) := by decide +kernel
theorem d_L_law_899 : decode c_L_law 899 = .ok (.iaload, 1) := by decide +kernel
theorem d_L_law_900 : decode c_L_law 900 = .ok (.aload_n 0, 1) := by decide +kernel
theorem d_L_law_901 : decode c_L_law 901 = .ok (.iload 4, 2) := by decide +kernel
theorem d_L_law_903 : decode c_L_law 903 = .ok (.iconst 5, 1) := by decide +kernel
theorem d_L_law_904 : decode c_L_law 904 = .ok (.iadd, 1) := by decide +kernel
theorem d_L_law_905 : decode c_L_law 905 = .ok (.iaload, 1) := by decide +kernel
theorem d_L_law_906 : decode c_L_law 906 = .ok (.aload_n 0, 1) := by decide +kernel
theorem d_L_law_907 : decode c_L_law 907 = .ok (.iload 4, 2) := by decide +kernel
theorem d_L_law_909 : decode c_L_law 909 = .ok (.bipush 6, 2) := by decide +kernel
theorem d_L_law_911 : decode c_L_law 911 = .ok (.iadd, 1) := by decide +kernel
end
section
theorem d_L_law_912 : decode c_L_law 912 = .ok (.iaload, 1) := by decide +kernel
theorem d_L_law_913 : decode c_L_law 913 = .ok (.aload_n 3, 1) := by decide +kernel
theorem d_L_law_914 : decode c_L_law 914 = .ok (.invokestatic 125, 3) := by decide +kernel
theorem d_L_law_917 : decode c_L_law 917 = .ok (.istore 5, 2) := by decide +kernel
theorem d_L_law_919 : decode c_L_law 919 = .ok (.aload_n 2, 1) := by decide +kernel
theorem d_L_law_920 : decode c_L_law 920 = .ok (.aload_n 0, 1) := by decide +kernel
theorem d_L_law_921 : decode c_L_law 921 = .ok (.iload 4, 2) := by decide +kernel
theorem d_L_law_923 : decode c_L_law 923 = .ok (.iconst 1, 1) := by decide +kernel
theorem d_L_law_924 : decode c_L_law 924 = .ok (.iadd, 1) := by decide +kernel
theorem d_L_law_925 : decode c_L_law 925 = .ok (.iaload, 1) := by decide +kernel
theorem d_L_law_926 : decode c_L_law 926 = .ok (.aload_n 0, 1) := by decide +kernel
theorem d_L_law_927 : decode c_L_law 927 = .ok (.iload 4, 2) := by decide +kernel
theorem d_L_law_929 : decode c_L_law 929 = .ok (.iconst 2, 1) := by decide +kernel
theorem d_L_law_930 : decode c_L_law 930 = .ok (.iadd, 1) := by decide +kernel
theorem d_L_law_931 : decode c_L_law 931 = .ok (.iaload, 1) := by decide +kernel
theorem d_L_law_932 : decode c_L_law 932 = .ok (.aload_n 0, 1) := by decide +kernel
theorem d_L_law_933 : decode c_L_law 933 = .ok (.iload 4, 2) := by decide +kernel
theorem d_L_law_935 : decode c_L_law 935 = .ok (.iconst 3, 1) := by decide +kernel
theorem d_L_law_936 : decode c_L_law 936 = .ok (.iadd, 1) := by decide +kernel
theorem d_L_law_937 : decode c_L_law 937 = .ok (.iaload, 1) := by decide +kernel
theorem d_L_law_938 : decode c_L_law 938 = .ok (.aload_n 0, 1) := by decide +kernel
theorem d_L_law_939 : decode c_L_law 939 = .ok (.iload 4, 2) := by decide +kernel
theorem d_L_law_941 : decode c_L_law 941 = .ok (.iconst 4, 1) := by decide +kernel
theorem d_L_law_942 : decode c_L_law 942 = .ok (.iadd, 1) := by decide +kernel
theorem d_L_law_943 : decode c_L_law 943 = .ok (.iaload, 1) := by decide +kernel
theorem d_L_law_944 : decode c_L_law 944 = .ok (.aload_n 0, 1) := by decide +kernel
theorem d_L_law_945 : decode c_L_law 945 = .ok (.iload 4, 2) := by decide +kernel
theorem d_L_law_947 : decode c_L_law 947 = .ok (.iconst 5, 1) := by decide +kernel
theorem d_L_law_948 : decode c_L_law 948 = .ok (.iadd, 1) := by decide +kernel
theorem d_L_law_949 : decode c_L_law 949 = .ok (.iaload, 1) := by decide +kernel
theorem d_L_law_950 : decode c_L_law 950 = .ok (.aload_n 0, 1) := by decide +kernel
theorem d_L_law_951 : decode c_L_law 951 = .ok (.iload 4, 2) := by decide +kernel
theorem d_L_law_953 : decode c_L_law 953 = .ok (.bipush 6, 2) := by decide +kernel
theorem d_L_law_955 : decode c_L_law 955 = .ok (.iadd, 1) := by decide +kernel
theorem d_L_law_956 : decode c_L_law 956 = .ok (.iaload, 1) := by decide +kernel
theorem d_L_law_957 : decode c_L_law 957 = .ok (.invokevirtual 128, 3) := by decide +kernel
theorem d_L_law_960 : decode c_L_law 960 = .ok (.istore 6, 2) := by decide +kernel
theorem d_L_law_962 : decode c_L_law 962 = .ok (.aload_n 2, 1) := by decide +kernel
theorem d_L_law_963 : decode c_L_law 963 = .ok (.invokevirtual 80, 3) := by decide +kernel
theorem d_L_law_966 : decode c_L_law 966 = .ok (.iload 5, 2) := by decide +kernel
theorem d_L_law_968 : decode c_L_law 968 = .ok (.if_icmp .eq 5, 3) := by decide +kernel
theorem d_L_law_971 : decode c_L_law 971 = .ok (.iconst 0, 1) := by decide +kernel
theorem d_L_law_972 : decode c_L_law 972 = .ok (.ireturn, 1) := by decide +kernel
theorem d_L_law_973 : decode c_L_law 973 = .ok (.iload 5, 2) := by decide +kernel
theorem d_L_law_975 : decode c_L_law 975 = .ok (.ifCond .ne 15, 3) := by decide +kernel
theorem d_L_law_978 : decode c_L_law 978 = .ok (.aload_n 3, 1) := by decide +kernel
theorem d_L_law_979 : decode c_L_law 979 = .ok (.iconst 0, 1) := by decide +kernel
theorem d_L_law_980 : decode c_L_law 980 = .ok (.laload, 1) := by decide +kernel
theorem d_L_law_981 : decode c_L_law 981 = .ok (.iload 6, 2) := by decide +kernel
theorem d_L_law_983 : decode c_L_law 983 = .ok (.i2l, 1) := by decide +kernel
theorem d_L_law_984 : decode c_L_law 984 = .ok (.lcmp, 1) := by decide +kernel
theorem d_L_law_985 : decode c_L_law 985 = .ok (.ifCond .eq 5, 3) := by decide +kernel
theorem d_L_law_988 : decode c_L_law 988 = .ok (.iconst 0, 1) := by decide +kernel
theorem d_L_law_989 : decode c_L_law 989 = .ok (.ireturn, 1) := by decide +kernel
theorem d_L_law_990 : decode c_L_law 990 = .ok (.goto 59, 3) := by decide +kernel
theorem d_L_law_993 : decode c_L_law 993 = .ok (.aload_n 1, 1) := by decide +kernel
theorem d_L_law_994 : decode c_L_law 994 = .ok (.aload_n 0, 1) := by decide +kernel
theorem d_L_law_995 : decode c_L_law 995 = .ok (.iload 4, 2) := by decide +kernel
theorem d_L_law_997 : decode c_L_law 997 = .ok (.iconst 1, 1) := by decide +kernel
theorem d_L_law_998 : decode c_L_law 998 = .ok (.iadd, 1) := by decide +kernel
theorem d_L_law_999 : decode c_L_law 999 = .ok (.iaload, 1) := by decide +kernel
theorem d_L_law_1000 : decode c_L_law 1000 = .ok (.aload_n 3, 1) := by decide +kernel
theorem d_L_law_1001 : decode c_L_law 1001 = .ok (.invokestatic 129, 3) := by decide +kernel
theorem d_L_law_1004 : decode c_L_law 1004 = .ok (.istore 5, 2) := by decide +kernel
theorem d_L_law_1006 : decode c_L_law 1006 = .ok (.aload_n 2, 1) := by decide +kernel
theorem d_L_law_1007 : decode c_L_law 1007 = .ok (.aload_n 0, 1) := by decide +kernel
theorem d_L_law_1008 : decode c_L_law 1008 = .ok (.iload 4, 2) := by decide +kernel
theorem d_L_law_1010 : decode c_L_law 1010 = .ok (.iconst 1, 1) := by decide +kernel
theorem d_L_law_1011 : decode c_L_law 1011 = .ok (.iadd, 1) := by decide +kernel
theorem d_L_law_1012 : decode c_L_law 1012 = .ok (.iaload, 1) := by decide +kernel
theorem d_L_law_1013 : decode c_L_law 1013 = .ok (.invokevirtual 131, 3) := by decide +kernel
theorem d_L_law_1016 : decode c_L_law 1016 = .ok (.istore 6, 2) := by decide +kernel
theorem d_L_law_1018 : decode c_L_law 1018 = .ok (.aload_n 2, 1) := by decide +kernel
theorem d_L_law_1019 : decode c_L_law 1019 = .ok (.invokevirtual 80, 3) := by decide +kernel
theorem d_L_law_1022 : decode c_L_law 1022 = .ok (.iload 5, 2) := by decide +kernel
theorem d_L_law_1024 : decode c_L_law 1024 = .ok (.if_icmp .eq 5, 3) := by decide +kernel
theorem d_L_law_1027 : decode c_L_law 1027 = .ok (.iconst 0, 1) := by decide +kernel
theorem d_L_law_1028 : decode c_L_law 1028 = .ok (.ireturn, 1) := by decide +kernel
theorem d_L_law_1029 : decode c_L_law 1029 = .ok (.iload 5, 2) := by decide +kernel
theorem d_L_law_1031 : decode c_L_law 1031 = .ok (.ifCond .ne 15, 3) := by decide +kernel
theorem d_L_law_1034 : decode c_L_law 1034 = .ok (.aload_n 3, 1) := by decide +kernel
theorem d_L_law_1035 : decode c_L_law 1035 = .ok (.iconst 0, 1) := by decide +kernel
theorem d_L_law_1036 : decode c_L_law 1036 = .ok (.laload, 1) := by decide +kernel
theorem d_L_law_1037 : decode c_L_law 1037 = .ok (.iload 6, 2) := by decide +kernel
theorem d_L_law_1039 : decode c_L_law 1039 = .ok (.i2l, 1) := by decide +kernel
theorem d_L_law_1040 : decode c_L_law 1040 = .ok (.lcmp, 1) := by decide +kernel
theorem d_L_law_1041 : decode c_L_law 1041 = .ok (.ifCond .eq 5, 3) := by decide +kernel
theorem d_L_law_1044 : decode c_L_law 1044 = .ok (.iconst 0, 1) := by decide +kernel
theorem d_L_law_1045 : decode c_L_law 1045 = .ok (.ireturn, 1) := by decide +kernel
theorem d_L_law_1046 : decode c_L_law 1046 = .ok (.goto 3, 3) := by decide +kernel
theorem d_L_law_1049 : decode c_L_law 1049 = .ok (.iinc 4 7, 3) := by decide +kernel
theorem d_L_law_1052 : decode c_L_law 1052 = .ok (.goto (-1019), 3) := by decide +kernel
theorem d_L_law_1055 : decode c_L_law 1055 = .ok (.iconst 1, 1) := by decide +kernel
theorem d_L_law_1056 : decode c_L_law 1056 = .ok (.ireturn, 1) := by decide +kernel
end
section
abbrev Q_A : String := "java/util/ArrayList"
def F_A : u_T := fun k => match k with
  | 0 => ("java/util/AbstractList", "modCount", "I", false)
  | 1 => ("java/util/ArrayList", "elementData", "[Ljava/lang/Object;", false)
  | _ => ("java/util/ArrayList", "size", "I", false)
def tq_A : Nat → FieldType := fun k => match k with
  | 0 => .int
  | 1 => .array (.object "java/lang/Object")
  | _ => .int
theorem n_A : ∀ a, a < 3 → ∀ b, b < 3 → a ≠ b → (F_A a).2.1 ≠ (F_A b).2.1 := by decide +kernel
theorem tq_A_ok : ∀ k, k < 3 → parseFieldDescriptor (F_A k).2.2.1 = some (tq_A k) := by decide +kernel
theorem in_A : ∀ w ∈ u_ws Q_A F_A 3, w ∈ GT := by decide +kernel
abbrev Q_B : String := "RubbingMirrors$Best"
def F_B : u_T := fun k => match k with
  | 0 => ("RubbingMirrors$Best", "found", "Z", false)
  | 1 => ("RubbingMirrors$Best", "which", "I", false)
  | 2 => ("RubbingMirrors$Best", "at", "I", false)
  | 3 => ("RubbingMirrors$Best", "total", "I", false)
  | _ => ("RubbingMirrors$Best", "count", "I", false)
def tq_B : Nat → FieldType := fun k => match k with
  | 0 => .boolean
  | 1 => .int
  | 2 => .int
  | 3 => .int
  | _ => .int
theorem n_B : ∀ a, a < 5 → ∀ b, b < 5 → a ≠ b → (F_B a).2.1 ≠ (F_B b).2.1 := by decide +kernel
theorem tq_B_ok : ∀ k, k < 5 → parseFieldDescriptor (F_B k).2.2.1 = some (tq_B k) := by decide +kernel
theorem in_B : ∀ w ∈ u_ws Q_B F_B 5, w ∈ GT := by decide +kernel
abbrev Q_R : String := "RubbingMirrors$Row"
def F_R : u_T := fun k => match k with
  | 0 => ("RubbingMirrors$Row", "depths", "[I", true)
  | _ => ("RubbingMirrors$Row", "guesses", "[Z", true)
def tq_R : Nat → FieldType := fun k => match k with
  | 0 => .array .int
  | _ => .array .boolean
theorem n_R : ∀ a, a < 2 → ∀ b, b < 2 → a ≠ b → (F_R a).2.1 ≠ (F_R b).2.1 := by decide +kernel
theorem tq_R_ok : ∀ k, k < 2 → parseFieldDescriptor (F_R k).2.2.1 = some (tq_R k) := by decide +kernel
theorem in_R : ∀ w ∈ u_ws Q_R F_R 2, w ∈ GT := by decide +kernel
abbrev Q_M : String := "RubbingMirrors"
def F_M : u_T := fun k => match k with
  | 0 => ("RubbingMirrors", "row", "LRubbingMirrors$Row;", true)
  | 1 => ("RubbingMirrors", "shapes", "Ljava/util/ArrayList;", true)
  | 2 => ("RubbingMirrors", "nodes", "Ljava/util/ArrayList;", true)
  | 3 => ("RubbingMirrors", "rules", "Ljava/util/ArrayList;", true)
  | _ => ("RubbingMirrors", "best", "LRubbingMirrors$Best;", true)
def tq_M : Nat → FieldType := fun k => match k with
  | 0 => .object "RubbingMirrors$Row"
  | 1 => .object "java/util/ArrayList"
  | 2 => .object "java/util/ArrayList"
  | 3 => .object "java/util/ArrayList"
  | _ => .object "RubbingMirrors$Best"
theorem n_M : ∀ a, a < 5 → ∀ b, b < 5 → a ≠ b → (F_M a).2.1 ≠ (F_M b).2.1 := by decide +kernel
theorem tq_M_ok : ∀ k, k < 5 → parseFieldDescriptor (F_M k).2.2.1 = some (tq_M k) := by decide +kernel
theorem in_M : ∀ w ∈ u_ws Q_M F_M 5, w ∈ GT := by decide +kernel
abbrev Q_S : String := "RubbingMirrors$Shape"
def F_S : u_T := fun k => match k with
  | _ => ("RubbingMirrors$Shape", "depths", "[I", true)
def tq_S : Nat → FieldType := fun k => match k with
  | _ => .array .int
theorem n_S : ∀ a, a < 1 → ∀ b, b < 1 → a ≠ b → (F_S a).2.1 ≠ (F_S b).2.1 := by decide +kernel
theorem tq_S_ok : ∀ k, k < 1 → parseFieldDescriptor (F_S k).2.2.1 = some (tq_S k) := by decide +kernel
theorem in_S : ∀ w ∈ u_ws Q_S F_S 1, w ∈ GT := by decide +kernel
abbrev Q_N : String := "RubbingMirrors$Node"
def F_N : u_T := fun k => match k with
  | 0 => ("RubbingMirrors$Node", "asked", "I", true)
  | 1 => ("RubbingMirrors$Node", "named", "I", true)
  | 2 => ("RubbingMirrors$Node", "no", "I", true)
  | _ => ("RubbingMirrors$Node", "yes", "I", true)
def tq_N : Nat → FieldType := fun k => match k with
  | 0 => .int
  | 1 => .int
  | 2 => .int
  | _ => .int
theorem n_N : ∀ a, a < 4 → ∀ b, b < 4 → a ≠ b → (F_N a).2.1 ≠ (F_N b).2.1 := by decide +kernel
theorem tq_N_ok : ∀ k, k < 4 → parseFieldDescriptor (F_N k).2.2.1 = some (tq_N k) := by decide +kernel
theorem in_N : ∀ w ∈ u_ws Q_N F_N 4, w ∈ GT := by decide +kernel
abbrev Q_U : String := "RubbingMirrors$Rule"
def F_U : u_T := fun k => match k with
  | 0 => ("RubbingMirrors$Rule", "from", "I", true)
  | 1 => ("RubbingMirrors$Rule", "to", "I", true)
  | 2 => ("RubbingMirrors$Rule", "least", "I", true)
  | 3 => ("RubbingMirrors$Rule", "greatest", "I", true)
  | 4 => ("RubbingMirrors$Rule", "year", "I", true)
  | _ => ("RubbingMirrors$Rule", "until", "I", true)
def tq_U : Nat → FieldType := fun k => match k with
  | 0 => .int
  | 1 => .int
  | 2 => .int
  | 3 => .int
  | 4 => .int
  | _ => .int
theorem n_U : ∀ a, a < 6 → ∀ b, b < 6 → a ≠ b → (F_U a).2.1 ≠ (F_U b).2.1 := by decide +kernel
theorem tq_U_ok : ∀ k, k < 6 → parseFieldDescriptor (F_U k).2.2.1 = some (tq_U k) := by decide +kernel
theorem in_U : ∀ w ∈ u_ws Q_U F_U 6, w ∈ GT := by decide +kernel
abbrev Q_T : String := "RubbingMirrorsModel"
def F_T : u_T := fun k => match k with
  | 0 => ("RubbingMirrorsModel", "thrown", "I", false)
  | 1 => ("RubbingMirrorsModel", "n", "I", true)
  | 2 => ("RubbingMirrorsModel", "depths", "[I", true)
  | 3 => ("RubbingMirrorsModel", "guesses", "[Z", true)
  | 4 => ("RubbingMirrorsModel", "shapes", "I", false)
  | 5 => ("RubbingMirrorsModel", "lengths", "[I", true)
  | 6 => ("RubbingMirrorsModel", "carved", "[I", true)
  | 7 => ("RubbingMirrorsModel", "nodes", "I", false)
  | 8 => ("RubbingMirrorsModel", "asks", "[I", true)
  | 9 => ("RubbingMirrorsModel", "noes", "[I", true)
  | 10 => ("RubbingMirrorsModel", "yeses", "[I", true)
  | 11 => ("RubbingMirrorsModel", "rules", "I", false)
  | 12 => ("RubbingMirrorsModel", "told", "[I", true)
  | 13 => ("RubbingMirrorsModel", "best", "I", false)
  | 14 => ("RubbingMirrorsModel", "bestPlace", "I", false)
  | 15 => ("RubbingMirrorsModel", "bestOff", "J", false)
  | _ => ("RubbingMirrorsModel", "bestMany", "I", false)
def tq_T : Nat → FieldType := fun k => match k with
  | 0 => .int
  | 1 => .int
  | 2 => .array .int
  | 3 => .array .boolean
  | 4 => .int
  | 5 => .array .int
  | 6 => .array .int
  | 7 => .int
  | 8 => .array .int
  | 9 => .array .int
  | 10 => .array .int
  | 11 => .int
  | 12 => .array .int
  | 13 => .int
  | 14 => .int
  | 15 => .long
  | _ => .int
theorem n_T : ∀ a, a < 17 → ∀ b, b < 17 → a ≠ b → (F_T a).2.1 ≠ (F_T b).2.1 := by decide +kernel
theorem tq_T_ok : ∀ k, k < 17 → parseFieldDescriptor (F_T k).2.2.1 = some (tq_T k) := by decide +kernel
theorem in_T : ∀ w ∈ u_ws Q_T F_T 17, w ∈ GT := by decide +kernel
abbrev cls : List vw_C := [(Q_A, F_A, 3), (Q_B, F_B, 5), (Q_R, F_R, 2), (Q_M, F_M, 5), (Q_S, F_S, 1), (Q_N, F_N, 4), (Q_U, F_U, 6), (Q_T, F_T, 17)]
/-- words that are kept by calls, but not among the good ones -/
def NWL : List Cond := [(Cond.methodLinkNest "RubbingMirrors" 24 y_B_init "RubbingMirrors"), (Cond.fieldLinkNest "RubbingMirrors" 83 "RubbingMirrors$Best" "found" "Z" "RubbingMirrors"), (Cond.fieldLinkNest "RubbingMirrors" 92 "RubbingMirrors$Best" "which" "I" "RubbingMirrors"), (Cond.fieldLinkNest "RubbingMirrors" 156 "RubbingMirrors$Best" "at" "I" "RubbingMirrors"), (Cond.fieldLinkNest "RubbingMirrors" 96 "RubbingMirrors$Best" "total" "I" "RubbingMirrors"), (Cond.fieldLinkNest "RubbingMirrors" 99 "RubbingMirrors$Best" "count" "I" "RubbingMirrors"), (Cond.castable "java/lang/IndexOutOfBoundsException" "java/lang/IndexOutOfBoundsException"), (Cond.declares ⟨"java/lang/RuntimeException", "<init>", "()V"⟩), (Cond.declares ⟨"java/lang/RuntimeException", "<init>", "(Ljava/lang/String;)V"⟩), (Cond.declares ⟨"java/lang/Exception", "<init>", "()V"⟩), (Cond.declares ⟨"java/lang/Exception", "<init>", "(Ljava/lang/String;)V"⟩), (Cond.declares ⟨"java/lang/Throwable", "<init>", "()V"⟩), (Cond.declares ⟨"java/lang/Throwable", "<init>", "(Ljava/lang/String;)V"⟩), (Cond.castable "java/lang/IllegalArgumentException" "java/lang/IllegalArgumentException"), (Cond.castable "java/lang/IllegalStateException" "java/lang/IllegalStateException"), (Cond.fieldLinkNest "RubbingMirrors" 187 "RubbingMirrors$Node" "asked" "I" "RubbingMirrors"), (Cond.fieldLinkNest "RubbingMirrors" 190 "RubbingMirrors$Node" "named" "I" "RubbingMirrors"), (Cond.fieldLinkNest "RubbingMirrors" 212 "RubbingMirrors$Rule" "year" "I" "RubbingMirrors"), (Cond.fieldLinkNest "RubbingMirrors" 215 "RubbingMirrors$Rule" "until" "I" "RubbingMirrors"), (Cond.methodLinkNest "RubbingMirrors$Rule" 34 y_M_isWithin "RubbingMirrors"), (Cond.castable "RubbingMirrors$Shape" "RubbingMirrors$Shape"), (Cond.castable "RubbingMirrors$Node" "RubbingMirrors$Node"), (Cond.castable "RubbingMirrors$Rule" "RubbingMirrors$Rule"), (Cond.declares ⟨"java/lang/Object", "getClass", "()Ljava/lang/Class;"⟩), (Cond.castable "RubbingMirrors" "java/lang/Object"), (Cond.castable "RubbingMirrors$Best" "java/lang/Object"), (Cond.castable "RubbingMirrors$Row" "java/lang/Object"), (Cond.castable "RubbingMirrorsModel" "java/lang/Object"), (Cond.castable "RubbingMirrors$Shape" "java/lang/Object"), (Cond.castable "RubbingMirrors$Node" "java/lang/Object"), (Cond.castable "RubbingMirrors$Rule" "java/lang/Object"), (Cond.castable "java/lang/String" "java/lang/Object")]
def STL : List (Nat × String) := [(53, "no such place"), (64, "v is not NONE .. 255"), (71, "no such what"), (89, "no mirror counts"), (106, "step is not 1 .. n - 1"), (112, "from is not 1 .. n - 1, or to not from .. n - 1"), (114, "step is not 0 .. n - 1"), (119, "mirror is not NONE .. 2 n - 2"), (127, "length is not 2 .. 16"), (130, "there are 8 shapes"), (139, "no such shape"), (146, "no such place in the shape"), (148, "v is not 0 .. 255"), (154, "no shape counts anywhere"), (159, "kind is not 0 .. 1000"), (161, "there are 16 nodes"), (168, "no such node"), (170, "q is not 0 .. 15"), (173, "bits or known is not 0 .. 65535"), (179, "there are no nodes"), (193, "from or to is no place"), (195, "to is below from"), (197, "least is not 0 .. 255, or greatest not least .. 255"), (199, "year is not -10000 .. 10000, or until not year .. 10000"), (201, "there are 8 rules"), (218, "no rule holds"), (220, "there is no common part")]
def NCL : List (String × String) := [("java/lang/IndexOutOfBoundsException", "java/lang/IllegalArgumentException"), ("java/lang/IndexOutOfBoundsException", "java/lang/IllegalStateException"), ("java/lang/IllegalArgumentException", "java/lang/IndexOutOfBoundsException"), ("java/lang/IllegalArgumentException", "java/lang/IllegalStateException"), ("java/lang/IllegalStateException", "java/lang/IndexOutOfBoundsException"), ("java/lang/IllegalStateException", "java/lang/IllegalArgumentException")]
theorem nw_0 : Cond.methodLinkNest "RubbingMirrors" 24 y_B_init "RubbingMirrors" ∈ NWL := List.mem_of_getElem? (i := 0) rfl
theorem nw_1 : Cond.fieldLinkNest "RubbingMirrors" 83 "RubbingMirrors$Best" "found" "Z" "RubbingMirrors" ∈ NWL := List.mem_of_getElem? (i := 1) rfl
theorem nw_2 : Cond.fieldLinkNest "RubbingMirrors" 92 "RubbingMirrors$Best" "which" "I" "RubbingMirrors" ∈ NWL := List.mem_of_getElem? (i := 2) rfl
theorem nw_3 : Cond.fieldLinkNest "RubbingMirrors" 156 "RubbingMirrors$Best" "at" "I" "RubbingMirrors" ∈ NWL := List.mem_of_getElem? (i := 3) rfl
theorem nw_4 : Cond.fieldLinkNest "RubbingMirrors" 96 "RubbingMirrors$Best" "total" "I" "RubbingMirrors" ∈ NWL := List.mem_of_getElem? (i := 4) rfl
theorem nw_5 : Cond.fieldLinkNest "RubbingMirrors" 99 "RubbingMirrors$Best" "count" "I" "RubbingMirrors" ∈ NWL := List.mem_of_getElem? (i := 5) rfl
theorem nw_6 : Cond.castable "java/lang/IndexOutOfBoundsException" "java/lang/IndexOutOfBoundsException" ∈ NWL := List.mem_of_getElem? (i := 6) rfl
theorem nw_7 : Cond.declares ⟨"java/lang/RuntimeException", "<init>", "()V"⟩ ∈ NWL := List.mem_of_getElem? (i := 7) rfl
theorem nw_8 : Cond.declares ⟨"java/lang/RuntimeException", "<init>", "(Ljava/lang/String;)V"⟩ ∈ NWL := List.mem_of_getElem? (i := 8) rfl
theorem nw_9 : Cond.declares ⟨"java/lang/Exception", "<init>", "()V"⟩ ∈ NWL := List.mem_of_getElem? (i := 9) rfl
theorem nw_10 : Cond.declares ⟨"java/lang/Exception", "<init>", "(Ljava/lang/String;)V"⟩ ∈ NWL := List.mem_of_getElem? (i := 10) rfl
theorem nw_11 : Cond.declares ⟨"java/lang/Throwable", "<init>", "()V"⟩ ∈ NWL := List.mem_of_getElem? (i := 11) rfl
theorem nw_12 : Cond.declares ⟨"java/lang/Throwable", "<init>", "(Ljava/lang/String;)V"⟩ ∈ NWL := List.mem_of_getElem? (i := 12) rfl
theorem nw_13 : Cond.castable "java/lang/IllegalArgumentException" "java/lang/IllegalArgumentException" ∈ NWL := List.mem_of_getElem? (i := 13) rfl
theorem nw_14 : Cond.castable "java/lang/IllegalStateException" "java/lang/IllegalStateException" ∈ NWL := List.mem_of_getElem? (i := 14) rfl
theorem nw_15 : Cond.fieldLinkNest "RubbingMirrors" 187 "RubbingMirrors$Node" "asked" "I" "RubbingMirrors" ∈ NWL := List.mem_of_getElem? (i := 15) rfl
theorem nw_16 : Cond.fieldLinkNest "RubbingMirrors" 190 "RubbingMirrors$Node" "named" "I" "RubbingMirrors" ∈ NWL := List.mem_of_getElem? (i := 16) rfl
theorem nw_17 : Cond.fieldLinkNest "RubbingMirrors" 212 "RubbingMirrors$Rule" "year" "I" "RubbingMirrors" ∈ NWL := List.mem_of_getElem? (i := 17) rfl
theorem nw_18 : Cond.fieldLinkNest "RubbingMirrors" 215 "RubbingMirrors$Rule" "until" "I" "RubbingMirrors" ∈ NWL := List.mem_of_getElem? (i := 18) rfl
theorem nw_19 : Cond.methodLinkNest "RubbingMirrors$Rule" 34 y_M_isWithin "RubbingMirrors" ∈ NWL := List.mem_of_getElem? (i := 19) rfl
theorem nw_20 : Cond.castable "RubbingMirrors$Shape" "RubbingMirrors$Shape" ∈ NWL := List.mem_of_getElem? (i := 20) rfl
theorem nw_21 : Cond.castable "RubbingMirrors$Node" "RubbingMirrors$Node" ∈ NWL := List.mem_of_getElem? (i := 21) rfl
theorem nw_22 : Cond.castable "RubbingMirrors$Rule" "RubbingMirrors$Rule" ∈ NWL := List.mem_of_getElem? (i := 22) rfl
theorem nw_23 : Cond.declares ⟨"java/lang/Object", "getClass", "()Ljava/lang/Class;"⟩ ∈ NWL := List.mem_of_getElem? (i := 23) rfl
theorem nw_24 : Cond.castable "RubbingMirrors" "java/lang/Object" ∈ NWL := List.mem_of_getElem? (i := 24) rfl
theorem nw_25 : Cond.castable "RubbingMirrors$Best" "java/lang/Object" ∈ NWL := List.mem_of_getElem? (i := 25) rfl
theorem nw_26 : Cond.castable "RubbingMirrors$Row" "java/lang/Object" ∈ NWL := List.mem_of_getElem? (i := 26) rfl
theorem nw_27 : Cond.castable "RubbingMirrorsModel" "java/lang/Object" ∈ NWL := List.mem_of_getElem? (i := 27) rfl
theorem nw_28 : Cond.castable "RubbingMirrors$Shape" "java/lang/Object" ∈ NWL := List.mem_of_getElem? (i := 28) rfl
theorem nw_29 : Cond.castable "RubbingMirrors$Node" "java/lang/Object" ∈ NWL := List.mem_of_getElem? (i := 29) rfl
theorem nw_30 : Cond.castable "RubbingMirrors$Rule" "java/lang/Object" ∈ NWL := List.mem_of_getElem? (i := 30) rfl
theorem nw_31 : Cond.castable "java/lang/String" "java/lang/Object" ∈ NWL := List.mem_of_getElem? (i := 31) rfl
theorem st_53 : (53, "no such place") ∈ STL := List.mem_of_getElem? (i := 0) rfl
theorem st_64 : (64, "v is not NONE .. 255") ∈ STL := List.mem_of_getElem? (i := 1) rfl
theorem st_71 : (71, "no such what") ∈ STL := List.mem_of_getElem? (i := 2) rfl
theorem st_89 : (89, "no mirror counts") ∈ STL := List.mem_of_getElem? (i := 3) rfl
theorem st_106 : (106, "step is not 1 .. n - 1") ∈ STL := List.mem_of_getElem? (i := 4) rfl
theorem st_112 : (112, "from is not 1 .. n - 1, or to not from .. n - 1") ∈ STL := List.mem_of_getElem? (i := 5) rfl
theorem st_114 : (114, "step is not 0 .. n - 1") ∈ STL := List.mem_of_getElem? (i := 6) rfl
theorem st_119 : (119, "mirror is not NONE .. 2 n - 2") ∈ STL := List.mem_of_getElem? (i := 7) rfl
theorem st_127 : (127, "length is not 2 .. 16") ∈ STL := List.mem_of_getElem? (i := 8) rfl
theorem st_130 : (130, "there are 8 shapes") ∈ STL := List.mem_of_getElem? (i := 9) rfl
theorem st_139 : (139, "no such shape") ∈ STL := List.mem_of_getElem? (i := 10) rfl
theorem st_146 : (146, "no such place in the shape") ∈ STL := List.mem_of_getElem? (i := 11) rfl
theorem st_148 : (148, "v is not 0 .. 255") ∈ STL := List.mem_of_getElem? (i := 12) rfl
theorem st_154 : (154, "no shape counts anywhere") ∈ STL := List.mem_of_getElem? (i := 13) rfl
theorem st_159 : (159, "kind is not 0 .. 1000") ∈ STL := List.mem_of_getElem? (i := 14) rfl
theorem st_161 : (161, "there are 16 nodes") ∈ STL := List.mem_of_getElem? (i := 15) rfl
theorem st_168 : (168, "no such node") ∈ STL := List.mem_of_getElem? (i := 16) rfl
theorem st_170 : (170, "q is not 0 .. 15") ∈ STL := List.mem_of_getElem? (i := 17) rfl
theorem st_173 : (173, "bits or known is not 0 .. 65535") ∈ STL := List.mem_of_getElem? (i := 18) rfl
theorem st_179 : (179, "there are no nodes") ∈ STL := List.mem_of_getElem? (i := 19) rfl
theorem st_193 : (193, "from or to is no place") ∈ STL := List.mem_of_getElem? (i := 20) rfl
theorem st_195 : (195, "to is below from") ∈ STL := List.mem_of_getElem? (i := 21) rfl
theorem st_197 : (197, "least is not 0 .. 255, or greatest not least .. 255") ∈ STL := List.mem_of_getElem? (i := 22) rfl
theorem st_199 : (199, "year is not -10000 .. 10000, or until not year .. 10000") ∈ STL := List.mem_of_getElem? (i := 23) rfl
theorem st_201 : (201, "there are 8 rules") ∈ STL := List.mem_of_getElem? (i := 24) rfl
theorem st_218 : (218, "no rule holds") ∈ STL := List.mem_of_getElem? (i := 25) rfl
theorem st_220 : (220, "there is no common part") ∈ STL := List.mem_of_getElem? (i := 26) rfl

def nwk : Cond → Bool
  | .fieldLinkNest .. => true
  | .methodLinkNest .. => true
  | .castable .. => true
  | .declares _ => true
  | _ => false
theorem nwk_all : NWL.all nwk = true := by decide +kernel
theorem nwk_w {w : Cond} (hk : nwk w = true) {s U : State} (hW : s.WarmedH U.vm) (h : va_Nw w s) : va_Nw w U := by
  cases w with
  | fieldLinkNest a i b n d h9 => exact h.warmF hW
  | methodLinkNest a i x h9 => exact h.warmM hW
  | castable a b => exact h.warmC hW
  | declares x => exact h.warmD hW
  | _ => cases hk
theorem nwk_s {w : Cond} (hk : nwk w = true) {s U : State} (hv : s.vm = U.vm) (h : va_Nw w s) : va_Nw w U := by
  cases w with
  | fieldLinkNest a i b n d h9 => exact h.same rfl hv
  | methodLinkNest a i x h9 => exact h.same rfl hv
  | castable a b => exact h.same rfl hv
  | declares x => exact h.same rfl hv
  | _ => cases hk
/-- what every method may take as given of the tables, beside GT -/
def nW (U : State) : Prop := (∀ w ∈ NWL, va_Nw w U) ∧ (∀ q ∈ STL, ∃ a, vk_R "RubbingMirrors" q.1 q.2 a U) ∧ (∀ q ∈ NCL, va_Nc q.1 q.2 U) ∧ va_AO "java/lang/Object" U
theorem nW.warm {s U : State} (hW : s.WarmedH U.vm) (h : nW s) : nW U :=
  ⟨fun w hw => nwk_w (List.all_eq_true.mp nwk_all w hw) hW (h.1 w hw), fun q hq => (h.2.1 q hq).imp fun a ha => ha.warm hW, fun q hq => (h.2.2.1 q hq).moved hW.alike, h.2.2.2.moved hW.alike⟩
theorem nW.same {s U : State} (hv : s.vm = U.vm) (h : nW s) : nW U :=
  ⟨fun w hw => nwk_s (List.all_eq_true.mp nwk_all w hw) hv (h.1 w hw), fun q hq => (h.2.1 q hq).imp fun a ha => ha.same hv.symm, fun q hq => (h.2.2.1 q hq).moved (hv ▸ Vm.Alike.refl s.vm), h.2.2.2.moved (hv ▸ Vm.Alike.refl s.vm)⟩
theorem gs2 {own : String} {idx : Nat} {y : MethodName} {b : ByteArray} {mL : Nat} {ret : Option FieldType} (h1 : Cond.methodLink own idx y ∈ GT) (h2 : Cond.static y ∈ GT) (h4 : Cond.initialized y.cls ∈ GT) (h : Cond.code y b mL ret ∈ GT) : GoodIn GT (va_wsS own idx y (wq y b mL ret)) := by
  intro w hw
  rcases List.mem_append.mp hw with hw | hw
  · simp only [List.mem_cons, List.not_mem_nil, or_false] at hw
    rcases hw with rfl | rfl | rfl
    · exact gt_g h1
    · exact gt_g h2
    · exact gt_g h4
  · exact gq h w hw

/-- the array classes that the worlds speak of -/
abbrev TY (cI cZ cJ cO : ClassId) : List (ClassId × FieldType) := [(cI, .int), (cZ, .boolean), (cJ, .long), (cO, .object "java/lang/Object")]
/-- a reader's start: the cells ws are there -/
def rP (D : va_G) (tys : List (ClassId × FieldType)) (ws : va_W) (av : List Value) : Array Value → State → Prop := va_Pc av (fun U => va_P D cls ws U.heap ∧ va_K D cls tys U ∧ nW U)
theorem rp_blind {D : va_G} {tys : List (ClassId × FieldType)} {ws : va_W} {av : List Value} : FrameBlind (rP D tys ws av) := fun a U g mk q => by
  obtain ⟨q0, qP, qK, qN⟩ := q
  exact ⟨q0, qP, va_K.moved (u := U) (U := U.calling g mk a) (Vm.Alike.refl U.vm) qK, nW.same (s := U) (U := U.calling g mk a) rfl qN⟩
theorem pS {s : State} {H : Heap} {D : va_G} {tys : List (ClassId × FieldType)} {ws : va_W} {As : List Value} (hP : va_P D cls ws H) (hK : va_K D cls tys s) (hN : nW s) : PreS s H (rP D tys ws As) As :=
  ⟨rp_blind, fun U hU hW => ⟨rfl, by rw [hU]; exact hP, va_K.moved hW.alike hK, hN.warm hW⟩⟩
theorem pV {s : State} {H : Heap} {D : va_G} {tys : List (ClassId × FieldType)} {ws : va_W} {C : String} {b : Nat} {As : List Value} (hP : va_P D cls ws H) (hK : va_K D cls tys s) (hN : nW s) (hr : ∃ cell : Cell, H[b]? = some cell ∧ cell.vm.isStatics = false ∧ s.vm.findClass C = some cell.cls) : PreV s H C b (rP D tys ws (.ref b :: As)) As :=
  ⟨rp_blind, hr, fun U hU hW => ⟨rfl, by rw [hU]; exact hP, va_K.moved hW.alike hK, hN.warm hW⟩⟩
theorem ba_nil {D : va_G} {H : Heap} : va_P D cls [] H := ba_P.mpr fun _ h => absurd h List.not_mem_nil
theorem ile {x y : Int32} : x ≤ y ↔ x.toInt ≤ y.toInt := Int32.le_iff_toInt_le
theorem ilt {x y : Int32} : x < y ↔ x.toInt < y.toInt := Int32.lt_iff_toInt_lt
theorem ieq {x y : Int32} : x = y ↔ x.toInt = y.toInt := Int32.toInt_inj.symm
theorem lle {x y : Int64} : x ≤ y ↔ x.toInt ≤ y.toInt := Int64.le_iff_toInt_le
theorem llt {x y : Int64} : x < y ↔ x.toInt < y.toInt := Int64.lt_iff_toInt_lt
theorem nz_bI (b : Bool) : narrow .boolean (.int (bI b)) = .int (bI b) := by cases b <;> rfl
theorem i0 : (0 : Int32).toInt = 0 := rfl
theorem i1 : (1 : Int32).toInt = 1 := rfl
theorem im1 : (-1 : Int32).toInt = -1 := rfl
theorem t_nil2 {free : Addr → Prop} : ∀ q ∈ ([] : List Loc), free q.base := fun q h => by cases h
/-- THE ROW: n places, depths d, guesses g -/
abbrev rowW (cI cZ : ClassId) (h0 da ga : Nat) (n : Nat) (d g : Nat → Int32) : va_W := [(h0, .inr (2, [.ref da, .ref ga])), (da, .inl (cI, n, .inl d)), (ga, .inl (cZ, n, .inl g))]
/-- x is a place -/
def hs (n : Nat) (x : Int) : Bool := decide (0 ≤ x) && decide (x < n)
/-- x is a place that is KNOWN -/
def kn (n : Nat) (d g : Nat → Int32) (x : Int) : Bool := hs n x && decide (d x.toNat ≠ -1) && decide (g x.toNat = 0)
theorem hs_iff {n : Nat} {x : Int} : hs n x = true ↔ 0 ≤ x ∧ x < n := by simp [hs]
theorem hs_in {n : Nat} {x : Int32} (h : hs n x.toInt = true) : vp_in x n := vp_in_iff.mpr (hs_iff.mp h)
theorem ofNat_toInt {n : Nat} (h : n < 2 ^ 31) : (Int32.ofNat n).toInt = (n : Int) := nI_toInt h
end
section

/-- a number within bounds -/
def iw (x lo hi : Int32) : Bool := decide (lo.toInt ≤ x.toInt) && decide (x.toInt ≤ hi.toInt)
/-- the depth at x, -1 off the row -/
def dpt (n : Nat) (d : Nat → Int32) (x : Int) : Int32 := if hs n x then d x.toNat else -1
theorem hs_t {n : Nat} {k : Int32} (hn : n < 2 ^ 31) (h1 : ¬ k < 0) (h2 : ¬ nI n ≤ k) : (1 : Int32) = bI (hs n k.toInt) := by
  rw [ilt, i0] at h1; rw [ile, nI_toInt hn] at h2
  rw [hs_iff.mpr ⟨by omega, by omega⟩]; rfl
theorem hs_f1 {n : Nat} {k : Int32} (h1 : k < 0) : (0 : Int32) = bI (hs n k.toInt) := by
  rw [ilt, i0] at h1
  rw [show hs n k.toInt = false by simp [hs]; omega]; rfl
theorem hs_f2 {n : Nat} {k : Int32} (hn : n < 2 ^ 31) (h2 : nI n ≤ k) : (0 : Int32) = bI (hs n k.toInt) := by
  rw [ile, nI_toInt hn] at h2
  rw [show hs n k.toInt = false by simp [hs]; omega]; rfl
theorem iw_t {x lo hi : Int32} (h1 : ¬ x < lo) (h2 : ¬ hi < x) : (1 : Int32) = bI (iw x lo hi) := by
  rw [ilt] at h1 h2
  rw [show iw x lo hi = true by simp [iw]; omega]; rfl
theorem iw_f1 {x lo hi : Int32} (h1 : x < lo) : (0 : Int32) = bI (iw x lo hi) := by
  rw [ilt] at h1
  rw [show iw x lo hi = false by simp [iw]; omega]; rfl
theorem iw_f2 {x lo hi : Int32} (h2 : hi < x) : (0 : Int32) = bI (iw x lo hi) := by
  rw [ilt] at h2
  rw [show iw x lo hi = false by simp [iw]; omega]; rfl
theorem dpt_t {n : Nat} {d : Nat → Int32} {k : Int32} (h : ¬ bI (hs n k.toInt) = 0) : d k.toNatClampNeg = dpt n d k.toInt := by
  rw [dpt, if_pos (bI_ne0 h)]; rfl
theorem dpt_f {n : Nat} {d : Nat → Int32} {k : Int32} (h : bI (hs n k.toInt) = 0) : (-1) = dpt n d k.toInt := by
  rw [dpt, if_neg (by rw [bI_eq0 h]; decide)]
theorem kn_t {n : Nat} {d g : Nat → Int32} {k : Int32} (h : ¬ bI (hs n k.toInt) = 0) (h1 : ¬ d k.toNatClampNeg = -1) (h2 : g k.toNatClampNeg = 0) : (1 : Int32) = bI (kn n d g k.toInt) := by
  have a1 : ¬ d k.toInt.toNat = -1 := h1
  have a2 : g k.toInt.toNat = 0 := h2
  rw [show kn n d g k.toInt = true by simp [kn, bI_ne0 h, h1, h2]]; rfl
theorem kn_f1 {n : Nat} {d g : Nat → Int32} {k : Int32} (h : bI (hs n k.toInt) = 0) : (0 : Int32) = bI (kn n d g k.toInt) := by
  rw [show kn n d g k.toInt = false by simp [kn, bI_eq0 h]]; rfl
theorem kn_f2 {n : Nat} {d g : Nat → Int32} {k : Int32} (h1 : d k.toNatClampNeg = -1) : (0 : Int32) = bI (kn n d g k.toInt) := by
  have a1 : d k.toInt.toNat = -1 := h1
  rw [show kn n d g k.toInt = false by simp [kn, h1]]; rfl
theorem kn_f3 {n : Nat} {d g : Nat → Int32} {k : Int32} (h1 : ¬ g k.toNatClampNeg = 0) : (0 : Int32) = bI (kn n d g k.toInt) := by
  have a1 : ¬ g k.toInt.toNat = 0 := h1
  rw [show kn n d g k.toInt = false by simp [kn, h1]]; rfl
/-- x is a place whose guess mark is set -/
def gs1 (n : Nat) (g : Nat → Int32) (x : Int) : Bool := hs n x && decide (g x.toNat ≠ 0)
theorem gs_t {n : Nat} {g : Nat → Int32} {k : Int32} (h : ¬ bI (hs n k.toInt) = 0) (h1 : ¬ g k.toNatClampNeg = 0) : (1 : Int32) = bI (gs1 n g k.toInt) := by
  have a1 : ¬ g k.toInt.toNat = 0 := h1
  rw [show gs1 n g k.toInt = true by simp [gs1, bI_ne0 h, h1]]; rfl
theorem gs_f1 {n : Nat} {g : Nat → Int32} {k : Int32} (h : bI (hs n k.toInt) = 0) : (0 : Int32) = bI (gs1 n g k.toInt) := by
  rw [show gs1 n g k.toInt = false by simp [gs1, bI_eq0 h]]; rfl
theorem gs_f2 {n : Nat} {g : Nat → Int32} {k : Int32} (h1 : g k.toNatClampNeg = 0) : (0 : Int32) = bI (gs1 n g k.toInt) := by
  have a1 : g k.toInt.toNat = 0 := h1
  rw [show gs1 n g k.toInt = false by simp [gs1, h1]]; rfl
theorem kn_hs {n : Nat} {d g : Nat → Int32} {x : Int} (h : kn n d g x = true) : hs n x = true := by
  simp only [kn, Bool.and_eq_true] at h; exact h.1.1

set_option maxHeartbeats 4000000 in
set_option maxRecDepth 100000 in
/-- Row.has(k) -/
theorem c_R_has_ok (l : Launch) (D : va_G) (cI cZ cJ cO : ClassId) (h0 da ga : Nat) (n : Nat) (d g : Nat → Int32) (hn : n < 2 ^ 31) (k : Int32) : Met l y_R_has (wq y_R_has c_R_has 2 (some .boolean)) ({ frames := 0, cells := 0, slots := 0, locals := 0 }) (rP D (TY cI cZ cJ cO) [(h0, .inr (2, [.ref da, .ref ga])), (da, .inl (cI, n, .inl d)), (ga, .inl (cZ, n, .inl g))] [.ref h0, .int k]) (vp_Si (fun r => r = bI (hs n k.toInt))) 0 0 (fun _ => False) := by
  refine Met.ofW (cc := c_R_has) (maxL := 2) (ret := (some .boolean)) (by decide) rfl ?_
  intro p e s m args below meth c s₁ B hml hv
  obtain ⟨rfl, hP, hK, hN⟩ := hv
  have hx := B.exec
  have hb := B.bytes
  have hr := B.returns
  have hg := gt_h (atoms_spec (ws := (wq y_R_has c_R_has 2 (some .boolean))) B.pre)
  have hown : s.vm.findClass "RubbingMirrors$Row" = some m.cls := findClass_of_methodNamed B.named
  have hlocks := B.notSynchronized
  have hl := lv_entry ([.ref h0, .int k]) (n := 2) (Nat.le_of_ble_eq_true rfl)
  rw [lg_entry_eq]
  generalize (lg_sl ([.ref h0, .int k]) ++ List.replicate (2 - (lg_sl ([.ref h0, .int k])).length) Slot.unset).toArray = ls at hl ⊢
  have hl : lv_has ls 2 [(0, .ref h0), (1, .int k)] := hl
  refine lv_iload_n hx hb d_R_has_0 rfl (lv_at hl 1 rfl) ?_
  refine lv_if_lt (tgt := 17) hx hb d_R_has_1 (by decide) (fun c_1 => ?_) (fun c_1 => ?_)
  · refine lv_iconst (v := 0) hx hb d_R_has_17 (by decide) ?_
    exact W.zret hx hb hr (by decide) (fun t9 ht hW => ⟨_, rfl, (by first | exact hs_t hn c_1 c_10 | exact hs_f1 c_1 | exact hs_f2 hn c_10), ht⟩) t_nil2 d_R_has_18
  · refine lv_iload_n hx hb d_R_has_4 rfl (lv_at hl 1 rfl) ?_
    refine lv_aload_n hx hb d_R_has_5 rfl (lv_at hl 0 rfl) ?_
    refine va_get (D := D) (ci := 2) (v := .ref da) (C := Q_R) (T := F_R) (N := 2) hx hb hg in_R hown hK hP 0 rfl rfl 0 (by decide) (hg _ g_116) (fun _ h9 => h9) rfl d_R_has_6 ?_
    refine va_alen (v := nI n) hx hb hK hP 1 0 rfl rfl rfl d_R_has_9 ?_
    refine lv_icmp_ge (tgt := 17) hx hb d_R_has_10 (by decide) (fun c_10 => ?_) (fun c_10 => ?_)
    · refine lv_iconst (v := 0) hx hb d_R_has_17 (by decide) ?_
      exact W.zret hx hb hr (by decide) (fun t9 ht hW => ⟨_, rfl, (by first | exact hs_t hn c_1 c_10 | exact hs_f1 c_1 | exact hs_f2 hn c_10), ht⟩) t_nil2 d_R_has_18
    · refine lv_iconst (v := 1) hx hb d_R_has_13 (by decide) ?_
      refine lv_goto (tgt := 18) hx hb d_R_has_14 (by decide) ?_
      exact W.zret hx hb hr (by decide) (fun t9 ht hW => ⟨_, rfl, (by first | exact hs_t hn c_1 c_10 | exact hs_f1 c_1 | exact hs_f2 hn c_10), ht⟩) t_nil2 d_R_has_18

set_option maxHeartbeats 4000000 in
set_option maxRecDepth 100000 in
/-- Row.size() -/
theorem c_R_size_ok (l : Launch) (D : va_G) (cI cZ cJ cO : ClassId) (h0 da ga : Nat) (n : Nat) (d g : Nat → Int32) (hn : n < 2 ^ 31) : Met l y_R_size (wq y_R_size c_R_size 1 (some .int)) ({ frames := 0, cells := 0, slots := 0, locals := 0 }) (rP D (TY cI cZ cJ cO) [(h0, .inr (2, [.ref da, .ref ga])), (da, .inl (cI, n, .inl d)), (ga, .inl (cZ, n, .inl g))] [.ref h0]) (vp_Si (fun r => r = nI n)) 0 0 (fun _ => False) := by
  refine Met.ofW (cc := c_R_size) (maxL := 1) (ret := (some .int)) (by decide) rfl ?_
  intro p e s m args below meth c s₁ B hml hv
  obtain ⟨rfl, hP, hK, hN⟩ := hv
  have hx := B.exec
  have hb := B.bytes
  have hr := B.returns
  have hg := gt_h (atoms_spec (ws := (wq y_R_size c_R_size 1 (some .int))) B.pre)
  have hown : s.vm.findClass "RubbingMirrors$Row" = some m.cls := findClass_of_methodNamed B.named
  have hlocks := B.notSynchronized
  have hl := lv_entry ([.ref h0]) (n := 1) (Nat.le_of_ble_eq_true rfl)
  rw [lg_entry_eq]
  generalize (lg_sl ([.ref h0]) ++ List.replicate (1 - (lg_sl ([.ref h0])).length) Slot.unset).toArray = ls at hl ⊢
  have hl : lv_has ls 1 [(0, .ref h0)] := hl
  refine lv_aload_n hx hb d_R_size_0 rfl (lv_at hl 0 rfl) ?_
  refine va_get (D := D) (ci := 2) (v := .ref da) (C := Q_R) (T := F_R) (N := 2) hx hb hg in_R hown hK hP 0 rfl rfl 0 (by decide) (hg _ g_116) (fun _ h9 => h9) rfl d_R_size_1 ?_
  refine va_alen (v := nI n) hx hb hK hP 1 0 rfl rfl rfl d_R_size_4 ?_
  exact W.iret hx hb hr (fun t9 ht hW => ⟨_, rfl, rfl, ht⟩) t_nil2 d_R_size_5

set_option maxHeartbeats 4000000 in
set_option maxRecDepth 100000 in
/-- Row.lastMirror() -/
theorem c_R_lastMirror_ok (l : Launch) (D : va_G) (cI cZ cJ cO : ClassId) (h0 da ga : Nat) (n : Nat) (d g : Nat → Int32) (hn : n < 2 ^ 31) : Met l y_R_lastMirror (wq y_R_lastMirror c_R_lastMirror 1 (some .int)) ({ frames := 0, cells := 0, slots := 0, locals := 0 }) (rP D (TY cI cZ cJ cO) [(h0, .inr (2, [.ref da, .ref ga])), (da, .inl (cI, n, .inl d)), (ga, .inl (cZ, n, .inl g))] [.ref h0]) (vp_Si (fun r => r = 2 * nI n - 2)) 0 0 (fun _ => False) := by
  refine Met.ofW (cc := c_R_lastMirror) (maxL := 1) (ret := (some .int)) (by decide) rfl ?_
  intro p e s m args below meth c s₁ B hml hv
  obtain ⟨rfl, hP, hK, hN⟩ := hv
  have hx := B.exec
  have hb := B.bytes
  have hr := B.returns
  have hg := gt_h (atoms_spec (ws := (wq y_R_lastMirror c_R_lastMirror 1 (some .int))) B.pre)
  have hown : s.vm.findClass "RubbingMirrors$Row" = some m.cls := findClass_of_methodNamed B.named
  have hlocks := B.notSynchronized
  have hl := lv_entry ([.ref h0]) (n := 1) (Nat.le_of_ble_eq_true rfl)
  rw [lg_entry_eq]
  generalize (lg_sl ([.ref h0]) ++ List.replicate (1 - (lg_sl ([.ref h0])).length) Slot.unset).toArray = ls at hl ⊢
  have hl : lv_has ls 1 [(0, .ref h0)] := hl
  refine lv_iconst (v := 2) hx hb d_R_lastMirror_0 (by decide) ?_
  refine lv_aload_n hx hb d_R_lastMirror_1 rfl (lv_at hl 0 rfl) ?_
  refine va_get (D := D) (ci := 2) (v := .ref da) (C := Q_R) (T := F_R) (N := 2) hx hb hg in_R hown hK hP 0 rfl rfl 0 (by decide) (hg _ g_116) (fun _ h9 => h9) rfl d_R_lastMirror_2 ?_
  refine va_alen (v := nI n) hx hb hK hP 1 0 rfl rfl rfl d_R_lastMirror_5 ?_
  refine lv_imul hx hb d_R_lastMirror_6 ?_
  refine lv_iconst (v := 2) hx hb d_R_lastMirror_7 (by decide) ?_
  refine lv_isub hx hb d_R_lastMirror_8 ?_
  exact W.iret hx hb hr (fun t9 ht hW => ⟨_, rfl, rfl, ht⟩) t_nil2 d_R_lastMirror_9

set_option maxHeartbeats 4000000 in
set_option maxRecDepth 100000 in
/-- Row.depthAt(k) -/
theorem c_R_depthAt_ok (l : Launch) (D : va_G) (cI cZ cJ cO : ClassId) (h0 da ga : Nat) (n : Nat) (d g : Nat → Int32) (hn : n < 2 ^ 31) (k : Int32) : Met l y_R_depthAt (wq y_R_depthAt c_R_depthAt 2 (some .int)) ({ frames := 1, cells := 0, slots := 0, locals := 21 }) (rP D (TY cI cZ cJ cO) [(h0, .inr (2, [.ref da, .ref ga])), (da, .inl (cI, n, .inl d)), (ga, .inl (cZ, n, .inl g))] [.ref h0, .int k]) (vp_Si (fun r => r = dpt n d k.toInt)) 0 0 (fun _ => False) := by
  refine Met.ofW (cc := c_R_depthAt) (maxL := 2) (ret := (some .int)) (by decide) rfl ?_
  intro p e s m args below meth c s₁ B hml hv
  obtain ⟨rfl, hP, hK, hN⟩ := hv
  have hx := B.exec
  have hb := B.bytes
  have hr := B.returns
  have hg := gt_h (atoms_spec (ws := (wq y_R_depthAt c_R_depthAt 2 (some .int))) B.pre)
  have hown : s.vm.findClass "RubbingMirrors$Row" = some m.cls := findClass_of_methodNamed B.named
  have hlocks := B.notSynchronized
  have hl := lv_entry ([.ref h0, .int k]) (n := 2) (Nat.le_of_ble_eq_true rfl)
  rw [lg_entry_eq]
  generalize (lg_sl ([.ref h0, .int k]) ++ List.replicate (2 - (lg_sl ([.ref h0, .int k])).length) Slot.unset).toArray = ls at hl ⊢
  have hl : lv_has ls 2 [(0, .ref h0), (1, .int k)] := hl
  refine lv_aload_n hx hb d_R_depthAt_0 rfl (lv_at hl 0 rfl) ?_
  refine lv_iload_n hx hb d_R_depthAt_1 rfl (lv_at hl 1 rfl) ?_
  refine vp_callSi (va_Run.run (va_runV (As := [.int k]) (rest := []) ⟨hx, hb, hml, hown, hg⟩ (c_R_has_ok l D cI cZ cJ cO h0 da ga n d g hn k) (cwV 1 hg (gv g_256 g_162 g_163 g_23 g_164) rfl rfl rfl (by decide +kernel) ⟨Nat.le_of_ble_eq_true rfl, Nat.le_of_ble_eq_true rfl⟩) (pV hP hK hN (va_recv hK hP (ci := 2) (q0 := 0) rfl rfl)) rfl rfl hl.1 rfl (lv_room (Nat.le_of_ble_eq_true rfl)) d_R_depthAt_2 ⟨Nat.zero_le _, Nat.zero_le _⟩)) (fun r_1 hr_1 => ?_)
  subst hr_1
  refine lv_if_eq (tgt := 17) hx hb d_R_depthAt_5 (by decide) (fun c_5 => ?_) (fun c_5 => ?_)
  · refine lv_iconst (v := (-1)) hx hb d_R_depthAt_17 (by decide) ?_
    exact W.iret hx hb hr (fun t9 ht hW => ⟨_, rfl, (by first | exact dpt_t c_5 | exact dpt_f c_5), ht⟩) t_nil2 d_R_depthAt_18
  · refine lv_aload_n hx hb d_R_depthAt_8 rfl (lv_at hl 0 rfl) ?_
    refine va_get (D := D) (ci := 2) (v := .ref da) (C := Q_R) (T := F_R) (N := 2) hx hb hg in_R hown hK hP 0 rfl rfl 0 (by decide) (hg _ g_116) (fun _ h9 => h9) rfl d_R_depthAt_9 ?_
    refine lv_iload_n hx hb d_R_depthAt_12 rfl (lv_at hl 1 rfl) ?_
    refine va_iald hx hb hK hP 1 0 rfl rfl (hs_in (bI_ne0 c_5)) d_R_depthAt_13 ?_
    refine lv_goto (tgt := 18) hx hb d_R_depthAt_14 (by decide) ?_
    exact W.iret hx hb hr (fun t9 ht hW => ⟨_, rfl, (by first | exact dpt_t c_5 | exact dpt_f c_5), ht⟩) t_nil2 d_R_depthAt_18

set_option maxHeartbeats 4000000 in
set_option maxRecDepth 100000 in
/-- Row.isGuess(k) -/
theorem c_R_isGuess_ok (l : Launch) (D : va_G) (cI cZ cJ cO : ClassId) (h0 da ga : Nat) (n : Nat) (d g : Nat → Int32) (hn : n < 2 ^ 31) (k : Int32) : Met l y_R_isGuess (wq y_R_isGuess c_R_isGuess 2 (some .boolean)) ({ frames := 1, cells := 0, slots := 0, locals := 21 }) (rP D (TY cI cZ cJ cO) [(h0, .inr (2, [.ref da, .ref ga])), (da, .inl (cI, n, .inl d)), (ga, .inl (cZ, n, .inl g))] [.ref h0, .int k]) (vp_Si (fun r => r = bI (gs1 n g k.toInt))) 0 0 (fun _ => False) := by
  refine Met.ofW (cc := c_R_isGuess) (maxL := 2) (ret := (some .boolean)) (by decide) rfl ?_
  intro p e s m args below meth c s₁ B hml hv
  obtain ⟨rfl, hP, hK, hN⟩ := hv
  have hx := B.exec
  have hb := B.bytes
  have hr := B.returns
  have hg := gt_h (atoms_spec (ws := (wq y_R_isGuess c_R_isGuess 2 (some .boolean))) B.pre)
  have hown : s.vm.findClass "RubbingMirrors$Row" = some m.cls := findClass_of_methodNamed B.named
  have hlocks := B.notSynchronized
  have hl := lv_entry ([.ref h0, .int k]) (n := 2) (Nat.le_of_ble_eq_true rfl)
  rw [lg_entry_eq]
  generalize (lg_sl ([.ref h0, .int k]) ++ List.replicate (2 - (lg_sl ([.ref h0, .int k])).length) Slot.unset).toArray = ls at hl ⊢
  have hl : lv_has ls 2 [(0, .ref h0), (1, .int k)] := hl
  refine lv_aload_n hx hb d_R_isGuess_0 rfl (lv_at hl 0 rfl) ?_
  refine lv_iload_n hx hb d_R_isGuess_1 rfl (lv_at hl 1 rfl) ?_
  refine vp_callSi (va_Run.run (va_runV (As := [.int k]) (rest := []) ⟨hx, hb, hml, hown, hg⟩ (c_R_has_ok l D cI cZ cJ cO h0 da ga n d g hn k) (cwV 1 hg (gv g_256 g_162 g_163 g_23 g_164) rfl rfl rfl (by decide +kernel) ⟨Nat.le_of_ble_eq_true rfl, Nat.le_of_ble_eq_true rfl⟩) (pV hP hK hN (va_recv hK hP (ci := 2) (q0 := 0) rfl rfl)) rfl rfl hl.1 rfl (lv_room (Nat.le_of_ble_eq_true rfl)) d_R_isGuess_2 ⟨Nat.zero_le _, Nat.zero_le _⟩)) (fun r_1 hr_1 => ?_)
  subst hr_1
  refine lv_if_eq (tgt := 21) hx hb d_R_isGuess_5 (by decide) (fun c_5 => ?_) (fun c_5 => ?_)
  · refine lv_iconst (v := 0) hx hb d_R_isGuess_21 (by decide) ?_
    exact W.zret hx hb hr (by decide) (fun t9 ht hW => ⟨_, rfl, (by first | exact gs_t c_5 c_14 | exact gs_f1 c_5 | exact gs_f2 c_14), ht⟩) t_nil2 d_R_isGuess_22
  · refine lv_aload_n hx hb d_R_isGuess_8 rfl (lv_at hl 0 rfl) ?_
    refine va_get (D := D) (ci := 2) (v := .ref ga) (C := Q_R) (T := F_R) (N := 2) hx hb hg in_R hown hK hP 0 rfl rfl 1 (by decide) (hg _ g_117) (fun _ h9 => h9) rfl d_R_isGuess_9 ?_
    refine lv_iload_n hx hb d_R_isGuess_12 rfl (lv_at hl 1 rfl) ?_
    refine va_zald hx hb hK hP 2 1 rfl rfl (hs_in (bI_ne0 c_5)) d_R_isGuess_13 ?_
    refine lv_if_eq (tgt := 21) hx hb d_R_isGuess_14 (by decide) (fun c_14 => ?_) (fun c_14 => ?_)
    · refine lv_iconst (v := 0) hx hb d_R_isGuess_21 (by decide) ?_
      exact W.zret hx hb hr (by decide) (fun t9 ht hW => ⟨_, rfl, (by first | exact gs_t c_5 c_14 | exact gs_f1 c_5 | exact gs_f2 c_14), ht⟩) t_nil2 d_R_isGuess_22
    · refine lv_iconst (v := 1) hx hb d_R_isGuess_17 (by decide) ?_
      refine lv_goto (tgt := 22) hx hb d_R_isGuess_18 (by decide) ?_
      exact W.zret hx hb hr (by decide) (fun t9 ht hW => ⟨_, rfl, (by first | exact gs_t c_5 c_14 | exact gs_f1 c_5 | exact gs_f2 c_14), ht⟩) t_nil2 d_R_isGuess_22

set_option maxHeartbeats 4000000 in
set_option maxRecDepth 100000 in
/-- Row.isKnown(k) -/
theorem c_R_isKnown_ok (l : Launch) (D : va_G) (cI cZ cJ cO : ClassId) (h0 da ga : Nat) (n : Nat) (d g : Nat → Int32) (hn : n < 2 ^ 31) (k : Int32) : Met l y_R_isKnown (wq y_R_isKnown c_R_isKnown 2 (some .boolean)) ({ frames := 1, cells := 0, slots := 0, locals := 21 }) (rP D (TY cI cZ cJ cO) [(h0, .inr (2, [.ref da, .ref ga])), (da, .inl (cI, n, .inl d)), (ga, .inl (cZ, n, .inl g))] [.ref h0, .int k]) (vp_Si (fun r => r = bI (kn n d g k.toInt))) 0 0 (fun _ => False) := by
  refine Met.ofW (cc := c_R_isKnown) (maxL := 2) (ret := (some .boolean)) (by decide) rfl ?_
  intro p e s m args below meth c s₁ B hml hv
  obtain ⟨rfl, hP, hK, hN⟩ := hv
  have hx := B.exec
  have hb := B.bytes
  have hr := B.returns
  have hg := gt_h (atoms_spec (ws := (wq y_R_isKnown c_R_isKnown 2 (some .boolean))) B.pre)
  have hown : s.vm.findClass "RubbingMirrors$Row" = some m.cls := findClass_of_methodNamed B.named
  have hlocks := B.notSynchronized
  have hl := lv_entry ([.ref h0, .int k]) (n := 2) (Nat.le_of_ble_eq_true rfl)
  rw [lg_entry_eq]
  generalize (lg_sl ([.ref h0, .int k]) ++ List.replicate (2 - (lg_sl ([.ref h0, .int k])).length) Slot.unset).toArray = ls at hl ⊢
  have hl : lv_has ls 2 [(0, .ref h0), (1, .int k)] := hl
  refine lv_aload_n hx hb d_R_isKnown_0 rfl (lv_at hl 0 rfl) ?_
  refine lv_iload_n hx hb d_R_isKnown_1 rfl (lv_at hl 1 rfl) ?_
  refine vp_callSi (va_Run.run (va_runV (As := [.int k]) (rest := []) ⟨hx, hb, hml, hown, hg⟩ (c_R_has_ok l D cI cZ cJ cO h0 da ga n d g hn k) (cwV 1 hg (gv g_256 g_162 g_163 g_23 g_164) rfl rfl rfl (by decide +kernel) ⟨Nat.le_of_ble_eq_true rfl, Nat.le_of_ble_eq_true rfl⟩) (pV hP hK hN (va_recv hK hP (ci := 2) (q0 := 0) rfl rfl)) rfl rfl hl.1 rfl (lv_room (Nat.le_of_ble_eq_true rfl)) d_R_isKnown_2 ⟨Nat.zero_le _, Nat.zero_le _⟩)) (fun r_1 hr_1 => ?_)
  subst hr_1
  refine lv_if_eq (tgt := 31) hx hb d_R_isKnown_5 (by decide) (fun c_5 => ?_) (fun c_5 => ?_)
  · refine lv_iconst (v := 0) hx hb d_R_isKnown_31 (by decide) ?_
    exact W.zret hx hb hr (by decide) (fun t9 ht hW => ⟨_, rfl, (by first | exact kn_t c_5 c_15 c_24 | exact kn_f1 c_5 | exact kn_f2 c_15 | exact kn_f3 c_24), ht⟩) t_nil2 d_R_isKnown_32
  · refine lv_aload_n hx hb d_R_isKnown_8 rfl (lv_at hl 0 rfl) ?_
    refine va_get (D := D) (ci := 2) (v := .ref da) (C := Q_R) (T := F_R) (N := 2) hx hb hg in_R hown hK hP 0 rfl rfl 0 (by decide) (hg _ g_116) (fun _ h9 => h9) rfl d_R_isKnown_9 ?_
    refine lv_iload_n hx hb d_R_isKnown_12 rfl (lv_at hl 1 rfl) ?_
    refine va_iald hx hb hK hP 1 0 rfl rfl (hs_in (bI_ne0 c_5)) d_R_isKnown_13 ?_
    refine lv_iconst (v := (-1)) hx hb d_R_isKnown_14 (by decide) ?_
    refine lv_icmp_eq (tgt := 31) hx hb d_R_isKnown_15 (by decide) (fun c_15 => ?_) (fun c_15 => ?_)
    · refine lv_iconst (v := 0) hx hb d_R_isKnown_31 (by decide) ?_
      exact W.zret hx hb hr (by decide) (fun t9 ht hW => ⟨_, rfl, (by first | exact kn_t c_5 c_15 c_24 | exact kn_f1 c_5 | exact kn_f2 c_15 | exact kn_f3 c_24), ht⟩) t_nil2 d_R_isKnown_32
    · refine lv_aload_n hx hb d_R_isKnown_18 rfl (lv_at hl 0 rfl) ?_
      refine va_get (D := D) (ci := 2) (v := .ref ga) (C := Q_R) (T := F_R) (N := 2) hx hb hg in_R hown hK hP 0 rfl rfl 1 (by decide) (hg _ g_117) (fun _ h9 => h9) rfl d_R_isKnown_19 ?_
      refine lv_iload_n hx hb d_R_isKnown_22 rfl (lv_at hl 1 rfl) ?_
      refine va_zald hx hb hK hP 2 1 rfl rfl (hs_in (bI_ne0 c_5)) d_R_isKnown_23 ?_
      refine lv_if_ne (tgt := 31) hx hb d_R_isKnown_24 (by decide) (fun c_24 => ?_) (fun c_24 => ?_)
      · refine lv_iconst (v := 0) hx hb d_R_isKnown_31 (by decide) ?_
        exact W.zret hx hb hr (by decide) (fun t9 ht hW => ⟨_, rfl, (by first | exact kn_t c_5 c_15 c_24 | exact kn_f1 c_5 | exact kn_f2 c_15 | exact kn_f3 c_24), ht⟩) t_nil2 d_R_isKnown_32
      · refine lv_iconst (v := 1) hx hb d_R_isKnown_27 (by decide) ?_
        refine lv_goto (tgt := 32) hx hb d_R_isKnown_28 (by decide) ?_
        exact W.zret hx hb hr (by decide) (fun t9 ht hW => ⟨_, rfl, (by first | exact kn_t c_5 c_15 c_24 | exact kn_f1 c_5 | exact kn_f2 c_15 | exact kn_f3 c_24), ht⟩) t_nil2 d_R_isKnown_32

set_option maxHeartbeats 4000000 in
set_option maxRecDepth 100000 in
/-- isWithin(x, lo, hi) -/
theorem c_M_isWithin_ok (l : Launch) (D : va_G) (cI cZ cJ cO : ClassId) (x lo hi : Int32) : Met l y_M_isWithin (wq y_M_isWithin c_M_isWithin 3 (some .boolean)) ({ frames := 0, cells := 0, slots := 0, locals := 0 }) (rP D (TY cI cZ cJ cO) [] [.int x, .int lo, .int hi]) (vp_Si (fun r => r = bI (iw x lo hi))) 0 0 (fun _ => False) := by
  refine Met.ofW (cc := c_M_isWithin) (maxL := 3) (ret := (some .boolean)) (by decide) rfl ?_
  intro p e s m args below meth c s₁ B hml hv
  obtain ⟨rfl, hP, hK, hN⟩ := hv
  have hx := B.exec
  have hb := B.bytes
  have hr := B.returns
  have hg := gt_h (atoms_spec (ws := (wq y_M_isWithin c_M_isWithin 3 (some .boolean))) B.pre)
  have hown : s.vm.findClass "RubbingMirrors" = some m.cls := findClass_of_methodNamed B.named
  have hlocks := B.notSynchronized
  have hl := lv_entry ([.int x, .int lo, .int hi]) (n := 3) (Nat.le_of_ble_eq_true rfl)
  rw [lg_entry_eq]
  generalize (lg_sl ([.int x, .int lo, .int hi]) ++ List.replicate (3 - (lg_sl ([.int x, .int lo, .int hi])).length) Slot.unset).toArray = ls at hl ⊢
  have hl : lv_has ls 3 [(0, .int x), (1, .int lo), (2, .int hi)] := hl
  refine lv_iload_n hx hb d_M_isWithin_0 rfl (lv_at hl 0 rfl) ?_
  refine lv_iload_n hx hb d_M_isWithin_1 rfl (lv_at hl 1 rfl) ?_
  refine lv_icmp_lt (tgt := 14) hx hb d_M_isWithin_2 (by decide) (fun c_2 => ?_) (fun c_2 => ?_)
  · refine lv_iconst (v := 0) hx hb d_M_isWithin_14 (by decide) ?_
    exact W.zret hx hb hr (by decide) (fun t9 ht hW => ⟨_, rfl, (by first | exact iw_t c_2 c_7 | exact iw_f1 c_2 | exact iw_f2 c_7), ht⟩) t_nil2 d_M_isWithin_15
  · refine lv_iload_n hx hb d_M_isWithin_5 rfl (lv_at hl 0 rfl) ?_
    refine lv_iload_n hx hb d_M_isWithin_6 rfl (lv_at hl 2 rfl) ?_
    refine lv_icmp_gt (tgt := 14) hx hb d_M_isWithin_7 (by decide) (fun c_7 => ?_) (fun c_7 => ?_)
    · refine lv_iconst (v := 0) hx hb d_M_isWithin_14 (by decide) ?_
      exact W.zret hx hb hr (by decide) (fun t9 ht hW => ⟨_, rfl, (by first | exact iw_t c_2 c_7 | exact iw_f1 c_2 | exact iw_f2 c_7), ht⟩) t_nil2 d_M_isWithin_15
    · refine lv_iconst (v := 1) hx hb d_M_isWithin_10 (by decide) ?_
      refine lv_goto (tgt := 15) hx hb d_M_isWithin_11 (by decide) ?_
      exact W.zret hx hb hr (by decide) (fun t9 ht hW => ⟨_, rfl, (by first | exact iw_t c_2 c_7 | exact iw_f1 c_2 | exact iw_f2 c_7), ht⟩) t_nil2 d_M_isWithin_15
end
section

/-- the PAIRS of mirror A among the first j places -/
def mp (n : Nat) (d g : Nat → Int32) (A : Nat) : Nat → Nat
  | 0 => 0
  | j + 1 => mp n d g A j + (if kn n d g (j : Int) && kn n d g ((A : Int) - j) then 1 else 0)
/-- the OFF of mirror A among the first j places -/
def mo (n : Nat) (d g : Nat → Int32) (A : Nat) : Nat → Int32
  | 0 => 0
  | j + 1 => mo n d g A j + (if kn n d g (j : Int) && kn n d g ((A : Int) - j) then (d j - d (A - j)) * (d j - d (A - j)) else 0)
/-- the SUM of step S among the first j places -/
def rs (n : Nat) (d g : Nat → Int32) (S : Nat) : Nat → Int64
  | 0 => 0
  | j + 1 => rs n d g S j + (if kn n d g (j : Int) && kn n d g ((j : Int) + S) then ((d j - 128) * (d (j + S) - 128)).toInt64 else 0)
theorem sub_ti {a b : Nat} (ha : a < 2 ^ 20) (hb : b < 2 ^ 20) : (nI a - nI b).toInt = (a : Int) - b := pk_sub_toInt (by omega) (by omega)
theorem add_ti {a b : Nat} (ha : a < 2 ^ 20) (hb : b < 2 ^ 20) : (nI a + nI b).toInt = (a : Int) + b := by rw [nI_add, nI_toInt (by omega)]; omega
theorem mj_out {A j : Nat} (hA : A < 2 ^ 20) (h : j ≤ (A + 1) / 2) (c : nI A - nI j ≤ nI j) : j = (A + 1) / 2 := by
  rw [ile, sub_ti hA (by omega), nI_toInt (by omega)] at c
  omega
theorem mj_in {A j : Nat} (hA : A < 2 ^ 20) (h : j ≤ (A + 1) / 2) (c : ¬ nI A - nI j ≤ nI j) : 2 * j < A := by
  rw [ile, sub_ti hA (by omega), nI_toInt (by omega)] at c
  omega
theorem kn1 {n : Nat} {d g : Nat → Int32} {j : Nat} (hj : j < 2 ^ 20) : kn n d g (nI j).toInt = kn n d g (j : Int) := by rw [nI_toInt (by omega)]
theorem kn2 {n : Nat} {d g : Nat → Int32} {A j : Nat} (hA : A < 2 ^ 20) (hj : j < 2 ^ 20) : kn n d g (nI A - nI j).toInt = kn n d g ((A : Int) - j) := by rw [sub_ti hA hj]
theorem kn3 {n : Nat} {d g : Nat → Int32} {A j : Nat} (hA : A < 2 ^ 20) (hj : j < 2 ^ 20) : kn n d g (nI A + nI j).toInt = kn n d g ((A : Int) + j) := by rw [add_ti hA hj]
theorem mp_t {n : Nat} {d g : Nat → Int32} {A j : Nat} (hA : A < 2 ^ 20) (hj : j < 2 ^ 20) (h1 : ¬ bI (kn n d g (nI j).toInt) = 0) (h2 : ¬ bI (kn n d g (nI A - nI j).toInt) = 0) : nI (mp n d g A j) + 1 = nI (mp n d g A (j + 1)) := by
  rw [kn1 hj] at h1; rw [kn2 hA hj] at h2
  rw [nI_1, mp, bI_ne0 h1, bI_ne0 h2]; rfl
theorem mp_f1 {n : Nat} {d g : Nat → Int32} {A j : Nat} (hj : j < 2 ^ 20) (h1 : bI (kn n d g (nI j).toInt) = 0) : nI (mp n d g A j) = nI (mp n d g A (j + 1)) := by
  rw [kn1 hj] at h1
  rw [mp, bI_eq0 h1]; rfl
theorem mp_f2 {n : Nat} {d g : Nat → Int32} {A j : Nat} (hA : A < 2 ^ 20) (hj : j < 2 ^ 20) (h2 : bI (kn n d g (nI A - nI j).toInt) = 0) : nI (mp n d g A j) = nI (mp n d g A (j + 1)) := by
  rw [kn2 hA hj] at h2
  rw [mp, bI_eq0 h2, Bool.and_false]; rfl
theorem mo_t {n : Nat} {d g : Nat → Int32} {A j : Nat} (hA : A < 2 ^ 20) (hj : 2 * j < A) (h1 : ¬ bI (kn n d g (nI j).toInt) = 0) (h2 : ¬ bI (kn n d g (nI A - nI j).toInt) = 0) : mo n d g A j + (d (nI j).toNatClampNeg - d (nI A - nI j).toNatClampNeg) * (d (nI j).toNatClampNeg - d (nI A - nI j).toNatClampNeg) = mo n d g A (j + 1) := by
  rw [kn1 (by omega)] at h1; rw [kn2 hA (by omega)] at h2
  rw [nI_clamp (by omega), pk_sub (by omega), nI_clamp (by omega), mo, bI_ne0 h1, bI_ne0 h2]; rfl
theorem mo_f1 {n : Nat} {d g : Nat → Int32} {A j : Nat} (hj : j < 2 ^ 20) (h1 : bI (kn n d g (nI j).toInt) = 0) : mo n d g A j = mo n d g A (j + 1) := by
  rw [kn1 hj] at h1
  rw [mo, bI_eq0 h1]; exact (Int32.add_zero _).symm
theorem mo_f2 {n : Nat} {d g : Nat → Int32} {A j : Nat} (hA : A < 2 ^ 20) (hj : j < 2 ^ 20) (h2 : bI (kn n d g (nI A - nI j).toInt) = 0) : mo n d g A j = mo n d g A (j + 1) := by
  rw [kn2 hA hj] at h2
  rw [mo, bI_eq0 h2, Bool.and_false]; exact (Int32.add_zero _).symm
theorem rs_t {n : Nat} {d g : Nat → Int32} {S j : Nat} (hS : S < 2 ^ 20) (hj : j < 2 ^ 20) (h1 : ¬ bI (kn n d g (nI j).toInt) = 0) (h2 : ¬ bI (kn n d g (nI j + nI S).toInt) = 0) : rs n d g S j + ((d (nI j).toNatClampNeg - 128) * (d (nI j + nI S).toNatClampNeg - 128)).toInt64 = rs n d g S (j + 1) := by
  rw [kn1 hj] at h1; rw [kn3 hj hS] at h2
  rw [nI_clamp (by omega), nI_add, nI_clamp (by omega), rs, bI_ne0 h1, bI_ne0 h2]; rfl
theorem rs_f1 {n : Nat} {d g : Nat → Int32} {S j : Nat} (hj : j < 2 ^ 20) (h1 : bI (kn n d g (nI j).toInt) = 0) : rs n d g S j = rs n d g S (j + 1) := by
  rw [kn1 hj] at h1
  rw [rs, bI_eq0 h1]; exact (Int64.add_zero _).symm
theorem rs_f2 {n : Nat} {d g : Nat → Int32} {S j : Nat} (hS : S < 2 ^ 20) (hj : j < 2 ^ 20) (h2 : bI (kn n d g (nI j + nI S).toInt) = 0) : rs n d g S j = rs n d g S (j + 1) := by
  rw [kn3 hj hS] at h2
  rw [rs, bI_eq0 h2, Bool.and_false]; exact (Int64.add_zero _).symm
theorem rj_out {n S j : Nat} (hn : n < 2 ^ 20) (hS : S ≤ n) (h : j ≤ n - S) (c : nI n - nI S ≤ nI j) : j = n - S := by
  rw [ile, sub_ti hn (by omega), nI_toInt (by omega)] at c
  omega
theorem rj_in {n S j : Nat} (hn : n < 2 ^ 20) (hS : S ≤ n) (h : j ≤ n - S) (c : ¬ nI n - nI S ≤ nI j) : j < n - S := by
  rw [ile, sub_ti hn (by omega), nI_toInt (by omega)] at c
  omega

set_option maxHeartbeats 4000000 in
set_option maxRecDepth 100000 in
theorem c_R_mirrorPairs_ok (l : Launch) (D : va_G) (cI cZ cJ cO : ClassId) (h0 da ga : Nat) (n : Nat) (d g : Nat → Int32) (hn : n < 2 ^ 20) (A : Nat) (hA : A < 2 ^ 20) : Met l y_R_mirrorPairs (wq y_R_mirrorPairs c_R_mirrorPairs 4 (some .int)) ({ frames := 2, cells := 0, slots := 0, locals := 42 }) (rP D (TY cI cZ cJ cO) [(h0, .inr (2, [.ref da, .ref ga])), (da, .inl (cI, n, .inl d)), (ga, .inl (cZ, n, .inl g))] [.ref h0, .int (nI A)]) (vp_Si (fun r => r = nI (mp n d g A ((A + 1) / 2)))) 0 0 (fun _ => False) := by
  refine Met.ofW (cc := c_R_mirrorPairs) (maxL := 4) (ret := (some .int)) (by decide) rfl ?_
  intro p e s m args below meth c s₁ B hml hv
  obtain ⟨rfl, hP, hK, hN⟩ := hv
  have hx := B.exec
  have hb := B.bytes
  have hr := B.returns
  have hg := gt_h (atoms_spec (ws := (wq y_R_mirrorPairs c_R_mirrorPairs 4 (some .int))) B.pre)
  have hown : s.vm.findClass "RubbingMirrors$Row" = some m.cls := findClass_of_methodNamed B.named
  have hlocks := B.notSynchronized
  have hl := lv_entry ([.ref h0, .int (nI A)]) (n := 4) (Nat.le_of_ble_eq_true rfl)
  rw [lg_entry_eq]
  generalize (lg_sl ([.ref h0, .int (nI A)]) ++ List.replicate (4 - (lg_sl ([.ref h0, .int (nI A)])).length) Slot.unset).toArray = ls at hl ⊢
  have hl : lv_has ls 4 [(0, .ref h0), (1, .int (nI A))] := hl
  refine lv_iconst (v := 0) hx hb d_R_mirrorPairs_0 (by decide) ?_
  refine lv_istore_n (lv' := [(2, .int 0), (0, .ref h0), (1, .int (nI A))]) hx hb d_R_mirrorPairs_1 rfl hl (by decide) rfl (fun ls hl => ?_)
  refine lv_iconst (v := 0) hx hb d_R_mirrorPairs_2 (by decide) ?_
  refine lv_istore_n (lv' := [(3, .int 0), (2, .int 0), (0, .ref h0), (1, .int (nI A))]) hx hb d_R_mirrorPairs_3 rfl hl (by decide) rfl (fun ls hl => ?_)
  have loop_4 : ∀ (f4 : Nat) (j : Nat) (x2 : Int32) (x3 : Int32) (ls : Array Slot), (j ≤ (A + 1) / 2 ∧ (A + 1) / 2 < j + f4 ∧ x2 = nI (mp n d g A j) ∧ x3 = nI j) → lv_has ls 4 [(0, .ref h0), (1, .int (nI A)), (2, .int x2), (3, .int x3)] → W p l e (headSpec (wq y_R_mirrorPairs c_R_mirrorPairs 4 (some .int)) ({ frames := 2, cells := 0, slots := 0, locals := 42 })).room s m ([.ref h0, .int (nI A)] : List Value).toArray below meth c s.heap [] 0 0 (MQ below (vp_Si (fun r => r = nI (mp n d g A ((A + 1) / 2)))) ([.ref h0, .int (nI A)] : List Value).toArray s 0 0 (fun _ => False)) (F0 m 4 ls []) := by
    intro f4
    induction f4 with
    | zero =>
      intro j x2 x3 ls hI hl
      obtain ⟨hj1, hj2, rfl, rfl⟩ := hI
      omega
    | succ f4 ih4 =>
      intro j x2 x3 ls hI hl
      obtain ⟨hj1, hj2, rfl, rfl⟩ := hI
      refine lv_iload_n hx hb d_R_mirrorPairs_4 rfl (lv_at hl 3 rfl) ?_
      refine lv_iload_n hx hb d_R_mirrorPairs_5 rfl (lv_at hl 1 rfl) ?_
      refine lv_iload_n hx hb d_R_mirrorPairs_6 rfl (lv_at hl 3 rfl) ?_
      refine lv_isub hx hb d_R_mirrorPairs_7 ?_
      refine lv_icmp_ge (tgt := 38) hx hb d_R_mirrorPairs_8 (by decide) (fun c_8 => ?_) (fun c_8 => ?_)
      · refine lv_iload_n hx hb d_R_mirrorPairs_38 rfl (lv_at hl 2 rfl) ?_
        exact W.iret hx hb hr (fun t9 ht hW => ⟨_, rfl, (by rw [← mj_out hA hj1 c_8]), ht⟩) t_nil2 d_R_mirrorPairs_39
      · refine lv_aload_n hx hb d_R_mirrorPairs_11 rfl (lv_at hl 0 rfl) ?_
        refine lv_iload_n hx hb d_R_mirrorPairs_12 rfl (lv_at hl 3 rfl) ?_
        refine vp_callSi (va_Run.run (va_runV (As := [.int (nI j)]) (rest := []) ⟨hx, hb, hml, hown, hg⟩ (c_R_isKnown_ok l D cI cZ cJ cO h0 da ga n d g (by omega) (nI j)) (cwV 1 hg (gv g_301 g_302 g_303 g_23 g_304) rfl rfl rfl (by decide +kernel) ⟨Nat.le_of_ble_eq_true rfl, Nat.le_of_ble_eq_true rfl⟩) (pV hP hK hN (va_recv hK hP (ci := 2) (q0 := 0) rfl rfl)) rfl rfl hl.1 rfl (lv_room (Nat.le_of_ble_eq_true rfl)) d_R_mirrorPairs_13 ⟨Nat.zero_le _, Nat.zero_le _⟩)) (fun r_1 hr_1 => ?_)
        subst hr_1
        refine lv_if_eq (tgt := 32) hx hb d_R_mirrorPairs_16 (by decide) (fun c_16 => ?_) (fun c_16 => ?_)
        · refine lv_iinc (v := (nI j) + 1) (lv' := [(3, .int ((nI j) + 1)), (0, .ref h0), (1, .int (nI A)), (2, .int (nI (mp n d g A j)))]) hx hb d_R_mirrorPairs_32 hl (k := 3) rfl rfl (by decide) rfl (fun ls hl => ?_)
          refine lv_goto (tgt := 4) hx hb d_R_mirrorPairs_35 (by decide) ?_
          exact ih4 (j + 1) (nI (mp n d g A j)) ((nI j) + 1) ls (⟨by have := mj_in hA hj1 c_8; omega, by omega, (by first | exact mp_t hA (by omega) c_16 c_26 | exact mp_f1 (by omega) c_16 | exact mp_f2 hA (by omega) c_26), nI_1 j⟩) (lv_sub hl [1, 2, 3, 0] rfl)
        · refine lv_aload_n hx hb d_R_mirrorPairs_19 rfl (lv_at hl 0 rfl) ?_
          refine lv_iload_n hx hb d_R_mirrorPairs_20 rfl (lv_at hl 1 rfl) ?_
          refine lv_iload_n hx hb d_R_mirrorPairs_21 rfl (lv_at hl 3 rfl) ?_
          refine lv_isub hx hb d_R_mirrorPairs_22 ?_
          refine vp_callSi (va_Run.run (va_runV (As := [.int ((nI A) - (nI j))]) (rest := []) ⟨hx, hb, hml, hown, hg⟩ (c_R_isKnown_ok l D cI cZ cJ cO h0 da ga n d g (by omega) ((nI A) - (nI j))) (cwV 1 hg (gv g_301 g_302 g_303 g_23 g_304) rfl rfl rfl (by decide +kernel) ⟨Nat.le_of_ble_eq_true rfl, Nat.le_of_ble_eq_true rfl⟩) (pV hP hK hN (va_recv hK hP (ci := 2) (q0 := 0) rfl rfl)) rfl rfl hl.1 rfl (lv_room (Nat.le_of_ble_eq_true rfl)) d_R_mirrorPairs_23 ⟨Nat.zero_le _, Nat.zero_le _⟩)) (fun r_2 hr_2 => ?_)
          subst hr_2
          refine lv_if_eq (tgt := 32) hx hb d_R_mirrorPairs_26 (by decide) (fun c_26 => ?_) (fun c_26 => ?_)
          · refine lv_iinc (v := (nI j) + 1) (lv' := [(3, .int ((nI j) + 1)), (0, .ref h0), (1, .int (nI A)), (2, .int (nI (mp n d g A j)))]) hx hb d_R_mirrorPairs_32 hl (k := 3) rfl rfl (by decide) rfl (fun ls hl => ?_)
            refine lv_goto (tgt := 4) hx hb d_R_mirrorPairs_35 (by decide) ?_
            exact ih4 (j + 1) (nI (mp n d g A j)) ((nI j) + 1) ls (⟨by have := mj_in hA hj1 c_8; omega, by omega, (by first | exact mp_t hA (by omega) c_16 c_26 | exact mp_f1 (by omega) c_16 | exact mp_f2 hA (by omega) c_26), nI_1 j⟩) (lv_sub hl [1, 2, 3, 0] rfl)
          · refine lv_iinc (v := (nI (mp n d g A j)) + 1) (lv' := [(2, .int ((nI (mp n d g A j)) + 1)), (0, .ref h0), (1, .int (nI A)), (3, .int (nI j))]) hx hb d_R_mirrorPairs_29 hl (k := 2) rfl rfl (by decide) rfl (fun ls hl => ?_)
            refine lv_iinc (v := (nI j) + 1) (lv' := [(3, .int ((nI j) + 1)), (2, .int ((nI (mp n d g A j)) + 1)), (0, .ref h0), (1, .int (nI A))]) hx hb d_R_mirrorPairs_32 hl (k := 3) rfl rfl (by decide) rfl (fun ls hl => ?_)
            refine lv_goto (tgt := 4) hx hb d_R_mirrorPairs_35 (by decide) ?_
            exact ih4 (j + 1) ((nI (mp n d g A j)) + 1) ((nI j) + 1) ls (⟨by have := mj_in hA hj1 c_8; omega, by omega, (by first | exact mp_t hA (by omega) c_16 c_26 | exact mp_f1 (by omega) c_16 | exact mp_f2 hA (by omega) c_26), nI_1 j⟩) (lv_sub hl [2, 3, 1, 0] rfl)
  exact loop_4 (A + 2) 0 0 0 ls (⟨by omega, by omega, rfl, rfl⟩) (lv_sub hl [2, 3, 1, 0] rfl)

set_option maxHeartbeats 4000000 in
set_option maxRecDepth 100000 in
theorem c_R_mirrorOff_ok (l : Launch) (D : va_G) (cI cZ cJ cO : ClassId) (h0 da ga : Nat) (n : Nat) (d g : Nat → Int32) (hn : n < 2 ^ 20) (A : Nat) (hA : A < 2 ^ 20) : Met l y_R_mirrorOff (wq y_R_mirrorOff c_R_mirrorOff 5 (some .int)) ({ frames := 2, cells := 0, slots := 0, locals := 42 }) (rP D (TY cI cZ cJ cO) [(h0, .inr (2, [.ref da, .ref ga])), (da, .inl (cI, n, .inl d)), (ga, .inl (cZ, n, .inl g))] [.ref h0, .int (nI A)]) (vp_Si (fun r => r = mo n d g A ((A + 1) / 2))) 0 0 (fun _ => False) := by
  refine Met.ofW (cc := c_R_mirrorOff) (maxL := 5) (ret := (some .int)) (by decide) rfl ?_
  intro p e s m args below meth c s₁ B hml hv
  obtain ⟨rfl, hP, hK, hN⟩ := hv
  have hx := B.exec
  have hb := B.bytes
  have hr := B.returns
  have hg := gt_h (atoms_spec (ws := (wq y_R_mirrorOff c_R_mirrorOff 5 (some .int))) B.pre)
  have hown : s.vm.findClass "RubbingMirrors$Row" = some m.cls := findClass_of_methodNamed B.named
  have hlocks := B.notSynchronized
  have hl := lv_entry ([.ref h0, .int (nI A)]) (n := 5) (Nat.le_of_ble_eq_true rfl)
  rw [lg_entry_eq]
  generalize (lg_sl ([.ref h0, .int (nI A)]) ++ List.replicate (5 - (lg_sl ([.ref h0, .int (nI A)])).length) Slot.unset).toArray = ls at hl ⊢
  have hl : lv_has ls 5 [(0, .ref h0), (1, .int (nI A))] := hl
  refine lv_iconst (v := 0) hx hb d_R_mirrorOff_0 (by decide) ?_
  refine lv_istore_n (lv' := [(2, .int 0), (0, .ref h0), (1, .int (nI A))]) hx hb d_R_mirrorOff_1 rfl hl (by decide) rfl (fun ls hl => ?_)
  refine lv_iconst (v := 0) hx hb d_R_mirrorOff_2 (by decide) ?_
  refine lv_istore_n (lv' := [(3, .int 0), (2, .int 0), (0, .ref h0), (1, .int (nI A))]) hx hb d_R_mirrorOff_3 rfl hl (by decide) rfl (fun ls hl => ?_)
  have loop_4 : ∀ (f4 : Nat) (j : Nat) (x2 : Int32) (x3 : Int32) (ls : Array Slot), (j ≤ (A + 1) / 2 ∧ (A + 1) / 2 < j + f4 ∧ x2 = mo n d g A j ∧ x3 = nI j) → lv_has ls 5 [(0, .ref h0), (1, .int (nI A)), (2, .int x2), (3, .int x3)] → W p l e (headSpec (wq y_R_mirrorOff c_R_mirrorOff 5 (some .int)) ({ frames := 2, cells := 0, slots := 0, locals := 42 })).room s m ([.ref h0, .int (nI A)] : List Value).toArray below meth c s.heap [] 0 0 (MQ below (vp_Si (fun r => r = mo n d g A ((A + 1) / 2))) ([.ref h0, .int (nI A)] : List Value).toArray s 0 0 (fun _ => False)) (F0 m 4 ls []) := by
    intro f4
    induction f4 with
    | zero =>
      intro j x2 x3 ls hI hl
      obtain ⟨hj1, hj2, rfl, rfl⟩ := hI
      omega
    | succ f4 ih4 =>
      intro j x2 x3 ls hI hl
      obtain ⟨hj1, hj2, rfl, rfl⟩ := hI
      refine lv_iload_n hx hb d_R_mirrorOff_4 rfl (lv_at hl 3 rfl) ?_
      refine lv_iload_n hx hb d_R_mirrorOff_5 rfl (lv_at hl 1 rfl) ?_
      refine lv_iload_n hx hb d_R_mirrorOff_6 rfl (lv_at hl 3 rfl) ?_
      refine lv_isub hx hb d_R_mirrorOff_7 ?_
      refine lv_icmp_ge (tgt := 60) hx hb d_R_mirrorOff_8 (by decide) (fun c_8 => ?_) (fun c_8 => ?_)
      · refine lv_iload_n hx hb d_R_mirrorOff_60 rfl (lv_at hl 2 rfl) ?_
        exact W.iret hx hb hr (fun t9 ht hW => ⟨_, rfl, (by rw [← mj_out hA hj1 c_8]), ht⟩) t_nil2 d_R_mirrorOff_61
      · refine lv_aload_n hx hb d_R_mirrorOff_11 rfl (lv_at hl 0 rfl) ?_
        refine lv_iload_n hx hb d_R_mirrorOff_12 rfl (lv_at hl 3 rfl) ?_
        refine vp_callSi (va_Run.run (va_runV (As := [.int (nI j)]) (rest := []) ⟨hx, hb, hml, hown, hg⟩ (c_R_isKnown_ok l D cI cZ cJ cO h0 da ga n d g (by omega) (nI j)) (cwV 1 hg (gv g_301 g_302 g_303 g_23 g_304) rfl rfl rfl (by decide +kernel) ⟨Nat.le_of_ble_eq_true rfl, Nat.le_of_ble_eq_true rfl⟩) (pV hP hK hN (va_recv hK hP (ci := 2) (q0 := 0) rfl rfl)) rfl rfl hl.1 rfl (lv_room (Nat.le_of_ble_eq_true rfl)) d_R_mirrorOff_13 ⟨Nat.zero_le _, Nat.zero_le _⟩)) (fun r_1 hr_1 => ?_)
        subst hr_1
        refine lv_if_eq (tgt := 54) hx hb d_R_mirrorOff_16 (by decide) (fun c_16 => ?_) (fun c_16 => ?_)
        · refine lv_iinc (v := (nI j) + 1) (lv' := [(3, .int ((nI j) + 1)), (0, .ref h0), (1, .int (nI A)), (2, .int (mo n d g A j))]) hx hb d_R_mirrorOff_54 hl (k := 3) rfl rfl (by decide) rfl (fun ls hl => ?_)
          refine lv_goto (tgt := 4) hx hb d_R_mirrorOff_57 (by decide) ?_
          exact ih4 (j + 1) (mo n d g A j) ((nI j) + 1) ls (⟨by have := mj_in hA hj1 c_8; omega, by omega, (by first | exact mo_t hA (mj_in hA hj1 c_8) c_16 c_26 | exact mo_f1 (by omega) c_16 | exact mo_f2 hA (by omega) c_26), nI_1 j⟩) (lv_sub hl [1, 2, 3, 0] rfl)
        · refine lv_aload_n hx hb d_R_mirrorOff_19 rfl (lv_at hl 0 rfl) ?_
          refine lv_iload_n hx hb d_R_mirrorOff_20 rfl (lv_at hl 1 rfl) ?_
          refine lv_iload_n hx hb d_R_mirrorOff_21 rfl (lv_at hl 3 rfl) ?_
          refine lv_isub hx hb d_R_mirrorOff_22 ?_
          refine vp_callSi (va_Run.run (va_runV (As := [.int ((nI A) - (nI j))]) (rest := []) ⟨hx, hb, hml, hown, hg⟩ (c_R_isKnown_ok l D cI cZ cJ cO h0 da ga n d g (by omega) ((nI A) - (nI j))) (cwV 1 hg (gv g_301 g_302 g_303 g_23 g_304) rfl rfl rfl (by decide +kernel) ⟨Nat.le_of_ble_eq_true rfl, Nat.le_of_ble_eq_true rfl⟩) (pV hP hK hN (va_recv hK hP (ci := 2) (q0 := 0) rfl rfl)) rfl rfl hl.1 rfl (lv_room (Nat.le_of_ble_eq_true rfl)) d_R_mirrorOff_23 ⟨Nat.zero_le _, Nat.zero_le _⟩)) (fun r_2 hr_2 => ?_)
          subst hr_2
          refine lv_if_eq (tgt := 54) hx hb d_R_mirrorOff_26 (by decide) (fun c_26 => ?_) (fun c_26 => ?_)
          · refine lv_iinc (v := (nI j) + 1) (lv' := [(3, .int ((nI j) + 1)), (0, .ref h0), (1, .int (nI A)), (2, .int (mo n d g A j))]) hx hb d_R_mirrorOff_54 hl (k := 3) rfl rfl (by decide) rfl (fun ls hl => ?_)
            refine lv_goto (tgt := 4) hx hb d_R_mirrorOff_57 (by decide) ?_
            exact ih4 (j + 1) (mo n d g A j) ((nI j) + 1) ls (⟨by have := mj_in hA hj1 c_8; omega, by omega, (by first | exact mo_t hA (mj_in hA hj1 c_8) c_16 c_26 | exact mo_f1 (by omega) c_16 | exact mo_f2 hA (by omega) c_26), nI_1 j⟩) (lv_sub hl [1, 2, 3, 0] rfl)
          · refine lv_aload_n hx hb d_R_mirrorOff_29 rfl (lv_at hl 0 rfl) ?_
            refine va_get (D := D) (ci := 2) (v := .ref da) (C := Q_R) (T := F_R) (N := 2) hx hb hg in_R hown hK hP 0 rfl rfl 0 (by decide) (hg _ g_116) (fun _ h9 => h9) rfl d_R_mirrorOff_30 ?_
            refine lv_iload_n hx hb d_R_mirrorOff_33 rfl (lv_at hl 3 rfl) ?_
            refine va_iald hx hb hK hP 1 0 rfl rfl (hs_in (kn_hs (bI_ne0 c_16))) d_R_mirrorOff_34 ?_
            refine lv_aload_n hx hb d_R_mirrorOff_35 rfl (lv_at hl 0 rfl) ?_
            refine va_get (D := D) (ci := 2) (v := .ref da) (C := Q_R) (T := F_R) (N := 2) hx hb hg in_R hown hK hP 0 rfl rfl 0 (by decide) (hg _ g_116) (fun _ h9 => h9) rfl d_R_mirrorOff_36 ?_
            refine lv_iload_n hx hb d_R_mirrorOff_39 rfl (lv_at hl 1 rfl) ?_
            refine lv_iload_n hx hb d_R_mirrorOff_40 rfl (lv_at hl 3 rfl) ?_
            refine lv_isub hx hb d_R_mirrorOff_41 ?_
            refine va_iald hx hb hK hP 1 0 rfl rfl (hs_in (kn_hs (bI_ne0 c_26))) d_R_mirrorOff_42 ?_
            refine lv_isub hx hb d_R_mirrorOff_43 ?_
            refine lv_istore (lv' := [(4, .int ((d (nI j).toNatClampNeg) - (d ((nI A) - (nI j)).toNatClampNeg))), (0, .ref h0), (1, .int (nI A)), (2, .int (mo n d g A j)), (3, .int (nI j))]) hx hb d_R_mirrorOff_44 hl (by decide) rfl (fun ls hl => ?_)
            refine lv_iload_n hx hb d_R_mirrorOff_46 rfl (lv_at hl 3 rfl) ?_
            refine lv_iload hx hb d_R_mirrorOff_47 (lv_at hl 0 rfl) ?_
            refine lv_iload hx hb d_R_mirrorOff_49 (lv_at hl 0 rfl) ?_
            refine lv_imul hx hb d_R_mirrorOff_51 ?_
            refine lv_iadd hx hb d_R_mirrorOff_52 ?_
            refine lv_istore_n (lv' := [(2, .int ((mo n d g A j) + (((d (nI j).toNatClampNeg) - (d ((nI A) - (nI j)).toNatClampNeg)) * ((d (nI j).toNatClampNeg) - (d ((nI A) - (nI j)).toNatClampNeg))))), (4, .int ((d (nI j).toNatClampNeg) - (d ((nI A) - (nI j)).toNatClampNeg))), (0, .ref h0), (1, .int (nI A)), (3, .int (nI j))]) hx hb d_R_mirrorOff_53 rfl hl (by decide) rfl (fun ls hl => ?_)
            refine lv_iinc (v := (nI j) + 1) (lv' := [(3, .int ((nI j) + 1)), (2, .int ((mo n d g A j) + (((d (nI j).toNatClampNeg) - (d ((nI A) - (nI j)).toNatClampNeg)) * ((d (nI j).toNatClampNeg) - (d ((nI A) - (nI j)).toNatClampNeg))))), (4, .int ((d (nI j).toNatClampNeg) - (d ((nI A) - (nI j)).toNatClampNeg))), (0, .ref h0), (1, .int (nI A))]) hx hb d_R_mirrorOff_54 hl (k := 4) rfl rfl (by decide) rfl (fun ls hl => ?_)
            refine lv_goto (tgt := 4) hx hb d_R_mirrorOff_57 (by decide) ?_
            exact ih4 (j + 1) ((mo n d g A j) + (((d (nI j).toNatClampNeg) - (d ((nI A) - (nI j)).toNatClampNeg)) * ((d (nI j).toNatClampNeg) - (d ((nI A) - (nI j)).toNatClampNeg)))) ((nI j) + 1) ls (⟨by have := mj_in hA hj1 c_8; omega, by omega, (by first | exact mo_t hA (mj_in hA hj1 c_8) c_16 c_26 | exact mo_f1 (by omega) c_16 | exact mo_f2 hA (by omega) c_26), nI_1 j⟩) (lv_sub hl [3, 4, 1, 0] rfl)
  exact loop_4 (A + 2) 0 0 0 ls (⟨by omega, by omega, rfl, rfl⟩) (lv_sub hl [2, 3, 1, 0] rfl)

set_option maxHeartbeats 4000000 in
set_option maxRecDepth 100000 in
theorem c_R_repeatSum_ok (l : Launch) (D : va_G) (cI cZ cJ cO : ClassId) (h0 da ga : Nat) (n : Nat) (d g : Nat → Int32) (hn : n < 2 ^ 20) (S : Nat) (hS : S ≤ n) : Met l y_R_repeatSum (wq y_R_repeatSum c_R_repeatSum 5 (some .long)) ({ frames := 2, cells := 0, slots := 0, locals := 42 }) (rP D (TY cI cZ cJ cO) [(h0, .inr (2, [.ref da, .ref ga])), (da, .inl (cI, n, .inl d)), (ga, .inl (cZ, n, .inl g))] [.ref h0, .int (nI S)]) (vp_Sl (fun r => r = rs n d g S (n - S))) 0 0 (fun _ => False) := by
  refine Met.ofW (cc := c_R_repeatSum) (maxL := 5) (ret := (some .long)) (by decide) rfl ?_
  intro p e s m args below meth c s₁ B hml hv
  obtain ⟨rfl, hP, hK, hN⟩ := hv
  have hx := B.exec
  have hb := B.bytes
  have hr := B.returns
  have hg := gt_h (atoms_spec (ws := (wq y_R_repeatSum c_R_repeatSum 5 (some .long))) B.pre)
  have hown : s.vm.findClass "RubbingMirrors$Row" = some m.cls := findClass_of_methodNamed B.named
  have hlocks := B.notSynchronized
  have hl := lv_entry ([.ref h0, .int (nI S)]) (n := 5) (Nat.le_of_ble_eq_true rfl)
  rw [lg_entry_eq]
  generalize (lg_sl ([.ref h0, .int (nI S)]) ++ List.replicate (5 - (lg_sl ([.ref h0, .int (nI S)])).length) Slot.unset).toArray = ls at hl ⊢
  have hl : lv_has ls 5 [(0, .ref h0), (1, .int (nI S))] := hl
  refine lv_lconst (v := 0) hx hb d_R_repeatSum_0 (by decide) ?_
  refine lv_lstore_n (lv' := [(2, .long 0), (0, .ref h0), (1, .int (nI S))]) hx hb d_R_repeatSum_1 rfl hl (by decide) rfl (fun ls hl => ?_)
  refine lv_iconst (v := 0) hx hb d_R_repeatSum_2 (by decide) ?_
  refine lv_istore (lv' := [(4, .int 0), (2, .long 0), (0, .ref h0), (1, .int (nI S))]) hx hb d_R_repeatSum_3 hl (by decide) rfl (fun ls hl => ?_)
  have loop_5 : ∀ (f5 : Nat) (j : Nat) (x2 : Int64) (x4 : Int32) (ls : Array Slot), (j ≤ n - S ∧ n - S < j + f5 ∧ x2 = rs n d g S j ∧ x4 = nI j) → lv_has ls 5 [(0, .ref h0), (1, .int (nI S)), (2, .long x2), (4, .int x4)] → W p l e (headSpec (wq y_R_repeatSum c_R_repeatSum 5 (some .long)) ({ frames := 2, cells := 0, slots := 0, locals := 42 })).room s m ([.ref h0, .int (nI S)] : List Value).toArray below meth c s.heap [] 0 0 (MQ below (vp_Sl (fun r => r = rs n d g S (n - S))) ([.ref h0, .int (nI S)] : List Value).toArray s 0 0 (fun _ => False)) (F0 m 5 ls []) := by
    intro f5
    induction f5 with
    | zero =>
      intro j x2 x4 ls hI hl
      obtain ⟨hj1, hj2, rfl, rfl⟩ := hI
      omega
    | succ f5 ih5 =>
      intro j x2 x4 ls hI hl
      obtain ⟨hj1, hj2, rfl, rfl⟩ := hI
      refine lv_iload hx hb d_R_repeatSum_5 (lv_at hl 3 rfl) ?_
      refine lv_aload_n hx hb d_R_repeatSum_7 rfl (lv_at hl 0 rfl) ?_
      refine va_get (D := D) (ci := 2) (v := .ref da) (C := Q_R) (T := F_R) (N := 2) hx hb hg in_R hown hK hP 0 rfl rfl 0 (by decide) (hg _ g_116) (fun _ h9 => h9) rfl d_R_repeatSum_8 ?_
      refine va_alen (v := nI n) hx hb hK hP 1 0 rfl rfl rfl d_R_repeatSum_11 ?_
      refine lv_iload_n hx hb d_R_repeatSum_12 rfl (lv_at hl 1 rfl) ?_
      refine lv_isub hx hb d_R_repeatSum_13 ?_
      refine lv_icmp_ge (tgt := 72) hx hb d_R_repeatSum_14 (by decide) (fun c_14 => ?_) (fun c_14 => ?_)
      · refine lv_lload_n hx hb d_R_repeatSum_72 rfl (lv_at hl 2 rfl) ?_
        exact W.lret hx hb hr (fun t9 ht hW => ⟨_, rfl, (by rw [← rj_out hn hS hj1 c_14]), ht⟩) t_nil2 d_R_repeatSum_73
      · refine lv_aload_n hx hb d_R_repeatSum_17 rfl (lv_at hl 0 rfl) ?_
        refine lv_iload hx hb d_R_repeatSum_18 (lv_at hl 3 rfl) ?_
        refine vp_callSi (va_Run.run (va_runV (As := [.int (nI j)]) (rest := []) ⟨hx, hb, hml, hown, hg⟩ (c_R_isKnown_ok l D cI cZ cJ cO h0 da ga n d g (by omega) (nI j)) (cwV 1 hg (gv g_301 g_302 g_303 g_23 g_304) rfl rfl rfl (by decide +kernel) ⟨Nat.le_of_ble_eq_true rfl, Nat.le_of_ble_eq_true rfl⟩) (pV hP hK hN (va_recv hK hP (ci := 2) (q0 := 0) rfl rfl)) rfl rfl hl.1 rfl (lv_room (Nat.le_of_ble_eq_true rfl)) d_R_repeatSum_20 ⟨Nat.zero_le _, Nat.zero_le _⟩)) (fun r_1 hr_1 => ?_)
        subst hr_1
        refine lv_if_eq (tgt := 66) hx hb d_R_repeatSum_23 (by decide) (fun c_23 => ?_) (fun c_23 => ?_)
        · refine lv_iinc (v := (nI j) + 1) (lv' := [(4, .int ((nI j) + 1)), (0, .ref h0), (1, .int (nI S)), (2, .long (rs n d g S j))]) hx hb d_R_repeatSum_66 hl (k := 3) rfl rfl (by decide) rfl (fun ls hl => ?_)
          refine lv_goto (tgt := 5) hx hb d_R_repeatSum_69 (by decide) ?_
          exact ih5 (j + 1) (rs n d g S j) ((nI j) + 1) ls (⟨by have := rj_in hn hS hj1 c_14; omega, by omega, (by first | exact rs_t (by omega) (by omega) c_23 c_34 | exact rs_f1 (by omega) c_23 | exact rs_f2 (by omega) (by omega) c_34), nI_1 j⟩) (lv_sub hl [1, 2, 3, 0] rfl)
        · refine lv_aload_n hx hb d_R_repeatSum_26 rfl (lv_at hl 0 rfl) ?_
          refine lv_iload hx hb d_R_repeatSum_27 (lv_at hl 3 rfl) ?_
          refine lv_iload_n hx hb d_R_repeatSum_29 rfl (lv_at hl 1 rfl) ?_
          refine lv_iadd hx hb d_R_repeatSum_30 ?_
          refine vp_callSi (va_Run.run (va_runV (As := [.int ((nI j) + (nI S))]) (rest := []) ⟨hx, hb, hml, hown, hg⟩ (c_R_isKnown_ok l D cI cZ cJ cO h0 da ga n d g (by omega) ((nI j) + (nI S))) (cwV 1 hg (gv g_301 g_302 g_303 g_23 g_304) rfl rfl rfl (by decide +kernel) ⟨Nat.le_of_ble_eq_true rfl, Nat.le_of_ble_eq_true rfl⟩) (pV hP hK hN (va_recv hK hP (ci := 2) (q0 := 0) rfl rfl)) rfl rfl hl.1 rfl (lv_room (Nat.le_of_ble_eq_true rfl)) d_R_repeatSum_31 ⟨Nat.zero_le _, Nat.zero_le _⟩)) (fun r_2 hr_2 => ?_)
          subst hr_2
          refine lv_if_eq (tgt := 66) hx hb d_R_repeatSum_34 (by decide) (fun c_34 => ?_) (fun c_34 => ?_)
          · refine lv_iinc (v := (nI j) + 1) (lv' := [(4, .int ((nI j) + 1)), (0, .ref h0), (1, .int (nI S)), (2, .long (rs n d g S j))]) hx hb d_R_repeatSum_66 hl (k := 3) rfl rfl (by decide) rfl (fun ls hl => ?_)
            refine lv_goto (tgt := 5) hx hb d_R_repeatSum_69 (by decide) ?_
            exact ih5 (j + 1) (rs n d g S j) ((nI j) + 1) ls (⟨by have := rj_in hn hS hj1 c_14; omega, by omega, (by first | exact rs_t (by omega) (by omega) c_23 c_34 | exact rs_f1 (by omega) c_23 | exact rs_f2 (by omega) (by omega) c_34), nI_1 j⟩) (lv_sub hl [1, 2, 3, 0] rfl)
          · refine lv_lload_n hx hb d_R_repeatSum_37 rfl (lv_at hl 2 rfl) ?_
            refine lv_aload_n hx hb d_R_repeatSum_38 rfl (lv_at hl 0 rfl) ?_
            refine va_get (D := D) (ci := 2) (v := .ref da) (C := Q_R) (T := F_R) (N := 2) hx hb hg in_R hown hK hP 0 rfl rfl 0 (by decide) (hg _ g_116) (fun _ h9 => h9) rfl d_R_repeatSum_39 ?_
            refine lv_iload hx hb d_R_repeatSum_42 (lv_at hl 3 rfl) ?_
            refine va_iald hx hb hK hP 1 0 rfl rfl (hs_in (kn_hs (bI_ne0 c_23))) d_R_repeatSum_44 ?_
            refine lv_sipush (v := 128) hx hb d_R_repeatSum_45 (by decide) ?_
            refine lv_isub hx hb d_R_repeatSum_48 ?_
            refine lv_aload_n hx hb d_R_repeatSum_49 rfl (lv_at hl 0 rfl) ?_
            refine va_get (D := D) (ci := 2) (v := .ref da) (C := Q_R) (T := F_R) (N := 2) hx hb hg in_R hown hK hP 0 rfl rfl 0 (by decide) (hg _ g_116) (fun _ h9 => h9) rfl d_R_repeatSum_50 ?_
            refine lv_iload hx hb d_R_repeatSum_53 (lv_at hl 3 rfl) ?_
            refine lv_iload_n hx hb d_R_repeatSum_55 rfl (lv_at hl 1 rfl) ?_
            refine lv_iadd hx hb d_R_repeatSum_56 ?_
            refine va_iald hx hb hK hP 1 0 rfl rfl (hs_in (kn_hs (bI_ne0 c_34))) d_R_repeatSum_57 ?_
            refine lv_sipush (v := 128) hx hb d_R_repeatSum_58 (by decide) ?_
            refine lv_isub hx hb d_R_repeatSum_61 ?_
            refine lv_imul hx hb d_R_repeatSum_62 ?_
            refine lv_i2l (v := (((d (nI j).toNatClampNeg) - 128) * ((d ((nI j) + (nI S)).toNatClampNeg) - 128)).toInt64) hx hb d_R_repeatSum_63 rfl ?_
            refine lv_ladd hx hb d_R_repeatSum_64 ?_
            refine lv_lstore_n (lv' := [(2, .long ((rs n d g S j) + ((((d (nI j).toNatClampNeg) - 128) * ((d ((nI j) + (nI S)).toNatClampNeg) - 128)).toInt64))), (0, .ref h0), (1, .int (nI S)), (4, .int (nI j))]) hx hb d_R_repeatSum_65 rfl hl (by decide) rfl (fun ls hl => ?_)
            refine lv_iinc (v := (nI j) + 1) (lv' := [(4, .int ((nI j) + 1)), (2, .long ((rs n d g S j) + ((((d (nI j).toNatClampNeg) - 128) * ((d ((nI j) + (nI S)).toNatClampNeg) - 128)).toInt64))), (0, .ref h0), (1, .int (nI S))]) hx hb d_R_repeatSum_66 hl (k := 3) rfl rfl (by decide) rfl (fun ls hl => ?_)
            refine lv_goto (tgt := 5) hx hb d_R_repeatSum_69 (by decide) ?_
            exact ih5 (j + 1) ((rs n d g S j) + ((((d (nI j).toNatClampNeg) - 128) * ((d ((nI j) + (nI S)).toNatClampNeg) - 128)).toInt64)) ((nI j) + 1) ls (⟨by have := rj_in hn hS hj1 c_14; omega, by omega, (by first | exact rs_t (by omega) (by omega) c_23 c_34 | exact rs_f1 (by omega) c_23 | exact rs_f2 (by omega) (by omega) c_34), nI_1 j⟩) (lv_sub hl [2, 3, 1, 0] rfl)
  exact loop_5 (n + 1) 0 0 0 ls (⟨by omega, by omega, rfl, rfl⟩) (lv_sub hl [2, 3, 1, 0] rfl)
end
section

/-- a writer's start: the cells ws, apart; sz cells in all -/
def mP (D : va_G) (tys : List (ClassId × FieldType)) (ws : va_W) (av : List Value) (sz : Nat) : Array Value → State → Prop := va_Pc av (fun U => U.heap.size = sz ∧ va_P D cls ws U.heap ∧ va_K D cls tys U ∧ va_D (fun _ => True) ws ∧ nW U)
/-- a writer's end: the cells u -/
def mB (D : va_G) (tys : List (ClassId × FieldType)) (A : Nat → Prop) (u : va_W) (t : State) : Prop := va_P D cls u t.heap ∧ va_K D cls tys t ∧ va_D A u
theorem mp_blind {D : va_G} {tys : List (ClassId × FieldType)} {ws : va_W} {av : List Value} {sz : Nat} : FrameBlind (mP D tys ws av sz) := fun a U g mk q => by
  obtain ⟨q0, q1, qP, qK, qD, qN⟩ := q
  exact ⟨q0, q1, qP, va_K.moved (u := U) (U := U.calling g mk a) (Vm.Alike.refl U.vm) qK, qD, nW.same (s := U) (U := U.calling g mk a) rfl qN⟩
theorem mS {s : State} {H : Heap} {A : Nat → Prop} {D : va_G} {tys : List (ClassId × FieldType)} {ws : va_W} {As : List Value} (hP : va_P D cls ws H) (hK : va_K D cls tys s) (hN : nW s) (hD : va_D A ws) : PreS s H (mP D tys ws As H.size) As :=
  ⟨mp_blind, fun U hU hW => ⟨rfl, by rw [hU], by rw [hU]; exact hP, va_K.moved hW.alike hK, hD.weaken (fun _ _ _ _ => trivial), hN.warm hW⟩⟩
theorem mV {s : State} {H : Heap} {A : Nat → Prop} {D : va_G} {tys : List (ClassId × FieldType)} {ws : va_W} {C : String} {b : Nat} {As : List Value} (hP : va_P D cls ws H) (hK : va_K D cls tys s) (hN : nW s) (hD : va_D A ws) (hr : ∃ cell : Cell, H[b]? = some cell ∧ cell.vm.isStatics = false ∧ s.vm.findClass C = some cell.cls) : PreV s H C b (mP D tys ws (.ref b :: As) H.size) As :=
  ⟨mp_blind, hr, fun U hU hW => ⟨rfl, by rw [hU], by rw [hU]; exact hP, va_K.moved hW.alike hK, hD.weaken (fun _ _ _ _ => trivial), hN.warm hW⟩⟩
section MCALL
variable {p : Program} {l : Launch} {e : Env} {R : Room} {s : State} {m : MethodId} {args : Array Value} {below : List Frame} {meth : Method} {c : Code} {H : Heap} {locs : List Loc} {cells slots : Nat} {Q : State → Prop}
variable {mc ms : Nat} {A : Nat → Prop} {H0 : Heap} {a : Array Value} {pc : Nat} {ls : Array Slot} {st0 rest : List Value} {D : va_G} {tys : List (ClassId × FieldType)} {wc wr : va_W}
theorem mcalli {φ : Int32 → va_W → Prop} (hr : va_Run p l e R s m args below meth c H locs cells slots mc ms (F0 m pc ls st0) rest (va_Qi φ (mB D tys (va_A wc H.size)) (va_A wc H.size) a) (va_A wc H.size)) (hP : va_P D cls (wc ++ wr) H) (hD : va_D A (wc ++ wr)) (hS : va_S A H0 H locs) (hA : ∀ q, H0.size ≤ q → A q)
    (kk : ∀ (r : Int32) (u : va_W) (H : Heap) (locs : List Loc), φ r u → va_P D cls (u ++ wr) H → va_D A (u ++ wr) → va_S A H0 H locs → W p l e R s m args below meth c H locs (cells + mc) (slots + ms) Q (F0 m (pc + 3) ls (.int r :: rest))) : W p l e R s m args below meth c H locs cells slots Q (F0 m pc ls st0) := by
  refine va_calli hr hS (fun q _ h => ba_free hD hS hA q h) (ba_free hD hS hA) (fun r u t H1 locs1 ht hvm hw hB hz1 hk1 hS1 => ?_)
  obtain ⟨hP1, hK1, hD1⟩ := hB
  rw [ht] at hP1
  obtain ⟨hP2, hD2⟩ := ba_join hP hD hk1 (ba_free hD hS hA) hP1 hD1
  exact kk r u H1 locs1 hw hP2 hD2 hS1
theorem mcalll {φ : Int64 → va_W → Prop} (hr : va_Run p l e R s m args below meth c H locs cells slots mc ms (F0 m pc ls st0) rest (va_Ql φ (mB D tys (va_A wc H.size)) (va_A wc H.size) a) (va_A wc H.size)) (hP : va_P D cls (wc ++ wr) H) (hD : va_D A (wc ++ wr)) (hS : va_S A H0 H locs) (hA : ∀ q, H0.size ≤ q → A q)
    (kk : ∀ (r : Int64) (u : va_W) (H : Heap) (locs : List Loc), φ r u → va_P D cls (u ++ wr) H → va_D A (u ++ wr) → va_S A H0 H locs → W p l e R s m args below meth c H locs (cells + mc) (slots + ms) Q (F0 m (pc + 3) ls (.long r :: rest))) : W p l e R s m args below meth c H locs cells slots Q (F0 m pc ls st0) := by
  refine va_calll hr hS (fun q _ h => ba_free hD hS hA q h) (ba_free hD hS hA) (fun r u t H1 locs1 ht hvm hw hB hz1 hk1 hS1 => ?_)
  obtain ⟨hP1, hK1, hD1⟩ := hB
  rw [ht] at hP1
  obtain ⟨hP2, hD2⟩ := ba_join hP hD hk1 (ba_free hD hS hA) hP1 hD1
  exact kk r u H1 locs1 hw hP2 hD2 hS1
theorem mcallv {φ : va_W → Prop} (hr : va_Run p l e R s m args below meth c H locs cells slots mc ms (F0 m pc ls st0) rest (va_Qv φ (mB D tys (va_A wc H.size)) (va_A wc H.size) a) (va_A wc H.size)) (hP : va_P D cls (wc ++ wr) H) (hD : va_D A (wc ++ wr)) (hS : va_S A H0 H locs) (hA : ∀ q, H0.size ≤ q → A q)
    (kk : ∀ (u : va_W) (H : Heap) (locs : List Loc), φ u → va_P D cls (u ++ wr) H → va_D A (u ++ wr) → va_S A H0 H locs → W p l e R s m args below meth c H locs (cells + mc) (slots + ms) Q (F0 m (pc + 3) ls rest)) : W p l e R s m args below meth c H locs cells slots Q (F0 m pc ls st0) := by
  refine va_callv hr hS (fun q _ h => ba_free hD hS hA q h) (ba_free hD hS hA) (fun u t H1 locs1 ht hvm hw hB hz1 hk1 hS1 => ?_)
  obtain ⟨hP1, hK1, hD1⟩ := hB
  rw [ht] at hP1
  obtain ⟨hP2, hD2⟩ := ba_join hP hD hk1 (ba_free hD hS hA) hP1 hD1
  exact kk u H1 locs1 hw hP2 hD2 hS1
end MCALL
end
section

/-- the source of a filling: r rounds more, the next of t steps -/
def sr (n : Nat) (d g : Nat → Int32) (K S : Int) : Nat → Nat → Option Int
  | 0, _ => none
  | r + 1, t => if kn n d g (K - t * S) then some (K - t * S) else if kn n d g (K + t * S) then some (K + t * S) else sr n d g K S r (t + 1)
/-- .. else by the mirror a -/
def sq (n : Nat) (d g : Nat → Int32) (K S a : Int) (r t : Nat) : Int := match (if 0 < S then sr n d g K S r t else none) with
  | some x => x
  | none => if a ≠ -1 ∧ kn n d g (a - K) = true then a - K else -1
def src (n : Nat) (d g : Nat → Int32) (K S a : Int) : Int := sq n d g K S a 8 1
theorem tS_le {t S : Nat} (ht : t ≤ 9) : t * S ≤ 9 * S := Nat.mul_le_mul_right S ht
theorem sc_m {K t S : Nat} (hK : K < 2 ^ 20) (ht : t ≤ 9) (hS : S < 2 ^ 20) : (nI K - nI t * nI S).toInt = (K : Int) - t * S := by
  have := tS_le (S := S) ht
  rw [pk_mul, pk_sub_toInt (by omega) (by omega), Int.natCast_mul]
theorem sc_p {K t S : Nat} (hK : K < 2 ^ 20) (ht : t ≤ 9) (hS : S < 2 ^ 20) : (nI K + nI t * nI S).toInt = (K : Int) + t * S := by
  have := tS_le (S := S) ht
  rw [pk_mul, nI_add, nI_toInt (by omega), Int.natCast_add, Int.natCast_mul]
theorem sc_a {K : Nat} {a : Int32} (hK : K < 2 ^ 20) (h1 : -1 ≤ a.toInt) (h2 : a.toInt < 2 ^ 20) : (a - nI K).toInt = a.toInt - K := by
  rw [Int32.toInt_sub, nI_toInt (by omega), Int.bmod_eq_of_le (by omega) (by omega)]
theorem sq_m {n : Nat} {d g : Nat → Int32} {K S : Nat} {a : Int} {r t : Nat} (h0 : ¬ nI S ≤ 0) (hK : K < 2 ^ 20) (ht : t ≤ 9) (hS : S < 2 ^ 20) (h : ¬ bI (kn n d g (nI K - nI t * nI S).toInt) = 0) : (nI K - nI t * nI S).toInt = sq n d g K S a (r + 1) t := by
  rw [sc_m hK ht hS] at h ⊢
  rw [ile, nI_toInt (by omega), i0] at h0
  rw [sq, if_pos (by omega), sr, if_pos (bI_ne0 h)]
theorem sq_p {n : Nat} {d g : Nat → Int32} {K S : Nat} {a : Int} {r t : Nat} (h0 : ¬ nI S ≤ 0) (hK : K < 2 ^ 20) (ht : t ≤ 9) (hS : S < 2 ^ 20) (h1 : bI (kn n d g (nI K - nI t * nI S).toInt) = 0) (h : ¬ bI (kn n d g (nI K + nI t * nI S).toInt) = 0) : (nI K + nI t * nI S).toInt = sq n d g K S a (r + 1) t := by
  rw [sc_m hK ht hS] at h1
  rw [sc_p hK ht hS] at h ⊢
  rw [ile, nI_toInt (by omega), i0] at h0
  rw [sq, if_pos (by omega), sr, if_neg (by rw [bI_eq0 h1]; decide), if_pos (bI_ne0 h)]
theorem sq_n {n : Nat} {d g : Nat → Int32} {K S : Nat} {a : Int} {r t : Nat} (hK : K < 2 ^ 20) (ht : t ≤ 9) (hS : S < 2 ^ 20) (h1 : bI (kn n d g (nI K - nI t * nI S).toInt) = 0) (h : bI (kn n d g (nI K + nI t * nI S).toInt) = 0) : sq n d g K S a r (t + 1) = sq n d g K S a (r + 1) t := by
  rw [sc_m hK ht hS] at h1
  rw [sc_p hK ht hS] at h
  have e : sr n d g K S (r + 1) t = sr n d g K S r (t + 1) := by rw [sr, if_neg (by rw [bI_eq0 h1]; decide), if_neg (by rw [bI_eq0 h]; decide)]
  unfold sq
  rw [e]
theorem sq_e1 {n : Nat} {d g : Nat → Int32} {K S : Nat} {a : Int} {r t : Nat} (hS : S < 2 ^ 20) (h0 : nI S ≤ 0) : sq n d g K S a r t = if a ≠ -1 ∧ kn n d g (a - K) = true then a - K else -1 := by
  rw [ile, nI_toInt (by omega), i0] at h0
  rw [sq, if_neg (by omega)]
theorem sq_e2 {n : Nat} {d g : Nat → Int32} {K S : Nat} {a : Int} {r t : Nat} (h : t + r = 9) (h8 : 8 < nI t) : sq n d g K S a r t = if a ≠ -1 ∧ kn n d g (a - K) = true then a - K else -1 := by
  rw [ilt, nI_toInt (by omega)] at h8
  have h9 : (8 : Int32).toInt = 8 := rfl
  have : r = 0 := by omega
  subst this
  rw [sq]
  by_cases c : (0 : Int) < S
  · rw [if_pos c, sr]
  · rw [if_neg c]
theorem sq_t {r t : Nat} (h : t + r = 9) (h8 : ¬ 8 < nI t) : t ≤ 8 := by
  rw [ilt, nI_toInt (by omega)] at h8
  have h9 : (8 : Int32).toInt = 8 := rfl
  omega
theorem sa_1 {n : Nat} {d g : Nat → Int32} {K : Nat} {a : Int32} (h : a = -1) : (-1 : Int32).toInt = if a.toInt ≠ -1 ∧ kn n d g (a.toInt - K) = true then a.toInt - K else -1 := by
  rw [if_neg (by rw [h]; exact fun q => q.1 rfl)]; rfl
theorem sa_2 {n : Nat} {d g : Nat → Int32} {K : Nat} {a : Int32} (hK : K < 2 ^ 20) (h1 : -1 ≤ a.toInt) (h2 : a.toInt < 2 ^ 20) (h : bI (kn n d g (a - nI K).toInt) = 0) : (-1 : Int32).toInt = if a.toInt ≠ -1 ∧ kn n d g (a.toInt - K) = true then a.toInt - K else -1 := by
  rw [sc_a hK h1 h2] at h
  rw [if_neg (by rw [bI_eq0 h]; exact fun q => (nomatch q.2))]; rfl
theorem sa_3 {n : Nat} {d g : Nat → Int32} {K : Nat} {a : Int32} (hK : K < 2 ^ 20) (h1 : -1 ≤ a.toInt) (h2 : a.toInt < 2 ^ 20) (h0 : ¬ a = -1) (h : ¬ bI (kn n d g (a - nI K).toInt) = 0) : (a - nI K).toInt = if a.toInt ≠ -1 ∧ kn n d g (a.toInt - K) = true then a.toInt - K else -1 := by
  rw [sc_a hK h1 h2] at h ⊢
  rw [ieq, im1] at h0
  rw [if_pos ⟨h0, bI_ne0 h⟩]

set_option maxHeartbeats 4000000 in
set_option maxRecDepth 100000 in
theorem c_R_sourceFor_ok (l : Launch) (D : va_G) (cI cZ cJ cO : ClassId) (h0 da ga : Nat) (n : Nat) (d g : Nat → Int32) (hn : n < 2 ^ 20) (K S : Nat) (a : Int32) (hK9 : K < 2 ^ 20) (hS : S < 2 ^ 20) (ha1 : -1 ≤ a.toInt) (ha2 : a.toInt < 2 ^ 20) : Met l y_R_sourceFor (wq y_R_sourceFor c_R_sourceFor 5 (some .int)) ({ frames := 2, cells := 0, slots := 0, locals := 42 }) (rP D (TY cI cZ cJ cO) [(h0, .inr (2, [.ref da, .ref ga])), (da, .inl (cI, n, .inl d)), (ga, .inl (cZ, n, .inl g))] [.ref h0, .int (nI K), .int (nI S), .int a]) (vp_Si (fun r => r.toInt = src n d g K S a.toInt)) 0 0 (fun _ => False) := by
  refine Met.ofW (cc := c_R_sourceFor) (maxL := 5) (ret := (some .int)) (by decide) rfl ?_
  intro p e s m args below meth c s₁ B hml hv
  obtain ⟨rfl, hP, hK, hN⟩ := hv
  have hx := B.exec
  have hb := B.bytes
  have hr := B.returns
  have hg := gt_h (atoms_spec (ws := (wq y_R_sourceFor c_R_sourceFor 5 (some .int))) B.pre)
  have hown : s.vm.findClass "RubbingMirrors$Row" = some m.cls := findClass_of_methodNamed B.named
  have hlocks := B.notSynchronized
  have hl := lv_entry ([.ref h0, .int (nI K), .int (nI S), .int a]) (n := 5) (Nat.le_of_ble_eq_true rfl)
  rw [lg_entry_eq]
  generalize (lg_sl ([.ref h0, .int (nI K), .int (nI S), .int a]) ++ List.replicate (5 - (lg_sl ([.ref h0, .int (nI K), .int (nI S), .int a])).length) Slot.unset).toArray = ls at hl ⊢
  have hl : lv_has ls 5 [(0, .ref h0), (1, .int (nI K)), (2, .int (nI S)), (3, .int a)] := hl
  refine lv_iconst (v := 1) hx hb d_R_sourceFor_0 (by decide) ?_
  refine lv_istore (lv' := [(4, .int 1), (0, .ref h0), (1, .int (nI K)), (2, .int (nI S)), (3, .int a)]) hx hb d_R_sourceFor_1 hl (by decide) rfl (fun ls hl => ?_)
  have loop_3 : ∀ (f3 : Nat) (t : Nat) (r : Nat) (x4 : Int32) (ls : Array Slot), (t + r = 9 ∧ r < f3 ∧ x4 = nI t ∧ sq n d g K S a.toInt r t = src n d g K S a.toInt) → lv_has ls 5 [(0, .ref h0), (1, .int (nI K)), (2, .int (nI S)), (3, .int a), (4, .int x4)] → W p l e (headSpec (wq y_R_sourceFor c_R_sourceFor 5 (some .int)) ({ frames := 2, cells := 0, slots := 0, locals := 42 })).room s m ([.ref h0, .int (nI K), .int (nI S), .int a] : List Value).toArray below meth c s.heap [] 0 0 (MQ below (vp_Si (fun r => r.toInt = src n d g K S a.toInt)) ([.ref h0, .int (nI K), .int (nI S), .int a] : List Value).toArray s 0 0 (fun _ => False)) (F0 m 3 ls []) := by
    intro f3
    induction f3 with
    | zero =>
      intro t r x4 ls hI hl
      obtain ⟨ht1, ht2, rfl, hq⟩ := hI
      omega
    | succ f3 ih3 =>
      intro t r x4 ls hI hl
      obtain ⟨ht1, ht2, rfl, hq⟩ := hI
      refine lv_iload_n hx hb d_R_sourceFor_3 rfl (lv_at hl 2 rfl) ?_
      refine lv_if_le (tgt := 60) hx hb d_R_sourceFor_4 (by decide) (fun c_4 => ?_) (fun c_4 => ?_)
      · refine lv_iload_n hx hb d_R_sourceFor_60 rfl (lv_at hl 3 rfl) ?_
        refine lv_iconst (v := (-1)) hx hb d_R_sourceFor_61 (by decide) ?_
        refine lv_icmp_eq (tgt := 81) hx hb d_R_sourceFor_62 (by decide) (fun c_62 => ?_) (fun c_62 => ?_)
        · refine lv_iconst (v := (-1)) hx hb d_R_sourceFor_81 (by decide) ?_
          exact W.iret hx hb hr (fun t9 ht hW => ⟨_, rfl, (by rw [← hq]; (first | rw [sq_e1 hS c_4] | rw [sq_e2 ht1 c_11]); (first | exact sa_1 c_62 | exact sa_2 hK9 ha1 ha2 c_72 | exact sa_3 hK9 ha1 ha2 c_62 c_72)), ht⟩) t_nil2 d_R_sourceFor_82
        · refine lv_aload_n hx hb d_R_sourceFor_65 rfl (lv_at hl 0 rfl) ?_
          refine lv_iload_n hx hb d_R_sourceFor_66 rfl (lv_at hl 3 rfl) ?_
          refine lv_iload_n hx hb d_R_sourceFor_67 rfl (lv_at hl 1 rfl) ?_
          refine lv_isub hx hb d_R_sourceFor_68 ?_
          refine vp_callSi (va_Run.run (va_runV (As := [.int (a - (nI K))]) (rest := []) ⟨hx, hb, hml, hown, hg⟩ (c_R_isKnown_ok l D cI cZ cJ cO h0 da ga n d g (by omega) (a - (nI K))) (cwV 1 hg (gv g_301 g_302 g_303 g_23 g_304) rfl rfl rfl (by decide +kernel) ⟨Nat.le_of_ble_eq_true rfl, Nat.le_of_ble_eq_true rfl⟩) (pV hP hK hN (va_recv hK hP (ci := 2) (q0 := 0) rfl rfl)) rfl rfl hl.1 rfl (lv_room (Nat.le_of_ble_eq_true rfl)) d_R_sourceFor_69 ⟨Nat.zero_le _, Nat.zero_le _⟩)) (fun r_1 hr_1 => ?_)
          subst hr_1
          refine lv_if_eq (tgt := 81) hx hb d_R_sourceFor_72 (by decide) (fun c_72 => ?_) (fun c_72 => ?_)
          · refine lv_iconst (v := (-1)) hx hb d_R_sourceFor_81 (by decide) ?_
            exact W.iret hx hb hr (fun t9 ht hW => ⟨_, rfl, (by rw [← hq]; (first | rw [sq_e1 hS c_4] | rw [sq_e2 ht1 c_11]); (first | exact sa_1 c_62 | exact sa_2 hK9 ha1 ha2 c_72 | exact sa_3 hK9 ha1 ha2 c_62 c_72)), ht⟩) t_nil2 d_R_sourceFor_82
          · refine lv_iload_n hx hb d_R_sourceFor_75 rfl (lv_at hl 3 rfl) ?_
            refine lv_iload_n hx hb d_R_sourceFor_76 rfl (lv_at hl 1 rfl) ?_
            refine lv_isub hx hb d_R_sourceFor_77 ?_
            refine lv_goto (tgt := 82) hx hb d_R_sourceFor_78 (by decide) ?_
            exact W.iret hx hb hr (fun t9 ht hW => ⟨_, rfl, (by rw [← hq]; (first | rw [sq_e1 hS c_4] | rw [sq_e2 ht1 c_11]); (first | exact sa_1 c_62 | exact sa_2 hK9 ha1 ha2 c_72 | exact sa_3 hK9 ha1 ha2 c_62 c_72)), ht⟩) t_nil2 d_R_sourceFor_82
      · refine lv_iload hx hb d_R_sourceFor_7 (lv_at hl 4 rfl) ?_
        refine lv_bipush (v := 8) hx hb d_R_sourceFor_9 (by decide) ?_
        refine lv_icmp_gt (tgt := 60) hx hb d_R_sourceFor_11 (by decide) (fun c_11 => ?_) (fun c_11 => ?_)
        · refine lv_iload_n hx hb d_R_sourceFor_60 rfl (lv_at hl 3 rfl) ?_
          refine lv_iconst (v := (-1)) hx hb d_R_sourceFor_61 (by decide) ?_
          refine lv_icmp_eq (tgt := 81) hx hb d_R_sourceFor_62 (by decide) (fun c_62 => ?_) (fun c_62 => ?_)
          · refine lv_iconst (v := (-1)) hx hb d_R_sourceFor_81 (by decide) ?_
            exact W.iret hx hb hr (fun t9 ht hW => ⟨_, rfl, (by rw [← hq]; (first | rw [sq_e1 hS c_4] | rw [sq_e2 ht1 c_11]); (first | exact sa_1 c_62 | exact sa_2 hK9 ha1 ha2 c_72 | exact sa_3 hK9 ha1 ha2 c_62 c_72)), ht⟩) t_nil2 d_R_sourceFor_82
          · refine lv_aload_n hx hb d_R_sourceFor_65 rfl (lv_at hl 0 rfl) ?_
            refine lv_iload_n hx hb d_R_sourceFor_66 rfl (lv_at hl 3 rfl) ?_
            refine lv_iload_n hx hb d_R_sourceFor_67 rfl (lv_at hl 1 rfl) ?_
            refine lv_isub hx hb d_R_sourceFor_68 ?_
            refine vp_callSi (va_Run.run (va_runV (As := [.int (a - (nI K))]) (rest := []) ⟨hx, hb, hml, hown, hg⟩ (c_R_isKnown_ok l D cI cZ cJ cO h0 da ga n d g (by omega) (a - (nI K))) (cwV 1 hg (gv g_301 g_302 g_303 g_23 g_304) rfl rfl rfl (by decide +kernel) ⟨Nat.le_of_ble_eq_true rfl, Nat.le_of_ble_eq_true rfl⟩) (pV hP hK hN (va_recv hK hP (ci := 2) (q0 := 0) rfl rfl)) rfl rfl hl.1 rfl (lv_room (Nat.le_of_ble_eq_true rfl)) d_R_sourceFor_69 ⟨Nat.zero_le _, Nat.zero_le _⟩)) (fun r_2 hr_2 => ?_)
            subst hr_2
            refine lv_if_eq (tgt := 81) hx hb d_R_sourceFor_72 (by decide) (fun c_72 => ?_) (fun c_72 => ?_)
            · refine lv_iconst (v := (-1)) hx hb d_R_sourceFor_81 (by decide) ?_
              exact W.iret hx hb hr (fun t9 ht hW => ⟨_, rfl, (by rw [← hq]; (first | rw [sq_e1 hS c_4] | rw [sq_e2 ht1 c_11]); (first | exact sa_1 c_62 | exact sa_2 hK9 ha1 ha2 c_72 | exact sa_3 hK9 ha1 ha2 c_62 c_72)), ht⟩) t_nil2 d_R_sourceFor_82
            · refine lv_iload_n hx hb d_R_sourceFor_75 rfl (lv_at hl 3 rfl) ?_
              refine lv_iload_n hx hb d_R_sourceFor_76 rfl (lv_at hl 1 rfl) ?_
              refine lv_isub hx hb d_R_sourceFor_77 ?_
              refine lv_goto (tgt := 82) hx hb d_R_sourceFor_78 (by decide) ?_
              exact W.iret hx hb hr (fun t9 ht hW => ⟨_, rfl, (by rw [← hq]; (first | rw [sq_e1 hS c_4] | rw [sq_e2 ht1 c_11]); (first | exact sa_1 c_62 | exact sa_2 hK9 ha1 ha2 c_72 | exact sa_3 hK9 ha1 ha2 c_62 c_72)), ht⟩) t_nil2 d_R_sourceFor_82
        · have ht8 : t ≤ 9 := by have := sq_t ht1 c_11; omega
          obtain ⟨r, rfl⟩ : ∃ r1, r = r1 + 1 := ⟨r - 1, by have := sq_t ht1 c_11; omega⟩
          refine lv_aload_n hx hb d_R_sourceFor_14 rfl (lv_at hl 0 rfl) ?_
          refine lv_iload_n hx hb d_R_sourceFor_15 rfl (lv_at hl 1 rfl) ?_
          refine lv_iload hx hb d_R_sourceFor_16 (lv_at hl 4 rfl) ?_
          refine lv_iload_n hx hb d_R_sourceFor_18 rfl (lv_at hl 2 rfl) ?_
          refine lv_imul hx hb d_R_sourceFor_19 ?_
          refine lv_isub hx hb d_R_sourceFor_20 ?_
          refine vp_callSi (va_Run.run (va_runV (As := [.int ((nI K) - ((nI t) * (nI S)))]) (rest := []) ⟨hx, hb, hml, hown, hg⟩ (c_R_isKnown_ok l D cI cZ cJ cO h0 da ga n d g (by omega) ((nI K) - ((nI t) * (nI S)))) (cwV 1 hg (gv g_301 g_302 g_303 g_23 g_304) rfl rfl rfl (by decide +kernel) ⟨Nat.le_of_ble_eq_true rfl, Nat.le_of_ble_eq_true rfl⟩) (pV hP hK hN (va_recv hK hP (ci := 2) (q0 := 0) rfl rfl)) rfl rfl hl.1 rfl (lv_room (Nat.le_of_ble_eq_true rfl)) d_R_sourceFor_21 ⟨Nat.zero_le _, Nat.zero_le _⟩)) (fun r_3 hr_3 => ?_)
          subst hr_3
          refine lv_if_eq (tgt := 34) hx hb d_R_sourceFor_24 (by decide) (fun c_24 => ?_) (fun c_24 => ?_)
          · refine lv_aload_n hx hb d_R_sourceFor_34 rfl (lv_at hl 0 rfl) ?_
            refine lv_iload_n hx hb d_R_sourceFor_35 rfl (lv_at hl 1 rfl) ?_
            refine lv_iload hx hb d_R_sourceFor_36 (lv_at hl 4 rfl) ?_
            refine lv_iload_n hx hb d_R_sourceFor_38 rfl (lv_at hl 2 rfl) ?_
            refine lv_imul hx hb d_R_sourceFor_39 ?_
            refine lv_iadd hx hb d_R_sourceFor_40 ?_
            refine vp_callSi (va_Run.run (va_runV (As := [.int ((nI K) + ((nI t) * (nI S)))]) (rest := []) ⟨hx, hb, hml, hown, hg⟩ (c_R_isKnown_ok l D cI cZ cJ cO h0 da ga n d g (by omega) ((nI K) + ((nI t) * (nI S)))) (cwV 1 hg (gv g_301 g_302 g_303 g_23 g_304) rfl rfl rfl (by decide +kernel) ⟨Nat.le_of_ble_eq_true rfl, Nat.le_of_ble_eq_true rfl⟩) (pV hP hK hN (va_recv hK hP (ci := 2) (q0 := 0) rfl rfl)) rfl rfl hl.1 rfl (lv_room (Nat.le_of_ble_eq_true rfl)) d_R_sourceFor_41 ⟨Nat.zero_le _, Nat.zero_le _⟩)) (fun r_4 hr_4 => ?_)
            subst hr_4
            refine lv_if_eq (tgt := 54) hx hb d_R_sourceFor_44 (by decide) (fun c_44 => ?_) (fun c_44 => ?_)
            · refine lv_iinc (v := (nI t) + 1) (lv' := [(4, .int ((nI t) + 1)), (0, .ref h0), (1, .int (nI K)), (2, .int (nI S)), (3, .int a)]) hx hb d_R_sourceFor_54 hl (k := 4) rfl rfl (by decide) rfl (fun ls hl => ?_)
              refine lv_goto (tgt := 3) hx hb d_R_sourceFor_57 (by decide) ?_
              exact ih3 (t + 1) r ((nI t) + 1) ls (⟨by omega, by omega, nI_1 t, (sq_n hK9 ht8 hS c_24 c_44).trans hq⟩) (lv_sub hl [1, 2, 3, 4, 0] rfl)
            · refine lv_iload_n hx hb d_R_sourceFor_47 rfl (lv_at hl 1 rfl) ?_
              refine lv_iload hx hb d_R_sourceFor_48 (lv_at hl 4 rfl) ?_
              refine lv_iload_n hx hb d_R_sourceFor_50 rfl (lv_at hl 2 rfl) ?_
              refine lv_imul hx hb d_R_sourceFor_51 ?_
              refine lv_iadd hx hb d_R_sourceFor_52 ?_
              exact W.iret hx hb hr (fun t9 ht hW => ⟨_, rfl, (by rw [← hq]; exact sq_p c_4 hK9 ht8 hS c_24 c_44), ht⟩) t_nil2 d_R_sourceFor_53
          · refine lv_iload_n hx hb d_R_sourceFor_27 rfl (lv_at hl 1 rfl) ?_
            refine lv_iload hx hb d_R_sourceFor_28 (lv_at hl 4 rfl) ?_
            refine lv_iload_n hx hb d_R_sourceFor_30 rfl (lv_at hl 2 rfl) ?_
            refine lv_imul hx hb d_R_sourceFor_31 ?_
            refine lv_isub hx hb d_R_sourceFor_32 ?_
            exact W.iret hx hb hr (fun t9 ht hW => ⟨_, rfl, (by rw [← hq]; exact sq_m c_4 hK9 ht8 hS c_24), ht⟩) t_nil2 d_R_sourceFor_33
  exact loop_3 9 1 8 1 ls (⟨by omega, by omega, rfl, rfl⟩) (lv_sub hl [1, 2, 3, 4, 0] rfl)
end
section

theorem arr_cg {cA : ClassId} {n : Nat} {f f' : Nat → Int32} (e : ∀ j, j < n → f j = f' j) : vp_cell cA (n, .inl f) = vp_cell cA (n, .inl f') := by
  rw [vp_cell_i, vp_cell_i, arrV, arrV]
  congr 2
  funext j
  rw [e j.val j.isLt]
/-- an array's contents may be told otherwise, place by place the same -/
theorem ba_cg {D : va_G} {cl : List vw_C} {w1 w2 : va_W} {H : Heap} {q : Nat} {cA : ClassId} {n : Nat} {f f' : Nat → Int32} (e : ∀ j, j < n → f j = f' j) (h : va_P D cl (w1 ++ (q, .inl (cA, n, .inl f)) :: w2) H) : va_P D cl (w1 ++ (q, .inl (cA, n, .inl f')) :: w2) H := by
  refine ba_P.mpr fun z hz => ?_
  rcases List.mem_append.mp hz with hz | hz
  · exact ba_P.mp h z (List.mem_append_left _ hz)
  · rcases List.mem_cons.mp hz with hz | hz
    · subst hz
      have := ba_P.mp h (q, .inl (cA, n, .inl f)) (List.mem_append_right _ List.mem_cons_self)
      show H[q]? = some (vp_cell cA (n, .inl f'))
      rw [← arr_cg e]; exact this
    · exact ba_P.mp h z (List.mem_append_right _ (List.mem_cons_of_mem _ hz))
theorem ba_cgD {A : Nat → Prop} {w1 w2 : va_W} {q : Nat} {x x' : va_E} (h : va_D A (w1 ++ (q, x) :: w2)) : va_D A (w1 ++ (q, x') :: w2) := by
  obtain ⟨h1, h2⟩ := ba_D.mp h
  refine ba_D.mpr ⟨by rw [List.map_append, List.map_cons] at h1 ⊢; exact h1, fun z hz => ?_⟩
  rcases List.mem_append.mp hz with hz | hz
  · exact h2 z (List.mem_append_left _ hz)
  · rcases List.mem_cons.mp hz with hz | hz
    · subst hz; exact h2 (q, x) (List.mem_append_right _ List.mem_cons_self)
    · exact h2 z (List.mem_append_right _ (List.mem_cons_of_mem _ hz))
/-- one place of FILLED -/
def fs (n : Nat) (S a : Int) (j : Nat) (t : (Nat → Int32) × (Nat → Int32) × Nat) : (Nat → Int32) × (Nat → Int32) × Nat :=
  if t.1 j = -1 then (if hs n (src n t.1 t.2.1 j S a) then (upd t.1 j (t.1 (src n t.1 t.2.1 j S a).toNat), upd t.2.1 j 1, t.2.2 + 1) else t) else t
/-- FILLED, the first j places -/
def fl (n : Nat) (S a : Int) (d g : Nat → Int32) : Nat → (Nat → Int32) × (Nat → Int32) × Nat
  | 0 => (d, g, 0)
  | j + 1 => fs n S a j (fl n S a d g j)
theorem fs_1 {n : Nat} {S a : Int} {j : Nat} {d g : Nat → Int32} {c : Nat} (hj : j < 2 ^ 20) (h : ¬ d (nI j).toNatClampNeg = -1) : fs n S a j (d, g, c) = (d, g, c) := by
  rw [nI_clamp (by omega)] at h
  rw [fs, if_neg h]
theorem fs_2 {n : Nat} {S a : Int} {j : Nat} {d g : Nat → Int32} {c : Nat} {r : Int32} (hj : j < 2 ^ 20) (h : d (nI j).toNatClampNeg = -1) (hr : r.toInt = src n d g j S a) (h2 : bI (hs n r.toInt) = 0) : fs n S a j (d, g, c) = (d, g, c) := by
  rw [nI_clamp (by omega)] at h
  rw [hr] at h2
  rw [fs, if_pos h, if_neg (by rw [bI_eq0 h2]; decide)]
theorem fs_3 {n : Nat} {S a : Int} {j : Nat} {d g : Nat → Int32} {c : Nat} {r : Int32} (hj : j < 2 ^ 20) (h : d (nI j).toNatClampNeg = -1) (hr : r.toInt = src n d g j S a) (h2 : ¬ bI (hs n r.toInt) = 0) : fs n S a j (d, g, c) = (upd d j (d r.toNatClampNeg), upd g j 1, c + 1) := by
  rw [nI_clamp (by omega)] at h
  rw [hr] at h2
  rw [fs, if_pos h, if_pos (bI_ne0 h2)]
  show (upd d j (d (src n d g j S a).toNat), upd g j 1, c + 1) = _
  rw [← hr]; rfl
theorem gj_out {n j : Nat} (hn : n < 2 ^ 20) (h : j ≤ n) (c : nI n ≤ nI j) : j = n := by
  have := (nI_leI (by omega) (by omega)).mp c
  omega
theorem gj_in {n j : Nat} (hn : n < 2 ^ 20) (h : j ≤ n) (c : ¬ nI n ≤ nI j) : j < n := by
  rcases Nat.lt_or_ge j n with q | q
  · exact q
  · exact absurd (nI_le q (by omega)) c
theorem gj_v {n j : Nat} (hn : n < 2 ^ 20) (h : j ≤ n) (c : ¬ nI n ≤ nI j) : vp_in (nI j) n := vp_in_nI (gj_in hn h c) (by omega)
/-- one place of forgetting -/
def lg (j : Nat) (t : (Nat → Int32) × (Nat → Int32) × Nat) : (Nat → Int32) × (Nat → Int32) × Nat := if t.2.1 j = 0 then t else (upd t.1 j (-1), upd t.2.1 j 0, t.2.2 + 1)
def lgs (d g : Nat → Int32) : Nat → (Nat → Int32) × (Nat → Int32) × Nat
  | 0 => (d, g, 0)
  | j + 1 => lg j (lgs d g j)
theorem lg_1 {j : Nat} {d g : Nat → Int32} {c : Nat} (hj : j < 2 ^ 20) (h : g (nI j).toNatClampNeg = 0) : lg j (d, g, c) = (d, g, c) := by
  rw [nI_clamp (by omega)] at h
  rw [lg, if_pos h]
theorem lg_2 {j : Nat} {d g : Nat → Int32} {c : Nat} (hj : j < 2 ^ 20) (h : ¬ g (nI j).toNatClampNeg = 0) : lg j (d, g, c) = (upd d j (-1), upd g j 0, c + 1) := by
  rw [nI_clamp (by omega)] at h
  rw [lg, if_neg h]
theorem not_hs_m1 {n : Nat} (h : ¬ bI (hs n (-1 : Int32).toInt) = 0) : False := h (by rw [show hs n (-1 : Int32).toInt = false by rw [im1]; simp [hs]]; rfl)

set_option maxHeartbeats 4000000 in
set_option maxRecDepth 100000 in
/-- Row.put(k, v) at a place -/
theorem c_R_put_ok (l : Launch) (D : va_G) (cI cZ cJ cO : ClassId) (sz : Nat) (h0 da ga : Nat) (n : Nat) (d g : Nat → Int32) (hn : n < 2 ^ 31) (k v : Int32) (hk : hs n k.toInt = true) : Met l y_R_put (wq y_R_put c_R_put 3 none) ({ frames := 1, cells := 0, slots := 0, locals := 21 }) (mP D (TY cI cZ cJ cO) [(h0, .inr (2, [.ref da, .ref ga])), (da, .inl (cI, n, .inl d)), (ga, .inl (cZ, n, .inl g))] [.ref h0, .int k, .int v] sz) (va_Qv (fun (u : va_W) => u = [(h0, .inr (2, [.ref da, .ref ga])), (da, .inl (cI, n, .inl (upd d k.toNatClampNeg v))), (ga, .inl (cZ, n, .inl (upd g k.toNatClampNeg 0)))]) (mB D (TY cI cZ cJ cO) (va_A [(h0, .inr (2, [.ref da, .ref ga])), (da, .inl (cI, n, .inl d)), (ga, .inl (cZ, n, .inl g))] sz)) (va_A [(h0, .inr (2, [.ref da, .ref ga])), (da, .inl (cI, n, .inl d)), (ga, .inl (cZ, n, .inl g))] sz)) 0 0 (va_A [(h0, .inr (2, [.ref da, .ref ga])), (da, .inl (cI, n, .inl d)), (ga, .inl (cZ, n, .inl g))] sz) := by
  refine Met.ofW (cc := c_R_put) (maxL := 3) (ret := none) (by decide) rfl ?_
  intro p e s m args below meth c s₁ B hml hv
  obtain ⟨rfl, hsz, hP, hK, hD0, hN⟩ := hv
  have hx := B.exec
  have hb := B.bytes
  have hr := B.returns
  have hg := gt_h (atoms_spec (ws := (wq y_R_put c_R_put 3 none)) B.pre)
  have hown : s.vm.findClass "RubbingMirrors$Row" = some m.cls := findClass_of_methodNamed B.named
  have hlocks := B.notSynchronized
  subst hsz
  have hD := hD0.self (sz := s.heap.size)
  generalize hAe : va_A [(h0, .inr (2, [.ref da, .ref ga])), (da, .inl (cI, n, .inl d)), (ga, .inl (cZ, n, .inl g))] s.heap.size = A at hD ⊢
  have hA : ∀ q : Nat, s.heap.size ≤ q → A q := fun q h => by rw [← hAe]; exact Or.inr h
  have hS : va_S A s.heap s.heap [] := va_S.rf
  have hl := lv_entry ([.ref h0, .int k, .int v]) (n := 3) (Nat.le_of_ble_eq_true rfl)
  rw [lg_entry_eq]
  generalize (lg_sl ([.ref h0, .int k, .int v]) ++ List.replicate (3 - (lg_sl ([.ref h0, .int k, .int v])).length) Slot.unset).toArray = ls at hl ⊢
  have hl : lv_has ls 3 [(0, .ref h0), (1, .int k), (2, .int v)] := hl
  refine lv_aload_n hx hb d_R_put_0 rfl (lv_at hl 0 rfl) ?_
  refine lv_iload_n hx hb d_R_put_1 rfl (lv_at hl 1 rfl) ?_
  refine vp_callSi (va_Run.run (va_runV (As := [.int k]) (rest := []) ⟨hx, hb, hml, hown, hg⟩ (c_R_has_ok l D cI cZ cJ cO h0 da ga n d g hn k) (cwV 1 hg (gv g_256 g_162 g_163 g_23 g_164) rfl rfl rfl (by decide +kernel) ⟨Nat.le_of_ble_eq_true rfl, Nat.le_of_ble_eq_true rfl⟩) (pV hP hK hN (va_recv hK hP (ci := 2) (q0 := 0) rfl rfl)) rfl rfl hl.1 rfl (lv_room (Nat.le_of_ble_eq_true rfl)) d_R_put_2 ⟨Nat.zero_le _, Nat.zero_le _⟩)) (fun r_1 hr_1 => ?_)
  subst hr_1
  refine lv_if_eq (tgt := 22) hx hb d_R_put_5 (by decide) (fun c_5 => ?_) (fun c_5 => ?_)
  · exact absurd (bI_eq0 c_5) (by rw [hk]; decide)
  · refine lv_aload_n hx hb d_R_put_8 rfl (lv_at hl 0 rfl) ?_
    refine va_get (D := D) (ci := 2) (v := .ref da) (C := Q_R) (T := F_R) (N := 2) hx hb hg in_R hown hK hP 0 rfl rfl 0 (by decide) (hg _ g_116) (fun _ h9 => h9) rfl d_R_put_9 ?_
    refine lv_iload_n hx hb d_R_put_12 rfl (lv_at hl 1 rfl) ?_
    refine lv_iload_n hx hb d_R_put_13 rfl (lv_at hl 2 rfl) ?_
    refine va_iast hx hb hK hP hD hS 1 0 rfl rfl (hs_in hk) d_R_put_14 (fun H locs hP hD hS => ?_)
    have hP : va_P D cls [(h0, .inr (2, [.ref da, .ref ga])), (da, .inl (cI, n, .inl (upd d k.toNatClampNeg v))), (ga, .inl (cZ, n, .inl g))] H := hP
    have hD : va_D A [(h0, .inr (2, [.ref da, .ref ga])), (da, .inl (cI, n, .inl (upd d k.toNatClampNeg v))), (ga, .inl (cZ, n, .inl g))] := hD
    refine lv_aload_n hx hb d_R_put_15 rfl (lv_at hl 0 rfl) ?_
    refine va_get (D := D) (ci := 2) (v := .ref ga) (C := Q_R) (T := F_R) (N := 2) hx hb hg in_R hown hK hP 0 rfl rfl 1 (by decide) (hg _ g_117) (fun _ h9 => h9) rfl d_R_put_16 ?_
    refine lv_iload_n hx hb d_R_put_19 rfl (lv_at hl 1 rfl) ?_
    refine lv_iconst (v := 0) hx hb d_R_put_20 (by decide) ?_
    refine va_zast hx hb hK hP hD hS 2 1 rfl rfl (hs_in hk) d_R_put_21 (fun H locs hP hD hS => ?_)
    have hP : va_P D cls [(h0, .inr (2, [.ref da, .ref ga])), (da, .inl (cI, n, .inl (upd d k.toNatClampNeg v))), (ga, .inl (cZ, n, .inl (upd g k.toNatClampNeg 0)))] H := hP
    have hD : va_D A [(h0, .inr (2, [.ref da, .ref ga])), (da, .inl (cI, n, .inl (upd d k.toNatClampNeg v))), (ga, .inl (cZ, n, .inl (upd g k.toNatClampNeg 0)))] := hD
    exact W.vret hx hb hr (fun t9 ht hW => ⟨⟨[(h0, .inr (2, [.ref da, .ref ga])), (da, .inl (cI, n, .inl (upd d k.toNatClampNeg v))), (ga, .inl (cZ, n, .inl (upd g k.toNatClampNeg 0)))], rfl, rfl, by rw [ht]; exact hP, va_K.moved hW.alike hK, hD⟩, hS.F ht⟩) hS.2.2 d_R_put_22

set_option maxHeartbeats 4000000 in
set_option maxRecDepth 100000 in
/-- Row.guessLost(step, a) -/
theorem c_R_guessLost_ok (l : Launch) (D : va_G) (cI cZ cJ cO : ClassId) (sz : Nat) (h0 da ga : Nat) (n : Nat) (d g : Nat → Int32) (hn : n < 2 ^ 20) (S : Nat) (a : Int32) (hS9 : S < 2 ^ 20) (ha1 : -1 ≤ a.toInt) (ha2 : a.toInt < 2 ^ 20) : Met l y_R_guessLost (wq y_R_guessLost c_R_guessLost 6 (some .int)) ({ frames := 3, cells := 0, slots := 0, locals := 66 }) (mP D (TY cI cZ cJ cO) [(h0, .inr (2, [.ref da, .ref ga])), (da, .inl (cI, n, .inl d)), (ga, .inl (cZ, n, .inl g))] [.ref h0, .int (nI S), .int a] sz) (va_Qi (fun (r : Int32) (u : va_W) => r = nI (fl n S a.toInt d g n).2.2 ∧ u = [(h0, .inr (2, [.ref da, .ref ga])), (da, .inl (cI, n, .inl ((fl n S a.toInt d g n).1))), (ga, .inl (cZ, n, .inl ((fl n S a.toInt d g n).2.1)))]) (mB D (TY cI cZ cJ cO) (va_A [(h0, .inr (2, [.ref da, .ref ga])), (da, .inl (cI, n, .inl d)), (ga, .inl (cZ, n, .inl g))] sz)) (va_A [(h0, .inr (2, [.ref da, .ref ga])), (da, .inl (cI, n, .inl d)), (ga, .inl (cZ, n, .inl g))] sz)) 0 0 (va_A [(h0, .inr (2, [.ref da, .ref ga])), (da, .inl (cI, n, .inl d)), (ga, .inl (cZ, n, .inl g))] sz) := by
  refine Met.ofW (cc := c_R_guessLost) (maxL := 6) (ret := (some .int)) (by decide) rfl ?_
  intro p e s m args below meth c s₁ B hml hv
  obtain ⟨rfl, hsz, hP, hK, hD0, hN⟩ := hv
  have hx := B.exec
  have hb := B.bytes
  have hr := B.returns
  have hg := gt_h (atoms_spec (ws := (wq y_R_guessLost c_R_guessLost 6 (some .int))) B.pre)
  have hown : s.vm.findClass "RubbingMirrors$Row" = some m.cls := findClass_of_methodNamed B.named
  have hlocks := B.notSynchronized
  subst hsz
  have hD := hD0.self (sz := s.heap.size)
  generalize hAe : va_A [(h0, .inr (2, [.ref da, .ref ga])), (da, .inl (cI, n, .inl d)), (ga, .inl (cZ, n, .inl g))] s.heap.size = A at hD ⊢
  have hA : ∀ q : Nat, s.heap.size ≤ q → A q := fun q h => by rw [← hAe]; exact Or.inr h
  have hS : va_S A s.heap s.heap [] := va_S.rf
  have hl := lv_entry ([.ref h0, .int (nI S), .int a]) (n := 6) (Nat.le_of_ble_eq_true rfl)
  rw [lg_entry_eq]
  generalize (lg_sl ([.ref h0, .int (nI S), .int a]) ++ List.replicate (6 - (lg_sl ([.ref h0, .int (nI S), .int a])).length) Slot.unset).toArray = ls at hl ⊢
  have hl : lv_has ls 6 [(0, .ref h0), (1, .int (nI S)), (2, .int a)] := hl
  refine lv_iconst (v := 0) hx hb d_R_guessLost_0 (by decide) ?_
  refine lv_istore_n (lv' := [(3, .int 0), (0, .ref h0), (1, .int (nI S)), (2, .int a)]) hx hb d_R_guessLost_1 rfl hl (by decide) rfl (fun ls hl => ?_)
  refine lv_iconst (v := 0) hx hb d_R_guessLost_2 (by decide) ?_
  refine lv_istore (lv' := [(4, .int 0), (3, .int 0), (0, .ref h0), (1, .int (nI S)), (2, .int a)]) hx hb d_R_guessLost_3 hl (by decide) rfl (fun ls hl => ?_)
  have loop_5 : ∀ (f5 : Nat) (j : Nat) (d1 g1 : Nat → Int32) (c1 : Nat) (x3 : Int32) (x4 : Int32) (H : Heap) (locs : List Loc) (ls : Array Slot), (j ≤ n ∧ n < j + f5 ∧ x3 = nI c1 ∧ x4 = nI j ∧ (d1, g1, c1) = fl n S a.toInt d g j) → va_P D cls [(h0, .inr (2, [.ref da, .ref ga])), (da, .inl (cI, n, .inl d1)), (ga, .inl (cZ, n, .inl g1))] H → va_D A [(h0, .inr (2, [.ref da, .ref ga])), (da, .inl (cI, n, .inl d1)), (ga, .inl (cZ, n, .inl g1))] → va_S A s.heap H locs → lv_has ls 6 [(0, .ref h0), (1, .int (nI S)), (2, .int a), (3, .int x3), (4, .int x4)] → W p l e (headSpec (wq y_R_guessLost c_R_guessLost 6 (some .int)) ({ frames := 3, cells := 0, slots := 0, locals := 66 })).room s m ([.ref h0, .int (nI S), .int a] : List Value).toArray below meth c H locs 0 0 (MQ below (va_Qi (fun (r : Int32) (u : va_W) => r = nI (fl n S a.toInt d g n).2.2 ∧ u = [(h0, .inr (2, [.ref da, .ref ga])), (da, .inl (cI, n, .inl ((fl n S a.toInt d g n).1))), (ga, .inl (cZ, n, .inl ((fl n S a.toInt d g n).2.1)))]) (mB D (TY cI cZ cJ cO) A) A) ([.ref h0, .int (nI S), .int a] : List Value).toArray s 0 0 A) (F0 m 5 ls []) := by
    intro f5
    induction f5 with
    | zero =>
      intro j d1 g1 c1 x3 x4 H locs ls hI hP hD hS hl
      obtain ⟨hj1, hj2, rfl, rfl, hq⟩ := hI
      omega
    | succ f5 ih5 =>
      intro j d1 g1 c1 x3 x4 H locs ls hI hP hD hS hl
      obtain ⟨hj1, hj2, rfl, rfl, hq⟩ := hI
      refine lv_iload hx hb d_R_guessLost_5 (lv_at hl 4 rfl) ?_
      refine lv_aload_n hx hb d_R_guessLost_7 rfl (lv_at hl 0 rfl) ?_
      refine va_get (D := D) (ci := 2) (v := .ref da) (C := Q_R) (T := F_R) (N := 2) hx hb hg in_R hown hK hP 0 rfl rfl 0 (by decide) (hg _ g_116) (fun _ h9 => h9) rfl d_R_guessLost_8 ?_
      refine va_alen (v := nI n) hx hb hK hP 1 0 rfl rfl rfl d_R_guessLost_11 ?_
      refine lv_icmp_ge (tgt := 80) hx hb d_R_guessLost_12 (by decide) (fun c_12 => ?_) (fun c_12 => ?_)
      · refine lv_iload_n hx hb d_R_guessLost_80 rfl (lv_at hl 3 rfl) ?_
        exact W.iret hx hb hr (fun t9 ht hW => ⟨⟨_, [(h0, .inr (2, [.ref da, .ref ga])), (da, .inl (cI, n, .inl d1)), (ga, .inl (cZ, n, .inl g1))], rfl, (by rw [gj_out hn hj1 c_12] at hq; rw [← hq]; exact ⟨rfl, rfl⟩), by rw [ht]; exact hP, va_K.moved hW.alike hK, hD⟩, hS.F ht⟩) hS.2.2 d_R_guessLost_81
      · refine lv_aload_n hx hb d_R_guessLost_15 rfl (lv_at hl 0 rfl) ?_
        refine va_get (D := D) (ci := 2) (v := .ref da) (C := Q_R) (T := F_R) (N := 2) hx hb hg in_R hown hK hP 0 rfl rfl 0 (by decide) (hg _ g_116) (fun _ h9 => h9) rfl d_R_guessLost_16 ?_
        refine lv_iload hx hb d_R_guessLost_19 (lv_at hl 4 rfl) ?_
        refine va_iald hx hb hK hP 1 0 rfl rfl (gj_v hn hj1 c_12) d_R_guessLost_21 ?_
        refine lv_iconst (v := (-1)) hx hb d_R_guessLost_22 (by decide) ?_
        refine lv_icmp_ne (tgt := 37) hx hb d_R_guessLost_23 (by decide) (fun c_23 => ?_) (fun c_23 => ?_)
        · refine lv_iconst (v := (-1)) hx hb d_R_guessLost_37 (by decide) ?_
          refine lv_istore (lv' := [(5, .int (-1)), (0, .ref h0), (1, .int (nI S)), (2, .int a), (3, .int (nI c1)), (4, .int (nI j))]) hx hb d_R_guessLost_38 hl (by decide) rfl (fun ls hl => ?_)
          refine lv_aload_n hx hb d_R_guessLost_40 rfl (lv_at hl 1 rfl) ?_
          refine lv_iload hx hb d_R_guessLost_41 (lv_at hl 0 rfl) ?_
          refine vp_callSi (va_Run.run (va_runV (As := [.int (-1)]) (rest := []) ⟨hx, hb, hml, hown, hg⟩ (c_R_has_ok l D cI cZ cJ cO h0 da ga n d1 g1 (by omega) (-1)) (cwV 1 hg (gv g_256 g_162 g_163 g_23 g_164) rfl rfl rfl (by decide +kernel) ⟨Nat.le_of_ble_eq_true rfl, Nat.le_of_ble_eq_true rfl⟩) (pV hP hK hN (va_recv hK hP (ci := 2) (q0 := 0) rfl rfl)) rfl rfl hl.1 rfl (lv_room (Nat.le_of_ble_eq_true rfl)) d_R_guessLost_43 ⟨Nat.zero_le _, Nat.zero_le _⟩)) (fun r_1 hr_1 => ?_)
          subst hr_1
          refine lv_if_eq (tgt := 74) hx hb d_R_guessLost_46 (by decide) (fun c_46 => ?_) (fun c_46 => ?_)
          · refine lv_iinc (v := (nI j) + 1) (lv' := [(4, .int ((nI j) + 1)), (5, .int (-1)), (0, .ref h0), (1, .int (nI S)), (2, .int a), (3, .int (nI c1))]) hx hb d_R_guessLost_74 hl (k := 5) rfl rfl (by decide) rfl (fun ls hl => ?_)
            refine lv_goto (tgt := 5) hx hb d_R_guessLost_77 (by decide) ?_
            exact ih5 (j + 1) d1 g1 c1 (nI c1) ((nI j) + 1) _ _ ls (⟨by have := gj_in hn hj1 c_12; omega, by omega, rfl, nI_1 j, by rw [fl, ← hq]; exact (fs_1 (by omega) c_23).symm⟩) hP hD hS (lv_sub hl [2, 3, 4, 5, 0] rfl)
          · exact (not_hs_m1 c_46).elim
        · refine lv_aload_n hx hb d_R_guessLost_26 rfl (lv_at hl 0 rfl) ?_
          refine lv_iload hx hb d_R_guessLost_27 (lv_at hl 4 rfl) ?_
          refine lv_iload_n hx hb d_R_guessLost_29 rfl (lv_at hl 1 rfl) ?_
          refine lv_iload_n hx hb d_R_guessLost_30 rfl (lv_at hl 2 rfl) ?_
          refine vp_callSi (va_Run.run (va_runV (As := [.int (nI j), .int (nI S), .int a]) (rest := []) ⟨hx, hb, hml, hown, hg⟩ (c_R_sourceFor_ok l D cI cZ cJ cO h0 da ga n d1 g1 hn j S a (by omega) hS9 ha1 ha2) (cwV 3 hg (gv g_366 g_368 g_3 g_23 g_369) rfl rfl rfl (by decide +kernel) ⟨Nat.le_of_ble_eq_true rfl, Nat.le_of_ble_eq_true rfl⟩) (pV hP hK hN (va_recv hK hP (ci := 2) (q0 := 0) rfl rfl)) rfl rfl hl.1 rfl (lv_room (Nat.le_of_ble_eq_true rfl)) d_R_guessLost_31 ⟨Nat.zero_le _, Nat.zero_le _⟩)) (fun r_2 hr_2 => ?_)
          refine lv_goto (tgt := 38) hx hb d_R_guessLost_34 (by decide) ?_
          refine lv_istore (lv' := [(5, .int r_2), (0, .ref h0), (1, .int (nI S)), (2, .int a), (3, .int (nI c1)), (4, .int (nI j))]) hx hb d_R_guessLost_38 hl (by decide) rfl (fun ls hl => ?_)
          refine lv_aload_n hx hb d_R_guessLost_40 rfl (lv_at hl 1 rfl) ?_
          refine lv_iload hx hb d_R_guessLost_41 (lv_at hl 0 rfl) ?_
          refine vp_callSi (va_Run.run (va_runV (As := [.int r_2]) (rest := []) ⟨hx, hb, hml, hown, hg⟩ (c_R_has_ok l D cI cZ cJ cO h0 da ga n d1 g1 (by omega) r_2) (cwV 1 hg (gv g_256 g_162 g_163 g_23 g_164) rfl rfl rfl (by decide +kernel) ⟨Nat.le_of_ble_eq_true rfl, Nat.le_of_ble_eq_true rfl⟩) (pV hP hK hN (va_recv hK hP (ci := 2) (q0 := 0) rfl rfl)) rfl rfl hl.1 rfl (lv_room (Nat.le_of_ble_eq_true rfl)) d_R_guessLost_43 ⟨Nat.zero_le _, Nat.zero_le _⟩)) (fun r_3 hr_3 => ?_)
          subst hr_3
          refine lv_if_eq (tgt := 74) hx hb d_R_guessLost_46 (by decide) (fun c_46 => ?_) (fun c_46 => ?_)
          · refine lv_iinc (v := (nI j) + 1) (lv' := [(4, .int ((nI j) + 1)), (5, .int r_2), (0, .ref h0), (1, .int (nI S)), (2, .int a), (3, .int (nI c1))]) hx hb d_R_guessLost_74 hl (k := 5) rfl rfl (by decide) rfl (fun ls hl => ?_)
            refine lv_goto (tgt := 5) hx hb d_R_guessLost_77 (by decide) ?_
            exact ih5 (j + 1) d1 g1 c1 (nI c1) ((nI j) + 1) _ _ ls (⟨by have := gj_in hn hj1 c_12; omega, by omega, rfl, nI_1 j, by rw [fl, ← hq]; exact (fs_2 (by omega) c_23 hr_2 c_46).symm⟩) hP hD hS (lv_sub hl [2, 3, 4, 5, 0] rfl)
          · refine lv_aload_n hx hb d_R_guessLost_49 rfl (lv_at hl 1 rfl) ?_
            refine va_get (D := D) (ci := 2) (v := .ref da) (C := Q_R) (T := F_R) (N := 2) hx hb hg in_R hown hK hP 0 rfl rfl 0 (by decide) (hg _ g_116) (fun _ h9 => h9) rfl d_R_guessLost_50 ?_
            refine lv_iload hx hb d_R_guessLost_53 (lv_at hl 5 rfl) ?_
            refine lv_aload_n hx hb d_R_guessLost_55 rfl (lv_at hl 1 rfl) ?_
            refine va_get (D := D) (ci := 2) (v := .ref da) (C := Q_R) (T := F_R) (N := 2) hx hb hg in_R hown hK hP 0 rfl rfl 0 (by decide) (hg _ g_116) (fun _ h9 => h9) rfl d_R_guessLost_56 ?_
            refine lv_iload hx hb d_R_guessLost_59 (lv_at hl 0 rfl) ?_
            refine va_iald hx hb hK hP 1 0 rfl rfl (hs_in (bI_ne0 c_46)) d_R_guessLost_61 ?_
            refine va_iast hx hb hK hP hD hS 1 0 rfl rfl (gj_v hn hj1 c_12) d_R_guessLost_62 (fun H locs hP hD hS => ?_)
            rw [nI_clamp (show j < 2 ^ 31 by omega)] at hP hD
            have hP : va_P D cls [(h0, .inr (2, [.ref da, .ref ga])), (da, .inl (cI, n, .inl (upd d1 j (d1 r_2.toNatClampNeg)))), (ga, .inl (cZ, n, .inl g1))] H := hP
            have hD : va_D A [(h0, .inr (2, [.ref da, .ref ga])), (da, .inl (cI, n, .inl (upd d1 j (d1 r_2.toNatClampNeg)))), (ga, .inl (cZ, n, .inl g1))] := hD
            refine lv_aload_n hx hb d_R_guessLost_63 rfl (lv_at hl 1 rfl) ?_
            refine va_get (D := D) (ci := 2) (v := .ref ga) (C := Q_R) (T := F_R) (N := 2) hx hb hg in_R hown hK hP 0 rfl rfl 1 (by decide) (hg _ g_117) (fun _ h9 => h9) rfl d_R_guessLost_64 ?_
            refine lv_iload hx hb d_R_guessLost_67 (lv_at hl 5 rfl) ?_
            refine lv_iconst (v := 1) hx hb d_R_guessLost_69 (by decide) ?_
            refine va_zast hx hb hK hP hD hS 2 1 rfl rfl (gj_v hn hj1 c_12) d_R_guessLost_70 (fun H locs hP hD hS => ?_)
            rw [nI_clamp (show j < 2 ^ 31 by omega)] at hP hD
            have hP : va_P D cls [(h0, .inr (2, [.ref da, .ref ga])), (da, .inl (cI, n, .inl (upd d1 j (d1 r_2.toNatClampNeg)))), (ga, .inl (cZ, n, .inl (upd g1 j 1)))] H := hP
            have hD : va_D A [(h0, .inr (2, [.ref da, .ref ga])), (da, .inl (cI, n, .inl (upd d1 j (d1 r_2.toNatClampNeg)))), (ga, .inl (cZ, n, .inl (upd g1 j 1)))] := hD
            refine lv_iinc (v := (nI c1) + 1) (lv' := [(3, .int ((nI c1) + 1)), (5, .int r_2), (0, .ref h0), (1, .int (nI S)), (2, .int a), (4, .int (nI j))]) hx hb d_R_guessLost_71 hl (k := 4) rfl rfl (by decide) rfl (fun ls hl => ?_)
            refine lv_iinc (v := (nI j) + 1) (lv' := [(4, .int ((nI j) + 1)), (3, .int ((nI c1) + 1)), (5, .int r_2), (0, .ref h0), (1, .int (nI S)), (2, .int a)]) hx hb d_R_guessLost_74 hl (k := 5) rfl rfl (by decide) rfl (fun ls hl => ?_)
            refine lv_goto (tgt := 5) hx hb d_R_guessLost_77 (by decide) ?_
            exact ih5 (j + 1) (upd d1 j (d1 r_2.toNatClampNeg)) (upd g1 j 1) (c1 + 1) ((nI c1) + 1) ((nI j) + 1) _ _ ls (⟨by have := gj_in hn hj1 c_12; omega, by omega, nI_1 c1, nI_1 j, by rw [fl, ← hq]; exact (fs_3 (by omega) c_23 hr_2 c_46).symm⟩) hP hD hS (lv_sub hl [3, 4, 5, 1, 0] rfl)
  exact loop_5 (n + 1) 0 d g 0 0 0 _ _ ls (⟨by omega, by omega, rfl, rfl, rfl⟩) hP hD hS (lv_sub hl [2, 3, 4, 1, 0] rfl)

set_option maxHeartbeats 4000000 in
set_option maxRecDepth 100000 in
/-- Row.loseGuesses() -/
theorem c_R_loseGuesses_ok (l : Launch) (D : va_G) (cI cZ cJ cO : ClassId) (sz : Nat) (h0 da ga : Nat) (n : Nat) (d g : Nat → Int32) (hn : n < 2 ^ 20) : Met l y_R_loseGuesses (wq y_R_loseGuesses c_R_loseGuesses 3 (some .int)) ({ frames := 0, cells := 0, slots := 0, locals := 0 }) (mP D (TY cI cZ cJ cO) [(h0, .inr (2, [.ref da, .ref ga])), (da, .inl (cI, n, .inl d)), (ga, .inl (cZ, n, .inl g))] [.ref h0] sz) (va_Qi (fun (r : Int32) (u : va_W) => r = nI (lgs d g n).2.2 ∧ u = [(h0, .inr (2, [.ref da, .ref ga])), (da, .inl (cI, n, .inl ((lgs d g n).1))), (ga, .inl (cZ, n, .inl ((lgs d g n).2.1)))]) (mB D (TY cI cZ cJ cO) (va_A [(h0, .inr (2, [.ref da, .ref ga])), (da, .inl (cI, n, .inl d)), (ga, .inl (cZ, n, .inl g))] sz)) (va_A [(h0, .inr (2, [.ref da, .ref ga])), (da, .inl (cI, n, .inl d)), (ga, .inl (cZ, n, .inl g))] sz)) 0 0 (va_A [(h0, .inr (2, [.ref da, .ref ga])), (da, .inl (cI, n, .inl d)), (ga, .inl (cZ, n, .inl g))] sz) := by
  refine Met.ofW (cc := c_R_loseGuesses) (maxL := 3) (ret := (some .int)) (by decide) rfl ?_
  intro p e s m args below meth c s₁ B hml hv
  obtain ⟨rfl, hsz, hP, hK, hD0, hN⟩ := hv
  have hx := B.exec
  have hb := B.bytes
  have hr := B.returns
  have hg := gt_h (atoms_spec (ws := (wq y_R_loseGuesses c_R_loseGuesses 3 (some .int))) B.pre)
  have hown : s.vm.findClass "RubbingMirrors$Row" = some m.cls := findClass_of_methodNamed B.named
  have hlocks := B.notSynchronized
  subst hsz
  have hD := hD0.self (sz := s.heap.size)
  generalize hAe : va_A [(h0, .inr (2, [.ref da, .ref ga])), (da, .inl (cI, n, .inl d)), (ga, .inl (cZ, n, .inl g))] s.heap.size = A at hD ⊢
  have hA : ∀ q : Nat, s.heap.size ≤ q → A q := fun q h => by rw [← hAe]; exact Or.inr h
  have hS : va_S A s.heap s.heap [] := va_S.rf
  have hl := lv_entry ([.ref h0]) (n := 3) (Nat.le_of_ble_eq_true rfl)
  rw [lg_entry_eq]
  generalize (lg_sl ([.ref h0]) ++ List.replicate (3 - (lg_sl ([.ref h0])).length) Slot.unset).toArray = ls at hl ⊢
  have hl : lv_has ls 3 [(0, .ref h0)] := hl
  refine lv_iconst (v := 0) hx hb d_R_loseGuesses_0 (by decide) ?_
  refine lv_istore_n (lv' := [(1, .int 0), (0, .ref h0)]) hx hb d_R_loseGuesses_1 rfl hl (by decide) rfl (fun ls hl => ?_)
  refine lv_iconst (v := 0) hx hb d_R_loseGuesses_2 (by decide) ?_
  refine lv_istore_n (lv' := [(2, .int 0), (1, .int 0), (0, .ref h0)]) hx hb d_R_loseGuesses_3 rfl hl (by decide) rfl (fun ls hl => ?_)
  have loop_4 : ∀ (f4 : Nat) (j : Nat) (d1 g1 : Nat → Int32) (c1 : Nat) (x1 : Int32) (x2 : Int32) (H : Heap) (locs : List Loc) (ls : Array Slot), (j ≤ n ∧ n < j + f4 ∧ x1 = nI c1 ∧ x2 = nI j ∧ (d1, g1, c1) = lgs d g j) → va_P D cls [(h0, .inr (2, [.ref da, .ref ga])), (da, .inl (cI, n, .inl d1)), (ga, .inl (cZ, n, .inl g1))] H → va_D A [(h0, .inr (2, [.ref da, .ref ga])), (da, .inl (cI, n, .inl d1)), (ga, .inl (cZ, n, .inl g1))] → va_S A s.heap H locs → lv_has ls 3 [(0, .ref h0), (1, .int x1), (2, .int x2)] → W p l e (headSpec (wq y_R_loseGuesses c_R_loseGuesses 3 (some .int)) ({ frames := 0, cells := 0, slots := 0, locals := 0 })).room s m ([.ref h0] : List Value).toArray below meth c H locs 0 0 (MQ below (va_Qi (fun (r : Int32) (u : va_W) => r = nI (lgs d g n).2.2 ∧ u = [(h0, .inr (2, [.ref da, .ref ga])), (da, .inl (cI, n, .inl ((lgs d g n).1))), (ga, .inl (cZ, n, .inl ((lgs d g n).2.1)))]) (mB D (TY cI cZ cJ cO) A) A) ([.ref h0] : List Value).toArray s 0 0 A) (F0 m 4 ls []) := by
    intro f4
    induction f4 with
    | zero =>
      intro j d1 g1 c1 x1 x2 H locs ls hI hP hD hS hl
      obtain ⟨hj1, hj2, rfl, rfl, hq⟩ := hI
      omega
    | succ f4 ih4 =>
      intro j d1 g1 c1 x1 x2 H locs ls hI hP hD hS hl
      obtain ⟨hj1, hj2, rfl, rfl, hq⟩ := hI
      refine lv_iload_n hx hb d_R_loseGuesses_4 rfl (lv_at hl 2 rfl) ?_
      refine lv_aload_n hx hb d_R_loseGuesses_5 rfl (lv_at hl 0 rfl) ?_
      refine va_get (D := D) (ci := 2) (v := .ref da) (C := Q_R) (T := F_R) (N := 2) hx hb hg in_R hown hK hP 0 rfl rfl 0 (by decide) (hg _ g_116) (fun _ h9 => h9) rfl d_R_loseGuesses_6 ?_
      refine va_alen (v := nI n) hx hb hK hP 1 0 rfl rfl rfl d_R_loseGuesses_9 ?_
      refine lv_icmp_ge (tgt := 45) hx hb d_R_loseGuesses_10 (by decide) (fun c_10 => ?_) (fun c_10 => ?_)
      · refine lv_iload_n hx hb d_R_loseGuesses_45 rfl (lv_at hl 1 rfl) ?_
        exact W.iret hx hb hr (fun t9 ht hW => ⟨⟨_, [(h0, .inr (2, [.ref da, .ref ga])), (da, .inl (cI, n, .inl d1)), (ga, .inl (cZ, n, .inl g1))], rfl, (by rw [gj_out hn hj1 c_10] at hq; rw [← hq]; exact ⟨rfl, rfl⟩), by rw [ht]; exact hP, va_K.moved hW.alike hK, hD⟩, hS.F ht⟩) hS.2.2 d_R_loseGuesses_46
      · refine lv_aload_n hx hb d_R_loseGuesses_13 rfl (lv_at hl 0 rfl) ?_
        refine va_get (D := D) (ci := 2) (v := .ref ga) (C := Q_R) (T := F_R) (N := 2) hx hb hg in_R hown hK hP 0 rfl rfl 1 (by decide) (hg _ g_117) (fun _ h9 => h9) rfl d_R_loseGuesses_14 ?_
        refine lv_iload_n hx hb d_R_loseGuesses_17 rfl (lv_at hl 2 rfl) ?_
        refine va_zald hx hb hK hP 2 1 rfl rfl (gj_v hn hj1 c_10) d_R_loseGuesses_18 ?_
        refine lv_if_eq (tgt := 39) hx hb d_R_loseGuesses_19 (by decide) (fun c_19 => ?_) (fun c_19 => ?_)
        · refine lv_iinc (v := (nI j) + 1) (lv' := [(2, .int ((nI j) + 1)), (0, .ref h0), (1, .int (nI c1))]) hx hb d_R_loseGuesses_39 hl (k := 2) rfl rfl (by decide) rfl (fun ls hl => ?_)
          refine lv_goto (tgt := 4) hx hb d_R_loseGuesses_42 (by decide) ?_
          exact ih4 (j + 1) d1 g1 c1 (nI c1) ((nI j) + 1) _ _ ls (⟨by have := gj_in hn hj1 c_10; omega, by omega, rfl, nI_1 j, by rw [lgs, ← hq]; exact (lg_1 (by omega) c_19).symm⟩) hP hD hS (lv_sub hl [1, 2, 0] rfl)
        · refine lv_aload_n hx hb d_R_loseGuesses_22 rfl (lv_at hl 0 rfl) ?_
          refine va_get (D := D) (ci := 2) (v := .ref da) (C := Q_R) (T := F_R) (N := 2) hx hb hg in_R hown hK hP 0 rfl rfl 0 (by decide) (hg _ g_116) (fun _ h9 => h9) rfl d_R_loseGuesses_23 ?_
          refine lv_iload_n hx hb d_R_loseGuesses_26 rfl (lv_at hl 2 rfl) ?_
          refine lv_iconst (v := (-1)) hx hb d_R_loseGuesses_27 (by decide) ?_
          refine va_iast hx hb hK hP hD hS 1 0 rfl rfl (gj_v hn hj1 c_10) d_R_loseGuesses_28 (fun H locs hP hD hS => ?_)
          rw [nI_clamp (show j < 2 ^ 31 by omega)] at hP hD
          have hP : va_P D cls [(h0, .inr (2, [.ref da, .ref ga])), (da, .inl (cI, n, .inl (upd d1 j (-1)))), (ga, .inl (cZ, n, .inl g1))] H := hP
          have hD : va_D A [(h0, .inr (2, [.ref da, .ref ga])), (da, .inl (cI, n, .inl (upd d1 j (-1)))), (ga, .inl (cZ, n, .inl g1))] := hD
          refine lv_aload_n hx hb d_R_loseGuesses_29 rfl (lv_at hl 0 rfl) ?_
          refine va_get (D := D) (ci := 2) (v := .ref ga) (C := Q_R) (T := F_R) (N := 2) hx hb hg in_R hown hK hP 0 rfl rfl 1 (by decide) (hg _ g_117) (fun _ h9 => h9) rfl d_R_loseGuesses_30 ?_
          refine lv_iload_n hx hb d_R_loseGuesses_33 rfl (lv_at hl 2 rfl) ?_
          refine lv_iconst (v := 0) hx hb d_R_loseGuesses_34 (by decide) ?_
          refine va_zast hx hb hK hP hD hS 2 1 rfl rfl (gj_v hn hj1 c_10) d_R_loseGuesses_35 (fun H locs hP hD hS => ?_)
          rw [nI_clamp (show j < 2 ^ 31 by omega)] at hP hD
          have hP : va_P D cls [(h0, .inr (2, [.ref da, .ref ga])), (da, .inl (cI, n, .inl (upd d1 j (-1)))), (ga, .inl (cZ, n, .inl (upd g1 j 0)))] H := hP
          have hD : va_D A [(h0, .inr (2, [.ref da, .ref ga])), (da, .inl (cI, n, .inl (upd d1 j (-1)))), (ga, .inl (cZ, n, .inl (upd g1 j 0)))] := hD
          refine lv_iinc (v := (nI c1) + 1) (lv' := [(1, .int ((nI c1) + 1)), (0, .ref h0), (2, .int (nI j))]) hx hb d_R_loseGuesses_36 hl (k := 1) rfl rfl (by decide) rfl (fun ls hl => ?_)
          refine lv_iinc (v := (nI j) + 1) (lv' := [(2, .int ((nI j) + 1)), (1, .int ((nI c1) + 1)), (0, .ref h0)]) hx hb d_R_loseGuesses_39 hl (k := 2) rfl rfl (by decide) rfl (fun ls hl => ?_)
          refine lv_goto (tgt := 4) hx hb d_R_loseGuesses_42 (by decide) ?_
          exact ih4 (j + 1) (upd d1 j (-1)) (upd g1 j 0) (c1 + 1) ((nI c1) + 1) ((nI j) + 1) _ _ ls (⟨by have := gj_in hn hj1 c_10; omega, by omega, nI_1 c1, nI_1 j, by rw [lgs, ← hq]; exact (lg_2 (by omega) c_19).symm⟩) hP hD hS (lv_sub hl [2, 1, 0] rfl)
  exact loop_4 (n + 1) 0 d g 0 0 0 _ _ ls (⟨by omega, by omega, rfl, rfl, rfl⟩) hP hD hS (lv_sub hl [2, 1, 0] rfl)

set_option maxHeartbeats 4000000 in
set_option maxRecDepth 100000 in
/-- Arrays.fill of ints -/
theorem c_AR_fill_ok (l : Launch) (D : va_G) (cI cZ cJ cO : ClassId) (sz : Nat) (q n : Nat) (f : Nat → Int32) (hn : n < 2 ^ 20) (v : Int32) : Met l y_AR_fill (wq y_AR_fill c_AR_fill 4 none) ({ frames := 0, cells := 0, slots := 0, locals := 0 }) (mP D (TY cI cZ cJ cO) [(q, .inl (cI, n, .inl f))] [.ref q, .int v] sz) (va_Qv (fun (u : va_W) => u = [(q, .inl (cI, n, .inl (fun _ => v)))]) (mB D (TY cI cZ cJ cO) (va_A [(q, .inl (cI, n, .inl f))] sz)) (va_A [(q, .inl (cI, n, .inl f))] sz)) 0 0 (va_A [(q, .inl (cI, n, .inl f))] sz) := by
  refine Met.ofW (cc := c_AR_fill) (maxL := 4) (ret := none) (by decide) rfl ?_
  intro p e s m args below meth c s₁ B hml hv
  obtain ⟨rfl, hsz, hP, hK, hD0, hN⟩ := hv
  have hx := B.exec
  have hb := B.bytes
  have hr := B.returns
  have hg := gt_h (atoms_spec (ws := (wq y_AR_fill c_AR_fill 4 none)) B.pre)
  have hown : s.vm.findClass "java/util/Arrays" = some m.cls := findClass_of_methodNamed B.named
  have hlocks := B.notSynchronized
  subst hsz
  have hD := hD0.self (sz := s.heap.size)
  generalize hAe : va_A [(q, .inl (cI, n, .inl f))] s.heap.size = A at hD ⊢
  have hA : ∀ q : Nat, s.heap.size ≤ q → A q := fun q h => by rw [← hAe]; exact Or.inr h
  have hS : va_S A s.heap s.heap [] := va_S.rf
  have hl := lv_entry ([.ref q, .int v]) (n := 4) (Nat.le_of_ble_eq_true rfl)
  rw [lg_entry_eq]
  generalize (lg_sl ([.ref q, .int v]) ++ List.replicate (4 - (lg_sl ([.ref q, .int v])).length) Slot.unset).toArray = ls at hl ⊢
  have hl : lv_has ls 4 [(0, .ref q), (1, .int v)] := hl
  refine lv_iconst (v := 0) hx hb d_AR_fill_0 (by decide) ?_
  refine lv_istore_n (lv' := [(2, .int 0), (0, .ref q), (1, .int v)]) hx hb d_AR_fill_1 rfl hl (by decide) rfl (fun ls hl => ?_)
  refine lv_aload_n hx hb d_AR_fill_2 rfl (lv_at hl 1 rfl) ?_
  refine va_alen (v := nI n) hx hb hK hP 0 0 rfl rfl rfl d_AR_fill_3 ?_
  refine lv_istore_n (lv' := [(3, .int (nI n)), (2, .int 0), (0, .ref q), (1, .int v)]) hx hb d_AR_fill_4 rfl hl (by decide) rfl (fun ls hl => ?_)
  have loop_5 : ∀ (f5 : Nat) (j : Nat) (f1 : Nat → Int32) (x2 : Int32) (H : Heap) (locs : List Loc) (ls : Array Slot), (j ≤ n ∧ n < j + f5 ∧ x2 = nI j ∧ (∀ i, i < j → f1 i = v)) → va_P D cls [(q, .inl (cI, n, .inl f1))] H → va_D A [(q, .inl (cI, n, .inl f1))] → va_S A s.heap H locs → lv_has ls 4 [(0, .ref q), (1, .int v), (3, .int (nI n)), (2, .int x2)] → W p l e (headSpec (wq y_AR_fill c_AR_fill 4 none) ({ frames := 0, cells := 0, slots := 0, locals := 0 })).room s m ([.ref q, .int v] : List Value).toArray below meth c H locs 0 0 (MQ below (va_Qv (fun (u : va_W) => u = [(q, .inl (cI, n, .inl (fun _ => v)))]) (mB D (TY cI cZ cJ cO) A) A) ([.ref q, .int v] : List Value).toArray s 0 0 A) (F0 m 5 ls []) := by
    intro f5
    induction f5 with
    | zero =>
      intro j f1 x2 H locs ls hI hP hD hS hl
      obtain ⟨hj1, hj2, rfl, hq⟩ := hI
      omega
    | succ f5 ih5 =>
      intro j f1 x2 H locs ls hI hP hD hS hl
      obtain ⟨hj1, hj2, rfl, hq⟩ := hI
      refine lv_iload_n hx hb d_AR_fill_5 rfl (lv_at hl 3 rfl) ?_
      refine lv_iload_n hx hb d_AR_fill_6 rfl (lv_at hl 2 rfl) ?_
      refine lv_icmp_ge (tgt := 20) hx hb d_AR_fill_7 (by decide) (fun c_7 => ?_) (fun c_7 => ?_)
      · have hP := ba_cg (w1 := []) (w2 := []) (f' := fun _ => v) (fun i hi => hq i (by rw [gj_out hn hj1 c_7]; exact hi)) hP
        have hD := ba_cgD (w1 := []) (w2 := []) (x' := .inl (cI, n, .inl (fun _ => v))) hD
        exact W.vret hx hb hr (fun t9 ht hW => ⟨⟨[(q, .inl (cI, n, .inl (fun _ => v)))], rfl, rfl, by rw [ht]; exact hP, va_K.moved hW.alike hK, hD⟩, hS.F ht⟩) hS.2.2 d_AR_fill_20
      · refine lv_aload_n hx hb d_AR_fill_10 rfl (lv_at hl 0 rfl) ?_
        refine lv_iload_n hx hb d_AR_fill_11 rfl (lv_at hl 3 rfl) ?_
        refine lv_iload_n hx hb d_AR_fill_12 rfl (lv_at hl 1 rfl) ?_
        refine va_iast hx hb hK hP hD hS 0 0 rfl rfl (gj_v hn hj1 c_7) d_AR_fill_13 (fun H locs hP hD hS => ?_)
        rw [nI_clamp (show j < 2 ^ 31 by omega)] at hP hD
        have hP : va_P D cls [(q, .inl (cI, n, .inl (upd f1 j v)))] H := hP
        have hD : va_D A [(q, .inl (cI, n, .inl (upd f1 j v)))] := hD
        refine lv_iinc (v := (nI j) + 1) (lv' := [(2, .int ((nI j) + 1)), (0, .ref q), (1, .int v), (3, .int (nI n))]) hx hb d_AR_fill_14 hl (k := 3) rfl rfl (by decide) rfl (fun ls hl => ?_)
        refine lv_goto (tgt := 5) hx hb d_AR_fill_17 (by decide) ?_
        exact ih5 (j + 1) (upd f1 j v) ((nI j) + 1) _ _ ls (⟨by have := gj_in hn hj1 c_7; omega, by omega, nI_1 j, fun i hi => by by_cases e : i = j <;> simp [upd, e] <;> exact hq i (by omega)⟩) hP hD hS (lv_sub hl [1, 2, 3, 0] rfl)
  exact loop_5 (n + 1) 0 f 0 _ _ ls (⟨by omega, by omega, rfl, fun i hi => absurd hi (Nat.not_lt_zero i)⟩) hP hD hS (lv_sub hl [2, 3, 0, 1] rfl)
end
section

theorem cmp_lt {x y : Int64} : lg_cmp x y < 0 ↔ x < y := by
  unfold lg_cmp
  rcases Int.lt_trichotomy x.toInt y.toInt with h | h | h
  · rw [if_neg (by rw [gt_iff_lt, llt]; omega), if_neg (by intro e; rw [e] at h; omega)]; exact ⟨fun _ => llt.mpr h, fun _ => by decide⟩
  · rw [if_neg (by rw [gt_iff_lt, llt]; omega), if_pos (Int64.toInt_inj.mp h)]; exact ⟨fun q => absurd q (by decide), fun q => absurd (llt.mp q) (by omega)⟩
  · rw [if_pos (llt.mpr h)]; exact ⟨fun q => absurd q (by decide), fun q => absurd (llt.mp q) (by omega)⟩
theorem cmp_gt {x y : Int64} : 0 < lg_cmp x y ↔ y < x := by
  unfold lg_cmp
  rcases Int.lt_trichotomy x.toInt y.toInt with h | h | h
  · rw [if_neg (by rw [gt_iff_lt, llt]; omega), if_neg (by intro e; rw [e] at h; omega)]; exact ⟨fun q => absurd q (by decide), fun q => absurd (llt.mp q) (by omega)⟩
  · rw [if_neg (by rw [gt_iff_lt, llt]; omega), if_pos (Int64.toInt_inj.mp h)]; exact ⟨fun q => absurd q (by decide), fun q => absurd (llt.mp q) (by omega)⟩
  · rw [if_pos (llt.mpr h)]; exact ⟨fun _ => llt.mpr h, fun _ => by decide⟩
theorem cmp_eq {x y : Int64} : lg_cmp x y = 0 ↔ x = y := by
  unfold lg_cmp
  rcases Int.lt_trichotomy x.toInt y.toInt with h | h | h
  · rw [if_neg (by rw [gt_iff_lt, llt]; omega), if_neg (by intro e; rw [e] at h; omega)]; exact ⟨fun q => absurd q (by decide), fun q => absurd h (by rw [q]; omega)⟩
  · rw [if_neg (by rw [gt_iff_lt, llt]; omega), if_pos (Int64.toInt_inj.mp h)]; exact ⟨fun _ => Int64.toInt_inj.mp h, fun _ => rfl⟩
  · rw [if_pos (llt.mpr h)]; exact ⟨fun q => absurd q (by decide), fun q => absurd h (by rw [q]; omega)⟩
/-- t by c is better than to by co -/
def btr (to co t c : Int32) : Bool := decide (t.toInt64 * co.toInt64 < to.toInt64 * c.toInt64) || (decide (t.toInt64 * co.toInt64 = to.toInt64 * c.toInt64) && decide (co < c))
theorem bt_1 {to co t c : Int32} (h : lg_cmp (t.toInt64 * co.toInt64) (to.toInt64 * c.toInt64) < 0) : (1 : Int32) = bI (btr to co t c) := by
  rw [show btr to co t c = true by simp [btr, cmp_lt.mp h]]; rfl
theorem bt_2 {to co t c : Int32} (h : ¬ lg_cmp (t.toInt64 * co.toInt64) (to.toInt64 * c.toInt64) < 0) (h1 : ¬ lg_cmp (t.toInt64 * co.toInt64) (to.toInt64 * c.toInt64) = 0) : (0 : Int32) = bI (btr to co t c) := by
  rw [cmp_lt] at h; rw [cmp_eq] at h1
  rw [show btr to co t c = false by simp [btr, h, h1]]; rfl
theorem bt_3 {to co t c : Int32} (h : ¬ lg_cmp (t.toInt64 * co.toInt64) (to.toInt64 * c.toInt64) < 0) (h2 : c ≤ co) : (0 : Int32) = bI (btr to co t c) := by
  rw [cmp_lt] at h; rw [ile] at h2
  rw [show btr to co t c = false by
    simp only [btr, h, decide_false, Bool.false_or, Bool.and_eq_false_iff, decide_eq_false_iff_not]
    right; rw [ilt]; omega]; rfl
theorem bt_4 {to co t c : Int32} (h1 : lg_cmp (t.toInt64 * co.toInt64) (to.toInt64 * c.toInt64) = 0) (h2 : ¬ c ≤ co) : (1 : Int32) = bI (btr to co t c) := by
  rw [cmp_eq] at h1; rw [ile] at h2
  rw [show btr to co t c = true by
    simp only [btr, h1, Bool.or_eq_true, Bool.and_eq_true, decide_eq_true_eq, true_and]
    right; rw [ilt]; omega]; rfl
/-- Best: found, which, at, total, count -/
abbrev B5 : Type := Int32 × Int32 × Int32 × Int32 × Int32
abbrev b5 (t : B5) : List Value := [.int t.1, .int t.2.1, .int t.2.2.1, .int t.2.2.2.1, .int t.2.2.2.2]
def offer (t : B5) (w a to c : Int32) : B5 := if t.1 = 0 ∨ btr t.2.2.2.1 t.2.2.2.2 to c = true then (1, w, a, to, c) else t
theorem of_1 {fo wh t2 to co w a t c : Int32} (h : fo = 0) : offer (fo, wh, t2, to, co) w a t c = (1, w, a, t, c) := if_pos (Or.inl h)
theorem of_2 {fo wh t2 to co w a t c : Int32} (h : ¬ bI (btr to co t c) = 0) : offer (fo, wh, t2, to, co) w a t c = (1, w, a, t, c) := if_pos (Or.inr (bI_ne0 h))
theorem of_3 {fo wh t2 to co w a t c : Int32} (h0 : ¬ fo = 0) (h : bI (btr to co t c) = 0) : offer (fo, wh, t2, to, co) w a t c = (fo, wh, t2, to, co) := if_neg (by rw [bI_eq0 h]; exact fun q => q.elim h0 (fun z => nomatch z))

set_option maxHeartbeats 4000000 in
set_option maxRecDepth 100000 in
/-- Best() -/
theorem c_B_init_ok (l : Launch) (D : va_G) (cI cZ cJ cO : ClassId) (sz : Nat) (h0 : Nat) (fo wh t2 to co : Int32) : Met l y_B_init (wq y_B_init c_B_init 1 none) ({ frames := 1, cells := 0, slots := 0, locals := 24 }) (mP D (TY cI cZ cJ cO) [(h0, .inr (1, [.int fo, .int wh, .int t2, .int to, .int co]))] [.ref h0] sz) (va_Qv (fun (u : va_W) => u = [(h0, .inr (1, [.int fo, .int wh, .int t2, .int to, .int co]))]) (mB D (TY cI cZ cJ cO) (va_A [(h0, .inr (1, [.int fo, .int wh, .int t2, .int to, .int co]))] sz)) (va_A [(h0, .inr (1, [.int fo, .int wh, .int t2, .int to, .int co]))] sz)) 0 0 (va_A [(h0, .inr (1, [.int fo, .int wh, .int t2, .int to, .int co]))] sz) := by
  refine Met.ofW (cc := c_B_init) (maxL := 1) (ret := none) (by decide) rfl ?_
  intro p e s m args below meth c s₁ B hml hv
  obtain ⟨rfl, hsz, hP, hK, hD0, hN⟩ := hv
  have hx := B.exec
  have hb := B.bytes
  have hr := B.returns
  have hg := gt_h (atoms_spec (ws := (wq y_B_init c_B_init 1 none)) B.pre)
  have hown : s.vm.findClass "RubbingMirrors$Best" = some m.cls := findClass_of_methodNamed B.named
  have hlocks := B.notSynchronized
  have hin : meth.name = "<init>" := (name_of_methodNamed B.named B.method).1
  subst hsz
  have hD := hD0.self (sz := s.heap.size)
  generalize hAe : va_A [(h0, .inr (1, [.int fo, .int wh, .int t2, .int to, .int co]))] s.heap.size = A at hD ⊢
  have hA : ∀ q : Nat, s.heap.size ≤ q → A q := fun q h => by rw [← hAe]; exact Or.inr h
  have hS : va_S A s.heap s.heap [] := va_S.rf
  have hl := lv_entry ([.ref h0]) (n := 1) (Nat.le_of_ble_eq_true rfl)
  rw [lg_entry_eq]
  generalize (lg_sl ([.ref h0]) ++ List.replicate (1 - (lg_sl ([.ref h0])).length) Slot.unset).toArray = ls at hl ⊢
  have hl : lv_has ls 1 [(0, .ref h0)] := hl
  refine lv_aload_n hx hb d_B_init_0 rfl (lv_at hl 0 rfl) ?_
  refine W.objInit hx hb hown (hg _ g_79) (hg _ g_46) (hg _ g_47) rfl (by rw [hml]; exact hl.1) rfl d_B_init_1 (Nat.le_of_ble_eq_true rfl) (Nat.le_of_ble_eq_true rfl) ?_
  refine W.eq (g2 := F0 m 4 ls []) rfl ?_
  exact W.vret hx hb hr (fun t9 ht hW => ⟨⟨[(h0, .inr (1, [.int fo, .int wh, .int t2, .int to, .int co]))], rfl, rfl, by rw [ht]; exact hP, va_K.moved hW.alike hK, hD⟩, hS.F ht⟩) hS.2.2 d_B_init_4

set_option maxHeartbeats 4000000 in
set_option maxRecDepth 100000 in
/-- Best.clear() -/
theorem c_B_clear_ok (l : Launch) (D : va_G) (cI cZ cJ cO : ClassId) (sz : Nat) (h0 : Nat) (fo wh t2 to co : Int32) : Met l y_B_clear (wq y_B_clear c_B_clear 1 none) ({ frames := 0, cells := 0, slots := 0, locals := 0 }) (mP D (TY cI cZ cJ cO) [(h0, .inr (1, [.int fo, .int wh, .int t2, .int to, .int co]))] [.ref h0] sz) (va_Qv (fun (u : va_W) => u = [(h0, .inr (1, [.int 0, .int wh, .int t2, .int to, .int co]))]) (mB D (TY cI cZ cJ cO) (va_A [(h0, .inr (1, [.int fo, .int wh, .int t2, .int to, .int co]))] sz)) (va_A [(h0, .inr (1, [.int fo, .int wh, .int t2, .int to, .int co]))] sz)) 0 0 (va_A [(h0, .inr (1, [.int fo, .int wh, .int t2, .int to, .int co]))] sz) := by
  refine Met.ofW (cc := c_B_clear) (maxL := 1) (ret := none) (by decide) rfl ?_
  intro p e s m args below meth c s₁ B hml hv
  obtain ⟨rfl, hsz, hP, hK, hD0, hN⟩ := hv
  have hx := B.exec
  have hb := B.bytes
  have hr := B.returns
  have hg := gt_h (atoms_spec (ws := (wq y_B_clear c_B_clear 1 none)) B.pre)
  have hown : s.vm.findClass "RubbingMirrors$Best" = some m.cls := findClass_of_methodNamed B.named
  have hlocks := B.notSynchronized
  subst hsz
  have hD := hD0.self (sz := s.heap.size)
  generalize hAe : va_A [(h0, .inr (1, [.int fo, .int wh, .int t2, .int to, .int co]))] s.heap.size = A at hD ⊢
  have hA : ∀ q : Nat, s.heap.size ≤ q → A q := fun q h => by rw [← hAe]; exact Or.inr h
  have hS : va_S A s.heap s.heap [] := va_S.rf
  have hl := lv_entry ([.ref h0]) (n := 1) (Nat.le_of_ble_eq_true rfl)
  rw [lg_entry_eq]
  generalize (lg_sl ([.ref h0]) ++ List.replicate (1 - (lg_sl ([.ref h0])).length) Slot.unset).toArray = ls at hl ⊢
  have hl : lv_has ls 1 [(0, .ref h0)] := hl
  refine lv_aload_n hx hb d_B_clear_0 rfl (lv_at hl 0 rfl) ?_
  refine lv_iconst (v := 0) hx hb d_B_clear_1 (by decide) ?_
  refine va_put (D := D) (ci := 1) (v := .int 0) (ty := .boolean) (C := Q_B) (T := F_B) (N := 5) hx hb hg in_B tq_B tq_B_ok n_B hown hK hP hD hS 0 rfl rfl 0 (by decide) (hg _ g_80) (fun _ h9 => h9) rfl (by decide +kernel) rfl rfl (Nat.le_of_ble_eq_true rfl) d_B_clear_2 (fun H locs hP hD hS => ?_)
  have hP : va_P D cls [(h0, .inr (1, [.int 0, .int wh, .int t2, .int to, .int co]))] H := hP
  have hD : va_D A [(h0, .inr (1, [.int 0, .int wh, .int t2, .int to, .int co]))] := hD
  exact W.vret hx hb hr (fun t9 ht hW => ⟨⟨[(h0, .inr (1, [.int 0, .int wh, .int t2, .int to, .int co]))], rfl, rfl, by rw [ht]; exact hP, va_K.moved hW.alike hK, hD⟩, hS.F ht⟩) hS.2.2 d_B_clear_5

set_option maxHeartbeats 4000000 in
set_option maxRecDepth 100000 in
/-- Best.isBetter(t, c) -/
theorem c_B_isBetter_ok (l : Launch) (D : va_G) (cI cZ cJ cO : ClassId) (h0 : Nat) (fo wh t2 to co : Int32) (t c9 : Int32) : Met l y_B_isBetter (wq y_B_isBetter c_B_isBetter 7 (some .boolean)) ({ frames := 0, cells := 0, slots := 0, locals := 0 }) (rP D (TY cI cZ cJ cO) [(h0, .inr (1, [.int fo, .int wh, .int t2, .int to, .int co]))] [.ref h0, .int t, .int c9]) (vp_Si (fun r => r = bI (btr to co t c9))) 0 0 (fun _ => False) := by
  refine Met.ofW (cc := c_B_isBetter) (maxL := 7) (ret := (some .boolean)) (by decide) rfl ?_
  intro p e s m args below meth c s₁ B hml hv
  obtain ⟨rfl, hP, hK, hN⟩ := hv
  have hx := B.exec
  have hb := B.bytes
  have hr := B.returns
  have hg := gt_h (atoms_spec (ws := (wq y_B_isBetter c_B_isBetter 7 (some .boolean))) B.pre)
  have hown : s.vm.findClass "RubbingMirrors$Best" = some m.cls := findClass_of_methodNamed B.named
  have hlocks := B.notSynchronized
  have hl := lv_entry ([.ref h0, .int t, .int c9]) (n := 7) (Nat.le_of_ble_eq_true rfl)
  rw [lg_entry_eq]
  generalize (lg_sl ([.ref h0, .int t, .int c9]) ++ List.replicate (7 - (lg_sl ([.ref h0, .int t, .int c9])).length) Slot.unset).toArray = ls at hl ⊢
  have hl : lv_has ls 7 [(0, .ref h0), (1, .int t), (2, .int c9)] := hl
  refine lv_iload_n hx hb d_B_isBetter_0 rfl (lv_at hl 1 rfl) ?_
  refine lv_i2l (v := t.toInt64) hx hb d_B_isBetter_1 rfl ?_
  refine lv_aload_n hx hb d_B_isBetter_2 rfl (lv_at hl 0 rfl) ?_
  refine va_get (D := D) (ci := 1) (v := .int co) (C := Q_B) (T := F_B) (N := 5) hx hb hg in_B hown hK hP 0 rfl rfl 4 (by decide) (hg _ g_88) (fun _ h9 => h9) rfl d_B_isBetter_3 ?_
  refine lv_i2l (v := co.toInt64) hx hb d_B_isBetter_6 rfl ?_
  refine lv_lmul hx hb d_B_isBetter_7 ?_
  refine lv_lstore_n (lv' := [(3, .long (t.toInt64 * co.toInt64)), (0, .ref h0), (1, .int t), (2, .int c9)]) hx hb d_B_isBetter_8 rfl hl (by decide) rfl (fun ls hl => ?_)
  refine lv_aload_n hx hb d_B_isBetter_9 rfl (lv_at hl 1 rfl) ?_
  refine va_get (D := D) (ci := 1) (v := .int to) (C := Q_B) (T := F_B) (N := 5) hx hb hg in_B hown hK hP 0 rfl rfl 3 (by decide) (hg _ g_86) (fun _ h9 => h9) rfl d_B_isBetter_10 ?_
  refine lv_i2l (v := to.toInt64) hx hb d_B_isBetter_13 rfl ?_
  refine lv_iload_n hx hb d_B_isBetter_14 rfl (lv_at hl 3 rfl) ?_
  refine lv_i2l (v := c9.toInt64) hx hb d_B_isBetter_15 rfl ?_
  refine lv_lmul hx hb d_B_isBetter_16 ?_
  refine lv_lstore (lv' := [(5, .long (to.toInt64 * c9.toInt64)), (3, .long (t.toInt64 * co.toInt64)), (0, .ref h0), (1, .int t), (2, .int c9)]) hx hb d_B_isBetter_17 hl (by decide) rfl (fun ls hl => ?_)
  refine lv_lload_n hx hb d_B_isBetter_19 rfl (lv_at hl 1 rfl) ?_
  refine lv_lload hx hb d_B_isBetter_20 (lv_at hl 0 rfl) ?_
  refine W.lcmp hx hb d_B_isBetter_22 ?_
  refine lv_if_lt (tgt := 41) hx hb d_B_isBetter_23 (by decide) (fun c_23 => ?_) (fun c_23 => ?_)
  · refine lv_iconst (v := 1) hx hb d_B_isBetter_41 (by decide) ?_
    refine lv_goto (tgt := 46) hx hb d_B_isBetter_42 (by decide) ?_
    exact W.zret hx hb hr (by decide) (fun t9 ht hW => ⟨_, rfl, (by first | exact bt_1 c_23 | exact bt_2 c_23 c_30 | exact bt_3 c_23 c_38 | exact bt_4 c_30 c_38), ht⟩) t_nil2 d_B_isBetter_46
  · refine lv_lload_n hx hb d_B_isBetter_26 rfl (lv_at hl 1 rfl) ?_
    refine lv_lload hx hb d_B_isBetter_27 (lv_at hl 0 rfl) ?_
    refine W.lcmp hx hb d_B_isBetter_29 ?_
    refine lv_if_ne (tgt := 45) hx hb d_B_isBetter_30 (by decide) (fun c_30 => ?_) (fun c_30 => ?_)
    · refine lv_iconst (v := 0) hx hb d_B_isBetter_45 (by decide) ?_
      exact W.zret hx hb hr (by decide) (fun t9 ht hW => ⟨_, rfl, (by first | exact bt_1 c_23 | exact bt_2 c_23 c_30 | exact bt_3 c_23 c_38 | exact bt_4 c_30 c_38), ht⟩) t_nil2 d_B_isBetter_46
    · refine lv_iload_n hx hb d_B_isBetter_33 rfl (lv_at hl 4 rfl) ?_
      refine lv_aload_n hx hb d_B_isBetter_34 rfl (lv_at hl 2 rfl) ?_
      refine va_get (D := D) (ci := 1) (v := .int co) (C := Q_B) (T := F_B) (N := 5) hx hb hg in_B hown hK hP 0 rfl rfl 4 (by decide) (hg _ g_88) (fun _ h9 => h9) rfl d_B_isBetter_35 ?_
      refine lv_icmp_le (tgt := 45) hx hb d_B_isBetter_38 (by decide) (fun c_38 => ?_) (fun c_38 => ?_)
      · refine lv_iconst (v := 0) hx hb d_B_isBetter_45 (by decide) ?_
        exact W.zret hx hb hr (by decide) (fun t9 ht hW => ⟨_, rfl, (by first | exact bt_1 c_23 | exact bt_2 c_23 c_30 | exact bt_3 c_23 c_38 | exact bt_4 c_30 c_38), ht⟩) t_nil2 d_B_isBetter_46
      · refine lv_iconst (v := 1) hx hb d_B_isBetter_41 (by decide) ?_
        refine lv_goto (tgt := 46) hx hb d_B_isBetter_42 (by decide) ?_
        exact W.zret hx hb hr (by decide) (fun t9 ht hW => ⟨_, rfl, (by first | exact bt_1 c_23 | exact bt_2 c_23 c_30 | exact bt_3 c_23 c_38 | exact bt_4 c_30 c_38), ht⟩) t_nil2 d_B_isBetter_46

set_option maxHeartbeats 4000000 in
set_option maxRecDepth 100000 in
/-- Best.offer(w, a, t, c) -/
theorem c_B_offer_ok (l : Launch) (D : va_G) (cI cZ cJ cO : ClassId) (sz : Nat) (h0 : Nat) (fo wh t2 to co : Int32) (w a t c9 : Int32) : Met l y_B_offer (wq y_B_offer c_B_offer 5 none) ({ frames := 1, cells := 0, slots := 0, locals := 26 }) (mP D (TY cI cZ cJ cO) [(h0, .inr (1, [.int fo, .int wh, .int t2, .int to, .int co]))] [.ref h0, .int w, .int a, .int t, .int c9] sz) (va_Qv (fun (u : va_W) => u = [(h0, .inr (1, b5 (offer (fo, wh, t2, to, co) w a t c9)))]) (mB D (TY cI cZ cJ cO) (va_A [(h0, .inr (1, [.int fo, .int wh, .int t2, .int to, .int co]))] sz)) (va_A [(h0, .inr (1, [.int fo, .int wh, .int t2, .int to, .int co]))] sz)) 0 0 (va_A [(h0, .inr (1, [.int fo, .int wh, .int t2, .int to, .int co]))] sz) := by
  refine Met.ofW (cc := c_B_offer) (maxL := 5) (ret := none) (by decide) rfl ?_
  intro p e s m args below meth c s₁ B hml hv
  obtain ⟨rfl, hsz, hP, hK, hD0, hN⟩ := hv
  have hx := B.exec
  have hb := B.bytes
  have hr := B.returns
  have hg := gt_h (atoms_spec (ws := (wq y_B_offer c_B_offer 5 none)) B.pre)
  have hown : s.vm.findClass "RubbingMirrors$Best" = some m.cls := findClass_of_methodNamed B.named
  have hlocks := B.notSynchronized
  subst hsz
  have hD := hD0.self (sz := s.heap.size)
  generalize hAe : va_A [(h0, .inr (1, [.int fo, .int wh, .int t2, .int to, .int co]))] s.heap.size = A at hD ⊢
  have hA : ∀ q : Nat, s.heap.size ≤ q → A q := fun q h => by rw [← hAe]; exact Or.inr h
  have hS : va_S A s.heap s.heap [] := va_S.rf
  have hl := lv_entry ([.ref h0, .int w, .int a, .int t, .int c9]) (n := 5) (Nat.le_of_ble_eq_true rfl)
  rw [lg_entry_eq]
  generalize (lg_sl ([.ref h0, .int w, .int a, .int t, .int c9]) ++ List.replicate (5 - (lg_sl ([.ref h0, .int w, .int a, .int t, .int c9])).length) Slot.unset).toArray = ls at hl ⊢
  have hl : lv_has ls 5 [(0, .ref h0), (1, .int w), (2, .int a), (3, .int t), (4, .int c9)] := hl
  refine lv_aload_n hx hb d_B_offer_0 rfl (lv_at hl 0 rfl) ?_
  refine va_get (D := D) (ci := 1) (v := .int fo) (C := Q_B) (T := F_B) (N := 5) hx hb hg in_B hown hK hP 0 rfl rfl 0 (by decide) (hg _ g_80) (fun _ h9 => h9) rfl d_B_offer_1 ?_
  refine lv_if_eq (tgt := 17) hx hb d_B_offer_4 (by decide) (fun c_4 => ?_) (fun c_4 => ?_)
  · refine lv_aload_n hx hb d_B_offer_17 rfl (lv_at hl 0 rfl) ?_
    refine lv_iconst (v := 1) hx hb d_B_offer_18 (by decide) ?_
    refine va_put (D := D) (ci := 1) (v := .int 1) (ty := .boolean) (C := Q_B) (T := F_B) (N := 5) hx hb hg in_B tq_B tq_B_ok n_B hown hK hP hD hS 0 rfl rfl 0 (by decide) (hg _ g_80) (fun _ h9 => h9) rfl (by decide +kernel) rfl rfl (Nat.le_of_ble_eq_true rfl) d_B_offer_19 (fun H locs hP hD hS => ?_)
    have hP : va_P D cls [(h0, .inr (1, [.int 1, .int wh, .int t2, .int to, .int co]))] H := hP
    have hD : va_D A [(h0, .inr (1, [.int 1, .int wh, .int t2, .int to, .int co]))] := hD
    refine lv_aload_n hx hb d_B_offer_22 rfl (lv_at hl 0 rfl) ?_
    refine lv_iload_n hx hb d_B_offer_23 rfl (lv_at hl 1 rfl) ?_
    refine va_put (D := D) (ci := 1) (v := .int w) (ty := .int) (C := Q_B) (T := F_B) (N := 5) hx hb hg in_B tq_B tq_B_ok n_B hown hK hP hD hS 0 rfl rfl 1 (by decide) (hg _ g_82) (fun _ h9 => h9) rfl (by decide +kernel) rfl rfl (Nat.le_of_ble_eq_true rfl) d_B_offer_24 (fun H locs hP hD hS => ?_)
    have hP : va_P D cls [(h0, .inr (1, [.int 1, .int w, .int t2, .int to, .int co]))] H := hP
    have hD : va_D A [(h0, .inr (1, [.int 1, .int w, .int t2, .int to, .int co]))] := hD
    refine lv_aload_n hx hb d_B_offer_27 rfl (lv_at hl 0 rfl) ?_
    refine lv_iload_n hx hb d_B_offer_28 rfl (lv_at hl 2 rfl) ?_
    refine va_put (D := D) (ci := 1) (v := .int a) (ty := .int) (C := Q_B) (T := F_B) (N := 5) hx hb hg in_B tq_B tq_B_ok n_B hown hK hP hD hS 0 rfl rfl 2 (by decide) (hg _ g_84) (fun _ h9 => h9) rfl (by decide +kernel) rfl rfl (Nat.le_of_ble_eq_true rfl) d_B_offer_29 (fun H locs hP hD hS => ?_)
    have hP : va_P D cls [(h0, .inr (1, [.int 1, .int w, .int a, .int to, .int co]))] H := hP
    have hD : va_D A [(h0, .inr (1, [.int 1, .int w, .int a, .int to, .int co]))] := hD
    refine lv_aload_n hx hb d_B_offer_32 rfl (lv_at hl 0 rfl) ?_
    refine lv_iload_n hx hb d_B_offer_33 rfl (lv_at hl 3 rfl) ?_
    refine va_put (D := D) (ci := 1) (v := .int t) (ty := .int) (C := Q_B) (T := F_B) (N := 5) hx hb hg in_B tq_B tq_B_ok n_B hown hK hP hD hS 0 rfl rfl 3 (by decide) (hg _ g_86) (fun _ h9 => h9) rfl (by decide +kernel) rfl rfl (Nat.le_of_ble_eq_true rfl) d_B_offer_34 (fun H locs hP hD hS => ?_)
    have hP : va_P D cls [(h0, .inr (1, [.int 1, .int w, .int a, .int t, .int co]))] H := hP
    have hD : va_D A [(h0, .inr (1, [.int 1, .int w, .int a, .int t, .int co]))] := hD
    refine lv_aload_n hx hb d_B_offer_37 rfl (lv_at hl 0 rfl) ?_
    refine lv_iload hx hb d_B_offer_38 (lv_at hl 4 rfl) ?_
    refine va_put (D := D) (ci := 1) (v := .int c9) (ty := .int) (C := Q_B) (T := F_B) (N := 5) hx hb hg in_B tq_B tq_B_ok n_B hown hK hP hD hS 0 rfl rfl 4 (by decide) (hg _ g_88) (fun _ h9 => h9) rfl (by decide +kernel) rfl rfl (Nat.le_of_ble_eq_true rfl) d_B_offer_40 (fun H locs hP hD hS => ?_)
    have hP : va_P D cls [(h0, .inr (1, [.int 1, .int w, .int a, .int t, .int c9]))] H := hP
    have hD : va_D A [(h0, .inr (1, [.int 1, .int w, .int a, .int t, .int c9]))] := hD
    exact W.vret hx hb hr (fun t9 ht hW => ⟨⟨[(h0, .inr (1, [.int 1, .int w, .int a, .int t, .int c9]))], rfl, (by first | rw [of_1 c_4] | rw [of_2 c_14] | rw [of_3 c_4 c_14]), by rw [ht]; exact hP, va_K.moved hW.alike hK, hD⟩, hS.F ht⟩) hS.2.2 d_B_offer_43
  · refine lv_aload_n hx hb d_B_offer_7 rfl (lv_at hl 0 rfl) ?_
    refine lv_iload_n hx hb d_B_offer_8 rfl (lv_at hl 3 rfl) ?_
    refine lv_iload hx hb d_B_offer_9 (lv_at hl 4 rfl) ?_
    refine vp_callSi (va_Run.run (va_runV (As := [.int t, .int c9]) (rest := []) ⟨hx, hb, hml, hown, hg⟩ (c_B_isBetter_ok l D cI cZ cJ cO h0 fo wh t2 to co t c9) (cwV 2 hg (gv g_313 g_315 g_2 g_22 g_316) rfl rfl rfl (by decide +kernel) ⟨Nat.le_of_ble_eq_true rfl, Nat.le_of_ble_eq_true rfl⟩) (pV hP hK hN (va_recv hK hP (ci := 1) (q0 := 0) rfl rfl)) rfl rfl hl.1 rfl (lv_room (Nat.le_of_ble_eq_true rfl)) d_B_offer_11 ⟨Nat.zero_le _, Nat.zero_le _⟩)) (fun r_1 hr_1 => ?_)
    subst hr_1
    refine lv_if_eq (tgt := 43) hx hb d_B_offer_14 (by decide) (fun c_14 => ?_) (fun c_14 => ?_)
    · exact W.vret hx hb hr (fun t9 ht hW => ⟨⟨[(h0, .inr (1, [.int fo, .int wh, .int t2, .int to, .int co]))], rfl, (by first | rw [of_1 c_4] | rw [of_2 c_14] | rw [of_3 c_4 c_14]), by rw [ht]; exact hP, va_K.moved hW.alike hK, hD⟩, hS.F ht⟩) hS.2.2 d_B_offer_43
    · refine lv_aload_n hx hb d_B_offer_17 rfl (lv_at hl 0 rfl) ?_
      refine lv_iconst (v := 1) hx hb d_B_offer_18 (by decide) ?_
      refine va_put (D := D) (ci := 1) (v := .int 1) (ty := .boolean) (C := Q_B) (T := F_B) (N := 5) hx hb hg in_B tq_B tq_B_ok n_B hown hK hP hD hS 0 rfl rfl 0 (by decide) (hg _ g_80) (fun _ h9 => h9) rfl (by decide +kernel) rfl rfl (Nat.le_of_ble_eq_true rfl) d_B_offer_19 (fun H locs hP hD hS => ?_)
      have hP : va_P D cls [(h0, .inr (1, [.int 1, .int wh, .int t2, .int to, .int co]))] H := hP
      have hD : va_D A [(h0, .inr (1, [.int 1, .int wh, .int t2, .int to, .int co]))] := hD
      refine lv_aload_n hx hb d_B_offer_22 rfl (lv_at hl 0 rfl) ?_
      refine lv_iload_n hx hb d_B_offer_23 rfl (lv_at hl 1 rfl) ?_
      refine va_put (D := D) (ci := 1) (v := .int w) (ty := .int) (C := Q_B) (T := F_B) (N := 5) hx hb hg in_B tq_B tq_B_ok n_B hown hK hP hD hS 0 rfl rfl 1 (by decide) (hg _ g_82) (fun _ h9 => h9) rfl (by decide +kernel) rfl rfl (Nat.le_of_ble_eq_true rfl) d_B_offer_24 (fun H locs hP hD hS => ?_)
      have hP : va_P D cls [(h0, .inr (1, [.int 1, .int w, .int t2, .int to, .int co]))] H := hP
      have hD : va_D A [(h0, .inr (1, [.int 1, .int w, .int t2, .int to, .int co]))] := hD
      refine lv_aload_n hx hb d_B_offer_27 rfl (lv_at hl 0 rfl) ?_
      refine lv_iload_n hx hb d_B_offer_28 rfl (lv_at hl 2 rfl) ?_
      refine va_put (D := D) (ci := 1) (v := .int a) (ty := .int) (C := Q_B) (T := F_B) (N := 5) hx hb hg in_B tq_B tq_B_ok n_B hown hK hP hD hS 0 rfl rfl 2 (by decide) (hg _ g_84) (fun _ h9 => h9) rfl (by decide +kernel) rfl rfl (Nat.le_of_ble_eq_true rfl) d_B_offer_29 (fun H locs hP hD hS => ?_)
      have hP : va_P D cls [(h0, .inr (1, [.int 1, .int w, .int a, .int to, .int co]))] H := hP
      have hD : va_D A [(h0, .inr (1, [.int 1, .int w, .int a, .int to, .int co]))] := hD
      refine lv_aload_n hx hb d_B_offer_32 rfl (lv_at hl 0 rfl) ?_
      refine lv_iload_n hx hb d_B_offer_33 rfl (lv_at hl 3 rfl) ?_
      refine va_put (D := D) (ci := 1) (v := .int t) (ty := .int) (C := Q_B) (T := F_B) (N := 5) hx hb hg in_B tq_B tq_B_ok n_B hown hK hP hD hS 0 rfl rfl 3 (by decide) (hg _ g_86) (fun _ h9 => h9) rfl (by decide +kernel) rfl rfl (Nat.le_of_ble_eq_true rfl) d_B_offer_34 (fun H locs hP hD hS => ?_)
      have hP : va_P D cls [(h0, .inr (1, [.int 1, .int w, .int a, .int t, .int co]))] H := hP
      have hD : va_D A [(h0, .inr (1, [.int 1, .int w, .int a, .int t, .int co]))] := hD
      refine lv_aload_n hx hb d_B_offer_37 rfl (lv_at hl 0 rfl) ?_
      refine lv_iload hx hb d_B_offer_38 (lv_at hl 4 rfl) ?_
      refine va_put (D := D) (ci := 1) (v := .int c9) (ty := .int) (C := Q_B) (T := F_B) (N := 5) hx hb hg in_B tq_B tq_B_ok n_B hown hK hP hD hS 0 rfl rfl 4 (by decide) (hg _ g_88) (fun _ h9 => h9) rfl (by decide +kernel) rfl rfl (Nat.le_of_ble_eq_true rfl) d_B_offer_40 (fun H locs hP hD hS => ?_)
      have hP : va_P D cls [(h0, .inr (1, [.int 1, .int w, .int a, .int t, .int c9]))] H := hP
      have hD : va_D A [(h0, .inr (1, [.int 1, .int w, .int a, .int t, .int c9]))] := hD
      exact W.vret hx hb hr (fun t9 ht hW => ⟨⟨[(h0, .inr (1, [.int 1, .int w, .int a, .int t, .int c9]))], rfl, (by first | rw [of_1 c_4] | rw [of_2 c_14] | rw [of_3 c_4 c_14]), by rw [ht]; exact hP, va_K.moved hW.alike hK, hD⟩, hS.F ht⟩) hS.2.2 d_B_offer_43

set_option maxHeartbeats 4000000 in
set_option maxRecDepth 100000 in
/-- Row(n) -/
theorem c_R_init_ok (l : Launch) (D : va_G) (cI cZ cJ cO : ClassId) (sz : Nat) (h0 : Nat) (n : Nat) (hn : n ≤ 64) : Met l y_R_init (wq y_R_init c_R_init 2 none) ({ frames := 1, cells := 2, slots := 128, locals := 24 }) (mP D (TY cI cZ cJ cO) [(h0, .inr (2, [.null, .null]))] [.ref h0, .int (nI n)] sz) (va_Qv (fun (u : va_W) => ∃ da ga : Nat, u = [(h0, .inr (2, [.ref da, .ref ga])), (da, .inl (cI, n, .inl (fun _ => -1))), (ga, .inl (cZ, n, .inl (fun _ => 0)))]) (mB D (TY cI cZ cJ cO) (va_A [(h0, .inr (2, [.null, .null]))] sz)) (va_A [(h0, .inr (2, [.null, .null]))] sz)) 2 128 (va_A [(h0, .inr (2, [.null, .null]))] sz) := by
  refine Met.ofW (cc := c_R_init) (maxL := 2) (ret := none) (by decide) rfl ?_
  intro p e s m args below meth c s₁ B hml hv
  obtain ⟨rfl, hsz, hP, hK, hD0, hN⟩ := hv
  have hx := B.exec
  have hb := B.bytes
  have hr := B.returns
  have hg := gt_h (atoms_spec (ws := (wq y_R_init c_R_init 2 none)) B.pre)
  have hown : s.vm.findClass "RubbingMirrors$Row" = some m.cls := findClass_of_methodNamed B.named
  have hlocks := B.notSynchronized
  have hin : meth.name = "<init>" := (name_of_methodNamed B.named B.method).1
  subst hsz
  have hD := hD0.self (sz := s.heap.size)
  generalize hAe : va_A [(h0, .inr (2, [.null, .null]))] s.heap.size = A at hD ⊢
  have hA : ∀ q : Nat, s.heap.size ≤ q → A q := fun q h => by rw [← hAe]; exact Or.inr h
  have hS : va_S A s.heap s.heap [] := va_S.rf
  have hl := lv_entry ([.ref h0, .int (nI n)]) (n := 2) (Nat.le_of_ble_eq_true rfl)
  rw [lg_entry_eq]
  generalize (lg_sl ([.ref h0, .int (nI n)]) ++ List.replicate (2 - (lg_sl ([.ref h0, .int (nI n)])).length) Slot.unset).toArray = ls at hl ⊢
  have hl : lv_has ls 2 [(0, .ref h0), (1, .int (nI n))] := hl
  refine lv_aload_n hx hb d_R_init_0 rfl (lv_at hl 0 rfl) ?_
  refine W.objInit hx hb hown (hg _ g_112) (hg _ g_46) (hg _ g_47) rfl (by rw [hml]; exact hl.1) rfl d_R_init_1 (Nat.le_of_ble_eq_true rfl) (Nat.le_of_ble_eq_true rfl) ?_
  refine W.eq (g2 := F0 m 4 ls []) rfl ?_
  refine lv_aload_n hx hb d_R_init_4 rfl (lv_at hl 0 rfl) ?_
  refine lv_iload_n hx hb d_R_init_5 rfl (lv_at hl 1 rfl) ?_
  refine va_newa (atype := .int) (N' := n) (a0 := (n, .inl (fun _ => 0))) hx hb (hg _ g_123) rfl hK hP hD hS hA (fun _ => rfl) (nI_pos (by omega)) (nI_clamp (by omega)) (show n * 4 ≤ 536870912 by omega) (show 0 + 1 ≤ 2 by omega) (show 0 + n ≤ 128 by omega) d_R_init_6 (fun q_6 cA9 H hK hP hD hS => ?_)
  rw [ba_uniq hK (i := 4) (j := 0) rfl rfl] at hP hD
  have hK := hK.sub (tys' := TY cI cZ cJ cO) [0, 1, 2, 3] rfl
  refine W.widen (k := 1) (n := 64) (by omega) (by omega) ?_
  have hP : va_P D cls [(h0, .inr (2, [.null, .null])), (q_6, .inl (cI, n, .inl (fun _ => 0)))] H := hP
  have hD : va_D A [(h0, .inr (2, [.null, .null])), (q_6, .inl (cI, n, .inl (fun _ => 0)))] := hD
  refine va_putF (D := D) (ci := 2) (v := .ref q_6) (ty := .array .int) (C := Q_R) (T := F_R) (N := 2) hx hb hg in_R tq_R tq_R_ok n_R hown hK hP hD hS 0 rfl rfl 0 (by decide) (hg _ g_116) (fun _ h9 => h9) rfl hin rfl (by decide +kernel) rfl rfl (Nat.le_of_ble_eq_true rfl) d_R_init_8 (fun H locs hP hD hS => ?_)
  have hP : va_P D cls [(h0, .inr (2, [.ref q_6, .null])), (q_6, .inl (cI, n, .inl (fun _ => 0)))] H := hP
  have hD : va_D A [(h0, .inr (2, [.ref q_6, .null])), (q_6, .inl (cI, n, .inl (fun _ => 0)))] := hD
  refine lv_aload_n hx hb d_R_init_11 rfl (lv_at hl 0 rfl) ?_
  refine lv_iload_n hx hb d_R_init_12 rfl (lv_at hl 1 rfl) ?_
  refine va_newa (atype := .boolean) (N' := n) (a0 := (n, .inl (fun _ => 0))) hx hb (hg _ g_124) rfl hK hP hD hS hA (fun _ => rfl) (nI_pos (by omega)) (nI_clamp (by omega)) (show n * 1 ≤ 536870912 by omega) (show 1 + 1 ≤ 2 by omega) (show 64 + n ≤ 128 by omega) d_R_init_13 (fun q_13 cA9 H hK hP hD hS => ?_)
  rw [ba_uniq hK (i := 4) (j := 1) rfl rfl] at hP hD
  have hK := hK.sub (tys' := TY cI cZ cJ cO) [0, 1, 2, 3] rfl
  refine W.widen (k := 2) (n := 128) (by omega) (by omega) ?_
  have hP : va_P D cls [(h0, .inr (2, [.ref q_6, .null])), (q_6, .inl (cI, n, .inl (fun _ => 0))), (q_13, .inl (cZ, n, .inl (fun _ => 0)))] H := hP
  have hD : va_D A [(h0, .inr (2, [.ref q_6, .null])), (q_6, .inl (cI, n, .inl (fun _ => 0))), (q_13, .inl (cZ, n, .inl (fun _ => 0)))] := hD
  refine va_putF (D := D) (ci := 2) (v := .ref q_13) (ty := .array .boolean) (C := Q_R) (T := F_R) (N := 2) hx hb hg in_R tq_R tq_R_ok n_R hown hK hP hD hS 0 rfl rfl 1 (by decide) (hg _ g_117) (fun _ h9 => h9) rfl hin rfl (by decide +kernel) rfl rfl (Nat.le_of_ble_eq_true rfl) d_R_init_15 (fun H locs hP hD hS => ?_)
  have hP : va_P D cls [(h0, .inr (2, [.ref q_6, .ref q_13])), (q_6, .inl (cI, n, .inl (fun _ => 0))), (q_13, .inl (cZ, n, .inl (fun _ => 0)))] H := hP
  have hD : va_D A [(h0, .inr (2, [.ref q_6, .ref q_13])), (q_6, .inl (cI, n, .inl (fun _ => 0))), (q_13, .inl (cZ, n, .inl (fun _ => 0)))] := hD
  refine lv_aload_n hx hb d_R_init_18 rfl (lv_at hl 0 rfl) ?_
  refine va_get (D := D) (ci := 2) (v := .ref q_6) (C := Q_R) (T := F_R) (N := 2) hx hb hg in_R hown hK hP 0 rfl rfl 0 (by decide) (hg _ g_116) (fun _ h9 => h9) rfl d_R_init_19 ?_
  refine lv_iconst (v := (-1)) hx hb d_R_init_22 (by decide) ?_
  have hP := hP.sub (ws' := [(q_6, .inl (cI, n, .inl (fun _ => 0)))] ++ [(h0, .inr (2, [.ref q_6, .ref q_13])), (q_13, .inl (cZ, n, .inl (fun _ => 0)))]) [1, 0, 2] rfl
  have hD := hD.sub (ws' := [(q_6, .inl (cI, n, .inl (fun _ => 0)))] ++ [(h0, .inr (2, [.ref q_6, .ref q_13])), (q_13, .inl (cZ, n, .inl (fun _ => 0)))]) [1, 0, 2] (by decide) rfl
  refine mcallv (wc := [(q_6, .inl (cI, n, .inl (fun _ => 0)))]) (wr := [(h0, .inr (2, [.ref q_6, .ref q_13])), (q_13, .inl (cZ, n, .inl (fun _ => 0)))]) (va_runS (As := [.ref q_6, .int (-1)]) (rest := []) ⟨hx, hb, hml, hown, hg⟩ (c_AR_fill_ok l D cI cZ cJ cO H.size q_6 n (fun _ => 0) (by omega) (-1)) (va_cwS 2 hg (gs2 g_113 g_114 g_25 g_115) rfl rfl rfl (by decide +kernel) ⟨Nat.le_of_ble_eq_true rfl, Nat.le_of_ble_eq_true rfl⟩) (mS (ba_Pl hP) hK hN (ba_Dl hD)) rfl rfl hl.1 rfl (lv_room (Nat.le_of_ble_eq_true rfl)) d_R_init_23 ⟨Nat.le_of_ble_eq_true rfl, Nat.le_of_ble_eq_true rfl⟩) hP hD hS hA (fun u_1 H locs hu_1 hP hD hS => ?_)
  subst hu_1
  have hP : va_P D cls [(q_6, .inl (cI, n, .inl (fun _ => (-1)))), (h0, .inr (2, [.ref q_6, .ref q_13])), (q_13, .inl (cZ, n, .inl (fun _ => 0)))] H := hP
  have hD : va_D A [(q_6, .inl (cI, n, .inl (fun _ => (-1)))), (h0, .inr (2, [.ref q_6, .ref q_13])), (q_13, .inl (cZ, n, .inl (fun _ => 0)))] := hD
  have hP := hP.sub (ws' := [(h0, .inr (2, [.ref q_6, .ref q_13])), (q_6, .inl (cI, n, .inl (fun _ => (-1)))), (q_13, .inl (cZ, n, .inl (fun _ => 0)))]) [1, 0, 2] rfl
  have hD := hD.sub (ws' := [(h0, .inr (2, [.ref q_6, .ref q_13])), (q_6, .inl (cI, n, .inl (fun _ => (-1)))), (q_13, .inl (cZ, n, .inl (fun _ => 0)))]) [1, 0, 2] (by decide) rfl
  exact W.vret hx hb hr (fun t9 ht hW => ⟨⟨[(h0, .inr (2, [.ref q_6, .ref q_13])), (q_6, .inl (cI, n, .inl (fun _ => (-1)))), (q_13, .inl (cZ, n, .inl (fun _ => 0)))], rfl, ⟨q_6, q_13, rfl⟩, by rw [ht]; exact hP, va_K.moved hW.alike hK, hD⟩, hS.F ht⟩) hS.2.2 d_R_init_26

set_option maxHeartbeats 4000000 in
set_option maxRecDepth 100000 in
/-- Shape(n) -/
theorem c_S_init_ok (l : Launch) (D : va_G) (cI cZ cJ cO : ClassId) (sz : Nat) (h0 : Nat) (n : Nat) (hn : n ≤ 16) : Met l y_S_init (wq y_S_init c_S_init 2 none) ({ frames := 1, cells := 1, slots := 16, locals := 24 }) (mP D (TY cI cZ cJ cO) [(h0, .inr (4, [.null]))] [.ref h0, .int (nI n)] sz) (va_Qv (fun (u : va_W) => ∃ sa : Nat, u = [(h0, .inr (4, [.ref sa])), (sa, .inl (cI, n, .inl (fun _ => 128)))]) (mB D (TY cI cZ cJ cO) (va_A [(h0, .inr (4, [.null]))] sz)) (va_A [(h0, .inr (4, [.null]))] sz)) 1 16 (va_A [(h0, .inr (4, [.null]))] sz) := by
  refine Met.ofW (cc := c_S_init) (maxL := 2) (ret := none) (by decide) rfl ?_
  intro p e s m args below meth c s₁ B hml hv
  obtain ⟨rfl, hsz, hP, hK, hD0, hN⟩ := hv
  have hx := B.exec
  have hb := B.bytes
  have hr := B.returns
  have hg := gt_h (atoms_spec (ws := (wq y_S_init c_S_init 2 none)) B.pre)
  have hown : s.vm.findClass "RubbingMirrors$Shape" = some m.cls := findClass_of_methodNamed B.named
  have hlocks := B.notSynchronized
  have hin : meth.name = "<init>" := (name_of_methodNamed B.named B.method).1
  subst hsz
  have hD := hD0.self (sz := s.heap.size)
  generalize hAe : va_A [(h0, .inr (4, [.null]))] s.heap.size = A at hD ⊢
  have hA : ∀ q : Nat, s.heap.size ≤ q → A q := fun q h => by rw [← hAe]; exact Or.inr h
  have hS : va_S A s.heap s.heap [] := va_S.rf
  have hl := lv_entry ([.ref h0, .int (nI n)]) (n := 2) (Nat.le_of_ble_eq_true rfl)
  rw [lg_entry_eq]
  generalize (lg_sl ([.ref h0, .int (nI n)]) ++ List.replicate (2 - (lg_sl ([.ref h0, .int (nI n)])).length) Slot.unset).toArray = ls at hl ⊢
  have hl : lv_has ls 2 [(0, .ref h0), (1, .int (nI n))] := hl
  refine lv_aload_n hx hb d_S_init_0 rfl (lv_at hl 0 rfl) ?_
  refine W.objInit hx hb hown (hg _ g_388) (hg _ g_46) (hg _ g_47) rfl (by rw [hml]; exact hl.1) rfl d_S_init_1 (Nat.le_of_ble_eq_true rfl) (Nat.le_of_ble_eq_true rfl) ?_
  refine W.eq (g2 := F0 m 4 ls []) rfl ?_
  refine lv_aload_n hx hb d_S_init_4 rfl (lv_at hl 0 rfl) ?_
  refine lv_iload_n hx hb d_S_init_5 rfl (lv_at hl 1 rfl) ?_
  refine va_newa (atype := .int) (N' := n) (a0 := (n, .inl (fun _ => 0))) hx hb (hg _ g_123) rfl hK hP hD hS hA (fun _ => rfl) (nI_pos (by omega)) (nI_clamp (by omega)) (show n * 4 ≤ 536870912 by omega) (show 0 + 1 ≤ 1 by omega) (show 0 + n ≤ 16 by omega) d_S_init_6 (fun q_6 cA9 H hK hP hD hS => ?_)
  rw [ba_uniq hK (i := 4) (j := 0) rfl rfl] at hP hD
  have hK := hK.sub (tys' := TY cI cZ cJ cO) [0, 1, 2, 3] rfl
  refine W.widen (k := 1) (n := 16) (by omega) (by omega) ?_
  have hP : va_P D cls [(h0, .inr (4, [.null])), (q_6, .inl (cI, n, .inl (fun _ => 0)))] H := hP
  have hD : va_D A [(h0, .inr (4, [.null])), (q_6, .inl (cI, n, .inl (fun _ => 0)))] := hD
  refine va_putF (D := D) (ci := 4) (v := .ref q_6) (ty := .array .int) (C := Q_S) (T := F_S) (N := 1) hx hb hg in_S tq_S tq_S_ok n_S hown hK hP hD hS 0 rfl rfl 0 (by decide) (hg _ g_390) (fun _ h9 => h9) rfl hin rfl (by decide +kernel) rfl rfl (Nat.le_of_ble_eq_true rfl) d_S_init_8 (fun H locs hP hD hS => ?_)
  have hP : va_P D cls [(h0, .inr (4, [.ref q_6])), (q_6, .inl (cI, n, .inl (fun _ => 0)))] H := hP
  have hD : va_D A [(h0, .inr (4, [.ref q_6])), (q_6, .inl (cI, n, .inl (fun _ => 0)))] := hD
  refine lv_aload_n hx hb d_S_init_11 rfl (lv_at hl 0 rfl) ?_
  refine va_get (D := D) (ci := 4) (v := .ref q_6) (C := Q_S) (T := F_S) (N := 1) hx hb hg in_S hown hK hP 0 rfl rfl 0 (by decide) (hg _ g_390) (fun _ h9 => h9) rfl d_S_init_12 ?_
  refine lv_sipush (v := 128) hx hb d_S_init_15 (by decide) ?_
  have hP := hP.sub (ws' := [(q_6, .inl (cI, n, .inl (fun _ => 0)))] ++ [(h0, .inr (4, [.ref q_6]))]) [1, 0] rfl
  have hD := hD.sub (ws' := [(q_6, .inl (cI, n, .inl (fun _ => 0)))] ++ [(h0, .inr (4, [.ref q_6]))]) [1, 0] (by decide) rfl
  refine mcallv (wc := [(q_6, .inl (cI, n, .inl (fun _ => 0)))]) (wr := [(h0, .inr (4, [.ref q_6]))]) (va_runS (As := [.ref q_6, .int 128]) (rest := []) ⟨hx, hb, hml, hown, hg⟩ (c_AR_fill_ok l D cI cZ cJ cO H.size q_6 n (fun _ => 0) (by omega) 128) (va_cwS 2 hg (gs2 g_389 g_114 g_25 g_115) rfl rfl rfl (by decide +kernel) ⟨Nat.le_of_ble_eq_true rfl, Nat.le_of_ble_eq_true rfl⟩) (mS (ba_Pl hP) hK hN (ba_Dl hD)) rfl rfl hl.1 rfl (lv_room (Nat.le_of_ble_eq_true rfl)) d_S_init_18 ⟨Nat.le_of_ble_eq_true rfl, Nat.le_of_ble_eq_true rfl⟩) hP hD hS hA (fun u_1 H locs hu_1 hP hD hS => ?_)
  subst hu_1
  have hP : va_P D cls [(q_6, .inl (cI, n, .inl (fun _ => 128))), (h0, .inr (4, [.ref q_6]))] H := hP
  have hD : va_D A [(q_6, .inl (cI, n, .inl (fun _ => 128))), (h0, .inr (4, [.ref q_6]))] := hD
  have hP := hP.sub (ws' := [(h0, .inr (4, [.ref q_6])), (q_6, .inl (cI, n, .inl (fun _ => 128)))]) [1, 0] rfl
  have hD := hD.sub (ws' := [(h0, .inr (4, [.ref q_6])), (q_6, .inl (cI, n, .inl (fun _ => 128)))]) [1, 0] (by decide) rfl
  exact W.vret hx hb hr (fun t9 ht hW => ⟨⟨[(h0, .inr (4, [.ref q_6])), (q_6, .inl (cI, n, .inl (fun _ => 128)))], rfl, ⟨q_6, rfl⟩, by rw [ht]; exact hP, va_K.moved hW.alike hK, hD⟩, hS.F ht⟩) hS.2.2 d_S_init_21

set_option maxHeartbeats 4000000 in
set_option maxRecDepth 100000 in
/-- Shape.has(k) -/
theorem c_S_has_ok (l : Launch) (D : va_G) (cI cZ cJ cO : ClassId) (h0 sa n : Nat) (f : Nat → Int32) (hn : n < 2 ^ 31) (k : Int32) : Met l y_S_has (wq y_S_has c_S_has 2 (some .boolean)) ({ frames := 0, cells := 0, slots := 0, locals := 0 }) (rP D (TY cI cZ cJ cO) [(h0, .inr (4, [.ref sa])), (sa, .inl (cI, n, .inl f))] [.ref h0, .int k]) (vp_Si (fun r => r = bI (hs n k.toInt))) 0 0 (fun _ => False) := by
  refine Met.ofW (cc := c_S_has) (maxL := 2) (ret := (some .boolean)) (by decide) rfl ?_
  intro p e s m args below meth c s₁ B hml hv
  obtain ⟨rfl, hP, hK, hN⟩ := hv
  have hx := B.exec
  have hb := B.bytes
  have hr := B.returns
  have hg := gt_h (atoms_spec (ws := (wq y_S_has c_S_has 2 (some .boolean))) B.pre)
  have hown : s.vm.findClass "RubbingMirrors$Shape" = some m.cls := findClass_of_methodNamed B.named
  have hlocks := B.notSynchronized
  have hl := lv_entry ([.ref h0, .int k]) (n := 2) (Nat.le_of_ble_eq_true rfl)
  rw [lg_entry_eq]
  generalize (lg_sl ([.ref h0, .int k]) ++ List.replicate (2 - (lg_sl ([.ref h0, .int k])).length) Slot.unset).toArray = ls at hl ⊢
  have hl : lv_has ls 2 [(0, .ref h0), (1, .int k)] := hl
  refine lv_iload_n hx hb d_S_has_0 rfl (lv_at hl 1 rfl) ?_
  refine lv_if_lt (tgt := 17) hx hb d_S_has_1 (by decide) (fun c_1 => ?_) (fun c_1 => ?_)
  · refine lv_iconst (v := 0) hx hb d_S_has_17 (by decide) ?_
    exact W.zret hx hb hr (by decide) (fun t9 ht hW => ⟨_, rfl, (by first | exact hs_t hn c_1 c_10 | exact hs_f1 c_1 | exact hs_f2 hn c_10), ht⟩) t_nil2 d_S_has_18
  · refine lv_iload_n hx hb d_S_has_4 rfl (lv_at hl 1 rfl) ?_
    refine lv_aload_n hx hb d_S_has_5 rfl (lv_at hl 0 rfl) ?_
    refine va_get (D := D) (ci := 4) (v := .ref sa) (C := Q_S) (T := F_S) (N := 1) hx hb hg in_S hown hK hP 0 rfl rfl 0 (by decide) (hg _ g_390) (fun _ h9 => h9) rfl d_S_has_6 ?_
    refine va_alen (v := nI n) hx hb hK hP 1 0 rfl rfl rfl d_S_has_9 ?_
    refine lv_icmp_ge (tgt := 17) hx hb d_S_has_10 (by decide) (fun c_10 => ?_) (fun c_10 => ?_)
    · refine lv_iconst (v := 0) hx hb d_S_has_17 (by decide) ?_
      exact W.zret hx hb hr (by decide) (fun t9 ht hW => ⟨_, rfl, (by first | exact hs_t hn c_1 c_10 | exact hs_f1 c_1 | exact hs_f2 hn c_10), ht⟩) t_nil2 d_S_has_18
    · refine lv_iconst (v := 1) hx hb d_S_has_13 (by decide) ?_
      refine lv_goto (tgt := 18) hx hb d_S_has_14 (by decide) ?_
      exact W.zret hx hb hr (by decide) (fun t9 ht hW => ⟨_, rfl, (by first | exact hs_t hn c_1 c_10 | exact hs_f1 c_1 | exact hs_f2 hn c_10), ht⟩) t_nil2 d_S_has_18

set_option maxHeartbeats 4000000 in
set_option maxRecDepth 100000 in
/-- Shape.leastCover() -/
theorem c_S_leastCover_ok (l : Launch) (D : va_G) (cI cZ cJ cO : ClassId) (h0 sa n : Nat) (f : Nat → Int32) (hn : n < 2 ^ 31) : Met l y_S_leastCover (wq y_S_leastCover c_S_leastCover 1 (some .int)) ({ frames := 0, cells := 0, slots := 0, locals := 0 }) (rP D (TY cI cZ cJ cO) [(h0, .inr (4, [.ref sa])), (sa, .inl (cI, n, .inl f))] [.ref h0]) (vp_Si (fun r => r = (nI n + 1) / 2)) 0 0 (fun _ => False) := by
  refine Met.ofW (cc := c_S_leastCover) (maxL := 1) (ret := (some .int)) (by decide) rfl ?_
  intro p e s m args below meth c s₁ B hml hv
  obtain ⟨rfl, hP, hK, hN⟩ := hv
  have hx := B.exec
  have hb := B.bytes
  have hr := B.returns
  have hg := gt_h (atoms_spec (ws := (wq y_S_leastCover c_S_leastCover 1 (some .int))) B.pre)
  have hown : s.vm.findClass "RubbingMirrors$Shape" = some m.cls := findClass_of_methodNamed B.named
  have hlocks := B.notSynchronized
  have hl := lv_entry ([.ref h0]) (n := 1) (Nat.le_of_ble_eq_true rfl)
  rw [lg_entry_eq]
  generalize (lg_sl ([.ref h0]) ++ List.replicate (1 - (lg_sl ([.ref h0])).length) Slot.unset).toArray = ls at hl ⊢
  have hl : lv_has ls 1 [(0, .ref h0)] := hl
  refine lv_aload_n hx hb d_S_leastCover_0 rfl (lv_at hl 0 rfl) ?_
  refine va_get (D := D) (ci := 4) (v := .ref sa) (C := Q_S) (T := F_S) (N := 1) hx hb hg in_S hown hK hP 0 rfl rfl 0 (by decide) (hg _ g_390) (fun _ h9 => h9) rfl d_S_leastCover_1 ?_
  refine va_alen (v := nI n) hx hb hK hP 1 0 rfl rfl rfl d_S_leastCover_4 ?_
  refine lv_iconst (v := 1) hx hb d_S_leastCover_5 (by decide) ?_
  refine lv_iadd hx hb d_S_leastCover_6 ?_
  refine lv_iconst (v := 2) hx hb d_S_leastCover_7 (by decide) ?_
  refine lv_idiv hx hb d_S_leastCover_8 (by decide) ?_
  exact W.iret hx hb hr (fun t9 ht hW => ⟨_, rfl, rfl, ht⟩) t_nil2 d_S_leastCover_9

set_option maxHeartbeats 4000000 in
set_option maxRecDepth 100000 in
/-- Shape.put(k, v) -/
theorem c_S_put_ok (l : Launch) (D : va_G) (cI cZ cJ cO : ClassId) (sz : Nat) (h0 sa n : Nat) (f : Nat → Int32) (hn : n < 2 ^ 31) (k v : Int32) (hk : hs n k.toInt = true) : Met l y_S_put (wq y_S_put c_S_put 3 none) ({ frames := 1, cells := 0, slots := 0, locals := 21 }) (mP D (TY cI cZ cJ cO) [(h0, .inr (4, [.ref sa])), (sa, .inl (cI, n, .inl f))] [.ref h0, .int k, .int v] sz) (va_Qv (fun (u : va_W) => u = [(h0, .inr (4, [.ref sa])), (sa, .inl (cI, n, .inl (upd f k.toNatClampNeg v)))]) (mB D (TY cI cZ cJ cO) (va_A [(h0, .inr (4, [.ref sa])), (sa, .inl (cI, n, .inl f))] sz)) (va_A [(h0, .inr (4, [.ref sa])), (sa, .inl (cI, n, .inl f))] sz)) 0 0 (va_A [(h0, .inr (4, [.ref sa])), (sa, .inl (cI, n, .inl f))] sz) := by
  refine Met.ofW (cc := c_S_put) (maxL := 3) (ret := none) (by decide) rfl ?_
  intro p e s m args below meth c s₁ B hml hv
  obtain ⟨rfl, hsz, hP, hK, hD0, hN⟩ := hv
  have hx := B.exec
  have hb := B.bytes
  have hr := B.returns
  have hg := gt_h (atoms_spec (ws := (wq y_S_put c_S_put 3 none)) B.pre)
  have hown : s.vm.findClass "RubbingMirrors$Shape" = some m.cls := findClass_of_methodNamed B.named
  have hlocks := B.notSynchronized
  subst hsz
  have hD := hD0.self (sz := s.heap.size)
  generalize hAe : va_A [(h0, .inr (4, [.ref sa])), (sa, .inl (cI, n, .inl f))] s.heap.size = A at hD ⊢
  have hA : ∀ q : Nat, s.heap.size ≤ q → A q := fun q h => by rw [← hAe]; exact Or.inr h
  have hS : va_S A s.heap s.heap [] := va_S.rf
  have hl := lv_entry ([.ref h0, .int k, .int v]) (n := 3) (Nat.le_of_ble_eq_true rfl)
  rw [lg_entry_eq]
  generalize (lg_sl ([.ref h0, .int k, .int v]) ++ List.replicate (3 - (lg_sl ([.ref h0, .int k, .int v])).length) Slot.unset).toArray = ls at hl ⊢
  have hl : lv_has ls 3 [(0, .ref h0), (1, .int k), (2, .int v)] := hl
  refine lv_aload_n hx hb d_S_put_0 rfl (lv_at hl 0 rfl) ?_
  refine lv_iload_n hx hb d_S_put_1 rfl (lv_at hl 1 rfl) ?_
  refine vp_callSi (va_Run.run (va_runV (As := [.int k]) (rest := []) ⟨hx, hb, hml, hown, hg⟩ (c_S_has_ok l D cI cZ cJ cO h0 sa n f hn k) (cwV 1 hg (gv g_480 g_471 g_472 g_33 g_473) rfl rfl rfl (by decide +kernel) ⟨Nat.le_of_ble_eq_true rfl, Nat.le_of_ble_eq_true rfl⟩) (pV hP hK hN (va_recv hK hP (ci := 4) (q0 := 0) rfl rfl)) rfl rfl hl.1 rfl (lv_room (Nat.le_of_ble_eq_true rfl)) d_S_put_2 ⟨Nat.zero_le _, Nat.zero_le _⟩)) (fun r_1 hr_1 => ?_)
  subst hr_1
  refine lv_if_eq (tgt := 15) hx hb d_S_put_5 (by decide) (fun c_5 => ?_) (fun c_5 => ?_)
  · exact absurd (bI_eq0 c_5) (by rw [hk]; decide)
  · refine lv_aload_n hx hb d_S_put_8 rfl (lv_at hl 0 rfl) ?_
    refine va_get (D := D) (ci := 4) (v := .ref sa) (C := Q_S) (T := F_S) (N := 1) hx hb hg in_S hown hK hP 0 rfl rfl 0 (by decide) (hg _ g_390) (fun _ h9 => h9) rfl d_S_put_9 ?_
    refine lv_iload_n hx hb d_S_put_12 rfl (lv_at hl 1 rfl) ?_
    refine lv_iload_n hx hb d_S_put_13 rfl (lv_at hl 2 rfl) ?_
    refine va_iast hx hb hK hP hD hS 1 0 rfl rfl (hs_in hk) d_S_put_14 (fun H locs hP hD hS => ?_)
    have hP : va_P D cls [(h0, .inr (4, [.ref sa])), (sa, .inl (cI, n, .inl (upd f k.toNatClampNeg v)))] H := hP
    have hD : va_D A [(h0, .inr (4, [.ref sa])), (sa, .inl (cI, n, .inl (upd f k.toNatClampNeg v)))] := hD
    exact W.vret hx hb hr (fun t9 ht hW => ⟨⟨[(h0, .inr (4, [.ref sa])), (sa, .inl (cI, n, .inl (upd f k.toNatClampNeg v)))], rfl, rfl, by rw [ht]; exact hP, va_K.moved hW.alike hK, hD⟩, hS.F ht⟩) hS.2.2 d_S_put_15


/-- the COVER of a shape at p, its first j places -/
def cv (n : Nat) (d : Nat → Int32) (p : Nat) : Nat → Nat
  | 0 => 0
  | j + 1 => cv n d p j + (if dpt n d ((p : Int) + j) = -1 then 0 else 1)
def absI (x : Int32) : Int32 := if 0 ≤ x then x else 0 - x
/-- the MISS of a shape f at p, its first j places -/
def mss (n : Nat) (d : Nat → Int32) (f : Nat → Int32) (p : Nat) : Nat → Int32
  | 0 => 0
  | j + 1 => mss n d f p j + (if dpt n d ((p : Int) + j) = -1 then 0 else absI (f j - dpt n d ((p : Int) + j)))
theorem cv_1 {n : Nat} {d : Nat → Int32} {p j : Nat} (hp : p < 2 ^ 20) (hj : j < 2 ^ 20) (h : dpt n d (nI p + nI j).toInt = -1) : nI (cv n d p j) = nI (cv n d p (j + 1)) := by
  rw [add_ti hp hj] at h
  rw [cv, if_pos h, Nat.add_zero]
theorem cv_2 {n : Nat} {d : Nat → Int32} {p j : Nat} (hp : p < 2 ^ 20) (hj : j < 2 ^ 20) (h : ¬ dpt n d (nI p + nI j).toInt = -1) : nI (cv n d p j) + 1 = nI (cv n d p (j + 1)) := by
  rw [add_ti hp hj] at h
  rw [cv, if_neg h, nI_1]
theorem ms_1 {n : Nat} {d f : Nat → Int32} {p j : Nat} (hp : p < 2 ^ 20) (hj : j < 2 ^ 20) (h : dpt n d (nI p + nI j).toInt = -1) : mss n d f p j = mss n d f p (j + 1) := by
  rw [add_ti hp hj] at h
  rw [mss, if_pos h, Int32.add_zero]
theorem ms_2 {n : Nat} {d f : Nat → Int32} {p j : Nat} (hp : p < 2 ^ 20) (hj : j < 2 ^ 20) (h : ¬ dpt n d (nI p + nI j).toInt = -1) : mss n d f p j + (if 0 ≤ (f (nI j).toNatClampNeg - dpt n d (nI p + nI j).toInt) then (f (nI j).toNatClampNeg - dpt n d (nI p + nI j).toInt) else 0 - (f (nI j).toNatClampNeg - dpt n d (nI p + nI j).toInt)) = mss n d f p (j + 1) := by
  rw [add_ti hp hj] at h ⊢
  rw [mss, if_neg h, nI_clamp (by omega)]; rfl

set_option maxHeartbeats 4000000 in
set_option maxRecDepth 100000 in
/-- Shape.coverAt(row, p) -/
theorem c_S_coverAt_ok (l : Launch) (D : va_G) (cI cZ cJ cO : ClassId) (h0 sa m9 : Nat) (f : Nat → Int32) (hm9 : m9 < 2 ^ 20) (r0 da ga : Nat) (n : Nat) (d g : Nat → Int32) (hn : n < 2 ^ 20) (pp : Nat) (hpp : pp < 2 ^ 20) : Met l y_S_coverAt (wq y_S_coverAt c_S_coverAt 5 (some .int)) ({ frames := 2, cells := 0, slots := 0, locals := 42 }) (rP D (TY cI cZ cJ cO) [(h0, .inr (4, [.ref sa])), (sa, .inl (cI, m9, .inl f)), (r0, .inr (2, [.ref da, .ref ga])), (da, .inl (cI, n, .inl d)), (ga, .inl (cZ, n, .inl g))] [.ref h0, .ref r0, .int (nI pp)]) (vp_Si (fun r => r = nI (cv n d pp m9))) 0 0 (fun _ => False) := by
  refine Met.ofW (cc := c_S_coverAt) (maxL := 5) (ret := (some .int)) (by decide) rfl ?_
  intro p e s m args below meth c s₁ B hml hv
  obtain ⟨rfl, hP, hK, hN⟩ := hv
  have hx := B.exec
  have hb := B.bytes
  have hr := B.returns
  have hg := gt_h (atoms_spec (ws := (wq y_S_coverAt c_S_coverAt 5 (some .int))) B.pre)
  have hown : s.vm.findClass "RubbingMirrors$Shape" = some m.cls := findClass_of_methodNamed B.named
  have hlocks := B.notSynchronized
  have hl := lv_entry ([.ref h0, .ref r0, .int (nI pp)]) (n := 5) (Nat.le_of_ble_eq_true rfl)
  rw [lg_entry_eq]
  generalize (lg_sl ([.ref h0, .ref r0, .int (nI pp)]) ++ List.replicate (5 - (lg_sl ([.ref h0, .ref r0, .int (nI pp)])).length) Slot.unset).toArray = ls at hl ⊢
  have hl : lv_has ls 5 [(0, .ref h0), (1, .ref r0), (2, .int (nI pp))] := hl
  refine lv_iconst (v := 0) hx hb d_S_coverAt_0 (by decide) ?_
  refine lv_istore_n (lv' := [(3, .int 0), (0, .ref h0), (1, .ref r0), (2, .int (nI pp))]) hx hb d_S_coverAt_1 rfl hl (by decide) rfl (fun ls hl => ?_)
  refine lv_iconst (v := 0) hx hb d_S_coverAt_2 (by decide) ?_
  refine lv_istore (lv' := [(4, .int 0), (3, .int 0), (0, .ref h0), (1, .ref r0), (2, .int (nI pp))]) hx hb d_S_coverAt_3 hl (by decide) rfl (fun ls hl => ?_)
  have loop_5 : ∀ (f5 : Nat) (j : Nat) (x3 : Int32) (x4 : Int32) (ls : Array Slot), (j ≤ m9 ∧ m9 < j + f5 ∧ x3 = nI (cv n d pp j) ∧ x4 = nI j) → lv_has ls 5 [(0, .ref h0), (1, .ref r0), (2, .int (nI pp)), (3, .int x3), (4, .int x4)] → W p l e (headSpec (wq y_S_coverAt c_S_coverAt 5 (some .int)) ({ frames := 2, cells := 0, slots := 0, locals := 42 })).room s m ([.ref h0, .ref r0, .int (nI pp)] : List Value).toArray below meth c s.heap [] 0 0 (MQ below (vp_Si (fun r => r = nI (cv n d pp m9))) ([.ref h0, .ref r0, .int (nI pp)] : List Value).toArray s 0 0 (fun _ => False)) (F0 m 5 ls []) := by
    intro f5
    induction f5 with
    | zero =>
      intro j x3 x4 ls hI hl
      obtain ⟨hj1, hj2, rfl, rfl⟩ := hI
      omega
    | succ f5 ih5 =>
      intro j x3 x4 ls hI hl
      obtain ⟨hj1, hj2, rfl, rfl⟩ := hI
      refine lv_iload hx hb d_S_coverAt_5 (lv_at hl 4 rfl) ?_
      refine lv_aload_n hx hb d_S_coverAt_7 rfl (lv_at hl 0 rfl) ?_
      refine va_get (D := D) (ci := 4) (v := .ref sa) (C := Q_S) (T := F_S) (N := 1) hx hb hg in_S hown hK hP 0 rfl rfl 0 (by decide) (hg _ g_390) (fun _ h9 => h9) rfl d_S_coverAt_8 ?_
      refine va_alen (v := nI m9) hx hb hK hP 1 0 rfl rfl rfl d_S_coverAt_11 ?_
      refine lv_icmp_ge (tgt := 36) hx hb d_S_coverAt_12 (by decide) (fun c_12 => ?_) (fun c_12 => ?_)
      · refine lv_iload_n hx hb d_S_coverAt_36 rfl (lv_at hl 3 rfl) ?_
        exact W.iret hx hb hr (fun t9 ht hW => ⟨_, rfl, (by rw [← gj_out hm9 hj1 c_12]), ht⟩) t_nil2 d_S_coverAt_37
      · refine lv_aload_n hx hb d_S_coverAt_15 rfl (lv_at hl 1 rfl) ?_
        refine lv_iload_n hx hb d_S_coverAt_16 rfl (lv_at hl 2 rfl) ?_
        refine lv_iload hx hb d_S_coverAt_17 (lv_at hl 4 rfl) ?_
        refine lv_iadd hx hb d_S_coverAt_19 ?_
        refine vp_callSi (va_Run.run (va_runV (As := [.int ((nI pp) + (nI j))]) (rest := []) ⟨hx, hb, hml, hown, hg⟩ (c_R_depthAt_ok l D cI cZ cJ cO r0 da ga n d g (by omega) ((nI pp) + (nI j))) (cwV 1 hg (gv g_496 g_266 g_267 g_23 g_268) rfl rfl rfl (by decide +kernel) ⟨Nat.le_of_ble_eq_true rfl, Nat.le_of_ble_eq_true rfl⟩) (pV (hP.sub [2, 3, 4] rfl) hK hN (va_recv hK (hP.sub [2, 3, 4] rfl) (ci := 2) (q0 := 0) rfl rfl)) rfl rfl hl.1 rfl (lv_room (Nat.le_of_ble_eq_true rfl)) d_S_coverAt_20 ⟨Nat.zero_le _, Nat.zero_le _⟩)) (fun r_1 hr_1 => ?_)
        subst hr_1
        refine lv_iconst (v := (-1)) hx hb d_S_coverAt_23 (by decide) ?_
        refine lv_icmp_eq (tgt := 30) hx hb d_S_coverAt_24 (by decide) (fun c_24 => ?_) (fun c_24 => ?_)
        · refine lv_iinc (v := (nI j) + 1) (lv' := [(4, .int ((nI j) + 1)), (0, .ref h0), (1, .ref r0), (2, .int (nI pp)), (3, .int (nI (cv n d pp j)))]) hx hb d_S_coverAt_30 hl (k := 4) rfl rfl (by decide) rfl (fun ls hl => ?_)
          refine lv_goto (tgt := 5) hx hb d_S_coverAt_33 (by decide) ?_
          exact ih5 (j + 1) (nI (cv n d pp j)) ((nI j) + 1) ls (⟨by have := gj_in hm9 hj1 c_12; omega, by omega, (by first | exact cv_1 hpp (by omega) c_24 | exact cv_2 hpp (by omega) c_24), nI_1 j⟩) (lv_sub hl [1, 2, 3, 4, 0] rfl)
        · refine lv_iinc (v := (nI (cv n d pp j)) + 1) (lv' := [(3, .int ((nI (cv n d pp j)) + 1)), (0, .ref h0), (1, .ref r0), (2, .int (nI pp)), (4, .int (nI j))]) hx hb d_S_coverAt_27 hl (k := 3) rfl rfl (by decide) rfl (fun ls hl => ?_)
          refine lv_iinc (v := (nI j) + 1) (lv' := [(4, .int ((nI j) + 1)), (3, .int ((nI (cv n d pp j)) + 1)), (0, .ref h0), (1, .ref r0), (2, .int (nI pp))]) hx hb d_S_coverAt_30 hl (k := 4) rfl rfl (by decide) rfl (fun ls hl => ?_)
          refine lv_goto (tgt := 5) hx hb d_S_coverAt_33 (by decide) ?_
          exact ih5 (j + 1) ((nI (cv n d pp j)) + 1) ((nI j) + 1) ls (⟨by have := gj_in hm9 hj1 c_12; omega, by omega, (by first | exact cv_1 hpp (by omega) c_24 | exact cv_2 hpp (by omega) c_24), nI_1 j⟩) (lv_sub hl [2, 3, 4, 1, 0] rfl)
  exact loop_5 (m9 + 1) 0 0 0 ls (⟨by omega, by omega, rfl, rfl⟩) (lv_sub hl [2, 3, 4, 1, 0] rfl)

set_option maxHeartbeats 4000000 in
set_option maxRecDepth 100000 in
/-- Shape.missAt(row, p) -/
theorem c_S_missAt_ok (l : Launch) (D : va_G) (cI cZ cJ cO : ClassId) (h0 sa m9 : Nat) (f : Nat → Int32) (hm9 : m9 < 2 ^ 20) (r0 da ga : Nat) (n : Nat) (d g : Nat → Int32) (hn : n < 2 ^ 20) (pp : Nat) (hpp : pp < 2 ^ 20) : Met l y_S_missAt (wq y_S_missAt c_S_missAt 6 (some .int)) ({ frames := 2, cells := 0, slots := 0, locals := 42 }) (rP D (TY cI cZ cJ cO) [(h0, .inr (4, [.ref sa])), (sa, .inl (cI, m9, .inl f)), (r0, .inr (2, [.ref da, .ref ga])), (da, .inl (cI, n, .inl d)), (ga, .inl (cZ, n, .inl g))] [.ref h0, .ref r0, .int (nI pp)]) (vp_Si (fun r => r = mss n d f pp m9)) 0 0 (fun _ => False) := by
  refine Met.ofW (cc := c_S_missAt) (maxL := 6) (ret := (some .int)) (by decide) rfl ?_
  intro p e s m args below meth c s₁ B hml hv
  obtain ⟨rfl, hP, hK, hN⟩ := hv
  have hx := B.exec
  have hb := B.bytes
  have hr := B.returns
  have hg := gt_h (atoms_spec (ws := (wq y_S_missAt c_S_missAt 6 (some .int))) B.pre)
  have hown : s.vm.findClass "RubbingMirrors$Shape" = some m.cls := findClass_of_methodNamed B.named
  have hlocks := B.notSynchronized
  have hl := lv_entry ([.ref h0, .ref r0, .int (nI pp)]) (n := 6) (Nat.le_of_ble_eq_true rfl)
  rw [lg_entry_eq]
  generalize (lg_sl ([.ref h0, .ref r0, .int (nI pp)]) ++ List.replicate (6 - (lg_sl ([.ref h0, .ref r0, .int (nI pp)])).length) Slot.unset).toArray = ls at hl ⊢
  have hl : lv_has ls 6 [(0, .ref h0), (1, .ref r0), (2, .int (nI pp))] := hl
  refine lv_iconst (v := 0) hx hb d_S_missAt_0 (by decide) ?_
  refine lv_istore_n (lv' := [(3, .int 0), (0, .ref h0), (1, .ref r0), (2, .int (nI pp))]) hx hb d_S_missAt_1 rfl hl (by decide) rfl (fun ls hl => ?_)
  refine lv_iconst (v := 0) hx hb d_S_missAt_2 (by decide) ?_
  refine lv_istore (lv' := [(4, .int 0), (3, .int 0), (0, .ref h0), (1, .ref r0), (2, .int (nI pp))]) hx hb d_S_missAt_3 hl (by decide) rfl (fun ls hl => ?_)
  have loop_5 : ∀ (f5 : Nat) (j : Nat) (x3 : Int32) (x4 : Int32) (ls : Array Slot), (j ≤ m9 ∧ m9 < j + f5 ∧ x3 = mss n d f pp j ∧ x4 = nI j) → lv_has ls 6 [(0, .ref h0), (1, .ref r0), (2, .int (nI pp)), (3, .int x3), (4, .int x4)] → W p l e (headSpec (wq y_S_missAt c_S_missAt 6 (some .int)) ({ frames := 2, cells := 0, slots := 0, locals := 42 })).room s m ([.ref h0, .ref r0, .int (nI pp)] : List Value).toArray below meth c s.heap [] 0 0 (MQ below (vp_Si (fun r => r = mss n d f pp m9)) ([.ref h0, .ref r0, .int (nI pp)] : List Value).toArray s 0 0 (fun _ => False)) (F0 m 5 ls []) := by
    intro f5
    induction f5 with
    | zero =>
      intro j x3 x4 ls hI hl
      obtain ⟨hj1, hj2, rfl, rfl⟩ := hI
      omega
    | succ f5 ih5 =>
      intro j x3 x4 ls hI hl
      obtain ⟨hj1, hj2, rfl, rfl⟩ := hI
      refine lv_iload hx hb d_S_missAt_5 (lv_at hl 4 rfl) ?_
      refine lv_aload_n hx hb d_S_missAt_7 rfl (lv_at hl 0 rfl) ?_
      refine va_get (D := D) (ci := 4) (v := .ref sa) (C := Q_S) (T := F_S) (N := 1) hx hb hg in_S hown hK hP 0 rfl rfl 0 (by decide) (hg _ g_390) (fun _ h9 => h9) rfl d_S_missAt_8 ?_
      refine va_alen (v := nI m9) hx hb hK hP 1 0 rfl rfl rfl d_S_missAt_11 ?_
      refine lv_icmp_ge (tgt := 53) hx hb d_S_missAt_12 (by decide) (fun c_12 => ?_) (fun c_12 => ?_)
      · refine lv_iload_n hx hb d_S_missAt_53 rfl (lv_at hl 3 rfl) ?_
        exact W.iret hx hb hr (fun t9 ht hW => ⟨_, rfl, (by rw [← gj_out hm9 hj1 c_12]), ht⟩) t_nil2 d_S_missAt_54
      · refine lv_aload_n hx hb d_S_missAt_15 rfl (lv_at hl 1 rfl) ?_
        refine lv_iload_n hx hb d_S_missAt_16 rfl (lv_at hl 2 rfl) ?_
        refine lv_iload hx hb d_S_missAt_17 (lv_at hl 4 rfl) ?_
        refine lv_iadd hx hb d_S_missAt_19 ?_
        refine vp_callSi (va_Run.run (va_runV (As := [.int ((nI pp) + (nI j))]) (rest := []) ⟨hx, hb, hml, hown, hg⟩ (c_R_depthAt_ok l D cI cZ cJ cO r0 da ga n d g (by omega) ((nI pp) + (nI j))) (cwV 1 hg (gv g_496 g_266 g_267 g_23 g_268) rfl rfl rfl (by decide +kernel) ⟨Nat.le_of_ble_eq_true rfl, Nat.le_of_ble_eq_true rfl⟩) (pV (hP.sub [2, 3, 4] rfl) hK hN (va_recv hK (hP.sub [2, 3, 4] rfl) (ci := 2) (q0 := 0) rfl rfl)) rfl rfl hl.1 rfl (lv_room (Nat.le_of_ble_eq_true rfl)) d_S_missAt_20 ⟨Nat.zero_le _, Nat.zero_le _⟩)) (fun r_1 hr_1 => ?_)
        subst hr_1
        refine lv_istore (lv' := [(5, .int (dpt n d ((nI pp) + (nI j)).toInt)), (0, .ref h0), (1, .ref r0), (2, .int (nI pp)), (3, .int (mss n d f pp j)), (4, .int (nI j))]) hx hb d_S_missAt_23 hl (by decide) rfl (fun ls hl => ?_)
        refine lv_iload hx hb d_S_missAt_25 (lv_at hl 0 rfl) ?_
        refine lv_iconst (v := (-1)) hx hb d_S_missAt_27 (by decide) ?_
        refine lv_icmp_eq (tgt := 47) hx hb d_S_missAt_28 (by decide) (fun c_28 => ?_) (fun c_28 => ?_)
        · refine lv_iinc (v := (nI j) + 1) (lv' := [(4, .int ((nI j) + 1)), (5, .int (dpt n d ((nI pp) + (nI j)).toInt)), (0, .ref h0), (1, .ref r0), (2, .int (nI pp)), (3, .int (mss n d f pp j))]) hx hb d_S_missAt_47 hl (k := 5) rfl rfl (by decide) rfl (fun ls hl => ?_)
          refine lv_goto (tgt := 5) hx hb d_S_missAt_50 (by decide) ?_
          exact ih5 (j + 1) (mss n d f pp j) ((nI j) + 1) ls (⟨by have := gj_in hm9 hj1 c_12; omega, by omega, (by first | exact ms_1 hpp (by omega) c_28 | exact ms_2 hpp (by omega) c_28), nI_1 j⟩) (lv_sub hl [2, 3, 4, 5, 0] rfl)
        · refine lv_iload_n hx hb d_S_missAt_31 rfl (lv_at hl 4 rfl) ?_
          refine lv_aload_n hx hb d_S_missAt_32 rfl (lv_at hl 1 rfl) ?_
          refine va_get (D := D) (ci := 4) (v := .ref sa) (C := Q_S) (T := F_S) (N := 1) hx hb hg in_S hown hK hP 0 rfl rfl 0 (by decide) (hg _ g_390) (fun _ h9 => h9) rfl d_S_missAt_33 ?_
          refine lv_iload hx hb d_S_missAt_36 (lv_at hl 5 rfl) ?_
          refine va_iald hx hb hK hP 1 0 rfl rfl (gj_v hm9 hj1 c_12) d_S_missAt_38 ?_
          refine lv_iload hx hb d_S_missAt_39 (lv_at hl 0 rfl) ?_
          refine lv_isub hx hb d_S_missAt_41 ?_
          refine va_mabs hx hb (by rw [hml]; exact hl.1.symm) hown (hg _ g_505) (hg _ g_506) (hg _ g_24) (hg _ g_507) (Nat.le_of_ble_eq_true rfl) (Nat.le_of_ble_eq_true rfl) (Nat.le_of_ble_eq_true rfl) (Nat.le_of_ble_eq_true rfl) d_S_missAt_42 ?_
          refine lv_iadd hx hb d_S_missAt_45 ?_
          refine lv_istore_n (lv' := [(3, .int ((mss n d f pp j) + (if 0 ≤ ((f (nI j).toNatClampNeg) - (dpt n d ((nI pp) + (nI j)).toInt)) then ((f (nI j).toNatClampNeg) - (dpt n d ((nI pp) + (nI j)).toInt)) else 0 - ((f (nI j).toNatClampNeg) - (dpt n d ((nI pp) + (nI j)).toInt))))), (5, .int (dpt n d ((nI pp) + (nI j)).toInt)), (0, .ref h0), (1, .ref r0), (2, .int (nI pp)), (4, .int (nI j))]) hx hb d_S_missAt_46 rfl hl (by decide) rfl (fun ls hl => ?_)
          refine lv_iinc (v := (nI j) + 1) (lv' := [(4, .int ((nI j) + 1)), (3, .int ((mss n d f pp j) + (if 0 ≤ ((f (nI j).toNatClampNeg) - (dpt n d ((nI pp) + (nI j)).toInt)) then ((f (nI j).toNatClampNeg) - (dpt n d ((nI pp) + (nI j)).toInt)) else 0 - ((f (nI j).toNatClampNeg) - (dpt n d ((nI pp) + (nI j)).toInt))))), (5, .int (dpt n d ((nI pp) + (nI j)).toInt)), (0, .ref h0), (1, .ref r0), (2, .int (nI pp))]) hx hb d_S_missAt_47 hl (k := 5) rfl rfl (by decide) rfl (fun ls hl => ?_)
          refine lv_goto (tgt := 5) hx hb d_S_missAt_50 (by decide) ?_
          exact ih5 (j + 1) ((mss n d f pp j) + (if 0 ≤ ((f (nI j).toNatClampNeg) - (dpt n d ((nI pp) + (nI j)).toInt)) then ((f (nI j).toNatClampNeg) - (dpt n d ((nI pp) + (nI j)).toInt)) else 0 - ((f (nI j).toNatClampNeg) - (dpt n d ((nI pp) + (nI j)).toInt)))) ((nI j) + 1) ls (⟨by have := gj_in hm9 hj1 c_12; omega, by omega, (by first | exact ms_1 hpp (by omega) c_28 | exact ms_2 hpp (by omega) c_28), nI_1 j⟩) (lv_sub hl [3, 4, 5, 1, 0] rfl)
  exact loop_5 (m9 + 1) 0 0 0 ls (⟨by omega, by omega, rfl, rfl⟩) (lv_sub hl [2, 3, 4, 1, 0] rfl)


/-- a question's bit is set -/
def bit (x q : Int32) : Bool := decide ((x >>> (q &&& 31)) &&& 1 = 1)
theorem nq_1 {a : Int32} (h : ¬ a = -1) : (1 : Int32) = bI (decide (a ≠ -1)) := by simp [bI, h]
theorem nq_2 {a : Int32} (h : a = -1) : (0 : Int32) = bI (decide (a ≠ -1)) := by simp [bI, h]
theorem na_1 {a x : Int32} (h : ¬ bI (decide (a ≠ -1)) = 0) (h1 : (x >>> (a &&& 31)) &&& 1 = 1) : (1 : Int32) = bI (decide (a ≠ -1) && bit x a) := by
  have := of_decide_eq_true (bI_ne0 h)
  simp [bI, bit, this, h1]
theorem na_2 {a x : Int32} (h : bI (decide (a ≠ -1)) = 0) : (0 : Int32) = bI (decide (a ≠ -1) && bit x a) := by rw [bI_eq0 h]; rfl
theorem na_3 {a x : Int32} (h1 : ¬ (x >>> (a &&& 31)) &&& 1 = 1) : (0 : Int32) = bI (decide (a ≠ -1) && bit x a) := by
  rw [show bit x a = false by simp [bit, h1], Bool.and_false]; rfl
theorem nn_1 {a x u v : Int32} (h1 : (x >>> (a &&& 31)) &&& 1 = 1) : u = if bit x a then u else v := by rw [if_pos (by simp [bit, h1])]
theorem nn_2 {a x u v : Int32} (h1 : ¬ (x >>> (a &&& 31)) &&& 1 = 1) : v = if bit x a then u else v := by rw [if_neg (by simp [bit, h1])]

set_option maxHeartbeats 4000000 in
set_option maxRecDepth 100000 in
/-- Node(..) -/
theorem c_N_init_ok (l : Launch) (D : va_G) (cI cZ cJ cO : ClassId) (sz : Nat) (h0 : Nat) (na nb nc ne : Int32) : Met l y_N_init (wq y_N_init c_N_init 5 none) ({ frames := 1, cells := 0, slots := 0, locals := 24 }) (mP D (TY cI cZ cJ cO) [(h0, .inr (5, [.int 0, .int 0, .int 0, .int 0]))] [.ref h0, .int na, .int nb, .int nc, .int ne] sz) (va_Qv (fun (u : va_W) => u = [(h0, .inr (5, [.int na, .int nb, .int nc, .int ne]))]) (mB D (TY cI cZ cJ cO) (va_A [(h0, .inr (5, [.int 0, .int 0, .int 0, .int 0]))] sz)) (va_A [(h0, .inr (5, [.int 0, .int 0, .int 0, .int 0]))] sz)) 0 0 (va_A [(h0, .inr (5, [.int 0, .int 0, .int 0, .int 0]))] sz) := by
  refine Met.ofW (cc := c_N_init) (maxL := 5) (ret := none) (by decide) rfl ?_
  intro p e s m args below meth c s₁ B hml hv
  obtain ⟨rfl, hsz, hP, hK, hD0, hN⟩ := hv
  have hx := B.exec
  have hb := B.bytes
  have hr := B.returns
  have hg := gt_h (atoms_spec (ws := (wq y_N_init c_N_init 5 none)) B.pre)
  have hown : s.vm.findClass "RubbingMirrors$Node" = some m.cls := findClass_of_methodNamed B.named
  have hlocks := B.notSynchronized
  have hin : meth.name = "<init>" := (name_of_methodNamed B.named B.method).1
  subst hsz
  have hD := hD0.self (sz := s.heap.size)
  generalize hAe : va_A [(h0, .inr (5, [.int 0, .int 0, .int 0, .int 0]))] s.heap.size = A at hD ⊢
  have hA : ∀ q : Nat, s.heap.size ≤ q → A q := fun q h => by rw [← hAe]; exact Or.inr h
  have hS : va_S A s.heap s.heap [] := va_S.rf
  have hl := lv_entry ([.ref h0, .int na, .int nb, .int nc, .int ne]) (n := 5) (Nat.le_of_ble_eq_true rfl)
  rw [lg_entry_eq]
  generalize (lg_sl ([.ref h0, .int na, .int nb, .int nc, .int ne]) ++ List.replicate (5 - (lg_sl ([.ref h0, .int na, .int nb, .int nc, .int ne])).length) Slot.unset).toArray = ls at hl ⊢
  have hl : lv_has ls 5 [(0, .ref h0), (1, .int na), (2, .int nb), (3, .int nc), (4, .int ne)] := hl
  refine lv_aload_n hx hb d_N_init_0 rfl (lv_at hl 0 rfl) ?_
  refine W.objInit hx hb hown (hg _ g_523) (hg _ g_46) (hg _ g_47) rfl (by rw [hml]; exact hl.1) rfl d_N_init_1 (Nat.le_of_ble_eq_true rfl) (Nat.le_of_ble_eq_true rfl) ?_
  refine W.eq (g2 := F0 m 4 ls []) rfl ?_
  refine lv_aload_n hx hb d_N_init_4 rfl (lv_at hl 0 rfl) ?_
  refine lv_iload_n hx hb d_N_init_5 rfl (lv_at hl 1 rfl) ?_
  refine va_putF (D := D) (ci := 5) (v := .int na) (ty := .int) (C := Q_N) (T := F_N) (N := 4) hx hb hg in_N tq_N tq_N_ok n_N hown hK hP hD hS 0 rfl rfl 0 (by decide) (hg _ g_524) (fun _ h9 => h9) rfl hin rfl (by decide +kernel) rfl rfl (Nat.le_of_ble_eq_true rfl) d_N_init_6 (fun H locs hP hD hS => ?_)
  have hP : va_P D cls [(h0, .inr (5, [.int na, .int 0, .int 0, .int 0]))] H := hP
  have hD : va_D A [(h0, .inr (5, [.int na, .int 0, .int 0, .int 0]))] := hD
  refine lv_aload_n hx hb d_N_init_9 rfl (lv_at hl 0 rfl) ?_
  refine lv_iload_n hx hb d_N_init_10 rfl (lv_at hl 2 rfl) ?_
  refine va_putF (D := D) (ci := 5) (v := .int nb) (ty := .int) (C := Q_N) (T := F_N) (N := 4) hx hb hg in_N tq_N tq_N_ok n_N hown hK hP hD hS 0 rfl rfl 1 (by decide) (hg _ g_526) (fun _ h9 => h9) rfl hin rfl (by decide +kernel) rfl rfl (Nat.le_of_ble_eq_true rfl) d_N_init_11 (fun H locs hP hD hS => ?_)
  have hP : va_P D cls [(h0, .inr (5, [.int na, .int nb, .int 0, .int 0]))] H := hP
  have hD : va_D A [(h0, .inr (5, [.int na, .int nb, .int 0, .int 0]))] := hD
  refine lv_aload_n hx hb d_N_init_14 rfl (lv_at hl 0 rfl) ?_
  refine lv_iload_n hx hb d_N_init_15 rfl (lv_at hl 3 rfl) ?_
  refine va_putF (D := D) (ci := 5) (v := .int nc) (ty := .int) (C := Q_N) (T := F_N) (N := 4) hx hb hg in_N tq_N tq_N_ok n_N hown hK hP hD hS 0 rfl rfl 2 (by decide) (hg _ g_528) (fun _ h9 => h9) rfl hin rfl (by decide +kernel) rfl rfl (Nat.le_of_ble_eq_true rfl) d_N_init_16 (fun H locs hP hD hS => ?_)
  have hP : va_P D cls [(h0, .inr (5, [.int na, .int nb, .int nc, .int 0]))] H := hP
  have hD : va_D A [(h0, .inr (5, [.int na, .int nb, .int nc, .int 0]))] := hD
  refine lv_aload_n hx hb d_N_init_19 rfl (lv_at hl 0 rfl) ?_
  refine lv_iload hx hb d_N_init_20 (lv_at hl 4 rfl) ?_
  refine va_putF (D := D) (ci := 5) (v := .int ne) (ty := .int) (C := Q_N) (T := F_N) (N := 4) hx hb hg in_N tq_N tq_N_ok n_N hown hK hP hD hS 0 rfl rfl 3 (by decide) (hg _ g_529) (fun _ h9 => h9) rfl hin rfl (by decide +kernel) rfl rfl (Nat.le_of_ble_eq_true rfl) d_N_init_22 (fun H locs hP hD hS => ?_)
  have hP : va_P D cls [(h0, .inr (5, [.int na, .int nb, .int nc, .int ne]))] H := hP
  have hD : va_D A [(h0, .inr (5, [.int na, .int nb, .int nc, .int ne]))] := hD
  exact W.vret hx hb hr (fun t9 ht hW => ⟨⟨[(h0, .inr (5, [.int na, .int nb, .int nc, .int ne]))], rfl, rfl, by rw [ht]; exact hP, va_K.moved hW.alike hK, hD⟩, hS.F ht⟩) hS.2.2 d_N_init_25

set_option maxHeartbeats 4000000 in
set_option maxRecDepth 100000 in
/-- Node.isQuestion() -/
theorem c_N_isQuestion_ok (l : Launch) (D : va_G) (cI cZ cJ cO : ClassId) (h0 : Nat) (na nb nc ne : Int32) : Met l y_N_isQuestion (wq y_N_isQuestion c_N_isQuestion 1 (some .boolean)) ({ frames := 0, cells := 0, slots := 0, locals := 0 }) (rP D (TY cI cZ cJ cO) [(h0, .inr (5, [.int na, .int nb, .int nc, .int ne]))] [.ref h0]) (vp_Si (fun r => r = bI (decide (na ≠ -1)))) 0 0 (fun _ => False) := by
  refine Met.ofW (cc := c_N_isQuestion) (maxL := 1) (ret := (some .boolean)) (by decide) rfl ?_
  intro p e s m args below meth c s₁ B hml hv
  obtain ⟨rfl, hP, hK, hN⟩ := hv
  have hx := B.exec
  have hb := B.bytes
  have hr := B.returns
  have hg := gt_h (atoms_spec (ws := (wq y_N_isQuestion c_N_isQuestion 1 (some .boolean))) B.pre)
  have hown : s.vm.findClass "RubbingMirrors$Node" = some m.cls := findClass_of_methodNamed B.named
  have hlocks := B.notSynchronized
  have hl := lv_entry ([.ref h0]) (n := 1) (Nat.le_of_ble_eq_true rfl)
  rw [lg_entry_eq]
  generalize (lg_sl ([.ref h0]) ++ List.replicate (1 - (lg_sl ([.ref h0])).length) Slot.unset).toArray = ls at hl ⊢
  have hl : lv_has ls 1 [(0, .ref h0)] := hl
  refine lv_aload_n hx hb d_N_isQuestion_0 rfl (lv_at hl 0 rfl) ?_
  refine va_get (D := D) (ci := 5) (v := .int na) (C := Q_N) (T := F_N) (N := 4) hx hb hg in_N hown hK hP 0 rfl rfl 0 (by decide) (hg _ g_524) (fun _ h9 => h9) rfl d_N_isQuestion_1 ?_
  refine lv_iconst (v := (-1)) hx hb d_N_isQuestion_4 (by decide) ?_
  refine lv_icmp_eq (tgt := 12) hx hb d_N_isQuestion_5 (by decide) (fun c_5 => ?_) (fun c_5 => ?_)
  · refine lv_iconst (v := 0) hx hb d_N_isQuestion_12 (by decide) ?_
    exact W.zret hx hb hr (by decide) (fun t9 ht hW => ⟨_, rfl, (by first | exact nq_1 c_5 | exact nq_2 c_5), ht⟩) t_nil2 d_N_isQuestion_13
  · refine lv_iconst (v := 1) hx hb d_N_isQuestion_8 (by decide) ?_
    refine lv_goto (tgt := 13) hx hb d_N_isQuestion_9 (by decide) ?_
    exact W.zret hx hb hr (by decide) (fun t9 ht hW => ⟨_, rfl, (by first | exact nq_1 c_5 | exact nq_2 c_5), ht⟩) t_nil2 d_N_isQuestion_13

set_option maxHeartbeats 4000000 in
set_option maxRecDepth 100000 in
/-- Node.isAnsweredBy(k) -/
theorem c_N_isAnsweredBy_ok (l : Launch) (D : va_G) (cI cZ cJ cO : ClassId) (h0 : Nat) (na nb nc ne : Int32) (k : Int32) : Met l y_N_isAnsweredBy (wq y_N_isAnsweredBy c_N_isAnsweredBy 2 (some .boolean)) ({ frames := 1, cells := 0, slots := 0, locals := 20 }) (rP D (TY cI cZ cJ cO) [(h0, .inr (5, [.int na, .int nb, .int nc, .int ne]))] [.ref h0, .int k]) (vp_Si (fun r => r = bI (decide (na ≠ -1) && bit k na))) 0 0 (fun _ => False) := by
  refine Met.ofW (cc := c_N_isAnsweredBy) (maxL := 2) (ret := (some .boolean)) (by decide) rfl ?_
  intro p e s m args below meth c s₁ B hml hv
  obtain ⟨rfl, hP, hK, hN⟩ := hv
  have hx := B.exec
  have hb := B.bytes
  have hr := B.returns
  have hg := gt_h (atoms_spec (ws := (wq y_N_isAnsweredBy c_N_isAnsweredBy 2 (some .boolean))) B.pre)
  have hown : s.vm.findClass "RubbingMirrors$Node" = some m.cls := findClass_of_methodNamed B.named
  have hlocks := B.notSynchronized
  have hl := lv_entry ([.ref h0, .int k]) (n := 2) (Nat.le_of_ble_eq_true rfl)
  rw [lg_entry_eq]
  generalize (lg_sl ([.ref h0, .int k]) ++ List.replicate (2 - (lg_sl ([.ref h0, .int k])).length) Slot.unset).toArray = ls at hl ⊢
  have hl : lv_has ls 2 [(0, .ref h0), (1, .int k)] := hl
  refine lv_aload_n hx hb d_N_isAnsweredBy_0 rfl (lv_at hl 0 rfl) ?_
  refine vp_callSi (va_Run.run (va_runV (As := []) (rest := []) ⟨hx, hb, hml, hown, hg⟩ (c_N_isQuestion_ok l D cI cZ cJ cO h0 na nb nc ne) (cwV 0 hg (gv g_570 g_571 g_572 g_38 g_573) rfl rfl rfl (by decide +kernel) ⟨Nat.le_of_ble_eq_true rfl, Nat.le_of_ble_eq_true rfl⟩) (pV hP hK hN (va_recv hK hP (ci := 5) (q0 := 0) rfl rfl)) rfl rfl hl.1 rfl (lv_room (Nat.le_of_ble_eq_true rfl)) d_N_isAnsweredBy_1 ⟨Nat.zero_le _, Nat.zero_le _⟩)) (fun r_1 hr_1 => ?_)
  subst hr_1
  refine lv_if_eq (tgt := 23) hx hb d_N_isAnsweredBy_4 (by decide) (fun c_4 => ?_) (fun c_4 => ?_)
  · refine lv_iconst (v := 0) hx hb d_N_isAnsweredBy_23 (by decide) ?_
    exact W.zret hx hb hr (by decide) (fun t9 ht hW => ⟨_, rfl, (by first | exact na_1 c_4 c_16 | exact na_2 c_4 | exact na_3 c_16), ht⟩) t_nil2 d_N_isAnsweredBy_24
  · refine lv_iload_n hx hb d_N_isAnsweredBy_7 rfl (lv_at hl 1 rfl) ?_
    refine lv_aload_n hx hb d_N_isAnsweredBy_8 rfl (lv_at hl 0 rfl) ?_
    refine va_get (D := D) (ci := 5) (v := .int na) (C := Q_N) (T := F_N) (N := 4) hx hb hg in_N hown hK hP 0 rfl rfl 0 (by decide) (hg _ g_524) (fun _ h9 => h9) rfl d_N_isAnsweredBy_9 ?_
    refine lv_ishr hx hb d_N_isAnsweredBy_12 ?_
    refine lv_iconst (v := 1) hx hb d_N_isAnsweredBy_13 (by decide) ?_
    refine lv_iand hx hb d_N_isAnsweredBy_14 ?_
    refine lv_iconst (v := 1) hx hb d_N_isAnsweredBy_15 (by decide) ?_
    refine lv_icmp_ne (tgt := 23) hx hb d_N_isAnsweredBy_16 (by decide) (fun c_16 => ?_) (fun c_16 => ?_)
    · refine lv_iconst (v := 0) hx hb d_N_isAnsweredBy_23 (by decide) ?_
      exact W.zret hx hb hr (by decide) (fun t9 ht hW => ⟨_, rfl, (by first | exact na_1 c_4 c_16 | exact na_2 c_4 | exact na_3 c_16), ht⟩) t_nil2 d_N_isAnsweredBy_24
    · refine lv_iconst (v := 1) hx hb d_N_isAnsweredBy_19 (by decide) ?_
      refine lv_goto (tgt := 24) hx hb d_N_isAnsweredBy_20 (by decide) ?_
      exact W.zret hx hb hr (by decide) (fun t9 ht hW => ⟨_, rfl, (by first | exact na_1 c_4 c_16 | exact na_2 c_4 | exact na_3 c_16), ht⟩) t_nil2 d_N_isAnsweredBy_24

set_option maxHeartbeats 4000000 in
set_option maxRecDepth 100000 in
/-- Node.nextBy(k) -/
theorem c_N_nextBy_ok (l : Launch) (D : va_G) (cI cZ cJ cO : ClassId) (h0 : Nat) (na nb nc ne : Int32) (k : Int32) : Met l y_N_nextBy (wq y_N_nextBy c_N_nextBy 2 (some .int)) ({ frames := 0, cells := 0, slots := 0, locals := 0 }) (rP D (TY cI cZ cJ cO) [(h0, .inr (5, [.int na, .int nb, .int nc, .int ne]))] [.ref h0, .int k]) (vp_Si (fun r => r = if bit k na then ne else nc)) 0 0 (fun _ => False) := by
  refine Met.ofW (cc := c_N_nextBy) (maxL := 2) (ret := (some .int)) (by decide) rfl ?_
  intro p e s m args below meth c s₁ B hml hv
  obtain ⟨rfl, hP, hK, hN⟩ := hv
  have hx := B.exec
  have hb := B.bytes
  have hr := B.returns
  have hg := gt_h (atoms_spec (ws := (wq y_N_nextBy c_N_nextBy 2 (some .int))) B.pre)
  have hown : s.vm.findClass "RubbingMirrors$Node" = some m.cls := findClass_of_methodNamed B.named
  have hlocks := B.notSynchronized
  have hl := lv_entry ([.ref h0, .int k]) (n := 2) (Nat.le_of_ble_eq_true rfl)
  rw [lg_entry_eq]
  generalize (lg_sl ([.ref h0, .int k]) ++ List.replicate (2 - (lg_sl ([.ref h0, .int k])).length) Slot.unset).toArray = ls at hl ⊢
  have hl : lv_has ls 2 [(0, .ref h0), (1, .int k)] := hl
  refine lv_iload_n hx hb d_N_nextBy_0 rfl (lv_at hl 1 rfl) ?_
  refine lv_aload_n hx hb d_N_nextBy_1 rfl (lv_at hl 0 rfl) ?_
  refine va_get (D := D) (ci := 5) (v := .int na) (C := Q_N) (T := F_N) (N := 4) hx hb hg in_N hown hK hP 0 rfl rfl 0 (by decide) (hg _ g_524) (fun _ h9 => h9) rfl d_N_nextBy_2 ?_
  refine lv_ishr hx hb d_N_nextBy_5 ?_
  refine lv_iconst (v := 1) hx hb d_N_nextBy_6 (by decide) ?_
  refine lv_iand hx hb d_N_nextBy_7 ?_
  refine lv_iconst (v := 1) hx hb d_N_nextBy_8 (by decide) ?_
  refine lv_icmp_ne (tgt := 19) hx hb d_N_nextBy_9 (by decide) (fun c_9 => ?_) (fun c_9 => ?_)
  · refine lv_aload_n hx hb d_N_nextBy_19 rfl (lv_at hl 0 rfl) ?_
    refine va_get (D := D) (ci := 5) (v := .int nc) (C := Q_N) (T := F_N) (N := 4) hx hb hg in_N hown hK hP 0 rfl rfl 2 (by decide) (hg _ g_528) (fun _ h9 => h9) rfl d_N_nextBy_20 ?_
    exact W.iret hx hb hr (fun t9 ht hW => ⟨_, rfl, (by first | exact nn_1 c_9 | exact nn_2 c_9), ht⟩) t_nil2 d_N_nextBy_23
  · refine lv_aload_n hx hb d_N_nextBy_12 rfl (lv_at hl 0 rfl) ?_
    refine va_get (D := D) (ci := 5) (v := .int ne) (C := Q_N) (T := F_N) (N := 4) hx hb hg in_N hown hK hP 0 rfl rfl 3 (by decide) (hg _ g_529) (fun _ h9 => h9) rfl d_N_nextBy_13 ?_
    refine lv_goto (tgt := 23) hx hb d_N_nextBy_16 (by decide) ?_
    exact W.iret hx hb hr (fun t9 ht hW => ⟨_, rfl, (by first | exact nn_1 c_9 | exact nn_2 c_9), ht⟩) t_nil2 d_N_nextBy_23

set_option maxHeartbeats 4000000 in
set_option maxRecDepth 100000 in
/-- Rule(..) -/
theorem c_U_init_ok (l : Launch) (D : va_G) (cI cZ cJ cO : ClassId) (sz : Nat) (h0 : Nat) (uf ut ul ug uy uu : Int32) : Met l y_U_init (wq y_U_init c_U_init 7 none) ({ frames := 1, cells := 0, slots := 0, locals := 24 }) (mP D (TY cI cZ cJ cO) [(h0, .inr (6, [.int 0, .int 0, .int 0, .int 0, .int 0, .int 0]))] [.ref h0, .int uf, .int ut, .int ul, .int ug, .int uy, .int uu] sz) (va_Qv (fun (u : va_W) => u = [(h0, .inr (6, [.int uf, .int ut, .int ul, .int ug, .int uy, .int uu]))]) (mB D (TY cI cZ cJ cO) (va_A [(h0, .inr (6, [.int 0, .int 0, .int 0, .int 0, .int 0, .int 0]))] sz)) (va_A [(h0, .inr (6, [.int 0, .int 0, .int 0, .int 0, .int 0, .int 0]))] sz)) 0 0 (va_A [(h0, .inr (6, [.int 0, .int 0, .int 0, .int 0, .int 0, .int 0]))] sz) := by
  refine Met.ofW (cc := c_U_init) (maxL := 7) (ret := none) (by decide) rfl ?_
  intro p e s m args below meth c s₁ B hml hv
  obtain ⟨rfl, hsz, hP, hK, hD0, hN⟩ := hv
  have hx := B.exec
  have hb := B.bytes
  have hr := B.returns
  have hg := gt_h (atoms_spec (ws := (wq y_U_init c_U_init 7 none)) B.pre)
  have hown : s.vm.findClass "RubbingMirrors$Rule" = some m.cls := findClass_of_methodNamed B.named
  have hlocks := B.notSynchronized
  have hin : meth.name = "<init>" := (name_of_methodNamed B.named B.method).1
  subst hsz
  have hD := hD0.self (sz := s.heap.size)
  generalize hAe : va_A [(h0, .inr (6, [.int 0, .int 0, .int 0, .int 0, .int 0, .int 0]))] s.heap.size = A at hD ⊢
  have hA : ∀ q : Nat, s.heap.size ≤ q → A q := fun q h => by rw [← hAe]; exact Or.inr h
  have hS : va_S A s.heap s.heap [] := va_S.rf
  have hl := lv_entry ([.ref h0, .int uf, .int ut, .int ul, .int ug, .int uy, .int uu]) (n := 7) (Nat.le_of_ble_eq_true rfl)
  rw [lg_entry_eq]
  generalize (lg_sl ([.ref h0, .int uf, .int ut, .int ul, .int ug, .int uy, .int uu]) ++ List.replicate (7 - (lg_sl ([.ref h0, .int uf, .int ut, .int ul, .int ug, .int uy, .int uu])).length) Slot.unset).toArray = ls at hl ⊢
  have hl : lv_has ls 7 [(0, .ref h0), (1, .int uf), (2, .int ut), (3, .int ul), (4, .int ug), (5, .int uy), (6, .int uu)] := hl
  refine lv_aload_n hx hb d_U_init_0 rfl (lv_at hl 0 rfl) ?_
  refine W.objInit hx hb hown (hg _ g_596) (hg _ g_46) (hg _ g_47) rfl (by rw [hml]; exact hl.1) rfl d_U_init_1 (Nat.le_of_ble_eq_true rfl) (Nat.le_of_ble_eq_true rfl) ?_
  refine W.eq (g2 := F0 m 4 ls []) rfl ?_
  refine lv_aload_n hx hb d_U_init_4 rfl (lv_at hl 0 rfl) ?_
  refine lv_iload_n hx hb d_U_init_5 rfl (lv_at hl 1 rfl) ?_
  refine va_putF (D := D) (ci := 6) (v := .int uf) (ty := .int) (C := Q_U) (T := F_U) (N := 6) hx hb hg in_U tq_U tq_U_ok n_U hown hK hP hD hS 0 rfl rfl 0 (by decide) (hg _ g_597) (fun _ h9 => h9) rfl hin rfl (by decide +kernel) rfl rfl (Nat.le_of_ble_eq_true rfl) d_U_init_6 (fun H locs hP hD hS => ?_)
  have hP : va_P D cls [(h0, .inr (6, [.int uf, .int 0, .int 0, .int 0, .int 0, .int 0]))] H := hP
  have hD : va_D A [(h0, .inr (6, [.int uf, .int 0, .int 0, .int 0, .int 0, .int 0]))] := hD
  refine lv_aload_n hx hb d_U_init_9 rfl (lv_at hl 0 rfl) ?_
  refine lv_iload_n hx hb d_U_init_10 rfl (lv_at hl 2 rfl) ?_
  refine va_putF (D := D) (ci := 6) (v := .int ut) (ty := .int) (C := Q_U) (T := F_U) (N := 6) hx hb hg in_U tq_U tq_U_ok n_U hown hK hP hD hS 0 rfl rfl 1 (by decide) (hg _ g_598) (fun _ h9 => h9) rfl hin rfl (by decide +kernel) rfl rfl (Nat.le_of_ble_eq_true rfl) d_U_init_11 (fun H locs hP hD hS => ?_)
  have hP : va_P D cls [(h0, .inr (6, [.int uf, .int ut, .int 0, .int 0, .int 0, .int 0]))] H := hP
  have hD : va_D A [(h0, .inr (6, [.int uf, .int ut, .int 0, .int 0, .int 0, .int 0]))] := hD
  refine lv_aload_n hx hb d_U_init_14 rfl (lv_at hl 0 rfl) ?_
  refine lv_iload_n hx hb d_U_init_15 rfl (lv_at hl 3 rfl) ?_
  refine va_putF (D := D) (ci := 6) (v := .int ul) (ty := .int) (C := Q_U) (T := F_U) (N := 6) hx hb hg in_U tq_U tq_U_ok n_U hown hK hP hD hS 0 rfl rfl 2 (by decide) (hg _ g_599) (fun _ h9 => h9) rfl hin rfl (by decide +kernel) rfl rfl (Nat.le_of_ble_eq_true rfl) d_U_init_16 (fun H locs hP hD hS => ?_)
  have hP : va_P D cls [(h0, .inr (6, [.int uf, .int ut, .int ul, .int 0, .int 0, .int 0]))] H := hP
  have hD : va_D A [(h0, .inr (6, [.int uf, .int ut, .int ul, .int 0, .int 0, .int 0]))] := hD
  refine lv_aload_n hx hb d_U_init_19 rfl (lv_at hl 0 rfl) ?_
  refine lv_iload hx hb d_U_init_20 (lv_at hl 4 rfl) ?_
  refine va_putF (D := D) (ci := 6) (v := .int ug) (ty := .int) (C := Q_U) (T := F_U) (N := 6) hx hb hg in_U tq_U tq_U_ok n_U hown hK hP hD hS 0 rfl rfl 3 (by decide) (hg _ g_600) (fun _ h9 => h9) rfl hin rfl (by decide +kernel) rfl rfl (Nat.le_of_ble_eq_true rfl) d_U_init_22 (fun H locs hP hD hS => ?_)
  have hP : va_P D cls [(h0, .inr (6, [.int uf, .int ut, .int ul, .int ug, .int 0, .int 0]))] H := hP
  have hD : va_D A [(h0, .inr (6, [.int uf, .int ut, .int ul, .int ug, .int 0, .int 0]))] := hD
  refine lv_aload_n hx hb d_U_init_25 rfl (lv_at hl 0 rfl) ?_
  refine lv_iload hx hb d_U_init_26 (lv_at hl 5 rfl) ?_
  refine va_putF (D := D) (ci := 6) (v := .int uy) (ty := .int) (C := Q_U) (T := F_U) (N := 6) hx hb hg in_U tq_U tq_U_ok n_U hown hK hP hD hS 0 rfl rfl 4 (by decide) (hg _ g_601) (fun _ h9 => h9) rfl hin rfl (by decide +kernel) rfl rfl (Nat.le_of_ble_eq_true rfl) d_U_init_28 (fun H locs hP hD hS => ?_)
  have hP : va_P D cls [(h0, .inr (6, [.int uf, .int ut, .int ul, .int ug, .int uy, .int 0]))] H := hP
  have hD : va_D A [(h0, .inr (6, [.int uf, .int ut, .int ul, .int ug, .int uy, .int 0]))] := hD
  refine lv_aload_n hx hb d_U_init_31 rfl (lv_at hl 0 rfl) ?_
  refine lv_iload hx hb d_U_init_32 (lv_at hl 6 rfl) ?_
  refine va_putF (D := D) (ci := 6) (v := .int uu) (ty := .int) (C := Q_U) (T := F_U) (N := 6) hx hb hg in_U tq_U tq_U_ok n_U hown hK hP hD hS 0 rfl rfl 5 (by decide) (hg _ g_603) (fun _ h9 => h9) rfl hin rfl (by decide +kernel) rfl rfl (Nat.le_of_ble_eq_true rfl) d_U_init_34 (fun H locs hP hD hS => ?_)
  have hP : va_P D cls [(h0, .inr (6, [.int uf, .int ut, .int ul, .int ug, .int uy, .int uu]))] H := hP
  have hD : va_D A [(h0, .inr (6, [.int uf, .int ut, .int ul, .int ug, .int uy, .int uu]))] := hD
  exact W.vret hx hb hr (fun t9 ht hW => ⟨⟨[(h0, .inr (6, [.int uf, .int ut, .int ul, .int ug, .int uy, .int uu]))], rfl, rfl, by rw [ht]; exact hP, va_K.moved hW.alike hK, hD⟩, hS.F ht⟩) hS.2.2 d_U_init_37


/-- the first j places of a rule from F on are within -/
def hol (n : Nat) (d : Nat → Int32) (lo hi : Int32) (F : Nat) : Nat → Bool
  | 0 => true
  | j + 1 => hol n d lo hi F j && iw (dpt n d ((F : Int) + j)) lo hi
theorem hol_f {n : Nat} {d : Nat → Int32} {lo hi : Int32} {F j : Nat} (h : hol n d lo hi F j = false) : ∀ k, hol n d lo hi F (j + k) = false
  | 0 => h
  | k + 1 => by rw [← Nat.add_assoc, hol, hol_f h k, Bool.false_and]
theorem ho_1 {n : Nat} {d : Nat → Int32} {lo hi : Int32} {F T j : Nat} (hF : F < 2 ^ 20) (hj : j < 2 ^ 20) (hl : F + j ≤ T) (h : bI (iw (dpt n d (nI (F + j)).toInt) lo hi) = 0) : (0 : Int32) = bI (hol n d lo hi F (T + 1 - F)) := by
  rw [nI_toInt (by omega)] at h
  have e : hol n d lo hi F (j + 1) = false := by rw [hol, show ((F : Int) + (j : Int)) = ((F + j : Nat) : Int) by omega, bI_eq0 h, Bool.and_false]
  have := hol_f e (T - (F + j))
  rw [show T + 1 - F = j + 1 + (T - (F + j)) by omega, this]; rfl
theorem ho_2 {n : Nat} {d : Nat → Int32} {lo hi : Int32} {F j : Nat} (hF : F < 2 ^ 20) (hj : j < 2 ^ 20) (hq : hol n d lo hi F j = true) (h : ¬ bI (iw (dpt n d (nI (F + j)).toInt) lo hi) = 0) : hol n d lo hi F (j + 1) = true := by
  rw [nI_toInt (by omega)] at h
  rw [hol, hq, show ((F : Int) + (j : Int)) = ((F + j : Nat) : Int) by omega, bI_ne0 h]; rfl
theorem hj_out {F T j : Nat} (hT : T + 1 < 2 ^ 20) (hj : j ≤ T + 1 - F) (hF : F ≤ T + 1) (c : nI T < nI (F + j)) : j = T + 1 - F := by
  have := (nI_ltI (by omega) (by omega)).mp c
  omega
theorem hj_in {F T j : Nat} (hT : T + 1 < 2 ^ 20) (hj : j ≤ T + 1 - F) (hF : F ≤ T + 1) (c : ¬ nI T < nI (F + j)) : F + j ≤ T := by
  rcases Nat.lt_or_ge T (F + j) with q | q
  · exact absurd (nI_lt q (by omega)) c
  · exact q

set_option maxHeartbeats 4000000 in
set_option maxRecDepth 100000 in
/-- Rule.holdsOn(row) -/
theorem c_U_holdsOn_ok (l : Launch) (D : va_G) (cI cZ cJ cO : ClassId) (h0 F T : Nat) (ul ug uy uu : Int32) (hT : T + 1 < 2 ^ 20) (hF : F ≤ T + 1) (r0 da ga : Nat) (n : Nat) (d g : Nat → Int32) (hn : n < 2 ^ 20) : Met l y_U_holdsOn (wq y_U_holdsOn c_U_holdsOn 3 (some .boolean)) ({ frames := 2, cells := 0, slots := 0, locals := 42 }) (rP D (TY cI cZ cJ cO) [(h0, .inr (6, [.int (nI F), .int (nI T), .int ul, .int ug, .int uy, .int uu])), (r0, .inr (2, [.ref da, .ref ga])), (da, .inl (cI, n, .inl d)), (ga, .inl (cZ, n, .inl g))] [.ref h0, .ref r0]) (vp_Si (fun r => r = bI (hol n d ul ug F (T + 1 - F)))) 0 0 (fun _ => False) := by
  refine Met.ofW (cc := c_U_holdsOn) (maxL := 3) (ret := (some .boolean)) (by decide) rfl ?_
  intro p e s m args below meth c s₁ B hml hv
  obtain ⟨rfl, hP, hK, hN⟩ := hv
  have hx := B.exec
  have hb := B.bytes
  have hr := B.returns
  have hg := gt_h (atoms_spec (ws := (wq y_U_holdsOn c_U_holdsOn 3 (some .boolean))) B.pre)
  have hown : s.vm.findClass "RubbingMirrors$Rule" = some m.cls := findClass_of_methodNamed B.named
  have hlocks := B.notSynchronized
  have hl := lv_entry ([.ref h0, .ref r0]) (n := 3) (Nat.le_of_ble_eq_true rfl)
  rw [lg_entry_eq]
  generalize (lg_sl ([.ref h0, .ref r0]) ++ List.replicate (3 - (lg_sl ([.ref h0, .ref r0])).length) Slot.unset).toArray = ls at hl ⊢
  have hl : lv_has ls 3 [(0, .ref h0), (1, .ref r0)] := hl
  refine lv_aload_n hx hb d_U_holdsOn_0 rfl (lv_at hl 0 rfl) ?_
  refine va_get (D := D) (ci := 6) (v := .int (nI F)) (C := Q_U) (T := F_U) (N := 6) hx hb hg in_U hown hK hP 0 rfl rfl 0 (by decide) (hg _ g_597) (fun _ h9 => h9) rfl d_U_holdsOn_1 ?_
  refine lv_istore_n (lv' := [(2, .int (nI F)), (0, .ref h0), (1, .ref r0)]) hx hb d_U_holdsOn_4 rfl hl (by decide) rfl (fun ls hl => ?_)
  have loop_5 : ∀ (f5 : Nat) (j : Nat) (x2 : Int32) (ls : Array Slot), (j ≤ T + 1 - F ∧ T + 1 < F + j + f5 ∧ x2 = nI (F + j) ∧ hol n d ul ug F j = true) → lv_has ls 3 [(0, .ref h0), (1, .ref r0), (2, .int x2)] → W p l e (headSpec (wq y_U_holdsOn c_U_holdsOn 3 (some .boolean)) ({ frames := 2, cells := 0, slots := 0, locals := 42 })).room s m ([.ref h0, .ref r0] : List Value).toArray below meth c s.heap [] 0 0 (MQ below (vp_Si (fun r => r = bI (hol n d ul ug F (T + 1 - F)))) ([.ref h0, .ref r0] : List Value).toArray s 0 0 (fun _ => False)) (F0 m 5 ls []) := by
    intro f5
    induction f5 with
    | zero =>
      intro j x2 ls hI hl
      obtain ⟨hj1, hj2, rfl, hq⟩ := hI
      omega
    | succ f5 ih5 =>
      intro j x2 ls hI hl
      obtain ⟨hj1, hj2, rfl, hq⟩ := hI
      refine lv_iload_n hx hb d_U_holdsOn_5 rfl (lv_at hl 2 rfl) ?_
      refine lv_aload_n hx hb d_U_holdsOn_6 rfl (lv_at hl 0 rfl) ?_
      refine va_get (D := D) (ci := 6) (v := .int (nI T)) (C := Q_U) (T := F_U) (N := 6) hx hb hg in_U hown hK hP 0 rfl rfl 1 (by decide) (hg _ g_598) (fun _ h9 => h9) rfl d_U_holdsOn_7 ?_
      refine lv_icmp_gt (tgt := 40) hx hb d_U_holdsOn_10 (by decide) (fun c_10 => ?_) (fun c_10 => ?_)
      · refine lv_iconst (v := 1) hx hb d_U_holdsOn_40 (by decide) ?_
        exact W.zret hx hb hr (by decide) (fun t9 ht hW => ⟨_, rfl, (by rw [← hj_out hT hj1 hF c_10, hq]; rfl), ht⟩) t_nil2 d_U_holdsOn_41
      · refine lv_aload_n hx hb d_U_holdsOn_13 rfl (lv_at hl 1 rfl) ?_
        refine lv_iload_n hx hb d_U_holdsOn_14 rfl (lv_at hl 2 rfl) ?_
        refine vp_callSi (va_Run.run (va_runV (As := [.int (nI (F + j))]) (rest := []) ⟨hx, hb, hml, hown, hg⟩ (c_R_depthAt_ok l D cI cZ cJ cO r0 da ga n d g (by omega) (nI (F + j))) (cwV 1 hg (gv g_629 g_266 g_267 g_23 g_268) rfl rfl rfl (by decide +kernel) ⟨Nat.le_of_ble_eq_true rfl, Nat.le_of_ble_eq_true rfl⟩) (pV (hP.sub [1, 2, 3] rfl) hK hN (va_recv hK (hP.sub [1, 2, 3] rfl) (ci := 2) (q0 := 0) rfl rfl)) rfl rfl hl.1 rfl (lv_room (Nat.le_of_ble_eq_true rfl)) d_U_holdsOn_15 ⟨Nat.zero_le _, Nat.zero_le _⟩)) (fun r_1 hr_1 => ?_)
        subst hr_1
        refine lv_aload_n hx hb d_U_holdsOn_18 rfl (lv_at hl 0 rfl) ?_
        refine va_get (D := D) (ci := 6) (v := .int ul) (C := Q_U) (T := F_U) (N := 6) hx hb hg in_U hown hK hP 0 rfl rfl 2 (by decide) (hg _ g_599) (fun _ h9 => h9) rfl d_U_holdsOn_19 ?_
        refine lv_aload_n hx hb d_U_holdsOn_22 rfl (lv_at hl 0 rfl) ?_
        refine va_get (D := D) (ci := 6) (v := .int ug) (C := Q_U) (T := F_U) (N := 6) hx hb hg in_U hown hK hP 0 rfl rfl 3 (by decide) (hg _ g_600) (fun _ h9 => h9) rfl d_U_holdsOn_23 ?_
        refine vp_callSi (va_Run.run (va_runSN (As := [.int (dpt n d (nI (F + j)).toInt), .int ul, .int ug]) (rest := []) ⟨hx, hb, hml, hown, hg⟩ (c_M_isWithin_ok l D cI cZ cJ cO (dpt n d (nI (F + j)).toInt) ul ug) ⟨va_cnB 3 hg (gq g_235) rfl rfl rfl (hN.1 _ nw_19) (hg _ g_18) (by decide +kernel) ⟨Nat.le_of_ble_eq_true rfl, Nat.le_of_ble_eq_true rfl⟩, hg _ g_234, trivial⟩ (pS ba_nil hK hN) rfl rfl hl.1 rfl (lv_room (Nat.le_of_ble_eq_true rfl)) d_U_holdsOn_26 ⟨Nat.zero_le _, Nat.zero_le _⟩)) (fun r_2 hr_2 => ?_)
        subst hr_2
        refine lv_if_ne (tgt := 34) hx hb d_U_holdsOn_29 (by decide) (fun c_29 => ?_) (fun c_29 => ?_)
        · refine lv_iinc (v := (nI (F + j)) + 1) (lv' := [(2, .int ((nI (F + j)) + 1)), (0, .ref h0), (1, .ref r0)]) hx hb d_U_holdsOn_34 hl (k := 2) rfl rfl (by decide) rfl (fun ls hl => ?_)
          refine lv_goto (tgt := 5) hx hb d_U_holdsOn_37 (by decide) ?_
          exact ih5 (j + 1) ((nI (F + j)) + 1) ls (⟨by have := hj_in hT hj1 hF c_10; omega, by omega, nI_1 _, ho_2 (by omega) (by omega) hq c_29⟩) (lv_sub hl [1, 2, 0] rfl)
        · refine lv_iconst (v := 0) hx hb d_U_holdsOn_32 (by decide) ?_
          exact W.zret hx hb hr (by decide) (fun t9 ht hW => ⟨_, rfl, (ho_1 (by omega) (by omega) (hj_in hT hj1 hF c_10) c_29), ht⟩) t_nil2 d_U_holdsOn_33
  exact loop_5 (T + 2) 0 (nI F) ls (⟨by omega, by omega, rfl, rfl⟩) (lv_sub hl [1, 2, 0] rfl)
end
section

/-- all depths of the row are -1 .. 255 -/
def dOK (n : Nat) (d : Nat → Int32) : Prop := ∀ k, k < n → -1 ≤ (d k).toInt ∧ (d k).toInt ≤ 255
/-- a long within bounds -/
def lw (v lo hi : Int64) : Bool := decide (lo.toInt ≤ v.toInt) && decide (v.toInt ≤ hi.toInt)
theorem lw_t {v lo hi : Int64} (h1 : ¬ lg_cmp v lo < 0) (h2 : ¬ 0 < lg_cmp v hi) : (1 : Int32) = bI (lw v lo hi) := by
  rw [cmp_lt, llt] at h1; rw [cmp_gt, llt] at h2
  rw [show lw v lo hi = true by simp [lw]; omega]; rfl
theorem lw_f1 {v lo hi : Int64} (h1 : lg_cmp v lo < 0) : (0 : Int32) = bI (lw v lo hi) := by
  rw [cmp_lt, llt] at h1
  rw [show lw v lo hi = false by simp [lw]; omega]; rfl
theorem lw_f2 {v lo hi : Int64} (h2 : 0 < lg_cmp v hi) : (0 : Int32) = bI (lw v lo hi) := by
  rw [cmp_gt, llt] at h2
  rw [show lw v lo hi = false by simp [lw]; omega]; rfl
/-- .. of ints -/
theorem lw_iw {v lo hi : Int32} : lw v.toInt64 lo.toInt64 hi.toInt64 = iw v lo hi := by
  unfold lw iw
  rw [Int32.toInt_toInt64, Int32.toInt_toInt64, Int32.toInt_toInt64]
theorem l0 : (0 : Int64).toInt = 0 := rfl
theorem n1_ti {n : Nat} (h4 : 4 ≤ n) (h64 : n ≤ 64) : (nI n - 1).toInt = (n : Int) - 1 := by
  have := sub_ti (a := n) (b := 1) (by omega) (by omega)
  exact this
theorem lw_pl {n : Nat} {k : Int64} (h4 : 4 ≤ n) (h64 : n ≤ 64) : lw k 0 (nI n - 1).toInt64 = hs n k.toInt := by
  unfold lw hs
  rw [Int32.toInt_toInt64, n1_ti h4 h64, l0]
  congr 1
  exact decide_eq_decide.mpr ⟨fun h => by omega, fun h => by omega⟩
theorem k32 {n : Nat} {k : Int64} (h64 : n ≤ 64) (h : hs n k.toInt = true) : k.toInt32.toInt = k.toInt := by
  obtain ⟨h1, h2⟩ := hs_iff.mp h
  rw [Int64.toInt_toInt32]
  exact Int.bmod_eq_of_le (by omega) (by omega)
theorem kt_in {n : Nat} {k : Int64} (h64 : n ≤ 64) (h : ¬ bI (hs n k.toInt) = 0) : vp_in k.toInt32 64 := by
  have h0 := bI_ne0 h
  obtain ⟨h1, h2⟩ := hs_iff.mp h0
  exact vp_in_iff.mpr (by rw [k32 h64 h0]; omega)
theorem kt_c {n : Nat} {k : Int64} (h64 : n ≤ 64) (h : ¬ bI (hs n k.toInt) = 0) : k.toInt32.toNatClampNeg = k.toInt.toNat := by
  have := k32 h64 (bI_ne0 h)
  show k.toInt32.toInt.toNat = _
  rw [this]
theorem hs_lt {n : Nat} {x : Int} (h : hs n x = true) : x.toNat < n := by have := hs_iff.mp h; omega
theorem kT_t {n : Nat} {d g : Nat → Int32} {k : Int64} (h64 : n ≤ 64) (h : ¬ bI (hs n k.toInt) = 0) (h1 : ¬ d k.toInt32.toNatClampNeg < 0) (h2 : g k.toInt32.toNatClampNeg = 0) : (1 : Int32) = bI (kn n d g k.toInt) := by
  rw [kt_c h64 h] at h1 h2
  have h3 : d k.toInt.toNat ≠ -1 := by intro e; rw [e] at h1; exact h1 (by decide)
  rw [show kn n d g k.toInt = true by simp only [kn, bI_ne0 h, h2, decide_true, Bool.and_true, Bool.true_and, decide_eq_true h3]]; rfl
theorem kT_f1 {n : Nat} {d g : Nat → Int32} {k : Int64} (h : bI (hs n k.toInt) = 0) : (0 : Int32) = bI (kn n d g k.toInt) := by
  rw [show kn n d g k.toInt = false by simp [kn, bI_eq0 h]]; rfl
theorem kT_f2 {n : Nat} {d g : Nat → Int32} {k : Int64} (h64 : n ≤ 64) (hd : dOK n d) (h : ¬ bI (hs n k.toInt) = 0) (h1 : d k.toInt32.toNatClampNeg < 0) : (0 : Int32) = bI (kn n d g k.toInt) := by
  rw [kt_c h64 h, ilt, i0] at h1
  have h3 : d k.toInt.toNat = -1 := ieq.mpr (by rw [im1]; have := (hd _ (hs_lt (bI_ne0 h))).1; omega)
  rw [show kn n d g k.toInt = false by simp only [kn, h3]; simp]; rfl
theorem kT_f3 {n : Nat} {d g : Nat → Int32} {k : Int64} (h64 : n ≤ 64) (h : ¬ bI (hs n k.toInt) = 0) (h1 : ¬ g k.toInt32.toNatClampNeg = 0) : (0 : Int32) = bI (kn n d g k.toInt) := by
  rw [kt_c h64 h] at h1
  rw [show kn n d g k.toInt = false by simp only [kn, decide_eq_false h1, Bool.and_false]]; rfl
/-- the reference's isBetter -/
def btL (bo : Int64) (bm : Int32) (off : Int64) (many : Int32) : Bool := decide (off * bm.toInt64 < bo * many.toInt64) || (decide (off * bm.toInt64 = bo * many.toInt64) && decide (bm < many))
theorem bL_0 {be bm many : Int32} {bo off : Int64} (h : be = -1) : (1 : Int32) = bI (decide (be = -1) || btL bo bm off many) := by rw [h]; rfl
theorem bL_1 {be bm many : Int32} {bo off : Int64} (h : lg_cmp (off * bm.toInt64) (bo * many.toInt64) < 0) : (1 : Int32) = bI (decide (be = -1) || btL bo bm off many) := by
  rw [show btL bo bm off many = true by simp [btL, cmp_lt.mp h], Bool.or_true]; rfl
theorem bL_2 {be bm many : Int32} {bo off : Int64} (h0 : ¬ be = -1) (h : ¬ lg_cmp (off * bm.toInt64) (bo * many.toInt64) < 0) (h1 : ¬ lg_cmp (off * bm.toInt64) (bo * many.toInt64) = 0) : (0 : Int32) = bI (decide (be = -1) || btL bo bm off many) := by
  rw [cmp_lt] at h; rw [cmp_eq] at h1
  rw [show btL bo bm off many = false by simp [btL, h, h1], decide_eq_false h0]; rfl
theorem bL_3 {be bm many : Int32} {bo off : Int64} (h0 : ¬ be = -1) (h : ¬ lg_cmp (off * bm.toInt64) (bo * many.toInt64) < 0) (h2 : many ≤ bm) : (0 : Int32) = bI (decide (be = -1) || btL bo bm off many) := by
  rw [cmp_lt] at h; rw [ile] at h2
  rw [decide_eq_false h0, show btL bo bm off many = false by
    simp only [btL, h, decide_false, Bool.false_or, Bool.and_eq_false_iff, decide_eq_false_iff_not]
    right; rw [ilt]; omega]; rfl
theorem bL_4 {be bm many : Int32} {bo off : Int64} (h1 : lg_cmp (off * bm.toInt64) (bo * many.toInt64) = 0) (h2 : ¬ many ≤ bm) : (1 : Int32) = bI (decide (be = -1) || btL bo bm off many) := by
  rw [cmp_eq] at h1; rw [ile] at h2
  rw [show btL bo bm off many = true by
    simp only [btL, h1, Bool.or_eq_true, Bool.and_eq_true, decide_eq_true_eq, true_and]
    right; rw [ilt]; omega, Bool.or_true]; rfl
theorem tl1 {j : Nat} (hj : j < 2 ^ 20) : (nI j).toInt64.toInt = (j : Int) := by rw [Int32.toInt_toInt64, nI_toInt (by omega)]
theorem tl2 {a b : Nat} (ha : a < 2 ^ 20) (hb : b < 2 ^ 20) : (nI a - nI b).toInt64.toInt = (a : Int) - b := by rw [Int32.toInt_toInt64, sub_ti ha hb]
theorem tl3 {a b : Nat} (ha : a < 2 ^ 20) (hb : b < 2 ^ 20) : (nI a + nI b).toInt64.toInt = (a : Int) + b := by rw [Int32.toInt_toInt64, add_ti ha hb]
theorem v64 {n j : Nat} (h64 : n ≤ 64) (hj : j < n) : vp_in (nI j) 64 := vp_in_nI (by omega) (by decide)
theorem v64k {n : Nat} {d g : Nat → Int32} {x : Int32} (h64 : n ≤ 64) (h : ¬ bI (kn n d g x.toInt64.toInt) = 0) : vp_in x 64 := by
  have := hs_iff.mp (kn_hs (bI_ne0 h))
  rw [Int32.toInt_toInt64] at this
  exact vp_in_iff.mpr (by omega)
theorem rsT_t {n : Nat} {d g : Nat → Int32} {S j : Nat} (hS : S < 2 ^ 20) (hj : j < 2 ^ 20) (h1 : ¬ bI (kn n d g (nI j).toInt64.toInt) = 0) (h2 : ¬ bI (kn n d g (nI j + nI S).toInt64.toInt) = 0) : rs n d g S j + ((d (nI j).toNatClampNeg - 128) * (d (nI j + nI S).toNatClampNeg - 128)).toInt64 = rs n d g S (j + 1) := by
  rw [Int32.toInt_toInt64] at h1 h2
  exact rs_t hS hj h1 h2
theorem rsT_f1 {n : Nat} {d g : Nat → Int32} {S j : Nat} (hj : j < 2 ^ 20) (h1 : bI (kn n d g (nI j).toInt64.toInt) = 0) : rs n d g S j = rs n d g S (j + 1) := by
  rw [Int32.toInt_toInt64] at h1
  exact rs_f1 hj h1
theorem rsT_f2 {n : Nat} {d g : Nat → Int32} {S j : Nat} (hS : S < 2 ^ 20) (hj : j < 2 ^ 20) (h2 : bI (kn n d g (nI j + nI S).toInt64.toInt) = 0) : rs n d g S j = rs n d g S (j + 1) := by
  rw [Int32.toInt_toInt64] at h2
  exact rs_f2 hS hj h2
theorem rT_out {n S j : Nat} (hn : n < 2 ^ 20) (hS : S ≤ n) (h : j ≤ n - S) (c : nI n ≤ nI j + nI S) : j = n - S := by
  rw [nI_add] at c
  have := (nI_leI (by omega) (by omega)).mp c
  omega
theorem rT_in {n S j : Nat} (hn : n < 2 ^ 20) (hS : S ≤ n) (h : j ≤ n - S) (c : ¬ nI n ≤ nI j + nI S) : j < n - S := by
  rcases Nat.lt_or_ge j (n - S) with q | q
  · exact q
  · exact absurd (by rw [nI_add]; exact nI_le (by omega) (by omega)) c

set_option maxHeartbeats 4000000 in
set_option maxRecDepth 100000 in
/-- isIn of longs -/
theorem c_T_isIn_ok (l : Launch) (D : va_G) (cI cZ cJ cO : ClassId) (v lo hi : Int64) : Met l y_T_isIn (wq y_T_isIn c_T_isIn 6 (some .boolean)) ({ frames := 0, cells := 0, slots := 0, locals := 0 }) (rP D (TY cI cZ cJ cO) [] [.long v, .long lo, .long hi]) (vp_Si (fun r => r = bI (lw v lo hi))) 0 0 (fun _ => False) := by
  refine Met.ofW (cc := c_T_isIn) (maxL := 6) (ret := (some .boolean)) (by decide) rfl ?_
  intro p e s m args below meth c s₁ B hml hv
  obtain ⟨rfl, hP, hK, hN⟩ := hv
  have hx := B.exec
  have hb := B.bytes
  have hr := B.returns
  have hg := gt_h (atoms_spec (ws := (wq y_T_isIn c_T_isIn 6 (some .boolean))) B.pre)
  have hown : s.vm.findClass "RubbingMirrorsModel" = some m.cls := findClass_of_methodNamed B.named
  have hlocks := B.notSynchronized
  have hl := lv_entry ([.long v, .long lo, .long hi]) (n := 6) (Nat.le_of_ble_eq_true rfl)
  rw [lg_entry_eq]
  generalize (lg_sl ([.long v, .long lo, .long hi]) ++ List.replicate (6 - (lg_sl ([.long v, .long lo, .long hi])).length) Slot.unset).toArray = ls at hl ⊢
  have hl : lv_has ls 6 [(0, .long v), (2, .long lo), (4, .long hi)] := hl
  refine lv_lload_n hx hb d_T_isIn_0 rfl (lv_at hl 0 rfl) ?_
  refine lv_lload_n hx hb d_T_isIn_1 rfl (lv_at hl 1 rfl) ?_
  refine W.lcmp hx hb d_T_isIn_2 ?_
  refine lv_if_lt (tgt := 17) hx hb d_T_isIn_3 (by decide) (fun c_3 => ?_) (fun c_3 => ?_)
  · refine lv_iconst (v := 0) hx hb d_T_isIn_17 (by decide) ?_
    exact W.zret hx hb hr (by decide) (fun t9 ht hW => ⟨_, rfl, (by first | exact lw_t c_3 c_10 | exact lw_f1 c_3 | exact lw_f2 c_10), ht⟩) t_nil2 d_T_isIn_18
  · refine lv_lload_n hx hb d_T_isIn_6 rfl (lv_at hl 0 rfl) ?_
    refine lv_lload hx hb d_T_isIn_7 (lv_at hl 2 rfl) ?_
    refine W.lcmp hx hb d_T_isIn_9 ?_
    refine lv_if_gt (tgt := 17) hx hb d_T_isIn_10 (by decide) (fun c_10 => ?_) (fun c_10 => ?_)
    · refine lv_iconst (v := 0) hx hb d_T_isIn_17 (by decide) ?_
      exact W.zret hx hb hr (by decide) (fun t9 ht hW => ⟨_, rfl, (by first | exact lw_t c_3 c_10 | exact lw_f1 c_3 | exact lw_f2 c_10), ht⟩) t_nil2 d_T_isIn_18
    · refine lv_iconst (v := 1) hx hb d_T_isIn_13 (by decide) ?_
      refine lv_goto (tgt := 18) hx hb d_T_isIn_14 (by decide) ?_
      exact W.zret hx hb hr (by decide) (fun t9 ht hW => ⟨_, rfl, (by first | exact lw_t c_3 c_10 | exact lw_f1 c_3 | exact lw_f2 c_10), ht⟩) t_nil2 d_T_isIn_18

set_option maxHeartbeats 4000000 in
set_option maxRecDepth 100000 in
theorem c_T_thrown_ok (l : Launch) (D : va_G) (cI cZ cJ cO : ClassId) (o dT gT la ca aa na ya ta : Nat) (n ns nn nr : Nat) (d g sl cr ak no ye tl : Nat → Int32) (th be bp bm : Int32) (bo : Int64) (h4 : 4 ≤ n) (h64 : n ≤ 64) (hd : dOK n d)  : Met l y_T_thrown (wq y_T_thrown c_T_thrown 1 (some .int)) ({ frames := 0, cells := 0, slots := 0, locals := 0 }) (rP D (TY cI cZ cJ cO) [(o, .inr (7, [.int th, .int (nI n), .ref dT, .ref gT, .int (nI ns), .ref la, .ref ca, .int (nI nn), .ref aa, .ref na, .ref ya, .int (nI nr), .ref ta, .int be, .int bp, .long bo, .int bm])), (dT, .inl (cI, 64, .inl d)), (gT, .inl (cZ, 64, .inl g)), (la, .inl (cI, 8, .inl sl)), (ca, .inl (cI, 128, .inl cr)), (aa, .inl (cI, 16, .inl ak)), (na, .inl (cI, 16, .inl no)), (ya, .inl (cI, 16, .inl ye)), (ta, .inl (cI, 48, .inl tl))] [.ref o]) (vp_Si (fun r => r = th)) 0 0 (fun _ => False) := by
  refine Met.ofW (cc := c_T_thrown) (maxL := 1) (ret := (some .int)) (by decide) rfl ?_
  intro p e s m args below meth c s₁ B hml hv
  obtain ⟨rfl, hP, hK, hN⟩ := hv
  have hx := B.exec
  have hb := B.bytes
  have hr := B.returns
  have hg := gt_h (atoms_spec (ws := (wq y_T_thrown c_T_thrown 1 (some .int))) B.pre)
  have hown : s.vm.findClass "RubbingMirrorsModel" = some m.cls := findClass_of_methodNamed B.named
  have hlocks := B.notSynchronized
  have hl := lv_entry ([.ref o]) (n := 1) (Nat.le_of_ble_eq_true rfl)
  rw [lg_entry_eq]
  generalize (lg_sl ([.ref o]) ++ List.replicate (1 - (lg_sl ([.ref o])).length) Slot.unset).toArray = ls at hl ⊢
  have hl : lv_has ls 1 [(0, .ref o)] := hl
  refine lv_aload_n hx hb d_T_thrown_0 rfl (lv_at hl 0 rfl) ?_
  refine va_get (D := D) (ci := 7) (v := .int th) (C := Q_T) (T := F_T) (N := 17) hx hb hg in_T hown hK hP 0 rfl rfl 0 (by decide) (hg _ g_639) (fun _ h9 => h9) rfl d_T_thrown_1 ?_
  exact W.iret hx hb hr (fun t9 ht hW => ⟨_, rfl, rfl, ht⟩) t_nil2 d_T_thrown_4

set_option maxHeartbeats 4000000 in
set_option maxRecDepth 100000 in
theorem c_T_isPlace_ok (l : Launch) (D : va_G) (cI cZ cJ cO : ClassId) (o dT gT la ca aa na ya ta : Nat) (n ns nn nr : Nat) (d g sl cr ak no ye tl : Nat → Int32) (th be bp bm : Int32) (bo : Int64) (h4 : 4 ≤ n) (h64 : n ≤ 64) (hd : dOK n d) (k : Int64) : Met l y_T_isPlace (wq y_T_isPlace c_T_isPlace 3 (some .boolean)) ({ frames := 1, cells := 0, slots := 0, locals := 25 }) (rP D (TY cI cZ cJ cO) [(o, .inr (7, [.int th, .int (nI n), .ref dT, .ref gT, .int (nI ns), .ref la, .ref ca, .int (nI nn), .ref aa, .ref na, .ref ya, .int (nI nr), .ref ta, .int be, .int bp, .long bo, .int bm])), (dT, .inl (cI, 64, .inl d)), (gT, .inl (cZ, 64, .inl g)), (la, .inl (cI, 8, .inl sl)), (ca, .inl (cI, 128, .inl cr)), (aa, .inl (cI, 16, .inl ak)), (na, .inl (cI, 16, .inl no)), (ya, .inl (cI, 16, .inl ye)), (ta, .inl (cI, 48, .inl tl))] [.ref o, .long k]) (vp_Si (fun r => r = bI (hs n k.toInt))) 0 0 (fun _ => False) := by
  refine Met.ofW (cc := c_T_isPlace) (maxL := 3) (ret := (some .boolean)) (by decide) rfl ?_
  intro p e s m args below meth c s₁ B hml hv
  obtain ⟨rfl, hP, hK, hN⟩ := hv
  have hx := B.exec
  have hb := B.bytes
  have hr := B.returns
  have hg := gt_h (atoms_spec (ws := (wq y_T_isPlace c_T_isPlace 3 (some .boolean))) B.pre)
  have hown : s.vm.findClass "RubbingMirrorsModel" = some m.cls := findClass_of_methodNamed B.named
  have hlocks := B.notSynchronized
  have hl := lv_entry ([.ref o, .long k]) (n := 3) (Nat.le_of_ble_eq_true rfl)
  rw [lg_entry_eq]
  generalize (lg_sl ([.ref o, .long k]) ++ List.replicate (3 - (lg_sl ([.ref o, .long k])).length) Slot.unset).toArray = ls at hl ⊢
  have hl : lv_has ls 3 [(0, .ref o), (1, .long k)] := hl
  refine lv_lload_n hx hb d_T_isPlace_0 rfl (lv_at hl 1 rfl) ?_
  refine lv_lconst (v := 0) hx hb d_T_isPlace_1 (by decide) ?_
  refine lv_aload_n hx hb d_T_isPlace_2 rfl (lv_at hl 0 rfl) ?_
  refine va_get (D := D) (ci := 7) (v := .int (nI n)) (C := Q_T) (T := F_T) (N := 17) hx hb hg in_T hown hK hP 0 rfl rfl 1 (by decide) (hg _ g_640) (fun _ h9 => h9) rfl d_T_isPlace_3 ?_
  refine lv_iconst (v := 1) hx hb d_T_isPlace_6 (by decide) ?_
  refine lv_isub hx hb d_T_isPlace_7 ?_
  refine lv_i2l (v := ((nI n) - 1).toInt64) hx hb d_T_isPlace_8 rfl ?_
  refine vp_callSi (va_Run.run (va_runS (As := [.long k, .long 0, .long (((nI n) - 1).toInt64)]) (rest := []) ⟨hx, hb, hml, hown, hg⟩ (c_T_isIn_ok l D cI cZ cJ cO k 0 (((nI n) - 1).toInt64)) (va_cwS 3 hg (gs2 g_703 g_704 g_26 g_705) rfl rfl rfl (by decide +kernel) ⟨Nat.le_of_ble_eq_true rfl, Nat.le_of_ble_eq_true rfl⟩) (pS ba_nil hK hN) rfl rfl hl.1 rfl (lv_room (Nat.le_of_ble_eq_true rfl)) d_T_isPlace_9 ⟨Nat.zero_le _, Nat.zero_le _⟩)) (fun r_1 hr_1 => ?_)
  subst hr_1
  exact W.zret hx hb hr (nz_bI _) (fun t9 ht hW => ⟨_, rfl, (by rw [lw_pl h4 h64]), ht⟩) t_nil2 d_T_isPlace_12

set_option maxHeartbeats 4000000 in
set_option maxRecDepth 100000 in
theorem c_T_isKnown_ok (l : Launch) (D : va_G) (cI cZ cJ cO : ClassId) (o dT gT la ca aa na ya ta : Nat) (n ns nn nr : Nat) (d g sl cr ak no ye tl : Nat → Int32) (th be bp bm : Int32) (bo : Int64) (h4 : 4 ≤ n) (h64 : n ≤ 64) (hd : dOK n d) (k : Int64) : Met l y_T_isKnown (wq y_T_isKnown c_T_isKnown 3 (some .boolean)) ({ frames := 2, cells := 0, slots := 0, locals := 47 }) (rP D (TY cI cZ cJ cO) [(o, .inr (7, [.int th, .int (nI n), .ref dT, .ref gT, .int (nI ns), .ref la, .ref ca, .int (nI nn), .ref aa, .ref na, .ref ya, .int (nI nr), .ref ta, .int be, .int bp, .long bo, .int bm])), (dT, .inl (cI, 64, .inl d)), (gT, .inl (cZ, 64, .inl g)), (la, .inl (cI, 8, .inl sl)), (ca, .inl (cI, 128, .inl cr)), (aa, .inl (cI, 16, .inl ak)), (na, .inl (cI, 16, .inl no)), (ya, .inl (cI, 16, .inl ye)), (ta, .inl (cI, 48, .inl tl))] [.ref o, .long k]) (vp_Si (fun r => r = bI (kn n d g k.toInt))) 0 0 (fun _ => False) := by
  refine Met.ofW (cc := c_T_isKnown) (maxL := 3) (ret := (some .boolean)) (by decide) rfl ?_
  intro p e s m args below meth c s₁ B hml hv
  obtain ⟨rfl, hP, hK, hN⟩ := hv
  have hx := B.exec
  have hb := B.bytes
  have hr := B.returns
  have hg := gt_h (atoms_spec (ws := (wq y_T_isKnown c_T_isKnown 3 (some .boolean))) B.pre)
  have hown : s.vm.findClass "RubbingMirrorsModel" = some m.cls := findClass_of_methodNamed B.named
  have hlocks := B.notSynchronized
  have hl := lv_entry ([.ref o, .long k]) (n := 3) (Nat.le_of_ble_eq_true rfl)
  rw [lg_entry_eq]
  generalize (lg_sl ([.ref o, .long k]) ++ List.replicate (3 - (lg_sl ([.ref o, .long k])).length) Slot.unset).toArray = ls at hl ⊢
  have hl : lv_has ls 3 [(0, .ref o), (1, .long k)] := hl
  refine lv_aload_n hx hb d_T_isKnown_0 rfl (lv_at hl 0 rfl) ?_
  refine lv_lload_n hx hb d_T_isKnown_1 rfl (lv_at hl 1 rfl) ?_
  refine vp_callSi (va_Run.run (va_runV (As := [.long k]) (rest := []) ⟨hx, hb, hml, hown, hg⟩ (c_T_isPlace_ok l D cI cZ cJ cO o dT gT la ca aa na ya ta n ns nn nr d g sl cr ak no ye tl th be bp bm bo h4 h64 hd k) (cwV 1 hg (gv g_699 g_701 g_9 g_26 g_702) rfl rfl rfl (by decide +kernel) ⟨Nat.le_of_ble_eq_true rfl, Nat.le_of_ble_eq_true rfl⟩) (pV hP hK hN (va_recv hK hP (ci := 7) (q0 := 0) rfl rfl)) rfl rfl hl.1 rfl (lv_room (Nat.le_of_ble_eq_true rfl)) d_T_isKnown_2 ⟨Nat.zero_le _, Nat.zero_le _⟩)) (fun r_1 hr_1 => ?_)
  subst hr_1
  refine lv_if_eq (tgt := 32) hx hb d_T_isKnown_5 (by decide) (fun c_5 => ?_) (fun c_5 => ?_)
  · refine lv_iconst (v := 0) hx hb d_T_isKnown_32 (by decide) ?_
    exact W.zret hx hb hr (by decide) (fun t9 ht hW => ⟨_, rfl, (by first | exact kT_t h64 c_5 c_15 c_25 | exact kT_f1 c_5 | exact kT_f2 h64 hd c_5 c_15 | exact kT_f3 h64 c_5 c_25), ht⟩) t_nil2 d_T_isKnown_33
  · refine lv_aload_n hx hb d_T_isKnown_8 rfl (lv_at hl 0 rfl) ?_
    refine va_get (D := D) (ci := 7) (v := .ref dT) (C := Q_T) (T := F_T) (N := 17) hx hb hg in_T hown hK hP 0 rfl rfl 2 (by decide) (hg _ g_641) (fun _ h9 => h9) rfl d_T_isKnown_9 ?_
    refine lv_lload_n hx hb d_T_isKnown_12 rfl (lv_at hl 1 rfl) ?_
    refine lv_l2i (v := k.toInt32) hx hb d_T_isKnown_13 rfl ?_
    refine va_iald hx hb hK hP 1 0 rfl rfl (kt_in h64 c_5) d_T_isKnown_14 ?_
    refine lv_if_lt (tgt := 32) hx hb d_T_isKnown_15 (by decide) (fun c_15 => ?_) (fun c_15 => ?_)
    · refine lv_iconst (v := 0) hx hb d_T_isKnown_32 (by decide) ?_
      exact W.zret hx hb hr (by decide) (fun t9 ht hW => ⟨_, rfl, (by first | exact kT_t h64 c_5 c_15 c_25 | exact kT_f1 c_5 | exact kT_f2 h64 hd c_5 c_15 | exact kT_f3 h64 c_5 c_25), ht⟩) t_nil2 d_T_isKnown_33
    · refine lv_aload_n hx hb d_T_isKnown_18 rfl (lv_at hl 0 rfl) ?_
      refine va_get (D := D) (ci := 7) (v := .ref gT) (C := Q_T) (T := F_T) (N := 17) hx hb hg in_T hown hK hP 0 rfl rfl 3 (by decide) (hg _ g_642) (fun _ h9 => h9) rfl d_T_isKnown_19 ?_
      refine lv_lload_n hx hb d_T_isKnown_22 rfl (lv_at hl 1 rfl) ?_
      refine lv_l2i (v := k.toInt32) hx hb d_T_isKnown_23 rfl ?_
      refine va_zald hx hb hK hP 2 1 rfl rfl (kt_in h64 c_5) d_T_isKnown_24 ?_
      refine lv_if_ne (tgt := 32) hx hb d_T_isKnown_25 (by decide) (fun c_25 => ?_) (fun c_25 => ?_)
      · refine lv_iconst (v := 0) hx hb d_T_isKnown_32 (by decide) ?_
        exact W.zret hx hb hr (by decide) (fun t9 ht hW => ⟨_, rfl, (by first | exact kT_t h64 c_5 c_15 c_25 | exact kT_f1 c_5 | exact kT_f2 h64 hd c_5 c_15 | exact kT_f3 h64 c_5 c_25), ht⟩) t_nil2 d_T_isKnown_33
      · refine lv_iconst (v := 1) hx hb d_T_isKnown_28 (by decide) ?_
        refine lv_goto (tgt := 33) hx hb d_T_isKnown_29 (by decide) ?_
        exact W.zret hx hb hr (by decide) (fun t9 ht hW => ⟨_, rfl, (by first | exact kT_t h64 c_5 c_15 c_25 | exact kT_f1 c_5 | exact kT_f2 h64 hd c_5 c_15 | exact kT_f3 h64 c_5 c_25), ht⟩) t_nil2 d_T_isKnown_33

set_option maxHeartbeats 4000000 in
set_option maxRecDepth 100000 in
theorem c_T_isBetter_ok (l : Launch) (D : va_G) (cI cZ cJ cO : ClassId) (o dT gT la ca aa na ya ta : Nat) (n ns nn nr : Nat) (d g sl cr ak no ye tl : Nat → Int32) (th be bp bm : Int32) (bo : Int64) (h4 : 4 ≤ n) (h64 : n ≤ 64) (hd : dOK n d) (off : Int64) (many : Int32) : Met l y_T_isBetter (wq y_T_isBetter c_T_isBetter 8 (some .boolean)) ({ frames := 0, cells := 0, slots := 0, locals := 0 }) (rP D (TY cI cZ cJ cO) [(o, .inr (7, [.int th, .int (nI n), .ref dT, .ref gT, .int (nI ns), .ref la, .ref ca, .int (nI nn), .ref aa, .ref na, .ref ya, .int (nI nr), .ref ta, .int be, .int bp, .long bo, .int bm])), (dT, .inl (cI, 64, .inl d)), (gT, .inl (cZ, 64, .inl g)), (la, .inl (cI, 8, .inl sl)), (ca, .inl (cI, 128, .inl cr)), (aa, .inl (cI, 16, .inl ak)), (na, .inl (cI, 16, .inl no)), (ya, .inl (cI, 16, .inl ye)), (ta, .inl (cI, 48, .inl tl))] [.ref o, .long off, .int many]) (vp_Si (fun r => r = bI (decide (be = -1) || btL bo bm off many))) 0 0 (fun _ => False) := by
  refine Met.ofW (cc := c_T_isBetter) (maxL := 8) (ret := (some .boolean)) (by decide) rfl ?_
  intro p e s m args below meth c s₁ B hml hv
  obtain ⟨rfl, hP, hK, hN⟩ := hv
  have hx := B.exec
  have hb := B.bytes
  have hr := B.returns
  have hg := gt_h (atoms_spec (ws := (wq y_T_isBetter c_T_isBetter 8 (some .boolean))) B.pre)
  have hown : s.vm.findClass "RubbingMirrorsModel" = some m.cls := findClass_of_methodNamed B.named
  have hlocks := B.notSynchronized
  have hl := lv_entry ([.ref o, .long off, .int many]) (n := 8) (Nat.le_of_ble_eq_true rfl)
  rw [lg_entry_eq]
  generalize (lg_sl ([.ref o, .long off, .int many]) ++ List.replicate (8 - (lg_sl ([.ref o, .long off, .int many])).length) Slot.unset).toArray = ls at hl ⊢
  have hl : lv_has ls 8 [(0, .ref o), (1, .long off), (3, .int many)] := hl
  refine lv_lload_n hx hb d_T_isBetter_0 rfl (lv_at hl 1 rfl) ?_
  refine lv_aload_n hx hb d_T_isBetter_1 rfl (lv_at hl 0 rfl) ?_
  refine va_get (D := D) (ci := 7) (v := .int bm) (C := Q_T) (T := F_T) (N := 17) hx hb hg in_T hown hK hP 0 rfl rfl 16 (by decide) (hg _ g_655) (fun _ h9 => h9) rfl d_T_isBetter_2 ?_
  refine lv_i2l (v := bm.toInt64) hx hb d_T_isBetter_5 rfl ?_
  refine lv_lmul hx hb d_T_isBetter_6 ?_
  refine lv_lstore (lv' := [(4, .long (off * bm.toInt64)), (0, .ref o), (1, .long off), (3, .int many)]) hx hb d_T_isBetter_7 hl (by decide) rfl (fun ls hl => ?_)
  refine lv_aload_n hx hb d_T_isBetter_9 rfl (lv_at hl 1 rfl) ?_
  refine va_get (D := D) (ci := 7) (v := .long bo) (C := Q_T) (T := F_T) (N := 17) hx hb hg in_T hown hK hP 0 rfl rfl 15 (by decide) (hg _ g_654) (fun _ h9 => h9) rfl d_T_isBetter_10 ?_
  refine lv_iload_n hx hb d_T_isBetter_13 rfl (lv_at hl 3 rfl) ?_
  refine lv_i2l (v := many.toInt64) hx hb d_T_isBetter_14 rfl ?_
  refine lv_lmul hx hb d_T_isBetter_15 ?_
  refine lv_lstore (lv' := [(6, .long (bo * many.toInt64)), (4, .long (off * bm.toInt64)), (0, .ref o), (1, .long off), (3, .int many)]) hx hb d_T_isBetter_16 hl (by decide) rfl (fun ls hl => ?_)
  refine lv_aload_n hx hb d_T_isBetter_18 rfl (lv_at hl 2 rfl) ?_
  refine va_get (D := D) (ci := 7) (v := .int be) (C := Q_T) (T := F_T) (N := 17) hx hb hg in_T hown hK hP 0 rfl rfl 13 (by decide) (hg _ g_652) (fun _ h9 => h9) rfl d_T_isBetter_19 ?_
  refine lv_iconst (v := (-1)) hx hb d_T_isBetter_22 (by decide) ?_
  refine lv_icmp_eq (tgt := 50) hx hb d_T_isBetter_23 (by decide) (fun c_23 => ?_) (fun c_23 => ?_)
  · refine lv_iconst (v := 1) hx hb d_T_isBetter_50 (by decide) ?_
    refine lv_goto (tgt := 55) hx hb d_T_isBetter_51 (by decide) ?_
    exact W.zret hx hb hr (by decide) (fun t9 ht hW => ⟨_, rfl, (by first | exact bL_0 c_23 | exact bL_1 c_31 | exact bL_2 c_23 c_31 c_39 | exact bL_3 c_23 c_31 c_47 | exact bL_4 c_39 c_47), ht⟩) t_nil2 d_T_isBetter_55
  · refine lv_lload hx hb d_T_isBetter_26 (lv_at hl 1 rfl) ?_
    refine lv_lload hx hb d_T_isBetter_28 (lv_at hl 0 rfl) ?_
    refine W.lcmp hx hb d_T_isBetter_30 ?_
    refine lv_if_lt (tgt := 50) hx hb d_T_isBetter_31 (by decide) (fun c_31 => ?_) (fun c_31 => ?_)
    · refine lv_iconst (v := 1) hx hb d_T_isBetter_50 (by decide) ?_
      refine lv_goto (tgt := 55) hx hb d_T_isBetter_51 (by decide) ?_
      exact W.zret hx hb hr (by decide) (fun t9 ht hW => ⟨_, rfl, (by first | exact bL_0 c_23 | exact bL_1 c_31 | exact bL_2 c_23 c_31 c_39 | exact bL_3 c_23 c_31 c_47 | exact bL_4 c_39 c_47), ht⟩) t_nil2 d_T_isBetter_55
    · refine lv_lload hx hb d_T_isBetter_34 (lv_at hl 1 rfl) ?_
      refine lv_lload hx hb d_T_isBetter_36 (lv_at hl 0 rfl) ?_
      refine W.lcmp hx hb d_T_isBetter_38 ?_
      refine lv_if_ne (tgt := 54) hx hb d_T_isBetter_39 (by decide) (fun c_39 => ?_) (fun c_39 => ?_)
      · refine lv_iconst (v := 0) hx hb d_T_isBetter_54 (by decide) ?_
        exact W.zret hx hb hr (by decide) (fun t9 ht hW => ⟨_, rfl, (by first | exact bL_0 c_23 | exact bL_1 c_31 | exact bL_2 c_23 c_31 c_39 | exact bL_3 c_23 c_31 c_47 | exact bL_4 c_39 c_47), ht⟩) t_nil2 d_T_isBetter_55
      · refine lv_iload_n hx hb d_T_isBetter_42 rfl (lv_at hl 4 rfl) ?_
        refine lv_aload_n hx hb d_T_isBetter_43 rfl (lv_at hl 2 rfl) ?_
        refine va_get (D := D) (ci := 7) (v := .int bm) (C := Q_T) (T := F_T) (N := 17) hx hb hg in_T hown hK hP 0 rfl rfl 16 (by decide) (hg _ g_655) (fun _ h9 => h9) rfl d_T_isBetter_44 ?_
        refine lv_icmp_le (tgt := 54) hx hb d_T_isBetter_47 (by decide) (fun c_47 => ?_) (fun c_47 => ?_)
        · refine lv_iconst (v := 0) hx hb d_T_isBetter_54 (by decide) ?_
          exact W.zret hx hb hr (by decide) (fun t9 ht hW => ⟨_, rfl, (by first | exact bL_0 c_23 | exact bL_1 c_31 | exact bL_2 c_23 c_31 c_39 | exact bL_3 c_23 c_31 c_47 | exact bL_4 c_39 c_47), ht⟩) t_nil2 d_T_isBetter_55
        · refine lv_iconst (v := 1) hx hb d_T_isBetter_50 (by decide) ?_
          refine lv_goto (tgt := 55) hx hb d_T_isBetter_51 (by decide) ?_
          exact W.zret hx hb hr (by decide) (fun t9 ht hW => ⟨_, rfl, (by first | exact bL_0 c_23 | exact bL_1 c_31 | exact bL_2 c_23 c_31 c_39 | exact bL_3 c_23 c_31 c_47 | exact bL_4 c_39 c_47), ht⟩) t_nil2 d_T_isBetter_55

set_option maxHeartbeats 4000000 in
set_option maxRecDepth 100000 in
theorem c_T_sumOf_ok (l : Launch) (D : va_G) (cI cZ cJ cO : ClassId) (o dT gT la ca aa na ya ta : Nat) (n ns nn nr : Nat) (d g sl cr ak no ye tl : Nat → Int32) (th be bp bm : Int32) (bo : Int64) (h4 : 4 ≤ n) (h64 : n ≤ 64) (hd : dOK n d) (S : Nat) (hS9 : S ≤ n) : Met l y_T_sumOf (wq y_T_sumOf c_T_sumOf 5 (some .long)) ({ frames := 3, cells := 0, slots := 0, locals := 69 }) (rP D (TY cI cZ cJ cO) [(o, .inr (7, [.int th, .int (nI n), .ref dT, .ref gT, .int (nI ns), .ref la, .ref ca, .int (nI nn), .ref aa, .ref na, .ref ya, .int (nI nr), .ref ta, .int be, .int bp, .long bo, .int bm])), (dT, .inl (cI, 64, .inl d)), (gT, .inl (cZ, 64, .inl g)), (la, .inl (cI, 8, .inl sl)), (ca, .inl (cI, 128, .inl cr)), (aa, .inl (cI, 16, .inl ak)), (na, .inl (cI, 16, .inl no)), (ya, .inl (cI, 16, .inl ye)), (ta, .inl (cI, 48, .inl tl))] [.ref o, .int (nI S)]) (vp_Sl (fun r => r = rs n d g S (n - S))) 0 0 (fun _ => False) := by
  refine Met.ofW (cc := c_T_sumOf) (maxL := 5) (ret := (some .long)) (by decide) rfl ?_
  intro p e s m args below meth c s₁ B hml hv
  obtain ⟨rfl, hP, hK, hN⟩ := hv
  have hx := B.exec
  have hb := B.bytes
  have hr := B.returns
  have hg := gt_h (atoms_spec (ws := (wq y_T_sumOf c_T_sumOf 5 (some .long))) B.pre)
  have hown : s.vm.findClass "RubbingMirrorsModel" = some m.cls := findClass_of_methodNamed B.named
  have hlocks := B.notSynchronized
  have hl := lv_entry ([.ref o, .int (nI S)]) (n := 5) (Nat.le_of_ble_eq_true rfl)
  rw [lg_entry_eq]
  generalize (lg_sl ([.ref o, .int (nI S)]) ++ List.replicate (5 - (lg_sl ([.ref o, .int (nI S)])).length) Slot.unset).toArray = ls at hl ⊢
  have hl : lv_has ls 5 [(0, .ref o), (1, .int (nI S))] := hl
  refine lv_lconst (v := 0) hx hb d_T_sumOf_0 (by decide) ?_
  refine lv_lstore_n (lv' := [(2, .long 0), (0, .ref o), (1, .int (nI S))]) hx hb d_T_sumOf_1 rfl hl (by decide) rfl (fun ls hl => ?_)
  refine lv_iconst (v := 0) hx hb d_T_sumOf_2 (by decide) ?_
  refine lv_istore (lv' := [(4, .int 0), (2, .long 0), (0, .ref o), (1, .int (nI S))]) hx hb d_T_sumOf_3 hl (by decide) rfl (fun ls hl => ?_)
  have loop_5 : ∀ (f5 : Nat) (j : Nat) (x2 : Int64) (x4 : Int32) (ls : Array Slot), (j ≤ n - S ∧ n - S < j + f5 ∧ x2 = rs n d g S j ∧ x4 = nI j) → lv_has ls 5 [(0, .ref o), (1, .int (nI S)), (2, .long x2), (4, .int x4)] → W p l e (headSpec (wq y_T_sumOf c_T_sumOf 5 (some .long)) ({ frames := 3, cells := 0, slots := 0, locals := 69 })).room s m ([.ref o, .int (nI S)] : List Value).toArray below meth c s.heap [] 0 0 (MQ below (vp_Sl (fun r => r = rs n d g S (n - S))) ([.ref o, .int (nI S)] : List Value).toArray s 0 0 (fun _ => False)) (F0 m 5 ls []) := by
    intro f5
    induction f5 with
    | zero =>
      intro j x2 x4 ls hI hl
      obtain ⟨hj1, hj2, rfl, rfl⟩ := hI
      omega
    | succ f5 ih5 =>
      intro j x2 x4 ls hI hl
      obtain ⟨hj1, hj2, rfl, rfl⟩ := hI
      refine lv_iload hx hb d_T_sumOf_5 (lv_at hl 3 rfl) ?_
      refine lv_iload_n hx hb d_T_sumOf_7 rfl (lv_at hl 1 rfl) ?_
      refine lv_iadd hx hb d_T_sumOf_8 ?_
      refine lv_aload_n hx hb d_T_sumOf_9 rfl (lv_at hl 0 rfl) ?_
      refine va_get (D := D) (ci := 7) (v := .int (nI n)) (C := Q_T) (T := F_T) (N := 17) hx hb hg in_T hown hK hP 0 rfl rfl 1 (by decide) (hg _ g_640) (fun _ h9 => h9) rfl d_T_sumOf_10 ?_
      refine lv_icmp_ge (tgt := 77) hx hb d_T_sumOf_13 (by decide) (fun c_13 => ?_) (fun c_13 => ?_)
      · refine lv_lload_n hx hb d_T_sumOf_77 rfl (lv_at hl 2 rfl) ?_
        exact W.lret hx hb hr (fun t9 ht hW => ⟨_, rfl, (by rw [← rT_out (by omega) hS9 hj1 c_13]), ht⟩) t_nil2 d_T_sumOf_78
      · refine lv_aload_n hx hb d_T_sumOf_16 rfl (lv_at hl 0 rfl) ?_
        refine lv_iload hx hb d_T_sumOf_17 (lv_at hl 3 rfl) ?_
        refine lv_i2l (v := (nI j).toInt64) hx hb d_T_sumOf_19 rfl ?_
        refine vp_callSi (va_Run.run (va_runV (As := [.long ((nI j).toInt64)]) (rest := []) ⟨hx, hb, hml, hown, hg⟩ (c_T_isKnown_ok l D cI cZ cJ cO o dT gT la ca aa na ya ta n ns nn nr d g sl cr ak no ye tl th be bp bm bo h4 h64 hd ((nI j).toInt64)) (cwV 1 hg (gv g_720 g_722 g_11 g_26 g_723) rfl rfl rfl (by decide +kernel) ⟨Nat.le_of_ble_eq_true rfl, Nat.le_of_ble_eq_true rfl⟩) (pV hP hK hN (va_recv hK hP (ci := 7) (q0 := 0) rfl rfl)) rfl rfl hl.1 rfl (lv_room (Nat.le_of_ble_eq_true rfl)) d_T_sumOf_20 ⟨Nat.zero_le _, Nat.zero_le _⟩)) (fun r_1 hr_1 => ?_)
        subst hr_1
        refine lv_if_eq (tgt := 69) hx hb d_T_sumOf_23 (by decide) (fun c_23 => ?_) (fun c_23 => ?_)
        · refine lv_lload_n hx hb d_T_sumOf_69 rfl (lv_at hl 2 rfl) ?_
          refine lv_lstore_n (lv' := [(2, .long (rs n d g S j)), (0, .ref o), (1, .int (nI S)), (4, .int (nI j))]) hx hb d_T_sumOf_70 rfl hl (by decide) rfl (fun ls hl => ?_)
          refine lv_iinc (v := (nI j) + 1) (lv' := [(4, .int ((nI j) + 1)), (2, .long (rs n d g S j)), (0, .ref o), (1, .int (nI S))]) hx hb d_T_sumOf_71 hl (k := 3) rfl rfl (by decide) rfl (fun ls hl => ?_)
          refine lv_goto (tgt := 5) hx hb d_T_sumOf_74 (by decide) ?_
          exact ih5 (j + 1) (rs n d g S j) ((nI j) + 1) ls (⟨by have := rT_in (by omega) hS9 hj1 c_13; omega, by omega, (by first | exact rsT_t (by omega) (by omega) c_23 c_35 | exact rsT_f1 (by omega) c_23 | exact rsT_f2 (by omega) (by omega) c_35), nI_1 j⟩) (lv_sub hl [2, 3, 1, 0] rfl)
        · refine lv_aload_n hx hb d_T_sumOf_26 rfl (lv_at hl 0 rfl) ?_
          refine lv_iload hx hb d_T_sumOf_27 (lv_at hl 3 rfl) ?_
          refine lv_iload_n hx hb d_T_sumOf_29 rfl (lv_at hl 1 rfl) ?_
          refine lv_iadd hx hb d_T_sumOf_30 ?_
          refine lv_i2l (v := ((nI j) + (nI S)).toInt64) hx hb d_T_sumOf_31 rfl ?_
          refine vp_callSi (va_Run.run (va_runV (As := [.long (((nI j) + (nI S)).toInt64)]) (rest := []) ⟨hx, hb, hml, hown, hg⟩ (c_T_isKnown_ok l D cI cZ cJ cO o dT gT la ca aa na ya ta n ns nn nr d g sl cr ak no ye tl th be bp bm bo h4 h64 hd (((nI j) + (nI S)).toInt64)) (cwV 1 hg (gv g_720 g_722 g_11 g_26 g_723) rfl rfl rfl (by decide +kernel) ⟨Nat.le_of_ble_eq_true rfl, Nat.le_of_ble_eq_true rfl⟩) (pV hP hK hN (va_recv hK hP (ci := 7) (q0 := 0) rfl rfl)) rfl rfl hl.1 rfl (lv_room (Nat.le_of_ble_eq_true rfl)) d_T_sumOf_32 ⟨Nat.zero_le _, Nat.zero_le _⟩)) (fun r_2 hr_2 => ?_)
          subst hr_2
          refine lv_if_eq (tgt := 69) hx hb d_T_sumOf_35 (by decide) (fun c_35 => ?_) (fun c_35 => ?_)
          · refine lv_lload_n hx hb d_T_sumOf_69 rfl (lv_at hl 2 rfl) ?_
            refine lv_lstore_n (lv' := [(2, .long (rs n d g S j)), (0, .ref o), (1, .int (nI S)), (4, .int (nI j))]) hx hb d_T_sumOf_70 rfl hl (by decide) rfl (fun ls hl => ?_)
            refine lv_iinc (v := (nI j) + 1) (lv' := [(4, .int ((nI j) + 1)), (2, .long (rs n d g S j)), (0, .ref o), (1, .int (nI S))]) hx hb d_T_sumOf_71 hl (k := 3) rfl rfl (by decide) rfl (fun ls hl => ?_)
            refine lv_goto (tgt := 5) hx hb d_T_sumOf_74 (by decide) ?_
            exact ih5 (j + 1) (rs n d g S j) ((nI j) + 1) ls (⟨by have := rT_in (by omega) hS9 hj1 c_13; omega, by omega, (by first | exact rsT_t (by omega) (by omega) c_23 c_35 | exact rsT_f1 (by omega) c_23 | exact rsT_f2 (by omega) (by omega) c_35), nI_1 j⟩) (lv_sub hl [2, 3, 1, 0] rfl)
          · refine lv_lload_n hx hb d_T_sumOf_38 rfl (lv_at hl 2 rfl) ?_
            refine lv_aload_n hx hb d_T_sumOf_39 rfl (lv_at hl 0 rfl) ?_
            refine va_get (D := D) (ci := 7) (v := .ref dT) (C := Q_T) (T := F_T) (N := 17) hx hb hg in_T hown hK hP 0 rfl rfl 2 (by decide) (hg _ g_641) (fun _ h9 => h9) rfl d_T_sumOf_40 ?_
            refine lv_iload hx hb d_T_sumOf_43 (lv_at hl 3 rfl) ?_
            refine va_iald hx hb hK hP 1 0 rfl rfl (v64k h64 c_23) d_T_sumOf_45 ?_
            refine lv_sipush (v := 128) hx hb d_T_sumOf_46 (by decide) ?_
            refine lv_isub hx hb d_T_sumOf_49 ?_
            refine lv_aload_n hx hb d_T_sumOf_50 rfl (lv_at hl 0 rfl) ?_
            refine va_get (D := D) (ci := 7) (v := .ref dT) (C := Q_T) (T := F_T) (N := 17) hx hb hg in_T hown hK hP 0 rfl rfl 2 (by decide) (hg _ g_641) (fun _ h9 => h9) rfl d_T_sumOf_51 ?_
            refine lv_iload hx hb d_T_sumOf_54 (lv_at hl 3 rfl) ?_
            refine lv_iload_n hx hb d_T_sumOf_56 rfl (lv_at hl 1 rfl) ?_
            refine lv_iadd hx hb d_T_sumOf_57 ?_
            refine va_iald hx hb hK hP 1 0 rfl rfl (v64k h64 c_35) d_T_sumOf_58 ?_
            refine lv_sipush (v := 128) hx hb d_T_sumOf_59 (by decide) ?_
            refine lv_isub hx hb d_T_sumOf_62 ?_
            refine lv_imul hx hb d_T_sumOf_63 ?_
            refine lv_i2l (v := (((d (nI j).toNatClampNeg) - 128) * ((d ((nI j) + (nI S)).toNatClampNeg) - 128)).toInt64) hx hb d_T_sumOf_64 rfl ?_
            refine lv_ladd hx hb d_T_sumOf_65 ?_
            refine lv_goto (tgt := 70) hx hb d_T_sumOf_66 (by decide) ?_
            refine lv_lstore_n (lv' := [(2, .long ((rs n d g S j) + ((((d (nI j).toNatClampNeg) - 128) * ((d ((nI j) + (nI S)).toNatClampNeg) - 128)).toInt64))), (0, .ref o), (1, .int (nI S)), (4, .int (nI j))]) hx hb d_T_sumOf_70 rfl hl (by decide) rfl (fun ls hl => ?_)
            refine lv_iinc (v := (nI j) + 1) (lv' := [(4, .int ((nI j) + 1)), (2, .long ((rs n d g S j) + ((((d (nI j).toNatClampNeg) - 128) * ((d ((nI j) + (nI S)).toNatClampNeg) - 128)).toInt64))), (0, .ref o), (1, .int (nI S))]) hx hb d_T_sumOf_71 hl (k := 3) rfl rfl (by decide) rfl (fun ls hl => ?_)
            refine lv_goto (tgt := 5) hx hb d_T_sumOf_74 (by decide) ?_
            exact ih5 (j + 1) ((rs n d g S j) + ((((d (nI j).toNatClampNeg) - 128) * ((d ((nI j) + (nI S)).toNatClampNeg) - 128)).toInt64)) ((nI j) + 1) ls (⟨by have := rT_in (by omega) hS9 hj1 c_13; omega, by omega, (by first | exact rsT_t (by omega) (by omega) c_23 c_35 | exact rsT_f1 (by omega) c_23 | exact rsT_f2 (by omega) (by omega) c_35), nI_1 j⟩) (lv_sub hl [2, 3, 1, 0] rfl)
  exact loop_5 (n + 1) 0 0 0 ls (⟨by omega, by omega, rfl, rfl⟩) (lv_sub hl [2, 3, 1, 0] rfl)
end
section

/-- the reference's order of sources: m tries more, the next is e -/
def se (n : Nat) (d g : Nat → Int32) (K S : Int) : Nat → Nat → Option Int
  | 0, _ => none
  | m + 1, e => if kn n d g (if e % 2 = 0 then K - (e / 2 : Nat) * S else K + (e / 2 : Nat) * S) then some (if e % 2 = 0 then K - (e / 2 : Nat) * S else K + (e / 2 : Nat) * S) else se n d g K S m (e + 1)
theorem se_sr {n : Nat} {d g : Nat → Int32} {K S : Int} : ∀ r t : Nat, se n d g K S (2 * r) (2 * t) = sr n d g K S r t
  | 0, t => rfl
  | r + 1, t => by
    rw [show 2 * (r + 1) = 2 * r + 1 + 1 by omega, se, se, sr]
    rw [if_pos (show 2 * t % 2 = 0 by omega), if_neg (show ¬ (2 * t + 1) % 2 = 0 by omega), show 2 * t / 2 = t by omega, show (2 * t + 1) / 2 = t by omega]
    rw [show 2 * t + 1 + 1 = 2 * (t + 1) by omega, se_sr r (t + 1)]
def sE (n : Nat) (d g : Nat → Int32) (K S a : Int) (m e : Nat) : Int := match (if 0 < S then se n d g K S m e else none) with
  | some x => x
  | none => if a ≠ -1 ∧ kn n d g (a - K) = true then a - K else -1
theorem sE_src {n : Nat} {d g : Nat → Int32} {K S a : Int} : sE n d g K S a 16 2 = src n d g K S a := by
  unfold sE src sq
  rw [show se n d g K S 16 2 = sr n d g K S 8 1 from se_sr 8 1]
  rfl
theorem e_c {E : Nat} (hE : E < 2 ^ 20) : nI E - nI E / 2 * 2 = nI (E % 2) := by
  have := pk_rem (a := E) (d := 2) (by omega) (by omega) (by omega)
  exact this
theorem e_d {E : Nat} (hE : E < 2 ^ 20) : nI E / 2 = nI (E / 2) := pk_div (a := E) (d := 2) (by omega) (by omega) (by omega)
theorem ES_le {E S : Nat} (h : E ≤ 18) : E / 2 * S ≤ 9 * S := Nat.mul_le_mul_right S (by omega)
theorem at_m {K E S : Nat} (hK : K < 2 ^ 20) (hE : E ≤ 18) (hS : S < 2 ^ 20) : ((nI K).toInt64 + ((-1) * (nI E / 2).toInt64) * (nI S).toInt64).toInt = (K : Int) - (E / 2 : Nat) * S := by
  have h9 := ES_le (S := S) hE
  rw [e_d (by omega)]
  have e1 : ((-1 : Int64) * (nI (E / 2)).toInt64).toInt = -((E / 2 : Nat) : Int) := by
    rw [Int64.toInt_mul, tl1 (by omega), show (-1 : Int64).toInt = -1 from rfl]
    rw [Int.bmod_eq_of_le (by omega) (by omega)]; omega
  have e2 : (((-1) * (nI (E / 2)).toInt64) * (nI S).toInt64).toInt = -((E / 2 * S : Nat) : Int) := by
    rw [Int64.toInt_mul, e1, tl1 (by omega), Int.neg_mul, ← Int.natCast_mul]
    exact Int.bmod_eq_of_le (by omega) (by omega)
  rw [Int64.toInt_add, e2, tl1 (by omega), Int.bmod_eq_of_le (by omega) (by omega), Int.natCast_mul]
  omega
theorem at_p {K E S : Nat} (hK : K < 2 ^ 20) (hE : E ≤ 18) (hS : S < 2 ^ 20) : ((nI K).toInt64 + (1 * (nI E / 2).toInt64) * (nI S).toInt64).toInt = (K : Int) + (E / 2 : Nat) * S := by
  have h9 := ES_le (S := S) hE
  rw [e_d (by omega), Int64.one_mul]
  have e2 : ((nI (E / 2)).toInt64 * (nI S).toInt64).toInt = ((E / 2 * S : Nat) : Int) := by
    rw [Int64.toInt_mul, tl1 (by omega), tl1 (by omega), ← Int.natCast_mul]
    exact Int.bmod_eq_of_le (by omega) (by omega)
  rw [Int64.toInt_add, e2, tl1 (by omega), Int.bmod_eq_of_le (by omega) (by omega), Int.natCast_mul]
theorem e_ev {E : Nat} (hE : E < 2 ^ 20) (h : nI E - nI E / 2 * 2 = 0) : E % 2 = 0 := by
  rw [e_c hE] at h
  exact (nI_eq (a := E % 2) (b := 0) (by omega) (by omega)).mp h
theorem e_od {E : Nat} (hE : E < 2 ^ 20) (h : ¬ nI E - nI E / 2 * 2 = 0) : ¬ E % 2 = 0 := fun q => h (by rw [e_c hE, q]; rfl)
theorem sE_y {n : Nat} {d g : Nat → Int32} {K S : Nat} {a x : Int} {m E : Nat} (h0 : ¬ nI S ≤ 0) (hS : S < 2 ^ 20) (hx : x = if E % 2 = 0 then (K : Int) - (E / 2 : Nat) * S else K + (E / 2 : Nat) * S) (h : ¬ bI (kn n d g x) = 0) : x = sE n d g K S a (m + 1) E := by
  rw [ile, nI_toInt (by omega), i0] at h0
  unfold sE
  rw [if_pos (by omega), se, ← hx, if_pos (bI_ne0 h)]
theorem sE_n {n : Nat} {d g : Nat → Int32} {K S : Nat} {a x : Int} {m E : Nat} (hx : x = if E % 2 = 0 then (K : Int) - (E / 2 : Nat) * S else K + (E / 2 : Nat) * S) (h : bI (kn n d g x) = 0) : sE n d g K S a m (E + 1) = sE n d g K S a (m + 1) E := by
  have e : se n d g K S (m + 1) E = se n d g K S m (E + 1) := by rw [se, ← hx, if_neg (by rw [bI_eq0 h]; decide)]
  unfold sE
  rw [e]
theorem sE_e1 {n : Nat} {d g : Nat → Int32} {K S : Nat} {a : Int} {m E : Nat} (hS : S < 2 ^ 20) (h0 : nI S ≤ 0) : sE n d g K S a m E = if a ≠ -1 ∧ kn n d g (a - K) = true then a - K else -1 := by
  rw [ile, nI_toInt (by omega), i0] at h0
  rw [sE, if_neg (by omega)]
theorem sE_e2 {n : Nat} {d g : Nat → Int32} {K S : Nat} {a : Int} {m E : Nat} (h : E + m = 18) (h8 : 18 ≤ nI E) : sE n d g K S a m E = if a ≠ -1 ∧ kn n d g (a - K) = true then a - K else -1 := by
  rw [ile, nI_toInt (by omega)] at h8
  have h9 : (18 : Int32).toInt = 18 := rfl
  have : m = 0 := by omega
  subst this
  rw [sE]
  by_cases c : (0 : Int) < S
  · rw [if_pos c, se]
  · rw [if_neg c]
theorem sE_t {m E : Nat} (h : E + m = 18) (h8 : ¬ 18 ≤ nI E) : E < 18 := by
  rw [ile, nI_toInt (by omega)] at h8
  have h9 : (18 : Int32).toInt = 18 := rfl
  omega
theorem tm_1 {n : Nat} {d g : Nat → Int32} {K : Nat} {a : Int32} (h1 : -1 ≤ a.toInt) (h : a < 0) : (-1 : Int32).toInt = if a.toInt ≠ -1 ∧ kn n d g (a.toInt - K) = true then a.toInt - K else -1 := by
  rw [ilt, i0] at h
  exact sa_1 (ieq.mpr (by rw [im1]; omega))
theorem tm_2 {n : Nat} {d g : Nat → Int32} {K : Nat} {a : Int32} (hK : K < 2 ^ 20) (h1 : -1 ≤ a.toInt) (h2 : a.toInt < 2 ^ 20) (h : bI (kn n d g (a - nI K).toInt64.toInt) = 0) : (-1 : Int32).toInt = if a.toInt ≠ -1 ∧ kn n d g (a.toInt - K) = true then a.toInt - K else -1 := by
  rw [Int32.toInt_toInt64] at h
  exact sa_2 hK h1 h2 h
theorem tm_3 {n : Nat} {d g : Nat → Int32} {K : Nat} {a : Int32} (hK : K < 2 ^ 20) (h1 : -1 ≤ a.toInt) (h2 : a.toInt < 2 ^ 20) (h0 : ¬ a < 0) (h : ¬ bI (kn n d g (a - nI K).toInt64.toInt) = 0) : (a - nI K).toInt = if a.toInt ≠ -1 ∧ kn n d g (a.toInt - K) = true then a.toInt - K else -1 := by
  rw [Int32.toInt_toInt64] at h
  exact sa_3 hK h1 h2 (fun q => h0 (by rw [q]; decide)) h

set_option maxHeartbeats 4000000 in
set_option maxRecDepth 100000 in
theorem c_T_source_ok (l : Launch) (D : va_G) (cI cZ cJ cO : ClassId) (o dT gT la ca aa na ya ta : Nat) (n ns nn nr : Nat) (d g sl cr ak no ye tl : Nat → Int32) (th be bp bm : Int32) (bo : Int64) (h4 : 4 ≤ n) (h64 : n ≤ 64) (hd : dOK n d) (K S : Nat) (a : Int32) (hK9 : K < 2 ^ 20) (hS9 : S < 2 ^ 20) (ha1 : -1 ≤ a.toInt) (ha2 : a.toInt < 2 ^ 20) : Met l y_T_source (wq y_T_source c_T_source 7 (some .int)) ({ frames := 3, cells := 0, slots := 0, locals := 69 }) (rP D (TY cI cZ cJ cO) [(o, .inr (7, [.int th, .int (nI n), .ref dT, .ref gT, .int (nI ns), .ref la, .ref ca, .int (nI nn), .ref aa, .ref na, .ref ya, .int (nI nr), .ref ta, .int be, .int bp, .long bo, .int bm])), (dT, .inl (cI, 64, .inl d)), (gT, .inl (cZ, 64, .inl g)), (la, .inl (cI, 8, .inl sl)), (ca, .inl (cI, 128, .inl cr)), (aa, .inl (cI, 16, .inl ak)), (na, .inl (cI, 16, .inl no)), (ya, .inl (cI, 16, .inl ye)), (ta, .inl (cI, 48, .inl tl))] [.ref o, .int (nI K), .int (nI S), .int a]) (vp_Si (fun r => r.toInt = src n d g K S a.toInt)) 0 0 (fun _ => False) := by
  refine Met.ofW (cc := c_T_source) (maxL := 7) (ret := (some .int)) (by decide) rfl ?_
  intro p e s m args below meth c s₁ B hml hv
  obtain ⟨rfl, hP, hK, hN⟩ := hv
  have hx := B.exec
  have hb := B.bytes
  have hr := B.returns
  have hg := gt_h (atoms_spec (ws := (wq y_T_source c_T_source 7 (some .int))) B.pre)
  have hown : s.vm.findClass "RubbingMirrorsModel" = some m.cls := findClass_of_methodNamed B.named
  have hlocks := B.notSynchronized
  have hl := lv_entry ([.ref o, .int (nI K), .int (nI S), .int a]) (n := 7) (Nat.le_of_ble_eq_true rfl)
  rw [lg_entry_eq]
  generalize (lg_sl ([.ref o, .int (nI K), .int (nI S), .int a]) ++ List.replicate (7 - (lg_sl ([.ref o, .int (nI K), .int (nI S), .int a])).length) Slot.unset).toArray = ls at hl ⊢
  have hl : lv_has ls 7 [(0, .ref o), (1, .int (nI K)), (2, .int (nI S)), (3, .int a)] := hl
  refine lv_iconst (v := 2) hx hb d_T_source_0 (by decide) ?_
  refine lv_istore (lv' := [(4, .int 2), (0, .ref o), (1, .int (nI K)), (2, .int (nI S)), (3, .int a)]) hx hb d_T_source_1 hl (by decide) rfl (fun ls hl => ?_)
  have loop_3 : ∀ (f3 : Nat) (E : Nat) (m9 : Nat) (x4 : Int32) (ls : Array Slot), (E + m9 = 18 ∧ m9 < f3 ∧ x4 = nI E ∧ 2 ≤ E ∧ sE n d g K S a.toInt m9 E = src n d g K S a.toInt) → lv_has ls 7 [(0, .ref o), (1, .int (nI K)), (2, .int (nI S)), (3, .int a), (4, .int x4)] → W p l e (headSpec (wq y_T_source c_T_source 7 (some .int)) ({ frames := 3, cells := 0, slots := 0, locals := 69 })).room s m ([.ref o, .int (nI K), .int (nI S), .int a] : List Value).toArray below meth c s.heap [] 0 0 (MQ below (vp_Si (fun r => r.toInt = src n d g K S a.toInt)) ([.ref o, .int (nI K), .int (nI S), .int a] : List Value).toArray s 0 0 (fun _ => False)) (F0 m 3 ls []) := by
    intro f3
    induction f3 with
    | zero =>
      intro E m9 x4 ls hI hl
      obtain ⟨ht1, ht2, rfl, hE2, hq⟩ := hI
      omega
    | succ f3 ih3 =>
      intro E m9 x4 ls hI hl
      obtain ⟨ht1, ht2, rfl, hE2, hq⟩ := hI
      refine lv_iload hx hb d_T_source_3 (lv_at hl 4 rfl) ?_
      refine lv_bipush (v := 18) hx hb d_T_source_5 (by decide) ?_
      refine lv_icmp_ge (tgt := 61) hx hb d_T_source_7 (by decide) (fun c_7 => ?_) (fun c_7 => ?_)
      · refine lv_iload_n hx hb d_T_source_61 rfl (lv_at hl 3 rfl) ?_
        refine lv_if_lt (tgt := 82) hx hb d_T_source_62 (by decide) (fun c_62 => ?_) (fun c_62 => ?_)
        · refine lv_iconst (v := (-1)) hx hb d_T_source_82 (by decide) ?_
          exact W.iret hx hb hr (fun t9 ht hW => ⟨_, rfl, (by rw [← hq]; (first | rw [sE_e1 hS9 c_11] | rw [sE_e2 ht1 c_7]); (first | exact tm_1 ha1 c_62 | exact tm_2 hK9 ha1 ha2 c_73 | exact tm_3 hK9 ha1 ha2 c_62 c_73)), ht⟩) t_nil2 d_T_source_83
        · refine lv_aload_n hx hb d_T_source_65 rfl (lv_at hl 0 rfl) ?_
          refine lv_iload_n hx hb d_T_source_66 rfl (lv_at hl 3 rfl) ?_
          refine lv_iload_n hx hb d_T_source_67 rfl (lv_at hl 1 rfl) ?_
          refine lv_isub hx hb d_T_source_68 ?_
          refine lv_i2l (v := (a - (nI K)).toInt64) hx hb d_T_source_69 rfl ?_
          refine vp_callSi (va_Run.run (va_runV (As := [.long ((a - (nI K)).toInt64)]) (rest := []) ⟨hx, hb, hml, hown, hg⟩ (c_T_isKnown_ok l D cI cZ cJ cO o dT gT la ca aa na ya ta n ns nn nr d g sl cr ak no ye tl th be bp bm bo h4 h64 hd ((a - (nI K)).toInt64)) (cwV 1 hg (gv g_720 g_722 g_11 g_26 g_723) rfl rfl rfl (by decide +kernel) ⟨Nat.le_of_ble_eq_true rfl, Nat.le_of_ble_eq_true rfl⟩) (pV hP hK hN (va_recv hK hP (ci := 7) (q0 := 0) rfl rfl)) rfl rfl hl.1 rfl (lv_room (Nat.le_of_ble_eq_true rfl)) d_T_source_70 ⟨Nat.zero_le _, Nat.zero_le _⟩)) (fun r_1 hr_1 => ?_)
          subst hr_1
          refine lv_if_eq (tgt := 82) hx hb d_T_source_73 (by decide) (fun c_73 => ?_) (fun c_73 => ?_)
          · refine lv_iconst (v := (-1)) hx hb d_T_source_82 (by decide) ?_
            exact W.iret hx hb hr (fun t9 ht hW => ⟨_, rfl, (by rw [← hq]; (first | rw [sE_e1 hS9 c_11] | rw [sE_e2 ht1 c_7]); (first | exact tm_1 ha1 c_62 | exact tm_2 hK9 ha1 ha2 c_73 | exact tm_3 hK9 ha1 ha2 c_62 c_73)), ht⟩) t_nil2 d_T_source_83
          · refine lv_iload_n hx hb d_T_source_76 rfl (lv_at hl 3 rfl) ?_
            refine lv_iload_n hx hb d_T_source_77 rfl (lv_at hl 1 rfl) ?_
            refine lv_isub hx hb d_T_source_78 ?_
            refine lv_goto (tgt := 83) hx hb d_T_source_79 (by decide) ?_
            exact W.iret hx hb hr (fun t9 ht hW => ⟨_, rfl, (by rw [← hq]; (first | rw [sE_e1 hS9 c_11] | rw [sE_e2 ht1 c_7]); (first | exact tm_1 ha1 c_62 | exact tm_2 hK9 ha1 ha2 c_73 | exact tm_3 hK9 ha1 ha2 c_62 c_73)), ht⟩) t_nil2 d_T_source_83
      · have hE8 : E < 18 := sE_t ht1 c_7
        obtain ⟨m9, rfl⟩ : ∃ m1, m9 = m1 + 1 := ⟨m9 - 1, by omega⟩
        refine lv_iload_n hx hb d_T_source_10 rfl (lv_at hl 2 rfl) ?_
        refine lv_if_le (tgt := 61) hx hb d_T_source_11 (by decide) (fun c_11 => ?_) (fun c_11 => ?_)
        · refine lv_iload_n hx hb d_T_source_61 rfl (lv_at hl 3 rfl) ?_
          refine lv_if_lt (tgt := 82) hx hb d_T_source_62 (by decide) (fun c_62 => ?_) (fun c_62 => ?_)
          · refine lv_iconst (v := (-1)) hx hb d_T_source_82 (by decide) ?_
            exact W.iret hx hb hr (fun t9 ht hW => ⟨_, rfl, (by rw [← hq]; (first | rw [sE_e1 hS9 c_11] | rw [sE_e2 ht1 c_7]); (first | exact tm_1 ha1 c_62 | exact tm_2 hK9 ha1 ha2 c_73 | exact tm_3 hK9 ha1 ha2 c_62 c_73)), ht⟩) t_nil2 d_T_source_83
          · refine lv_aload_n hx hb d_T_source_65 rfl (lv_at hl 0 rfl) ?_
            refine lv_iload_n hx hb d_T_source_66 rfl (lv_at hl 3 rfl) ?_
            refine lv_iload_n hx hb d_T_source_67 rfl (lv_at hl 1 rfl) ?_
            refine lv_isub hx hb d_T_source_68 ?_
            refine lv_i2l (v := (a - (nI K)).toInt64) hx hb d_T_source_69 rfl ?_
            refine vp_callSi (va_Run.run (va_runV (As := [.long ((a - (nI K)).toInt64)]) (rest := []) ⟨hx, hb, hml, hown, hg⟩ (c_T_isKnown_ok l D cI cZ cJ cO o dT gT la ca aa na ya ta n ns nn nr d g sl cr ak no ye tl th be bp bm bo h4 h64 hd ((a - (nI K)).toInt64)) (cwV 1 hg (gv g_720 g_722 g_11 g_26 g_723) rfl rfl rfl (by decide +kernel) ⟨Nat.le_of_ble_eq_true rfl, Nat.le_of_ble_eq_true rfl⟩) (pV hP hK hN (va_recv hK hP (ci := 7) (q0 := 0) rfl rfl)) rfl rfl hl.1 rfl (lv_room (Nat.le_of_ble_eq_true rfl)) d_T_source_70 ⟨Nat.zero_le _, Nat.zero_le _⟩)) (fun r_2 hr_2 => ?_)
            subst hr_2
            refine lv_if_eq (tgt := 82) hx hb d_T_source_73 (by decide) (fun c_73 => ?_) (fun c_73 => ?_)
            · refine lv_iconst (v := (-1)) hx hb d_T_source_82 (by decide) ?_
              exact W.iret hx hb hr (fun t9 ht hW => ⟨_, rfl, (by rw [← hq]; (first | rw [sE_e1 hS9 c_11] | rw [sE_e2 ht1 c_7]); (first | exact tm_1 ha1 c_62 | exact tm_2 hK9 ha1 ha2 c_73 | exact tm_3 hK9 ha1 ha2 c_62 c_73)), ht⟩) t_nil2 d_T_source_83
            · refine lv_iload_n hx hb d_T_source_76 rfl (lv_at hl 3 rfl) ?_
              refine lv_iload_n hx hb d_T_source_77 rfl (lv_at hl 1 rfl) ?_
              refine lv_isub hx hb d_T_source_78 ?_
              refine lv_goto (tgt := 83) hx hb d_T_source_79 (by decide) ?_
              exact W.iret hx hb hr (fun t9 ht hW => ⟨_, rfl, (by rw [← hq]; (first | rw [sE_e1 hS9 c_11] | rw [sE_e2 ht1 c_7]); (first | exact tm_1 ha1 c_62 | exact tm_2 hK9 ha1 ha2 c_73 | exact tm_3 hK9 ha1 ha2 c_62 c_73)), ht⟩) t_nil2 d_T_source_83
        · refine lv_iload_n hx hb d_T_source_14 rfl (lv_at hl 1 rfl) ?_
          refine lv_i2l (v := (nI K).toInt64) hx hb d_T_source_15 rfl ?_
          refine lv_iload hx hb d_T_source_16 (lv_at hl 4 rfl) ?_
          refine lv_iconst (v := 2) hx hb d_T_source_18 (by decide) ?_
          refine lv_irem hx hb d_T_source_19 (by decide) ?_
          refine lv_if_ne (tgt := 29) hx hb d_T_source_20 (by decide) (fun c_20 => ?_) (fun c_20 => ?_)
          · refine lv_lconst (v := 1) hx hb d_T_source_29 (by decide) ?_
            refine lv_iload hx hb d_T_source_30 (lv_at hl 4 rfl) ?_
            refine lv_iconst (v := 2) hx hb d_T_source_32 (by decide) ?_
            refine lv_idiv hx hb d_T_source_33 (by decide) ?_
            refine lv_i2l (v := ((nI E) / 2).toInt64) hx hb d_T_source_34 rfl ?_
            refine lv_lmul hx hb d_T_source_35 ?_
            refine lv_iload_n hx hb d_T_source_36 rfl (lv_at hl 2 rfl) ?_
            refine lv_i2l (v := (nI S).toInt64) hx hb d_T_source_37 rfl ?_
            refine lv_lmul hx hb d_T_source_38 ?_
            refine lv_ladd hx hb d_T_source_39 ?_
            refine lv_lstore (lv' := [(5, .long (((nI K).toInt64) + ((1 * (((nI E) / 2).toInt64)) * ((nI S).toInt64)))), (0, .ref o), (1, .int (nI K)), (2, .int (nI S)), (3, .int a), (4, .int (nI E))]) hx hb d_T_source_40 hl (by decide) rfl (fun ls hl => ?_)
            refine lv_aload_n hx hb d_T_source_42 rfl (lv_at hl 1 rfl) ?_
            refine lv_lload hx hb d_T_source_43 (lv_at hl 0 rfl) ?_
            refine vp_callSi (va_Run.run (va_runV (As := [.long (((nI K).toInt64) + ((1 * (((nI E) / 2).toInt64)) * ((nI S).toInt64)))]) (rest := []) ⟨hx, hb, hml, hown, hg⟩ (c_T_isKnown_ok l D cI cZ cJ cO o dT gT la ca aa na ya ta n ns nn nr d g sl cr ak no ye tl th be bp bm bo h4 h64 hd (((nI K).toInt64) + ((1 * (((nI E) / 2).toInt64)) * ((nI S).toInt64)))) (cwV 1 hg (gv g_720 g_722 g_11 g_26 g_723) rfl rfl rfl (by decide +kernel) ⟨Nat.le_of_ble_eq_true rfl, Nat.le_of_ble_eq_true rfl⟩) (pV hP hK hN (va_recv hK hP (ci := 7) (q0 := 0) rfl rfl)) rfl rfl hl.1 rfl (lv_room (Nat.le_of_ble_eq_true rfl)) d_T_source_45 ⟨Nat.zero_le _, Nat.zero_le _⟩)) (fun r_3 hr_3 => ?_)
            subst hr_3
            refine lv_if_eq (tgt := 55) hx hb d_T_source_48 (by decide) (fun c_48 => ?_) (fun c_48 => ?_)
            · refine lv_iinc (v := (nI E) + 1) (lv' := [(4, .int ((nI E) + 1)), (5, .long (((nI K).toInt64) + ((1 * (((nI E) / 2).toInt64)) * ((nI S).toInt64)))), (0, .ref o), (1, .int (nI K)), (2, .int (nI S)), (3, .int a)]) hx hb d_T_source_55 hl (k := 5) rfl rfl (by decide) rfl (fun ls hl => ?_)
              refine lv_goto (tgt := 3) hx hb d_T_source_58 (by decide) ?_
              exact ih3 (E + 1) m9 ((nI E) + 1) ls (⟨by omega, by omega, nI_1 E, by omega, (sE_n (by rw [if_neg (e_od (by omega) c_20)]; exact at_p hK9 (by omega) hS9) c_48).trans hq⟩) (lv_sub hl [2, 3, 4, 5, 0] rfl)
            · refine lv_lload hx hb d_T_source_51 (lv_at hl 0 rfl) ?_
              refine lv_l2i (v := (((nI K).toInt64) + ((1 * (((nI E) / 2).toInt64)) * ((nI S).toInt64))).toInt32) hx hb d_T_source_53 rfl ?_
              exact W.iret hx hb hr (fun t9 ht hW => ⟨_, rfl, (by dsimp only; rw [k32 h64 (kn_hs (bI_ne0 c_48)), ← hq]; exact sE_y c_11 hS9 (by rw [if_neg (e_od (by omega) c_20)]; exact at_p hK9 (by omega) hS9) c_48), ht⟩) t_nil2 d_T_source_54
          · refine lv_ldc2 (v := (-1)) hx hb hown (hg _ g_706) d_T_source_23 ?_
            refine lv_goto (tgt := 30) hx hb d_T_source_26 (by decide) ?_
            refine lv_iload hx hb d_T_source_30 (lv_at hl 4 rfl) ?_
            refine lv_iconst (v := 2) hx hb d_T_source_32 (by decide) ?_
            refine lv_idiv hx hb d_T_source_33 (by decide) ?_
            refine lv_i2l (v := ((nI E) / 2).toInt64) hx hb d_T_source_34 rfl ?_
            refine lv_lmul hx hb d_T_source_35 ?_
            refine lv_iload_n hx hb d_T_source_36 rfl (lv_at hl 2 rfl) ?_
            refine lv_i2l (v := (nI S).toInt64) hx hb d_T_source_37 rfl ?_
            refine lv_lmul hx hb d_T_source_38 ?_
            refine lv_ladd hx hb d_T_source_39 ?_
            refine lv_lstore (lv' := [(5, .long (((nI K).toInt64) + (((-1) * (((nI E) / 2).toInt64)) * ((nI S).toInt64)))), (0, .ref o), (1, .int (nI K)), (2, .int (nI S)), (3, .int a), (4, .int (nI E))]) hx hb d_T_source_40 hl (by decide) rfl (fun ls hl => ?_)
            refine lv_aload_n hx hb d_T_source_42 rfl (lv_at hl 1 rfl) ?_
            refine lv_lload hx hb d_T_source_43 (lv_at hl 0 rfl) ?_
            refine vp_callSi (va_Run.run (va_runV (As := [.long (((nI K).toInt64) + (((-1) * (((nI E) / 2).toInt64)) * ((nI S).toInt64)))]) (rest := []) ⟨hx, hb, hml, hown, hg⟩ (c_T_isKnown_ok l D cI cZ cJ cO o dT gT la ca aa na ya ta n ns nn nr d g sl cr ak no ye tl th be bp bm bo h4 h64 hd (((nI K).toInt64) + (((-1) * (((nI E) / 2).toInt64)) * ((nI S).toInt64)))) (cwV 1 hg (gv g_720 g_722 g_11 g_26 g_723) rfl rfl rfl (by decide +kernel) ⟨Nat.le_of_ble_eq_true rfl, Nat.le_of_ble_eq_true rfl⟩) (pV hP hK hN (va_recv hK hP (ci := 7) (q0 := 0) rfl rfl)) rfl rfl hl.1 rfl (lv_room (Nat.le_of_ble_eq_true rfl)) d_T_source_45 ⟨Nat.zero_le _, Nat.zero_le _⟩)) (fun r_4 hr_4 => ?_)
            subst hr_4
            refine lv_if_eq (tgt := 55) hx hb d_T_source_48 (by decide) (fun c_48 => ?_) (fun c_48 => ?_)
            · refine lv_iinc (v := (nI E) + 1) (lv' := [(4, .int ((nI E) + 1)), (5, .long (((nI K).toInt64) + (((-1) * (((nI E) / 2).toInt64)) * ((nI S).toInt64)))), (0, .ref o), (1, .int (nI K)), (2, .int (nI S)), (3, .int a)]) hx hb d_T_source_55 hl (k := 5) rfl rfl (by decide) rfl (fun ls hl => ?_)
              refine lv_goto (tgt := 3) hx hb d_T_source_58 (by decide) ?_
              exact ih3 (E + 1) m9 ((nI E) + 1) ls (⟨by omega, by omega, nI_1 E, by omega, (sE_n (by rw [if_pos (e_ev (by omega) c_20)]; exact at_m hK9 (by omega) hS9) c_48).trans hq⟩) (lv_sub hl [2, 3, 4, 5, 0] rfl)
            · refine lv_lload hx hb d_T_source_51 (lv_at hl 0 rfl) ?_
              refine lv_l2i (v := (((nI K).toInt64) + (((-1) * (((nI E) / 2).toInt64)) * ((nI S).toInt64))).toInt32) hx hb d_T_source_53 rfl ?_
              exact W.iret hx hb hr (fun t9 ht hW => ⟨_, rfl, (by dsimp only; rw [k32 h64 (kn_hs (bI_ne0 c_48)), ← hq]; exact sE_y c_11 hS9 (by rw [if_pos (e_ev (by omega) c_20)]; exact at_m hK9 (by omega) hS9) c_48), ht⟩) t_nil2 d_T_source_54
  exact loop_3 17 2 16 2 ls (⟨by omega, by omega, rfl, by omega, sE_src⟩) (lv_sub hl [1, 2, 3, 4, 0] rfl)


theorem six {r : Nat} (hr : r < 2 ^ 20) : (6 : Int32) * nI r = nI (6 * r) := pk_mul 6 r
theorem sixk {r k : Nat} (hr : r < 2 ^ 20) : (6 : Int32) * nI r + nI k = nI (6 * r + k) := by rw [six hr, nI_add]
theorem v48 {r : Nat} (hr : r < 8) : vp_in ((6 : Int32) * nI r) 48 := by rw [six (by omega)]; exact vp_in_nI (by omega) (by decide)
theorem v48k {r k : Nat} (hr : r < 8) (hk : k < 6) : vp_in ((6 : Int32) * nI r + nI k) 48 := by rw [sixk (by omega)]; exact vp_in_nI (by omega) (by decide)
theorem c48 {r : Nat} (hr : r < 8) : ((6 : Int32) * nI r).toNatClampNeg = 6 * r := by rw [six (by omega)]; exact nI_clamp (by omega)
theorem c48k {r k : Nat} (hr : r < 8) (hk : k < 6) : ((6 : Int32) * nI r + nI k).toNatClampNeg = 6 * r + k := by rw [sixk (by omega)]; exact nI_clamp (by omega)
theorem dpt_in {n : Nat} {d : Nat → Int32} {k : Nat} (h : k < n) : dpt n d (k : Int) = d k := by
  rw [dpt, if_pos (hs_iff.mpr ⟨by omega, by omega⟩)]; rfl
theorem hT_1 {n : Nat} {d : Nat → Int32} {lo hi : Int32} {F j : Nat} (h : bI (hol n d lo hi F j) = 0) : (0 : Int32) = bI (hol n d lo hi F (j + 1)) := by rw [hol, bI_eq0 h]; rfl
theorem hT_2 {n : Nat} {d : Nat → Int32} {lo hi : Int32} {F j : Nat} (hn : n ≤ 64) (hj : F + j < n) (hlo : 0 ≤ lo.toInt) (h : d (nI (F + j)).toNatClampNeg < 0) : (0 : Int32) = bI (hol n d lo hi F (j + 1)) := by
  rw [nI_clamp (by omega), ilt, i0] at h
  rw [hol, show ((F : Int) + (j : Int)) = ((F + j : Nat) : Int) by omega, dpt_in hj, show iw (d (F + j)) lo hi = false by simp [iw]; omega, Bool.and_false]; rfl
theorem hT_3 {n : Nat} {d : Nat → Int32} {lo hi : Int32} {F j : Nat} (hn : n ≤ 64) (hj : F + j < n) (h : bI (lw (d (nI (F + j)).toNatClampNeg).toInt64 lo.toInt64 hi.toInt64) = 0) : (0 : Int32) = bI (hol n d lo hi F (j + 1)) := by
  rw [nI_clamp (by omega), lw_iw] at h
  rw [hol, show ((F : Int) + (j : Int)) = ((F + j : Nat) : Int) by omega, dpt_in hj, bI_eq0 h, Bool.and_false]; rfl
theorem hT_4 {n : Nat} {d : Nat → Int32} {lo hi : Int32} {F j : Nat} (hn : n ≤ 64) (hj : F + j < n) (h0 : ¬ bI (hol n d lo hi F j) = 0) (h : ¬ bI (lw (d (nI (F + j)).toNatClampNeg).toInt64 lo.toInt64 hi.toInt64) = 0) : (1 : Int32) = bI (hol n d lo hi F (j + 1)) := by
  rw [nI_clamp (by omega), lw_iw] at h
  rw [hol, show ((F : Int) + (j : Int)) = ((F + j : Nat) : Int) by omega, dpt_in hj, bI_ne0 h, bI_ne0 h0]; rfl

set_option maxHeartbeats 4000000 in
set_option maxRecDepth 100000 in
theorem c_T_holds_ok (l : Launch) (D : va_G) (cI cZ cJ cO : ClassId) (o dT gT la ca aa na ya ta : Nat) (n ns nn nr : Nat) (d g sl cr ak no ye tl : Nat → Int32) (th be bp bm : Int32) (bo : Int64) (h4 : 4 ≤ n) (h64 : n ≤ 64) (hd : dOK n d) (rr F T : Nat) (hr8 : rr < 8) (hF : tl (6 * rr) = nI F) (hT : tl (6 * rr + 1) = nI T) (hFT : F ≤ T) (hTn : T < n) (hlo : 0 ≤ (tl (6 * rr + 2)).toInt) : Met l y_T_holds (wq y_T_holds c_T_holds 4 (some .boolean)) ({ frames := 1, cells := 0, slots := 0, locals := 25 }) (rP D (TY cI cZ cJ cO) [(o, .inr (7, [.int th, .int (nI n), .ref dT, .ref gT, .int (nI ns), .ref la, .ref ca, .int (nI nn), .ref aa, .ref na, .ref ya, .int (nI nr), .ref ta, .int be, .int bp, .long bo, .int bm])), (dT, .inl (cI, 64, .inl d)), (gT, .inl (cZ, 64, .inl g)), (la, .inl (cI, 8, .inl sl)), (ca, .inl (cI, 128, .inl cr)), (aa, .inl (cI, 16, .inl ak)), (na, .inl (cI, 16, .inl no)), (ya, .inl (cI, 16, .inl ye)), (ta, .inl (cI, 48, .inl tl))] [.ref o, .int (nI rr)]) (vp_Si (fun r => r = bI (hol n d (tl (6 * rr + 2)) (tl (6 * rr + 3)) F (T + 1 - F)))) 0 0 (fun _ => False) := by
  refine Met.ofW (cc := c_T_holds) (maxL := 4) (ret := (some .boolean)) (by decide) rfl ?_
  intro p e s m args below meth c s₁ B hml hv
  obtain ⟨rfl, hP, hK, hN⟩ := hv
  have hx := B.exec
  have hb := B.bytes
  have hr := B.returns
  have hg := gt_h (atoms_spec (ws := (wq y_T_holds c_T_holds 4 (some .boolean))) B.pre)
  have hown : s.vm.findClass "RubbingMirrorsModel" = some m.cls := findClass_of_methodNamed B.named
  have hlocks := B.notSynchronized
  have hl := lv_entry ([.ref o, .int (nI rr)]) (n := 4) (Nat.le_of_ble_eq_true rfl)
  rw [lg_entry_eq]
  generalize (lg_sl ([.ref o, .int (nI rr)]) ++ List.replicate (4 - (lg_sl ([.ref o, .int (nI rr)])).length) Slot.unset).toArray = ls at hl ⊢
  have hl : lv_has ls 4 [(0, .ref o), (1, .int (nI rr))] := hl
  refine lv_iconst (v := 1) hx hb d_T_holds_0 (by decide) ?_
  refine lv_istore_n (lv' := [(2, .int 1), (0, .ref o), (1, .int (nI rr))]) hx hb d_T_holds_1 rfl hl (by decide) rfl (fun ls hl => ?_)
  refine lv_aload_n hx hb d_T_holds_2 rfl (lv_at hl 1 rfl) ?_
  refine va_get (D := D) (ci := 7) (v := .ref ta) (C := Q_T) (T := F_T) (N := 17) hx hb hg in_T hown hK hP 0 rfl rfl 12 (by decide) (hg _ g_651) (fun _ h9 => h9) rfl d_T_holds_3 ?_
  refine lv_bipush (v := 6) hx hb d_T_holds_6 (by decide) ?_
  refine lv_iload_n hx hb d_T_holds_8 rfl (lv_at hl 2 rfl) ?_
  refine lv_imul hx hb d_T_holds_9 ?_
  refine va_iald hx hb hK hP 8 0 rfl rfl (v48 hr8) d_T_holds_10 ?_
  refine lv_topi (fun y_1 ey_1 => ?_)
  obtain rfl : y_1 = nI F := ey_1.trans (by rw [c48 hr8]; exact hF)
  refine lv_istore_n (lv' := [(3, .int (nI F)), (2, .int 1), (0, .ref o), (1, .int (nI rr))]) hx hb d_T_holds_11 rfl hl (by decide) rfl (fun ls hl => ?_)
  have loop_12 : ∀ (f12 : Nat) (j : Nat) (x2 : Int32) (x3 : Int32) (ls : Array Slot), (j ≤ T + 1 - F ∧ T + 1 < F + j + f12 ∧ x2 = bI (hol n d (tl (6 * rr + 2)) (tl (6 * rr + 3)) F j) ∧ x3 = nI (F + j)) → lv_has ls 4 [(0, .ref o), (1, .int (nI rr)), (2, .int x2), (3, .int x3)] → W p l e (headSpec (wq y_T_holds c_T_holds 4 (some .boolean)) ({ frames := 1, cells := 0, slots := 0, locals := 25 })).room s m ([.ref o, .int (nI rr)] : List Value).toArray below meth c s.heap [] 0 0 (MQ below (vp_Si (fun r => r = bI (hol n d (tl (6 * rr + 2)) (tl (6 * rr + 3)) F (T + 1 - F)))) ([.ref o, .int (nI rr)] : List Value).toArray s 0 0 (fun _ => False)) (F0 m 12 ls []) := by
    intro f12
    induction f12 with
    | zero =>
      intro j x2 x3 ls hI hl
      obtain ⟨hj1, hj2, rfl, rfl⟩ := hI
      omega
    | succ f12 ih12 =>
      intro j x2 x3 ls hI hl
      obtain ⟨hj1, hj2, rfl, rfl⟩ := hI
      refine lv_iload_n hx hb d_T_holds_12 rfl (lv_at hl 3 rfl) ?_
      refine lv_aload_n hx hb d_T_holds_13 rfl (lv_at hl 0 rfl) ?_
      refine va_get (D := D) (ci := 7) (v := .ref ta) (C := Q_T) (T := F_T) (N := 17) hx hb hg in_T hown hK hP 0 rfl rfl 12 (by decide) (hg _ g_651) (fun _ h9 => h9) rfl d_T_holds_14 ?_
      refine lv_bipush (v := 6) hx hb d_T_holds_17 (by decide) ?_
      refine lv_iload_n hx hb d_T_holds_19 rfl (lv_at hl 1 rfl) ?_
      refine lv_imul hx hb d_T_holds_20 ?_
      refine lv_iconst (v := 1) hx hb d_T_holds_21 (by decide) ?_
      refine lv_iadd hx hb d_T_holds_22 ?_
      refine va_iald hx hb hK hP 8 0 rfl rfl (v48k (k := 1) hr8 (by omega)) d_T_holds_23 ?_
      refine lv_topi (fun y_2 ey_2 => ?_)
      obtain rfl : y_2 = nI T := ey_2.trans (by rw [show (1 : Int32) = nI 1 from rfl, c48k hr8 (by omega)]; exact hT)
      refine lv_icmp_gt (tgt := 89) hx hb d_T_holds_24 (by decide) (fun c_24 => ?_) (fun c_24 => ?_)
      · refine lv_iload_n hx hb d_T_holds_89 rfl (lv_at hl 2 rfl) ?_
        exact W.zret hx hb hr (nz_bI _) (fun t9 ht hW => ⟨_, rfl, (by rw [← hj_out (by omega) hj1 (by omega) c_24]), ht⟩) t_nil2 d_T_holds_90
      · refine lv_iload_n hx hb d_T_holds_27 rfl (lv_at hl 2 rfl) ?_
        refine lv_if_eq (tgt := 81) hx hb d_T_holds_28 (by decide) (fun c_28 => ?_) (fun c_28 => ?_)
        · refine lv_iconst (v := 0) hx hb d_T_holds_81 (by decide) ?_
          refine lv_istore_n (lv' := [(2, .int 0), (0, .ref o), (1, .int (nI rr)), (3, .int (nI (F + j)))]) hx hb d_T_holds_82 rfl hl (by decide) rfl (fun ls hl => ?_)
          refine lv_iinc (v := (nI (F + j)) + 1) (lv' := [(3, .int ((nI (F + j)) + 1)), (2, .int 0), (0, .ref o), (1, .int (nI rr))]) hx hb d_T_holds_83 hl (k := 3) rfl rfl (by decide) rfl (fun ls hl => ?_)
          refine lv_goto (tgt := 12) hx hb d_T_holds_86 (by decide) ?_
          exact ih12 (j + 1) 0 ((nI (F + j)) + 1) ls (⟨by have := hj_in (by omega) hj1 (by omega) c_24; omega, by omega, (by first | exact hT_1 c_28 | exact hT_2 h64 (by have := hj_in (by omega) hj1 (by omega) c_24; omega) hlo c_37 | exact hT_3 h64 (by have := hj_in (by omega) hj1 (by omega) c_24; omega) c_74 | exact hT_4 h64 (by have := hj_in (by omega) hj1 (by omega) c_24; omega) c_28 c_74), nI_1 _⟩) (lv_sub hl [2, 3, 1, 0] rfl)
        · refine lv_aload_n hx hb d_T_holds_31 rfl (lv_at hl 0 rfl) ?_
          refine va_get (D := D) (ci := 7) (v := .ref dT) (C := Q_T) (T := F_T) (N := 17) hx hb hg in_T hown hK hP 0 rfl rfl 2 (by decide) (hg _ g_641) (fun _ h9 => h9) rfl d_T_holds_32 ?_
          refine lv_iload_n hx hb d_T_holds_35 rfl (lv_at hl 3 rfl) ?_
          refine va_iald hx hb hK hP 1 0 rfl rfl (v64 h64 (by have := hj_in (by omega) hj1 (by omega) c_24; omega)) d_T_holds_36 ?_
          refine lv_if_lt (tgt := 81) hx hb d_T_holds_37 (by decide) (fun c_37 => ?_) (fun c_37 => ?_)
          · refine lv_iconst (v := 0) hx hb d_T_holds_81 (by decide) ?_
            refine lv_istore_n (lv' := [(2, .int 0), (0, .ref o), (1, .int (nI rr)), (3, .int (nI (F + j)))]) hx hb d_T_holds_82 rfl hl (by decide) rfl (fun ls hl => ?_)
            refine lv_iinc (v := (nI (F + j)) + 1) (lv' := [(3, .int ((nI (F + j)) + 1)), (2, .int 0), (0, .ref o), (1, .int (nI rr))]) hx hb d_T_holds_83 hl (k := 3) rfl rfl (by decide) rfl (fun ls hl => ?_)
            refine lv_goto (tgt := 12) hx hb d_T_holds_86 (by decide) ?_
            exact ih12 (j + 1) 0 ((nI (F + j)) + 1) ls (⟨by have := hj_in (by omega) hj1 (by omega) c_24; omega, by omega, (by first | exact hT_1 c_28 | exact hT_2 h64 (by have := hj_in (by omega) hj1 (by omega) c_24; omega) hlo c_37 | exact hT_3 h64 (by have := hj_in (by omega) hj1 (by omega) c_24; omega) c_74 | exact hT_4 h64 (by have := hj_in (by omega) hj1 (by omega) c_24; omega) c_28 c_74), nI_1 _⟩) (lv_sub hl [2, 3, 1, 0] rfl)
          · refine lv_aload_n hx hb d_T_holds_40 rfl (lv_at hl 0 rfl) ?_
            refine va_get (D := D) (ci := 7) (v := .ref dT) (C := Q_T) (T := F_T) (N := 17) hx hb hg in_T hown hK hP 0 rfl rfl 2 (by decide) (hg _ g_641) (fun _ h9 => h9) rfl d_T_holds_41 ?_
            refine lv_iload_n hx hb d_T_holds_44 rfl (lv_at hl 3 rfl) ?_
            refine va_iald hx hb hK hP 1 0 rfl rfl (v64 h64 (by have := hj_in (by omega) hj1 (by omega) c_24; omega)) d_T_holds_45 ?_
            refine lv_i2l (v := (d (nI (F + j)).toNatClampNeg).toInt64) hx hb d_T_holds_46 rfl ?_
            refine lv_aload_n hx hb d_T_holds_47 rfl (lv_at hl 0 rfl) ?_
            refine va_get (D := D) (ci := 7) (v := .ref ta) (C := Q_T) (T := F_T) (N := 17) hx hb hg in_T hown hK hP 0 rfl rfl 12 (by decide) (hg _ g_651) (fun _ h9 => h9) rfl d_T_holds_48 ?_
            refine lv_bipush (v := 6) hx hb d_T_holds_51 (by decide) ?_
            refine lv_iload_n hx hb d_T_holds_53 rfl (lv_at hl 1 rfl) ?_
            refine lv_imul hx hb d_T_holds_54 ?_
            refine lv_iconst (v := 2) hx hb d_T_holds_55 (by decide) ?_
            refine lv_iadd hx hb d_T_holds_56 ?_
            refine va_iald hx hb hK hP 8 0 rfl rfl (v48k (k := 2) hr8 (by omega)) d_T_holds_57 ?_
            refine lv_topi (fun y_3 ey_3 => ?_)
            obtain rfl : y_3 = tl (6 * rr + 2) := ey_3.trans (by rw [show (2 : Int32) = nI 2 from rfl, c48k hr8 (by omega)])
            refine lv_i2l (v := (tl (6 * rr + 2)).toInt64) hx hb d_T_holds_58 rfl ?_
            refine lv_aload_n hx hb d_T_holds_59 rfl (lv_at hl 0 rfl) ?_
            refine va_get (D := D) (ci := 7) (v := .ref ta) (C := Q_T) (T := F_T) (N := 17) hx hb hg in_T hown hK hP 0 rfl rfl 12 (by decide) (hg _ g_651) (fun _ h9 => h9) rfl d_T_holds_60 ?_
            refine lv_bipush (v := 6) hx hb d_T_holds_63 (by decide) ?_
            refine lv_iload_n hx hb d_T_holds_65 rfl (lv_at hl 1 rfl) ?_
            refine lv_imul hx hb d_T_holds_66 ?_
            refine lv_iconst (v := 3) hx hb d_T_holds_67 (by decide) ?_
            refine lv_iadd hx hb d_T_holds_68 ?_
            refine va_iald hx hb hK hP 8 0 rfl rfl (v48k (k := 3) hr8 (by omega)) d_T_holds_69 ?_
            refine lv_topi (fun y_4 ey_4 => ?_)
            obtain rfl : y_4 = tl (6 * rr + 3) := ey_4.trans (by rw [show (3 : Int32) = nI 3 from rfl, c48k hr8 (by omega)])
            refine lv_i2l (v := (tl (6 * rr + 3)).toInt64) hx hb d_T_holds_70 rfl ?_
            refine vp_callSi (va_Run.run (va_runS (As := [.long ((d (nI (F + j)).toNatClampNeg).toInt64), .long ((tl (6 * rr + 2)).toInt64), .long ((tl (6 * rr + 3)).toInt64)]) (rest := []) ⟨hx, hb, hml, hown, hg⟩ (c_T_isIn_ok l D cI cZ cJ cO ((d (nI (F + j)).toNatClampNeg).toInt64) ((tl (6 * rr + 2)).toInt64) ((tl (6 * rr + 3)).toInt64)) (va_cwS 3 hg (gs2 g_703 g_704 g_26 g_705) rfl rfl rfl (by decide +kernel) ⟨Nat.le_of_ble_eq_true rfl, Nat.le_of_ble_eq_true rfl⟩) (pS ba_nil hK hN) rfl rfl hl.1 rfl (lv_room (Nat.le_of_ble_eq_true rfl)) d_T_holds_71 ⟨Nat.zero_le _, Nat.zero_le _⟩)) (fun r_5 hr_5 => ?_)
            subst hr_5
            refine lv_if_eq (tgt := 81) hx hb d_T_holds_74 (by decide) (fun c_74 => ?_) (fun c_74 => ?_)
            · refine lv_iconst (v := 0) hx hb d_T_holds_81 (by decide) ?_
              refine lv_istore_n (lv' := [(2, .int 0), (0, .ref o), (1, .int (nI rr)), (3, .int (nI (F + j)))]) hx hb d_T_holds_82 rfl hl (by decide) rfl (fun ls hl => ?_)
              refine lv_iinc (v := (nI (F + j)) + 1) (lv' := [(3, .int ((nI (F + j)) + 1)), (2, .int 0), (0, .ref o), (1, .int (nI rr))]) hx hb d_T_holds_83 hl (k := 3) rfl rfl (by decide) rfl (fun ls hl => ?_)
              refine lv_goto (tgt := 12) hx hb d_T_holds_86 (by decide) ?_
              exact ih12 (j + 1) 0 ((nI (F + j)) + 1) ls (⟨by have := hj_in (by omega) hj1 (by omega) c_24; omega, by omega, (by first | exact hT_1 c_28 | exact hT_2 h64 (by have := hj_in (by omega) hj1 (by omega) c_24; omega) hlo c_37 | exact hT_3 h64 (by have := hj_in (by omega) hj1 (by omega) c_24; omega) c_74 | exact hT_4 h64 (by have := hj_in (by omega) hj1 (by omega) c_24; omega) c_28 c_74), nI_1 _⟩) (lv_sub hl [2, 3, 1, 0] rfl)
            · refine lv_iconst (v := 1) hx hb d_T_holds_77 (by decide) ?_
              refine lv_goto (tgt := 82) hx hb d_T_holds_78 (by decide) ?_
              refine lv_istore_n (lv' := [(2, .int 1), (0, .ref o), (1, .int (nI rr)), (3, .int (nI (F + j)))]) hx hb d_T_holds_82 rfl hl (by decide) rfl (fun ls hl => ?_)
              refine lv_iinc (v := (nI (F + j)) + 1) (lv' := [(3, .int ((nI (F + j)) + 1)), (2, .int 1), (0, .ref o), (1, .int (nI rr))]) hx hb d_T_holds_83 hl (k := 3) rfl rfl (by decide) rfl (fun ls hl => ?_)
              refine lv_goto (tgt := 12) hx hb d_T_holds_86 (by decide) ?_
              exact ih12 (j + 1) 1 ((nI (F + j)) + 1) ls (⟨by have := hj_in (by omega) hj1 (by omega) c_24; omega, by omega, (by first | exact hT_1 c_28 | exact hT_2 h64 (by have := hj_in (by omega) hj1 (by omega) c_24; omega) hlo c_37 | exact hT_3 h64 (by have := hj_in (by omega) hj1 (by omega) c_24; omega) c_74 | exact hT_4 h64 (by have := hj_in (by omega) hj1 (by omega) c_24; omega) c_28 c_74), nI_1 _⟩) (lv_sub hl [2, 3, 1, 0] rfl)
  exact loop_12 (T + 2) 0 1 (nI F) ls (⟨by omega, by omega, rfl, rfl⟩) (lv_sub hl [2, 3, 1, 0] rfl)
end
section

theorem lw_c {v lo hi : Int32} {A B : Int64} (h1 : lo.toInt64 = A) (h2 : hi.toInt64 = B) : lw v.toInt64 A B = iw v lo hi := by rw [← h1, ← h2, lw_iw]
theorem hs64 {n : Nat} {k : Int32} : hs n k.toInt64.toInt = hs n k.toInt := by rw [Int32.toInt_toInt64]
theorem v64h {n : Nat} {k : Int32} (h64 : n ≤ 64) (h : ¬ bI (hs n k.toInt) = 0) : vp_in k 64 := by
  have := hs_iff.mp (bI_ne0 h)
  exact vp_in_iff.mpr (by omega)
/-- depth: 1 no such place, 2 not a depth, 0 well -/
def cDep (n : Nat) (k v : Int32) : Int32 := if hs n k.toInt then (if iw v (-1) 255 then 0 else 2) else 1
def dDep (n : Nat) (d : Nat → Int32) (k v : Int32) : Nat → Int32 := if cDep n k v = 0 then upd d k.toNatClampNeg v else d
def gDep (n : Nat) (g : Nat → Int32) (k v : Int32) : Nat → Int32 := if cDep n k v = 0 then upd g k.toNatClampNeg 0 else g
theorem cd_1 {n : Nat} {k v : Int32} (h : bI (hs n k.toInt) = 0) : cDep n k v = 1 := by rw [cDep, bI_eq0 h]; rfl
theorem cd_2 {n : Nat} {k v : Int32} (h : ¬ bI (hs n k.toInt) = 0) (h1 : bI (iw v (-1) 255) = 0) : cDep n k v = 2 := by rw [cDep, bI_ne0 h, bI_eq0 h1]; rfl
theorem cd_0 {n : Nat} {k v : Int32} (h : ¬ bI (hs n k.toInt) = 0) (h1 : ¬ bI (iw v (-1) 255) = 0) : cDep n k v = 0 := by rw [cDep, bI_ne0 h, bI_ne0 h1]; rfl
/-- place -/
def cPla (n : Nat) (k w : Int32) : Int32 := if hs n k.toInt then (if iw w 0 1 then 0 else 1) else 1
def aPla (d g : Nat → Int32) (k w : Int32) : Int32 := if w = 0 then d k.toNatClampNeg else (if g k.toNatClampNeg = 0 then 0 else 1)
theorem cp_1 {n : Nat} {k w : Int32} (h : bI (hs n k.toInt) = 0) : cPla n k w = 1 := by rw [cPla, bI_eq0 h]; rfl
theorem cp_2 {n : Nat} {k w : Int32} (h1 : bI (iw w 0 1) = 0) : cPla n k w = 1 := by rw [cPla, bI_eq0 h1]; cases hs n k.toInt <;> rfl
theorem cp_0 {n : Nat} {k w : Int32} (h : ¬ bI (hs n k.toInt) = 0) (h1 : ¬ bI (iw w 0 1) = 0) : cPla n k w = 0 := by rw [cPla, bI_ne0 h, bI_ne0 h1]; rfl
/-- sum -/
def cSum (n : Nat) (s : Int32) : Int32 := if iw s 1 (nI n - 1) then 0 else 1
def rsv (n : Nat) (d g : Nat → Int32) (S : Nat) : Int64 := rs n d g S (n - S)
theorem cs_1 {n : Nat} {s : Int32} (h : bI (iw s 1 (nI n - 1)) = 0) : cSum n s = 1 := by rw [cSum, bI_eq0 h]; rfl
theorem cs_0 {n : Nat} {s : Int32} (h : ¬ bI (iw s 1 (nI n - 1)) = 0) : cSum n s = 0 := by rw [cSum, bI_ne0 h]; rfl
theorem nat_of {x : Int32} (h : 0 ≤ x.toInt) : x = nI x.toInt.toNat := by
  rw [ieq, nI_toInt (by have := x.toInt_lt; omega)]; omega
theorem iwS {n : Nat} {s : Int32} (h4 : 4 ≤ n) (h64 : n ≤ 64) (h : ¬ bI (iw s 1 (nI n - 1)) = 0) : ∃ S : Nat, 1 ≤ S ∧ S < n ∧ s = nI S := by
  have h := bI_ne0 h
  simp only [iw, Bool.and_eq_true, decide_eq_true_eq, n1_ti h4 h64, i1] at h
  exact ⟨s.toInt.toNat, by omega, by omega, nat_of (by omega)⟩
theorem iwS0 {n : Nat} {s : Int32} (h4 : 4 ≤ n) (h64 : n ≤ 64) (h : ¬ bI (iw s 0 (nI n - 1)) = 0) : ∃ S : Nat, S < n ∧ s = nI S := by
  have h := bI_ne0 h
  simp only [iw, Bool.and_eq_true, decide_eq_true_eq, n1_ti h4 h64, i0] at h
  exact ⟨s.toInt.toNat, by omega, nat_of (by omega)⟩
theorem iwT {n F : Nat} {s : Int32} (h4 : 4 ≤ n) (h64 : n ≤ 64) (hF : F < n) (h : ¬ bI (iw s (nI F) (nI n - 1)) = 0) : ∃ S : Nat, F ≤ S ∧ S < n ∧ s = nI S := by
  have h := bI_ne0 h
  simp only [iw, Bool.and_eq_true, decide_eq_true_eq, n1_ti h4 h64, nI_toInt (show F < 2 ^ 31 by omega)] at h
  exact ⟨s.toInt.toNat, by omega, by omega, nat_of (by omega)⟩
/-- repeat -/
def cRep (n : Nat) (f t : Int32) : Int32 := if iw f 1 (nI n - 1) then (if iw t f (nI n - 1) then 0 else 1) else 1
theorem cr_1 {n : Nat} {f t : Int32} (h : bI (iw f 1 (nI n - 1)) = 0) : cRep n f t = 1 := by rw [cRep, bI_eq0 h]; rfl
theorem cr_2 {n : Nat} {f t : Int32} (h : bI (iw t f (nI n - 1)) = 0) : cRep n f t = 1 := by rw [cRep, bI_eq0 h]; cases iw f 1 (nI n - 1) <;> rfl
theorem cr_0 {n : Nat} {f t : Int32} (h : ¬ bI (iw f 1 (nI n - 1)) = 0) (h1 : ¬ bI (iw t f (nI n - 1)) = 0) : cRep n f t = 0 := by rw [cRep, bI_ne0 h, bI_ne0 h1]; rfl
/-- THE REPEAT of the steps F .. F + k -/
def rp (n : Nat) (d g : Nat → Int32) (F : Nat) : Nat → Nat
  | 0 => F
  | k + 1 => if rsv n d g (rp n d g F k) < rsv n d g (F + 1 + k) then F + 1 + k else rp n d g F k
theorem rp_le {n : Nat} {d g : Nat → Int32} {F : Nat} : ∀ k, rp n d g F k ≤ F + k
  | 0 => Nat.le_refl _
  | k + 1 => by
    rw [rp]
    split
    · omega
    · have := rp_le (n := n) (d := d) (g := g) (F := F) k
      omega
theorem cmp_le {x y : Int64} : lg_cmp x y ≤ 0 ↔ ¬ y < x := by
  rw [← cmp_gt]
  constructor
  · intro h q; rw [ile] at h; rw [ilt] at q; omega
  · intro h; rw [ile]; rw [ilt] at h; omega
/-- fill -/
def cFil (n : Nat) (s a : Int32) : Int32 := if iw s 0 (nI n - 1) then (if iw a (-1) (2 * nI n - 2) then 0 else 1) else 1
theorem cf_1 {n : Nat} {s a : Int32} (h : bI (iw s 0 (nI n - 1)) = 0) : cFil n s a = 1 := by rw [cFil, bI_eq0 h]; rfl
theorem cf_2 {n : Nat} {s a : Int32} (h : bI (iw a (-1) (2 * nI n - 2)) = 0) : cFil n s a = 1 := by rw [cFil, bI_eq0 h]; cases iw s 0 (nI n - 1) <;> rfl
theorem cf_0 {n : Nat} {s a : Int32} (h : ¬ bI (iw s 0 (nI n - 1)) = 0) (h1 : ¬ bI (iw a (-1) (2 * nI n - 2)) = 0) : cFil n s a = 0 := by rw [cFil, bI_ne0 h, bI_ne0 h1]; rfl
theorem n2_ti {n : Nat} (h4 : 4 ≤ n) (h64 : n ≤ 64) : (2 * nI n - 2).toInt = 2 * (n : Int) - 2 := by
  have e : (2 : Int32) * nI n = nI (2 * n) := pk_mul 2 n
  have := sub_ti (a := 2 * n) (b := 2) (by omega) (by omega)
  rw [e]; exact this.trans (by omega)
theorem iwA {n : Nat} {a : Int32} (h4 : 4 ≤ n) (h64 : n ≤ 64) (h : ¬ bI (iw a (-1) (2 * nI n - 2)) = 0) : -1 ≤ a.toInt ∧ a.toInt < 2 ^ 20 := by
  have h := bI_ne0 h
  simp only [iw, Bool.and_eq_true, decide_eq_true_eq, n2_ti h4 h64, im1] at h
  omega
def fil (n : Nat) (d g : Nat → Int32) (s a : Int32) : (Nat → Int32) × (Nat → Int32) × Nat := if cFil n s a = 0 then fl n s.toInt a.toInt d g n else (d, g, 0)
theorem dOK_upd {n : Nat} {d : Nat → Int32} {j : Nat} {v : Int32} (h : dOK n d) (hv : -1 ≤ v.toInt ∧ v.toInt ≤ 255) : dOK n (upd d j v) := fun k hk => by
  unfold upd
  split
  · exact hv
  · exact h k hk
theorem dOK_fl {n : Nat} {S a : Int} {d g : Nat → Int32} (h : dOK n d) : ∀ j, dOK n (fl n S a d g j).1
  | 0 => h
  | j + 1 => by
    have ih := dOK_fl (S := S) (a := a) (g := g) h j
    rw [fl]
    unfold fs
    split
    · split
      · next h2 => exact dOK_upd ih (ih _ (hs_lt h2))
      · exact ih
    · exact ih
theorem dOK_lgs {n : Nat} {d g : Nat → Int32} (h : dOK n d) : ∀ j, dOK n (lgs d g j).1
  | 0 => h
  | j + 1 => by
    have ih := dOK_lgs (g := g) h j
    rw [lgs]
    unfold lg
    split
    · exact ih
    · exact dOK_upd ih (by decide)
theorem src_m1 {n : Nat} {d g : Nat → Int32} {K S a : Int} : src n d g K S a = -1 ∨ hs n (src n d g K S a) = true := by
  have hsr : ∀ r t x, sr n d g K S r t = some x → hs n x = true := by
    intro r
    induction r with
    | zero => intro t x h; cases h
    | succ r ih =>
      intro t x h
      rw [sr] at h
      split at h
      · next h1 => cases h; exact kn_hs h1
      · split at h
        · next h1 => cases h; exact kn_hs h1
        · exact ih _ _ h
  unfold src sq
  split
  · next x h =>
    split at h
    · exact Or.inr (hsr _ _ _ h)
    · cases h
  · split
    · next h => exact Or.inr (kn_hs h.2)
    · exact Or.inl rfl
theorem fT_2 {n : Nat} {S a : Int} {j : Nat} {d g : Nat → Int32} {c : Nat} {r : Int32} (hj : j < 2 ^ 20) (h : d (nI j).toNatClampNeg = -1) (hr : r.toInt = src n d g j S a) (h2 : r < 0) : fs n S a j (d, g, c) = (d, g, c) := by
  rw [ilt, i0] at h2
  refine fs_2 hj h hr ?_
  rw [show hs n r.toInt = false by simp [hs]; omega]; rfl
theorem fT_h {n : Nat} {S a : Int} {j : Nat} {d g : Nat → Int32} {r : Int32} (hr : r.toInt = src n d g j S a) (h2 : ¬ r < 0) : ¬ bI (hs n r.toInt) = 0 := by
  rw [ilt, i0] at h2
  rcases src_m1 (n := n) (d := d) (g := g) (K := j) (S := S) (a := a) with h | h
  · rw [← hr] at h; omega
  · rw [hr, h]; decide
theorem dm1 {n : Nat} {d : Nat → Int32} {j : Nat} (hd : dOK n d) (hj : j < n) (h64 : n ≤ 64) (h : ¬ 0 ≤ d (nI j).toNatClampNeg) : d (nI j).toNatClampNeg = -1 := by
  rw [nI_clamp (by omega)] at h ⊢
  rw [ile, i0] at h
  exact ieq.mpr (by rw [im1]; have := hd j hj; omega)
theorem dn1 {d : Nat → Int32} {j : Nat} (h : 0 ≤ d (nI j).toNatClampNeg) : ¬ d (nI j).toNatClampNeg = -1 := fun e => by rw [e] at h; exact absurd h (by decide)

set_option maxHeartbeats 4000000 in
set_option maxRecDepth 100000 in
/-- the reference: depth(k, v) -/
theorem c_T_depth_ok (l : Launch) (D : va_G) (cI cZ cJ cO : ClassId) (sz : Nat) (o dT gT la ca aa na ya ta : Nat) (n ns nn nr : Nat) (d g sl cr ak no ye tl : Nat → Int32) (th be bp bm : Int32) (bo : Int64) (h4 : 4 ≤ n) (h64 : n ≤ 64) (hd : dOK n d) (k v : Int32) : Met l y_T_depth (wq y_T_depth c_T_depth 3 none) ({ frames := 2, cells := 0, slots := 0, locals := 47 }) (mP D (TY cI cZ cJ cO) [(o, .inr (7, [.int th, .int (nI n), .ref dT, .ref gT, .int (nI ns), .ref la, .ref ca, .int (nI nn), .ref aa, .ref na, .ref ya, .int (nI nr), .ref ta, .int be, .int bp, .long bo, .int bm])), (dT, .inl (cI, 64, .inl d)), (gT, .inl (cZ, 64, .inl g)), (la, .inl (cI, 8, .inl sl)), (ca, .inl (cI, 128, .inl cr)), (aa, .inl (cI, 16, .inl ak)), (na, .inl (cI, 16, .inl no)), (ya, .inl (cI, 16, .inl ye)), (ta, .inl (cI, 48, .inl tl))] [.ref o, .int k, .int v] sz) (va_Qv (fun (u : va_W) => u = [(o, .inr (7, [.int (cDep n k v), .int (nI n), .ref dT, .ref gT, .int (nI ns), .ref la, .ref ca, .int (nI nn), .ref aa, .ref na, .ref ya, .int (nI nr), .ref ta, .int be, .int bp, .long bo, .int bm])), (dT, .inl (cI, 64, .inl (dDep n d k v))), (gT, .inl (cZ, 64, .inl (gDep n g k v))), (la, .inl (cI, 8, .inl sl)), (ca, .inl (cI, 128, .inl cr)), (aa, .inl (cI, 16, .inl ak)), (na, .inl (cI, 16, .inl no)), (ya, .inl (cI, 16, .inl ye)), (ta, .inl (cI, 48, .inl tl))]) (mB D (TY cI cZ cJ cO) (va_A [(o, .inr (7, [.int th, .int (nI n), .ref dT, .ref gT, .int (nI ns), .ref la, .ref ca, .int (nI nn), .ref aa, .ref na, .ref ya, .int (nI nr), .ref ta, .int be, .int bp, .long bo, .int bm])), (dT, .inl (cI, 64, .inl d)), (gT, .inl (cZ, 64, .inl g)), (la, .inl (cI, 8, .inl sl)), (ca, .inl (cI, 128, .inl cr)), (aa, .inl (cI, 16, .inl ak)), (na, .inl (cI, 16, .inl no)), (ya, .inl (cI, 16, .inl ye)), (ta, .inl (cI, 48, .inl tl))] sz)) (va_A [(o, .inr (7, [.int th, .int (nI n), .ref dT, .ref gT, .int (nI ns), .ref la, .ref ca, .int (nI nn), .ref aa, .ref na, .ref ya, .int (nI nr), .ref ta, .int be, .int bp, .long bo, .int bm])), (dT, .inl (cI, 64, .inl d)), (gT, .inl (cZ, 64, .inl g)), (la, .inl (cI, 8, .inl sl)), (ca, .inl (cI, 128, .inl cr)), (aa, .inl (cI, 16, .inl ak)), (na, .inl (cI, 16, .inl no)), (ya, .inl (cI, 16, .inl ye)), (ta, .inl (cI, 48, .inl tl))] sz)) 0 0 (va_A [(o, .inr (7, [.int th, .int (nI n), .ref dT, .ref gT, .int (nI ns), .ref la, .ref ca, .int (nI nn), .ref aa, .ref na, .ref ya, .int (nI nr), .ref ta, .int be, .int bp, .long bo, .int bm])), (dT, .inl (cI, 64, .inl d)), (gT, .inl (cZ, 64, .inl g)), (la, .inl (cI, 8, .inl sl)), (ca, .inl (cI, 128, .inl cr)), (aa, .inl (cI, 16, .inl ak)), (na, .inl (cI, 16, .inl no)), (ya, .inl (cI, 16, .inl ye)), (ta, .inl (cI, 48, .inl tl))] sz) := by
  refine Met.ofW (cc := c_T_depth) (maxL := 3) (ret := none) (by decide) rfl ?_
  intro p e s m args below meth c s₁ B hml hv
  obtain ⟨rfl, hsz, hP, hK, hD0, hN⟩ := hv
  have hx := B.exec
  have hb := B.bytes
  have hr := B.returns
  have hg := gt_h (atoms_spec (ws := (wq y_T_depth c_T_depth 3 none)) B.pre)
  have hown : s.vm.findClass "RubbingMirrorsModel" = some m.cls := findClass_of_methodNamed B.named
  have hlocks := B.notSynchronized
  subst hsz
  have hD := hD0.self (sz := s.heap.size)
  generalize hAe : va_A [(o, .inr (7, [.int th, .int (nI n), .ref dT, .ref gT, .int (nI ns), .ref la, .ref ca, .int (nI nn), .ref aa, .ref na, .ref ya, .int (nI nr), .ref ta, .int be, .int bp, .long bo, .int bm])), (dT, .inl (cI, 64, .inl d)), (gT, .inl (cZ, 64, .inl g)), (la, .inl (cI, 8, .inl sl)), (ca, .inl (cI, 128, .inl cr)), (aa, .inl (cI, 16, .inl ak)), (na, .inl (cI, 16, .inl no)), (ya, .inl (cI, 16, .inl ye)), (ta, .inl (cI, 48, .inl tl))] s.heap.size = A at hD ⊢
  have hA : ∀ q : Nat, s.heap.size ≤ q → A q := fun q h => by rw [← hAe]; exact Or.inr h
  have hS : va_S A s.heap s.heap [] := va_S.rf
  have hl := lv_entry ([.ref o, .int k, .int v]) (n := 3) (Nat.le_of_ble_eq_true rfl)
  rw [lg_entry_eq]
  generalize (lg_sl ([.ref o, .int k, .int v]) ++ List.replicate (3 - (lg_sl ([.ref o, .int k, .int v])).length) Slot.unset).toArray = ls at hl ⊢
  have hl : lv_has ls 3 [(0, .ref o), (1, .int k), (2, .int v)] := hl
  refine lv_aload_n hx hb d_T_depth_0 rfl (lv_at hl 0 rfl) ?_
  refine lv_aload_n hx hb d_T_depth_1 rfl (lv_at hl 0 rfl) ?_
  refine lv_iload_n hx hb d_T_depth_2 rfl (lv_at hl 1 rfl) ?_
  refine lv_i2l (v := k.toInt64) hx hb d_T_depth_3 rfl ?_
  refine vp_callSi (va_Run.run (va_runV (As := [.long k.toInt64]) (rest := [.ref o]) ⟨hx, hb, hml, hown, hg⟩ (c_T_isPlace_ok l D cI cZ cJ cO o dT gT la ca aa na ya ta n ns nn nr d g sl cr ak no ye tl th be bp bm bo h4 h64 hd k.toInt64) (cwV 1 hg (gv g_699 g_701 g_9 g_26 g_702) rfl rfl rfl (by decide +kernel) ⟨Nat.le_of_ble_eq_true rfl, Nat.le_of_ble_eq_true rfl⟩) (pV hP hK hN (va_recv hK hP (ci := 7) (q0 := 0) rfl rfl)) rfl rfl hl.1 rfl (lv_room (Nat.le_of_ble_eq_true rfl)) d_T_depth_4 ⟨Nat.zero_le _, Nat.zero_le _⟩)) (fun r_1 hr_1 => ?_)
  subst hr_1
  rw [hs64]
  refine lv_if_ne (tgt := 14) hx hb d_T_depth_7 (by decide) (fun c_7 => ?_) (fun c_7 => ?_)
  · refine lv_iload_n hx hb d_T_depth_14 rfl (lv_at hl 2 rfl) ?_
    refine lv_i2l (v := v.toInt64) hx hb d_T_depth_15 rfl ?_
    refine lv_ldc2 (v := (-1)) hx hb hown (hg _ g_706) d_T_depth_16 ?_
    refine lv_ldc2 (v := 255) hx hb hown (hg _ g_707) d_T_depth_19 ?_
    refine vp_callSi (va_Run.run (va_runS (As := [.long v.toInt64, .long (-1), .long 255]) (rest := [.ref o]) ⟨hx, hb, hml, hown, hg⟩ (c_T_isIn_ok l D cI cZ cJ cO v.toInt64 (-1) 255) (va_cwS 3 hg (gs2 g_703 g_704 g_26 g_705) rfl rfl rfl (by decide +kernel) ⟨Nat.le_of_ble_eq_true rfl, Nat.le_of_ble_eq_true rfl⟩) (pS ba_nil hK hN) rfl rfl hl.1 rfl (lv_room (Nat.le_of_ble_eq_true rfl)) d_T_depth_22 ⟨Nat.zero_le _, Nat.zero_le _⟩)) (fun r_2 hr_2 => ?_)
    subst hr_2
    rw [lw_c (v := v) (lo := (-1)) (hi := 255) (by decide) (by decide)]
    refine lv_if_ne (tgt := 32) hx hb d_T_depth_25 (by decide) (fun c_25 => ?_) (fun c_25 => ?_)
    · refine lv_iconst (v := 0) hx hb d_T_depth_32 (by decide) ?_
      refine va_put (D := D) (ci := 7) (v := .int 0) (ty := .int) (C := Q_T) (T := F_T) (N := 17) hx hb hg in_T tq_T tq_T_ok n_T hown hK hP hD hS 0 rfl rfl 0 (by decide) (hg _ g_639) (fun _ h9 => h9) rfl (by decide +kernel) rfl rfl (Nat.le_of_ble_eq_true rfl) d_T_depth_33 (fun H locs hP hD hS => ?_)
      have hP : va_P D cls [(o, .inr (7, [.int 0, .int (nI n), .ref dT, .ref gT, .int (nI ns), .ref la, .ref ca, .int (nI nn), .ref aa, .ref na, .ref ya, .int (nI nr), .ref ta, .int be, .int bp, .long bo, .int bm])), (dT, .inl (cI, 64, .inl d)), (gT, .inl (cZ, 64, .inl g)), (la, .inl (cI, 8, .inl sl)), (ca, .inl (cI, 128, .inl cr)), (aa, .inl (cI, 16, .inl ak)), (na, .inl (cI, 16, .inl no)), (ya, .inl (cI, 16, .inl ye)), (ta, .inl (cI, 48, .inl tl))] H := hP
      have hD : va_D A [(o, .inr (7, [.int 0, .int (nI n), .ref dT, .ref gT, .int (nI ns), .ref la, .ref ca, .int (nI nn), .ref aa, .ref na, .ref ya, .int (nI nr), .ref ta, .int be, .int bp, .long bo, .int bm])), (dT, .inl (cI, 64, .inl d)), (gT, .inl (cZ, 64, .inl g)), (la, .inl (cI, 8, .inl sl)), (ca, .inl (cI, 128, .inl cr)), (aa, .inl (cI, 16, .inl ak)), (na, .inl (cI, 16, .inl no)), (ya, .inl (cI, 16, .inl ye)), (ta, .inl (cI, 48, .inl tl))] := hD
      refine lv_aload_n hx hb d_T_depth_36 rfl (lv_at hl 0 rfl) ?_
      refine va_get (D := D) (ci := 7) (v := .int 0) (C := Q_T) (T := F_T) (N := 17) hx hb hg in_T hown hK hP 0 rfl rfl 0 (by decide) (hg _ g_639) (fun _ h9 => h9) rfl d_T_depth_37 ?_
      refine lv_if_ne (tgt := 57) hx hb d_T_depth_40 (by decide) (fun c_40 => ?_) (fun c_40 => ?_)
      · exact absurd c_40 (by decide)
      · refine lv_aload_n hx hb d_T_depth_43 rfl (lv_at hl 0 rfl) ?_
        refine va_get (D := D) (ci := 7) (v := .ref dT) (C := Q_T) (T := F_T) (N := 17) hx hb hg in_T hown hK hP 0 rfl rfl 2 (by decide) (hg _ g_641) (fun _ h9 => h9) rfl d_T_depth_44 ?_
        refine lv_iload_n hx hb d_T_depth_47 rfl (lv_at hl 1 rfl) ?_
        refine lv_iload_n hx hb d_T_depth_48 rfl (lv_at hl 2 rfl) ?_
        refine va_iast hx hb hK hP hD hS 1 0 rfl rfl (v64h h64 c_7) d_T_depth_49 (fun H locs hP hD hS => ?_)
        have hP : va_P D cls [(o, .inr (7, [.int 0, .int (nI n), .ref dT, .ref gT, .int (nI ns), .ref la, .ref ca, .int (nI nn), .ref aa, .ref na, .ref ya, .int (nI nr), .ref ta, .int be, .int bp, .long bo, .int bm])), (dT, .inl (cI, 64, .inl (upd d k.toNatClampNeg v))), (gT, .inl (cZ, 64, .inl g)), (la, .inl (cI, 8, .inl sl)), (ca, .inl (cI, 128, .inl cr)), (aa, .inl (cI, 16, .inl ak)), (na, .inl (cI, 16, .inl no)), (ya, .inl (cI, 16, .inl ye)), (ta, .inl (cI, 48, .inl tl))] H := hP
        have hD : va_D A [(o, .inr (7, [.int 0, .int (nI n), .ref dT, .ref gT, .int (nI ns), .ref la, .ref ca, .int (nI nn), .ref aa, .ref na, .ref ya, .int (nI nr), .ref ta, .int be, .int bp, .long bo, .int bm])), (dT, .inl (cI, 64, .inl (upd d k.toNatClampNeg v))), (gT, .inl (cZ, 64, .inl g)), (la, .inl (cI, 8, .inl sl)), (ca, .inl (cI, 128, .inl cr)), (aa, .inl (cI, 16, .inl ak)), (na, .inl (cI, 16, .inl no)), (ya, .inl (cI, 16, .inl ye)), (ta, .inl (cI, 48, .inl tl))] := hD
        refine lv_aload_n hx hb d_T_depth_50 rfl (lv_at hl 0 rfl) ?_
        refine va_get (D := D) (ci := 7) (v := .ref gT) (C := Q_T) (T := F_T) (N := 17) hx hb hg in_T hown hK hP 0 rfl rfl 3 (by decide) (hg _ g_642) (fun _ h9 => h9) rfl d_T_depth_51 ?_
        refine lv_iload_n hx hb d_T_depth_54 rfl (lv_at hl 1 rfl) ?_
        refine lv_iconst (v := 0) hx hb d_T_depth_55 (by decide) ?_
        refine va_zast hx hb hK hP hD hS 2 1 rfl rfl (v64h h64 c_7) d_T_depth_56 (fun H locs hP hD hS => ?_)
        have hP : va_P D cls [(o, .inr (7, [.int 0, .int (nI n), .ref dT, .ref gT, .int (nI ns), .ref la, .ref ca, .int (nI nn), .ref aa, .ref na, .ref ya, .int (nI nr), .ref ta, .int be, .int bp, .long bo, .int bm])), (dT, .inl (cI, 64, .inl (upd d k.toNatClampNeg v))), (gT, .inl (cZ, 64, .inl (upd g k.toNatClampNeg 0))), (la, .inl (cI, 8, .inl sl)), (ca, .inl (cI, 128, .inl cr)), (aa, .inl (cI, 16, .inl ak)), (na, .inl (cI, 16, .inl no)), (ya, .inl (cI, 16, .inl ye)), (ta, .inl (cI, 48, .inl tl))] H := hP
        have hD : va_D A [(o, .inr (7, [.int 0, .int (nI n), .ref dT, .ref gT, .int (nI ns), .ref la, .ref ca, .int (nI nn), .ref aa, .ref na, .ref ya, .int (nI nr), .ref ta, .int be, .int bp, .long bo, .int bm])), (dT, .inl (cI, 64, .inl (upd d k.toNatClampNeg v))), (gT, .inl (cZ, 64, .inl (upd g k.toNatClampNeg 0))), (la, .inl (cI, 8, .inl sl)), (ca, .inl (cI, 128, .inl cr)), (aa, .inl (cI, 16, .inl ak)), (na, .inl (cI, 16, .inl no)), (ya, .inl (cI, 16, .inl ye)), (ta, .inl (cI, 48, .inl tl))] := hD
        exact W.vret hx hb hr (fun t9 ht hW => ⟨⟨[(o, .inr (7, [.int 0, .int (nI n), .ref dT, .ref gT, .int (nI ns), .ref la, .ref ca, .int (nI nn), .ref aa, .ref na, .ref ya, .int (nI nr), .ref ta, .int be, .int bp, .long bo, .int bm])), (dT, .inl (cI, 64, .inl (upd d k.toNatClampNeg v))), (gT, .inl (cZ, 64, .inl (upd g k.toNatClampNeg 0))), (la, .inl (cI, 8, .inl sl)), (ca, .inl (cI, 128, .inl cr)), (aa, .inl (cI, 16, .inl ak)), (na, .inl (cI, 16, .inl no)), (ya, .inl (cI, 16, .inl ye)), (ta, .inl (cI, 48, .inl tl))], rfl, (by dsimp only; unfold dDep gDep; (first | rw [cd_1 c_7] | rw [cd_2 c_7 c_25] | rw [cd_0 c_7 c_25]) <;> rfl), by rw [ht]; exact hP, va_K.moved hW.alike hK, hD⟩, hS.F ht⟩) hS.2.2 d_T_depth_57
    · refine lv_iconst (v := 2) hx hb d_T_depth_28 (by decide) ?_
      refine lv_goto (tgt := 33) hx hb d_T_depth_29 (by decide) ?_
      refine va_put (D := D) (ci := 7) (v := .int 2) (ty := .int) (C := Q_T) (T := F_T) (N := 17) hx hb hg in_T tq_T tq_T_ok n_T hown hK hP hD hS 0 rfl rfl 0 (by decide) (hg _ g_639) (fun _ h9 => h9) rfl (by decide +kernel) rfl rfl (Nat.le_of_ble_eq_true rfl) d_T_depth_33 (fun H locs hP hD hS => ?_)
      have hP : va_P D cls [(o, .inr (7, [.int 2, .int (nI n), .ref dT, .ref gT, .int (nI ns), .ref la, .ref ca, .int (nI nn), .ref aa, .ref na, .ref ya, .int (nI nr), .ref ta, .int be, .int bp, .long bo, .int bm])), (dT, .inl (cI, 64, .inl d)), (gT, .inl (cZ, 64, .inl g)), (la, .inl (cI, 8, .inl sl)), (ca, .inl (cI, 128, .inl cr)), (aa, .inl (cI, 16, .inl ak)), (na, .inl (cI, 16, .inl no)), (ya, .inl (cI, 16, .inl ye)), (ta, .inl (cI, 48, .inl tl))] H := hP
      have hD : va_D A [(o, .inr (7, [.int 2, .int (nI n), .ref dT, .ref gT, .int (nI ns), .ref la, .ref ca, .int (nI nn), .ref aa, .ref na, .ref ya, .int (nI nr), .ref ta, .int be, .int bp, .long bo, .int bm])), (dT, .inl (cI, 64, .inl d)), (gT, .inl (cZ, 64, .inl g)), (la, .inl (cI, 8, .inl sl)), (ca, .inl (cI, 128, .inl cr)), (aa, .inl (cI, 16, .inl ak)), (na, .inl (cI, 16, .inl no)), (ya, .inl (cI, 16, .inl ye)), (ta, .inl (cI, 48, .inl tl))] := hD
      refine lv_aload_n hx hb d_T_depth_36 rfl (lv_at hl 0 rfl) ?_
      refine va_get (D := D) (ci := 7) (v := .int 2) (C := Q_T) (T := F_T) (N := 17) hx hb hg in_T hown hK hP 0 rfl rfl 0 (by decide) (hg _ g_639) (fun _ h9 => h9) rfl d_T_depth_37 ?_
      refine lv_if_ne (tgt := 57) hx hb d_T_depth_40 (by decide) (fun c_40 => ?_) (fun c_40 => ?_)
      · exact W.vret hx hb hr (fun t9 ht hW => ⟨⟨[(o, .inr (7, [.int 2, .int (nI n), .ref dT, .ref gT, .int (nI ns), .ref la, .ref ca, .int (nI nn), .ref aa, .ref na, .ref ya, .int (nI nr), .ref ta, .int be, .int bp, .long bo, .int bm])), (dT, .inl (cI, 64, .inl d)), (gT, .inl (cZ, 64, .inl g)), (la, .inl (cI, 8, .inl sl)), (ca, .inl (cI, 128, .inl cr)), (aa, .inl (cI, 16, .inl ak)), (na, .inl (cI, 16, .inl no)), (ya, .inl (cI, 16, .inl ye)), (ta, .inl (cI, 48, .inl tl))], rfl, (by dsimp only; unfold dDep gDep; (first | rw [cd_1 c_7] | rw [cd_2 c_7 c_25] | rw [cd_0 c_7 c_25]) <;> rfl), by rw [ht]; exact hP, va_K.moved hW.alike hK, hD⟩, hS.F ht⟩) hS.2.2 d_T_depth_57
      · exact absurd c_40 (by decide)
  · refine lv_iconst (v := 1) hx hb d_T_depth_10 (by decide) ?_
    refine lv_goto (tgt := 33) hx hb d_T_depth_11 (by decide) ?_
    refine va_put (D := D) (ci := 7) (v := .int 1) (ty := .int) (C := Q_T) (T := F_T) (N := 17) hx hb hg in_T tq_T tq_T_ok n_T hown hK hP hD hS 0 rfl rfl 0 (by decide) (hg _ g_639) (fun _ h9 => h9) rfl (by decide +kernel) rfl rfl (Nat.le_of_ble_eq_true rfl) d_T_depth_33 (fun H locs hP hD hS => ?_)
    have hP : va_P D cls [(o, .inr (7, [.int 1, .int (nI n), .ref dT, .ref gT, .int (nI ns), .ref la, .ref ca, .int (nI nn), .ref aa, .ref na, .ref ya, .int (nI nr), .ref ta, .int be, .int bp, .long bo, .int bm])), (dT, .inl (cI, 64, .inl d)), (gT, .inl (cZ, 64, .inl g)), (la, .inl (cI, 8, .inl sl)), (ca, .inl (cI, 128, .inl cr)), (aa, .inl (cI, 16, .inl ak)), (na, .inl (cI, 16, .inl no)), (ya, .inl (cI, 16, .inl ye)), (ta, .inl (cI, 48, .inl tl))] H := hP
    have hD : va_D A [(o, .inr (7, [.int 1, .int (nI n), .ref dT, .ref gT, .int (nI ns), .ref la, .ref ca, .int (nI nn), .ref aa, .ref na, .ref ya, .int (nI nr), .ref ta, .int be, .int bp, .long bo, .int bm])), (dT, .inl (cI, 64, .inl d)), (gT, .inl (cZ, 64, .inl g)), (la, .inl (cI, 8, .inl sl)), (ca, .inl (cI, 128, .inl cr)), (aa, .inl (cI, 16, .inl ak)), (na, .inl (cI, 16, .inl no)), (ya, .inl (cI, 16, .inl ye)), (ta, .inl (cI, 48, .inl tl))] := hD
    refine lv_aload_n hx hb d_T_depth_36 rfl (lv_at hl 0 rfl) ?_
    refine va_get (D := D) (ci := 7) (v := .int 1) (C := Q_T) (T := F_T) (N := 17) hx hb hg in_T hown hK hP 0 rfl rfl 0 (by decide) (hg _ g_639) (fun _ h9 => h9) rfl d_T_depth_37 ?_
    refine lv_if_ne (tgt := 57) hx hb d_T_depth_40 (by decide) (fun c_40 => ?_) (fun c_40 => ?_)
    · exact W.vret hx hb hr (fun t9 ht hW => ⟨⟨[(o, .inr (7, [.int 1, .int (nI n), .ref dT, .ref gT, .int (nI ns), .ref la, .ref ca, .int (nI nn), .ref aa, .ref na, .ref ya, .int (nI nr), .ref ta, .int be, .int bp, .long bo, .int bm])), (dT, .inl (cI, 64, .inl d)), (gT, .inl (cZ, 64, .inl g)), (la, .inl (cI, 8, .inl sl)), (ca, .inl (cI, 128, .inl cr)), (aa, .inl (cI, 16, .inl ak)), (na, .inl (cI, 16, .inl no)), (ya, .inl (cI, 16, .inl ye)), (ta, .inl (cI, 48, .inl tl))], rfl, (by dsimp only; unfold dDep gDep; (first | rw [cd_1 c_7] | rw [cd_2 c_7 c_25] | rw [cd_0 c_7 c_25]) <;> rfl), by rw [ht]; exact hP, va_K.moved hW.alike hK, hD⟩, hS.F ht⟩) hS.2.2 d_T_depth_57
    · exact absurd c_40 (by decide)

set_option maxHeartbeats 4000000 in
set_option maxRecDepth 100000 in
/-- the reference: place(k, w) -/
theorem c_T_place_ok (l : Launch) (D : va_G) (cI cZ cJ cO : ClassId) (sz : Nat) (o dT gT la ca aa na ya ta : Nat) (n ns nn nr : Nat) (d g sl cr ak no ye tl : Nat → Int32) (th be bp bm : Int32) (bo : Int64) (h4 : 4 ≤ n) (h64 : n ≤ 64) (hd : dOK n d) (k w : Int32) : Met l y_T_place (wq y_T_place c_T_place 3 (some .int)) ({ frames := 2, cells := 0, slots := 0, locals := 47 }) (mP D (TY cI cZ cJ cO) [(o, .inr (7, [.int th, .int (nI n), .ref dT, .ref gT, .int (nI ns), .ref la, .ref ca, .int (nI nn), .ref aa, .ref na, .ref ya, .int (nI nr), .ref ta, .int be, .int bp, .long bo, .int bm])), (dT, .inl (cI, 64, .inl d)), (gT, .inl (cZ, 64, .inl g)), (la, .inl (cI, 8, .inl sl)), (ca, .inl (cI, 128, .inl cr)), (aa, .inl (cI, 16, .inl ak)), (na, .inl (cI, 16, .inl no)), (ya, .inl (cI, 16, .inl ye)), (ta, .inl (cI, 48, .inl tl))] [.ref o, .int k, .int w] sz) (va_Qi (fun (r : Int32) (u : va_W) => u = [(o, .inr (7, [.int (cPla n k w), .int (nI n), .ref dT, .ref gT, .int (nI ns), .ref la, .ref ca, .int (nI nn), .ref aa, .ref na, .ref ya, .int (nI nr), .ref ta, .int be, .int bp, .long bo, .int bm])), (dT, .inl (cI, 64, .inl d)), (gT, .inl (cZ, 64, .inl g)), (la, .inl (cI, 8, .inl sl)), (ca, .inl (cI, 128, .inl cr)), (aa, .inl (cI, 16, .inl ak)), (na, .inl (cI, 16, .inl no)), (ya, .inl (cI, 16, .inl ye)), (ta, .inl (cI, 48, .inl tl))] ∧ (cPla n k w = 0 → r = aPla d g k w)) (mB D (TY cI cZ cJ cO) (va_A [(o, .inr (7, [.int th, .int (nI n), .ref dT, .ref gT, .int (nI ns), .ref la, .ref ca, .int (nI nn), .ref aa, .ref na, .ref ya, .int (nI nr), .ref ta, .int be, .int bp, .long bo, .int bm])), (dT, .inl (cI, 64, .inl d)), (gT, .inl (cZ, 64, .inl g)), (la, .inl (cI, 8, .inl sl)), (ca, .inl (cI, 128, .inl cr)), (aa, .inl (cI, 16, .inl ak)), (na, .inl (cI, 16, .inl no)), (ya, .inl (cI, 16, .inl ye)), (ta, .inl (cI, 48, .inl tl))] sz)) (va_A [(o, .inr (7, [.int th, .int (nI n), .ref dT, .ref gT, .int (nI ns), .ref la, .ref ca, .int (nI nn), .ref aa, .ref na, .ref ya, .int (nI nr), .ref ta, .int be, .int bp, .long bo, .int bm])), (dT, .inl (cI, 64, .inl d)), (gT, .inl (cZ, 64, .inl g)), (la, .inl (cI, 8, .inl sl)), (ca, .inl (cI, 128, .inl cr)), (aa, .inl (cI, 16, .inl ak)), (na, .inl (cI, 16, .inl no)), (ya, .inl (cI, 16, .inl ye)), (ta, .inl (cI, 48, .inl tl))] sz)) 0 0 (va_A [(o, .inr (7, [.int th, .int (nI n), .ref dT, .ref gT, .int (nI ns), .ref la, .ref ca, .int (nI nn), .ref aa, .ref na, .ref ya, .int (nI nr), .ref ta, .int be, .int bp, .long bo, .int bm])), (dT, .inl (cI, 64, .inl d)), (gT, .inl (cZ, 64, .inl g)), (la, .inl (cI, 8, .inl sl)), (ca, .inl (cI, 128, .inl cr)), (aa, .inl (cI, 16, .inl ak)), (na, .inl (cI, 16, .inl no)), (ya, .inl (cI, 16, .inl ye)), (ta, .inl (cI, 48, .inl tl))] sz) := by
  refine Met.ofW (cc := c_T_place) (maxL := 3) (ret := (some .int)) (by decide) rfl ?_
  intro p e s m args below meth c s₁ B hml hv
  obtain ⟨rfl, hsz, hP, hK, hD0, hN⟩ := hv
  have hx := B.exec
  have hb := B.bytes
  have hr := B.returns
  have hg := gt_h (atoms_spec (ws := (wq y_T_place c_T_place 3 (some .int))) B.pre)
  have hown : s.vm.findClass "RubbingMirrorsModel" = some m.cls := findClass_of_methodNamed B.named
  have hlocks := B.notSynchronized
  subst hsz
  have hD := hD0.self (sz := s.heap.size)
  generalize hAe : va_A [(o, .inr (7, [.int th, .int (nI n), .ref dT, .ref gT, .int (nI ns), .ref la, .ref ca, .int (nI nn), .ref aa, .ref na, .ref ya, .int (nI nr), .ref ta, .int be, .int bp, .long bo, .int bm])), (dT, .inl (cI, 64, .inl d)), (gT, .inl (cZ, 64, .inl g)), (la, .inl (cI, 8, .inl sl)), (ca, .inl (cI, 128, .inl cr)), (aa, .inl (cI, 16, .inl ak)), (na, .inl (cI, 16, .inl no)), (ya, .inl (cI, 16, .inl ye)), (ta, .inl (cI, 48, .inl tl))] s.heap.size = A at hD ⊢
  have hA : ∀ q : Nat, s.heap.size ≤ q → A q := fun q h => by rw [← hAe]; exact Or.inr h
  have hS : va_S A s.heap s.heap [] := va_S.rf
  have hl := lv_entry ([.ref o, .int k, .int w]) (n := 3) (Nat.le_of_ble_eq_true rfl)
  rw [lg_entry_eq]
  generalize (lg_sl ([.ref o, .int k, .int w]) ++ List.replicate (3 - (lg_sl ([.ref o, .int k, .int w])).length) Slot.unset).toArray = ls at hl ⊢
  have hl : lv_has ls 3 [(0, .ref o), (1, .int k), (2, .int w)] := hl
  refine lv_aload_n hx hb d_T_place_0 rfl (lv_at hl 0 rfl) ?_
  refine lv_aload_n hx hb d_T_place_1 rfl (lv_at hl 0 rfl) ?_
  refine lv_iload_n hx hb d_T_place_2 rfl (lv_at hl 1 rfl) ?_
  refine lv_i2l (v := k.toInt64) hx hb d_T_place_3 rfl ?_
  refine vp_callSi (va_Run.run (va_runV (As := [.long k.toInt64]) (rest := [.ref o]) ⟨hx, hb, hml, hown, hg⟩ (c_T_isPlace_ok l D cI cZ cJ cO o dT gT la ca aa na ya ta n ns nn nr d g sl cr ak no ye tl th be bp bm bo h4 h64 hd k.toInt64) (cwV 1 hg (gv g_699 g_701 g_9 g_26 g_702) rfl rfl rfl (by decide +kernel) ⟨Nat.le_of_ble_eq_true rfl, Nat.le_of_ble_eq_true rfl⟩) (pV hP hK hN (va_recv hK hP (ci := 7) (q0 := 0) rfl rfl)) rfl rfl hl.1 rfl (lv_room (Nat.le_of_ble_eq_true rfl)) d_T_place_4 ⟨Nat.zero_le _, Nat.zero_le _⟩)) (fun r_1 hr_1 => ?_)
  subst hr_1
  rw [hs64]
  refine lv_if_eq (tgt := 20) hx hb d_T_place_7 (by decide) (fun c_7 => ?_) (fun c_7 => ?_)
  · refine lv_iconst (v := 1) hx hb d_T_place_20 (by decide) ?_
    refine lv_goto (tgt := 25) hx hb d_T_place_21 (by decide) ?_
    refine va_put (D := D) (ci := 7) (v := .int 1) (ty := .int) (C := Q_T) (T := F_T) (N := 17) hx hb hg in_T tq_T tq_T_ok n_T hown hK hP hD hS 0 rfl rfl 0 (by decide) (hg _ g_639) (fun _ h9 => h9) rfl (by decide +kernel) rfl rfl (Nat.le_of_ble_eq_true rfl) d_T_place_25 (fun H locs hP hD hS => ?_)
    have hP : va_P D cls [(o, .inr (7, [.int 1, .int (nI n), .ref dT, .ref gT, .int (nI ns), .ref la, .ref ca, .int (nI nn), .ref aa, .ref na, .ref ya, .int (nI nr), .ref ta, .int be, .int bp, .long bo, .int bm])), (dT, .inl (cI, 64, .inl d)), (gT, .inl (cZ, 64, .inl g)), (la, .inl (cI, 8, .inl sl)), (ca, .inl (cI, 128, .inl cr)), (aa, .inl (cI, 16, .inl ak)), (na, .inl (cI, 16, .inl no)), (ya, .inl (cI, 16, .inl ye)), (ta, .inl (cI, 48, .inl tl))] H := hP
    have hD : va_D A [(o, .inr (7, [.int 1, .int (nI n), .ref dT, .ref gT, .int (nI ns), .ref la, .ref ca, .int (nI nn), .ref aa, .ref na, .ref ya, .int (nI nr), .ref ta, .int be, .int bp, .long bo, .int bm])), (dT, .inl (cI, 64, .inl d)), (gT, .inl (cZ, 64, .inl g)), (la, .inl (cI, 8, .inl sl)), (ca, .inl (cI, 128, .inl cr)), (aa, .inl (cI, 16, .inl ak)), (na, .inl (cI, 16, .inl no)), (ya, .inl (cI, 16, .inl ye)), (ta, .inl (cI, 48, .inl tl))] := hD
    refine lv_aload_n hx hb d_T_place_28 rfl (lv_at hl 0 rfl) ?_
    refine va_get (D := D) (ci := 7) (v := .int 1) (C := Q_T) (T := F_T) (N := 17) hx hb hg in_T hown hK hP 0 rfl rfl 0 (by decide) (hg _ g_639) (fun _ h9 => h9) rfl d_T_place_29 ?_
    refine lv_if_le (tgt := 39) hx hb d_T_place_32 (by decide) (fun c_32 => ?_) (fun c_32 => ?_)
    · exact absurd c_32 (by decide)
    · refine lv_iconst (v := 0) hx hb d_T_place_35 (by decide) ?_
      refine lv_goto (tgt := 66) hx hb d_T_place_36 (by decide) ?_
      exact W.iret hx hb hr (fun t9 ht hW => ⟨⟨_, [(o, .inr (7, [.int 1, .int (nI n), .ref dT, .ref gT, .int (nI ns), .ref la, .ref ca, .int (nI nn), .ref aa, .ref na, .ref ya, .int (nI nr), .ref ta, .int be, .int bp, .long bo, .int bm])), (dT, .inl (cI, 64, .inl d)), (gT, .inl (cZ, 64, .inl g)), (la, .inl (cI, 8, .inl sl)), (ca, .inl (cI, 128, .inl cr)), (aa, .inl (cI, 16, .inl ak)), (na, .inl (cI, 16, .inl no)), (ya, .inl (cI, 16, .inl ye)), (ta, .inl (cI, 48, .inl tl))], rfl, ⟨by first | rw [cp_1 c_7] | rw [cp_2 c_17], fun h => absurd h (by first | (rw [cp_1 c_7]; decide) | (rw [cp_2 c_17]; decide))⟩, by rw [ht]; exact hP, va_K.moved hW.alike hK, hD⟩, hS.F ht⟩) hS.2.2 d_T_place_66
  · refine lv_iload_n hx hb d_T_place_10 rfl (lv_at hl 2 rfl) ?_
    refine lv_i2l (v := w.toInt64) hx hb d_T_place_11 rfl ?_
    refine lv_lconst (v := 0) hx hb d_T_place_12 (by decide) ?_
    refine lv_lconst (v := 1) hx hb d_T_place_13 (by decide) ?_
    refine vp_callSi (va_Run.run (va_runS (As := [.long w.toInt64, .long 0, .long 1]) (rest := [.ref o]) ⟨hx, hb, hml, hown, hg⟩ (c_T_isIn_ok l D cI cZ cJ cO w.toInt64 0 1) (va_cwS 3 hg (gs2 g_703 g_704 g_26 g_705) rfl rfl rfl (by decide +kernel) ⟨Nat.le_of_ble_eq_true rfl, Nat.le_of_ble_eq_true rfl⟩) (pS ba_nil hK hN) rfl rfl hl.1 rfl (lv_room (Nat.le_of_ble_eq_true rfl)) d_T_place_14 ⟨Nat.zero_le _, Nat.zero_le _⟩)) (fun r_2 hr_2 => ?_)
    subst hr_2
    rw [lw_c (v := w) (lo := 0) (hi := 1) (by decide) (by decide)]
    refine lv_if_ne (tgt := 24) hx hb d_T_place_17 (by decide) (fun c_17 => ?_) (fun c_17 => ?_)
    · refine lv_iconst (v := 0) hx hb d_T_place_24 (by decide) ?_
      refine va_put (D := D) (ci := 7) (v := .int 0) (ty := .int) (C := Q_T) (T := F_T) (N := 17) hx hb hg in_T tq_T tq_T_ok n_T hown hK hP hD hS 0 rfl rfl 0 (by decide) (hg _ g_639) (fun _ h9 => h9) rfl (by decide +kernel) rfl rfl (Nat.le_of_ble_eq_true rfl) d_T_place_25 (fun H locs hP hD hS => ?_)
      have hP : va_P D cls [(o, .inr (7, [.int 0, .int (nI n), .ref dT, .ref gT, .int (nI ns), .ref la, .ref ca, .int (nI nn), .ref aa, .ref na, .ref ya, .int (nI nr), .ref ta, .int be, .int bp, .long bo, .int bm])), (dT, .inl (cI, 64, .inl d)), (gT, .inl (cZ, 64, .inl g)), (la, .inl (cI, 8, .inl sl)), (ca, .inl (cI, 128, .inl cr)), (aa, .inl (cI, 16, .inl ak)), (na, .inl (cI, 16, .inl no)), (ya, .inl (cI, 16, .inl ye)), (ta, .inl (cI, 48, .inl tl))] H := hP
      have hD : va_D A [(o, .inr (7, [.int 0, .int (nI n), .ref dT, .ref gT, .int (nI ns), .ref la, .ref ca, .int (nI nn), .ref aa, .ref na, .ref ya, .int (nI nr), .ref ta, .int be, .int bp, .long bo, .int bm])), (dT, .inl (cI, 64, .inl d)), (gT, .inl (cZ, 64, .inl g)), (la, .inl (cI, 8, .inl sl)), (ca, .inl (cI, 128, .inl cr)), (aa, .inl (cI, 16, .inl ak)), (na, .inl (cI, 16, .inl no)), (ya, .inl (cI, 16, .inl ye)), (ta, .inl (cI, 48, .inl tl))] := hD
      refine lv_aload_n hx hb d_T_place_28 rfl (lv_at hl 0 rfl) ?_
      refine va_get (D := D) (ci := 7) (v := .int 0) (C := Q_T) (T := F_T) (N := 17) hx hb hg in_T hown hK hP 0 rfl rfl 0 (by decide) (hg _ g_639) (fun _ h9 => h9) rfl d_T_place_29 ?_
      refine lv_if_le (tgt := 39) hx hb d_T_place_32 (by decide) (fun c_32 => ?_) (fun c_32 => ?_)
      · refine lv_iload_n hx hb d_T_place_39 rfl (lv_at hl 2 rfl) ?_
        refine lv_if_ne (tgt := 52) hx hb d_T_place_40 (by decide) (fun c_40 => ?_) (fun c_40 => ?_)
        · refine lv_aload_n hx hb d_T_place_52 rfl (lv_at hl 0 rfl) ?_
          refine va_get (D := D) (ci := 7) (v := .ref gT) (C := Q_T) (T := F_T) (N := 17) hx hb hg in_T hown hK hP 0 rfl rfl 3 (by decide) (hg _ g_642) (fun _ h9 => h9) rfl d_T_place_53 ?_
          refine lv_iload_n hx hb d_T_place_56 rfl (lv_at hl 1 rfl) ?_
          refine va_zald hx hb hK hP 2 1 rfl rfl (v64h h64 c_7) d_T_place_57 ?_
          refine lv_if_eq (tgt := 65) hx hb d_T_place_58 (by decide) (fun c_58 => ?_) (fun c_58 => ?_)
          · refine lv_iconst (v := 0) hx hb d_T_place_65 (by decide) ?_
            exact W.iret hx hb hr (fun t9 ht hW => ⟨⟨_, [(o, .inr (7, [.int 0, .int (nI n), .ref dT, .ref gT, .int (nI ns), .ref la, .ref ca, .int (nI nn), .ref aa, .ref na, .ref ya, .int (nI nr), .ref ta, .int be, .int bp, .long bo, .int bm])), (dT, .inl (cI, 64, .inl d)), (gT, .inl (cZ, 64, .inl g)), (la, .inl (cI, 8, .inl sl)), (ca, .inl (cI, 128, .inl cr)), (aa, .inl (cI, 16, .inl ak)), (na, .inl (cI, 16, .inl no)), (ya, .inl (cI, 16, .inl ye)), (ta, .inl (cI, 48, .inl tl))], rfl, ⟨by rw [cp_0 c_7 c_17], fun _ => by unfold aPla; first | rw [if_pos c_40] | rw [if_neg c_40, if_pos c_58] | rw [if_neg c_40, if_neg c_58]⟩, by rw [ht]; exact hP, va_K.moved hW.alike hK, hD⟩, hS.F ht⟩) hS.2.2 d_T_place_66
          · refine lv_iconst (v := 1) hx hb d_T_place_61 (by decide) ?_
            refine lv_goto (tgt := 66) hx hb d_T_place_62 (by decide) ?_
            exact W.iret hx hb hr (fun t9 ht hW => ⟨⟨_, [(o, .inr (7, [.int 0, .int (nI n), .ref dT, .ref gT, .int (nI ns), .ref la, .ref ca, .int (nI nn), .ref aa, .ref na, .ref ya, .int (nI nr), .ref ta, .int be, .int bp, .long bo, .int bm])), (dT, .inl (cI, 64, .inl d)), (gT, .inl (cZ, 64, .inl g)), (la, .inl (cI, 8, .inl sl)), (ca, .inl (cI, 128, .inl cr)), (aa, .inl (cI, 16, .inl ak)), (na, .inl (cI, 16, .inl no)), (ya, .inl (cI, 16, .inl ye)), (ta, .inl (cI, 48, .inl tl))], rfl, ⟨by rw [cp_0 c_7 c_17], fun _ => by unfold aPla; first | rw [if_pos c_40] | rw [if_neg c_40, if_pos c_58] | rw [if_neg c_40, if_neg c_58]⟩, by rw [ht]; exact hP, va_K.moved hW.alike hK, hD⟩, hS.F ht⟩) hS.2.2 d_T_place_66
        · refine lv_aload_n hx hb d_T_place_43 rfl (lv_at hl 0 rfl) ?_
          refine va_get (D := D) (ci := 7) (v := .ref dT) (C := Q_T) (T := F_T) (N := 17) hx hb hg in_T hown hK hP 0 rfl rfl 2 (by decide) (hg _ g_641) (fun _ h9 => h9) rfl d_T_place_44 ?_
          refine lv_iload_n hx hb d_T_place_47 rfl (lv_at hl 1 rfl) ?_
          refine va_iald hx hb hK hP 1 0 rfl rfl (v64h h64 c_7) d_T_place_48 ?_
          refine lv_goto (tgt := 66) hx hb d_T_place_49 (by decide) ?_
          exact W.iret hx hb hr (fun t9 ht hW => ⟨⟨_, [(o, .inr (7, [.int 0, .int (nI n), .ref dT, .ref gT, .int (nI ns), .ref la, .ref ca, .int (nI nn), .ref aa, .ref na, .ref ya, .int (nI nr), .ref ta, .int be, .int bp, .long bo, .int bm])), (dT, .inl (cI, 64, .inl d)), (gT, .inl (cZ, 64, .inl g)), (la, .inl (cI, 8, .inl sl)), (ca, .inl (cI, 128, .inl cr)), (aa, .inl (cI, 16, .inl ak)), (na, .inl (cI, 16, .inl no)), (ya, .inl (cI, 16, .inl ye)), (ta, .inl (cI, 48, .inl tl))], rfl, ⟨by rw [cp_0 c_7 c_17], fun _ => by unfold aPla; first | rw [if_pos c_40] | rw [if_neg c_40, if_pos c_58] | rw [if_neg c_40, if_neg c_58]⟩, by rw [ht]; exact hP, va_K.moved hW.alike hK, hD⟩, hS.F ht⟩) hS.2.2 d_T_place_66
      · exact absurd c_32 (by decide)
    · refine lv_iconst (v := 1) hx hb d_T_place_20 (by decide) ?_
      refine lv_goto (tgt := 25) hx hb d_T_place_21 (by decide) ?_
      refine va_put (D := D) (ci := 7) (v := .int 1) (ty := .int) (C := Q_T) (T := F_T) (N := 17) hx hb hg in_T tq_T tq_T_ok n_T hown hK hP hD hS 0 rfl rfl 0 (by decide) (hg _ g_639) (fun _ h9 => h9) rfl (by decide +kernel) rfl rfl (Nat.le_of_ble_eq_true rfl) d_T_place_25 (fun H locs hP hD hS => ?_)
      have hP : va_P D cls [(o, .inr (7, [.int 1, .int (nI n), .ref dT, .ref gT, .int (nI ns), .ref la, .ref ca, .int (nI nn), .ref aa, .ref na, .ref ya, .int (nI nr), .ref ta, .int be, .int bp, .long bo, .int bm])), (dT, .inl (cI, 64, .inl d)), (gT, .inl (cZ, 64, .inl g)), (la, .inl (cI, 8, .inl sl)), (ca, .inl (cI, 128, .inl cr)), (aa, .inl (cI, 16, .inl ak)), (na, .inl (cI, 16, .inl no)), (ya, .inl (cI, 16, .inl ye)), (ta, .inl (cI, 48, .inl tl))] H := hP
      have hD : va_D A [(o, .inr (7, [.int 1, .int (nI n), .ref dT, .ref gT, .int (nI ns), .ref la, .ref ca, .int (nI nn), .ref aa, .ref na, .ref ya, .int (nI nr), .ref ta, .int be, .int bp, .long bo, .int bm])), (dT, .inl (cI, 64, .inl d)), (gT, .inl (cZ, 64, .inl g)), (la, .inl (cI, 8, .inl sl)), (ca, .inl (cI, 128, .inl cr)), (aa, .inl (cI, 16, .inl ak)), (na, .inl (cI, 16, .inl no)), (ya, .inl (cI, 16, .inl ye)), (ta, .inl (cI, 48, .inl tl))] := hD
      refine lv_aload_n hx hb d_T_place_28 rfl (lv_at hl 0 rfl) ?_
      refine va_get (D := D) (ci := 7) (v := .int 1) (C := Q_T) (T := F_T) (N := 17) hx hb hg in_T hown hK hP 0 rfl rfl 0 (by decide) (hg _ g_639) (fun _ h9 => h9) rfl d_T_place_29 ?_
      refine lv_if_le (tgt := 39) hx hb d_T_place_32 (by decide) (fun c_32 => ?_) (fun c_32 => ?_)
      · exact absurd c_32 (by decide)
      · refine lv_iconst (v := 0) hx hb d_T_place_35 (by decide) ?_
        refine lv_goto (tgt := 66) hx hb d_T_place_36 (by decide) ?_
        exact W.iret hx hb hr (fun t9 ht hW => ⟨⟨_, [(o, .inr (7, [.int 1, .int (nI n), .ref dT, .ref gT, .int (nI ns), .ref la, .ref ca, .int (nI nn), .ref aa, .ref na, .ref ya, .int (nI nr), .ref ta, .int be, .int bp, .long bo, .int bm])), (dT, .inl (cI, 64, .inl d)), (gT, .inl (cZ, 64, .inl g)), (la, .inl (cI, 8, .inl sl)), (ca, .inl (cI, 128, .inl cr)), (aa, .inl (cI, 16, .inl ak)), (na, .inl (cI, 16, .inl no)), (ya, .inl (cI, 16, .inl ye)), (ta, .inl (cI, 48, .inl tl))], rfl, ⟨by first | rw [cp_1 c_7] | rw [cp_2 c_17], fun h => absurd h (by first | (rw [cp_1 c_7]; decide) | (rw [cp_2 c_17]; decide))⟩, by rw [ht]; exact hP, va_K.moved hW.alike hK, hD⟩, hS.F ht⟩) hS.2.2 d_T_place_66

set_option maxHeartbeats 4000000 in
set_option maxRecDepth 100000 in
/-- the reference: sum(s) -/
theorem c_T_sum_ok (l : Launch) (D : va_G) (cI cZ cJ cO : ClassId) (sz : Nat) (o dT gT la ca aa na ya ta : Nat) (n ns nn nr : Nat) (d g sl cr ak no ye tl : Nat → Int32) (th be bp bm : Int32) (bo : Int64) (h4 : 4 ≤ n) (h64 : n ≤ 64) (hd : dOK n d) (s9 : Int32) : Met l y_T_sum (wq y_T_sum c_T_sum 2 (some .long)) ({ frames := 4, cells := 0, slots := 0, locals := 93 }) (mP D (TY cI cZ cJ cO) [(o, .inr (7, [.int th, .int (nI n), .ref dT, .ref gT, .int (nI ns), .ref la, .ref ca, .int (nI nn), .ref aa, .ref na, .ref ya, .int (nI nr), .ref ta, .int be, .int bp, .long bo, .int bm])), (dT, .inl (cI, 64, .inl d)), (gT, .inl (cZ, 64, .inl g)), (la, .inl (cI, 8, .inl sl)), (ca, .inl (cI, 128, .inl cr)), (aa, .inl (cI, 16, .inl ak)), (na, .inl (cI, 16, .inl no)), (ya, .inl (cI, 16, .inl ye)), (ta, .inl (cI, 48, .inl tl))] [.ref o, .int s9] sz) (va_Ql (fun (r : Int64) (u : va_W) => u = [(o, .inr (7, [.int (cSum n s9), .int (nI n), .ref dT, .ref gT, .int (nI ns), .ref la, .ref ca, .int (nI nn), .ref aa, .ref na, .ref ya, .int (nI nr), .ref ta, .int be, .int bp, .long bo, .int bm])), (dT, .inl (cI, 64, .inl d)), (gT, .inl (cZ, 64, .inl g)), (la, .inl (cI, 8, .inl sl)), (ca, .inl (cI, 128, .inl cr)), (aa, .inl (cI, 16, .inl ak)), (na, .inl (cI, 16, .inl no)), (ya, .inl (cI, 16, .inl ye)), (ta, .inl (cI, 48, .inl tl))] ∧ (cSum n s9 = 0 → r = rsv n d g s9.toNatClampNeg)) (mB D (TY cI cZ cJ cO) (va_A [(o, .inr (7, [.int th, .int (nI n), .ref dT, .ref gT, .int (nI ns), .ref la, .ref ca, .int (nI nn), .ref aa, .ref na, .ref ya, .int (nI nr), .ref ta, .int be, .int bp, .long bo, .int bm])), (dT, .inl (cI, 64, .inl d)), (gT, .inl (cZ, 64, .inl g)), (la, .inl (cI, 8, .inl sl)), (ca, .inl (cI, 128, .inl cr)), (aa, .inl (cI, 16, .inl ak)), (na, .inl (cI, 16, .inl no)), (ya, .inl (cI, 16, .inl ye)), (ta, .inl (cI, 48, .inl tl))] sz)) (va_A [(o, .inr (7, [.int th, .int (nI n), .ref dT, .ref gT, .int (nI ns), .ref la, .ref ca, .int (nI nn), .ref aa, .ref na, .ref ya, .int (nI nr), .ref ta, .int be, .int bp, .long bo, .int bm])), (dT, .inl (cI, 64, .inl d)), (gT, .inl (cZ, 64, .inl g)), (la, .inl (cI, 8, .inl sl)), (ca, .inl (cI, 128, .inl cr)), (aa, .inl (cI, 16, .inl ak)), (na, .inl (cI, 16, .inl no)), (ya, .inl (cI, 16, .inl ye)), (ta, .inl (cI, 48, .inl tl))] sz)) 0 0 (va_A [(o, .inr (7, [.int th, .int (nI n), .ref dT, .ref gT, .int (nI ns), .ref la, .ref ca, .int (nI nn), .ref aa, .ref na, .ref ya, .int (nI nr), .ref ta, .int be, .int bp, .long bo, .int bm])), (dT, .inl (cI, 64, .inl d)), (gT, .inl (cZ, 64, .inl g)), (la, .inl (cI, 8, .inl sl)), (ca, .inl (cI, 128, .inl cr)), (aa, .inl (cI, 16, .inl ak)), (na, .inl (cI, 16, .inl no)), (ya, .inl (cI, 16, .inl ye)), (ta, .inl (cI, 48, .inl tl))] sz) := by
  refine Met.ofW (cc := c_T_sum) (maxL := 2) (ret := (some .long)) (by decide) rfl ?_
  intro p e s m args below meth c s₁ B hml hv
  obtain ⟨rfl, hsz, hP, hK, hD0, hN⟩ := hv
  have hx := B.exec
  have hb := B.bytes
  have hr := B.returns
  have hg := gt_h (atoms_spec (ws := (wq y_T_sum c_T_sum 2 (some .long))) B.pre)
  have hown : s.vm.findClass "RubbingMirrorsModel" = some m.cls := findClass_of_methodNamed B.named
  have hlocks := B.notSynchronized
  subst hsz
  have hD := hD0.self (sz := s.heap.size)
  generalize hAe : va_A [(o, .inr (7, [.int th, .int (nI n), .ref dT, .ref gT, .int (nI ns), .ref la, .ref ca, .int (nI nn), .ref aa, .ref na, .ref ya, .int (nI nr), .ref ta, .int be, .int bp, .long bo, .int bm])), (dT, .inl (cI, 64, .inl d)), (gT, .inl (cZ, 64, .inl g)), (la, .inl (cI, 8, .inl sl)), (ca, .inl (cI, 128, .inl cr)), (aa, .inl (cI, 16, .inl ak)), (na, .inl (cI, 16, .inl no)), (ya, .inl (cI, 16, .inl ye)), (ta, .inl (cI, 48, .inl tl))] s.heap.size = A at hD ⊢
  have hA : ∀ q : Nat, s.heap.size ≤ q → A q := fun q h => by rw [← hAe]; exact Or.inr h
  have hS : va_S A s.heap s.heap [] := va_S.rf
  have hl := lv_entry ([.ref o, .int s9]) (n := 2) (Nat.le_of_ble_eq_true rfl)
  rw [lg_entry_eq]
  generalize (lg_sl ([.ref o, .int s9]) ++ List.replicate (2 - (lg_sl ([.ref o, .int s9])).length) Slot.unset).toArray = ls at hl ⊢
  have hl : lv_has ls 2 [(0, .ref o), (1, .int s9)] := hl
  refine lv_aload_n hx hb d_T_sum_0 rfl (lv_at hl 0 rfl) ?_
  refine lv_iload_n hx hb d_T_sum_1 rfl (lv_at hl 1 rfl) ?_
  refine lv_i2l (v := s9.toInt64) hx hb d_T_sum_2 rfl ?_
  refine lv_lconst (v := 1) hx hb d_T_sum_3 (by decide) ?_
  refine lv_aload_n hx hb d_T_sum_4 rfl (lv_at hl 0 rfl) ?_
  refine va_get (D := D) (ci := 7) (v := .int (nI n)) (C := Q_T) (T := F_T) (N := 17) hx hb hg in_T hown hK hP 0 rfl rfl 1 (by decide) (hg _ g_640) (fun _ h9 => h9) rfl d_T_sum_5 ?_
  refine lv_iconst (v := 1) hx hb d_T_sum_8 (by decide) ?_
  refine lv_isub hx hb d_T_sum_9 ?_
  refine lv_i2l (v := ((nI n) - 1).toInt64) hx hb d_T_sum_10 rfl ?_
  refine vp_callSi (va_Run.run (va_runS (As := [.long s9.toInt64, .long 1, .long (((nI n) - 1).toInt64)]) (rest := [.ref o]) ⟨hx, hb, hml, hown, hg⟩ (c_T_isIn_ok l D cI cZ cJ cO s9.toInt64 1 (((nI n) - 1).toInt64)) (va_cwS 3 hg (gs2 g_703 g_704 g_26 g_705) rfl rfl rfl (by decide +kernel) ⟨Nat.le_of_ble_eq_true rfl, Nat.le_of_ble_eq_true rfl⟩) (pS ba_nil hK hN) rfl rfl hl.1 rfl (lv_room (Nat.le_of_ble_eq_true rfl)) d_T_sum_11 ⟨Nat.zero_le _, Nat.zero_le _⟩)) (fun r_1 hr_1 => ?_)
  subst hr_1
  rw [lw_c (v := s9) (lo := 1) (hi := ((nI n) - 1)) (by decide) rfl]
  refine lv_if_ne (tgt := 21) hx hb d_T_sum_14 (by decide) (fun c_14 => ?_) (fun c_14 => ?_)
  · obtain ⟨S, hS1, hS2, rfl⟩ := iwS h4 h64 c_14
    refine lv_iconst (v := 0) hx hb d_T_sum_21 (by decide) ?_
    refine va_put (D := D) (ci := 7) (v := .int 0) (ty := .int) (C := Q_T) (T := F_T) (N := 17) hx hb hg in_T tq_T tq_T_ok n_T hown hK hP hD hS 0 rfl rfl 0 (by decide) (hg _ g_639) (fun _ h9 => h9) rfl (by decide +kernel) rfl rfl (Nat.le_of_ble_eq_true rfl) d_T_sum_22 (fun H locs hP hD hS => ?_)
    have hP : va_P D cls [(o, .inr (7, [.int 0, .int (nI n), .ref dT, .ref gT, .int (nI ns), .ref la, .ref ca, .int (nI nn), .ref aa, .ref na, .ref ya, .int (nI nr), .ref ta, .int be, .int bp, .long bo, .int bm])), (dT, .inl (cI, 64, .inl d)), (gT, .inl (cZ, 64, .inl g)), (la, .inl (cI, 8, .inl sl)), (ca, .inl (cI, 128, .inl cr)), (aa, .inl (cI, 16, .inl ak)), (na, .inl (cI, 16, .inl no)), (ya, .inl (cI, 16, .inl ye)), (ta, .inl (cI, 48, .inl tl))] H := hP
    have hD : va_D A [(o, .inr (7, [.int 0, .int (nI n), .ref dT, .ref gT, .int (nI ns), .ref la, .ref ca, .int (nI nn), .ref aa, .ref na, .ref ya, .int (nI nr), .ref ta, .int be, .int bp, .long bo, .int bm])), (dT, .inl (cI, 64, .inl d)), (gT, .inl (cZ, 64, .inl g)), (la, .inl (cI, 8, .inl sl)), (ca, .inl (cI, 128, .inl cr)), (aa, .inl (cI, 16, .inl ak)), (na, .inl (cI, 16, .inl no)), (ya, .inl (cI, 16, .inl ye)), (ta, .inl (cI, 48, .inl tl))] := hD
    refine lv_aload_n hx hb d_T_sum_25 rfl (lv_at hl 0 rfl) ?_
    refine va_get (D := D) (ci := 7) (v := .int 0) (C := Q_T) (T := F_T) (N := 17) hx hb hg in_T hown hK hP 0 rfl rfl 0 (by decide) (hg _ g_639) (fun _ h9 => h9) rfl d_T_sum_26 ?_
    refine lv_if_le (tgt := 36) hx hb d_T_sum_29 (by decide) (fun c_29 => ?_) (fun c_29 => ?_)
    · refine lv_aload_n hx hb d_T_sum_36 rfl (lv_at hl 0 rfl) ?_
      refine lv_iload_n hx hb d_T_sum_37 rfl (lv_at hl 1 rfl) ?_
      refine vp_callSl (va_Run.run (va_runV (As := [.int (nI S)]) (rest := []) ⟨hx, hb, hml, hown, hg⟩ (c_T_sumOf_ok l D cI cZ cJ cO o dT gT la ca aa na ya ta n ns nn nr d g sl cr ak no ye tl 0 be bp bm bo h4 h64 hd S (by omega)) (cwV 1 hg (gv g_733 g_735 g_13 g_26 g_736) rfl rfl rfl (by decide +kernel) ⟨Nat.le_of_ble_eq_true rfl, Nat.le_of_ble_eq_true rfl⟩) (pV hP hK hN (va_recv hK hP (ci := 7) (q0 := 0) rfl rfl)) rfl rfl hl.1 rfl (lv_room (Nat.le_of_ble_eq_true rfl)) d_T_sum_38 ⟨Nat.zero_le _, Nat.zero_le _⟩)) (fun r_2 hr_2 => ?_)
      subst hr_2
      exact W.lret hx hb hr (fun t9 ht hW => ⟨⟨_, [(o, .inr (7, [.int 0, .int (nI n), .ref dT, .ref gT, .int (nI ns), .ref la, .ref ca, .int (nI nn), .ref aa, .ref na, .ref ya, .int (nI nr), .ref ta, .int be, .int bp, .long bo, .int bm])), (dT, .inl (cI, 64, .inl d)), (gT, .inl (cZ, 64, .inl g)), (la, .inl (cI, 8, .inl sl)), (ca, .inl (cI, 128, .inl cr)), (aa, .inl (cI, 16, .inl ak)), (na, .inl (cI, 16, .inl no)), (ya, .inl (cI, 16, .inl ye)), (ta, .inl (cI, 48, .inl tl))], rfl, ⟨by rw [cs_0 c_14], fun _ => by rw [nI_clamp (by omega)]; rfl⟩, by rw [ht]; exact hP, va_K.moved hW.alike hK, hD⟩, hS.F ht⟩) hS.2.2 d_T_sum_41
    · exact absurd c_29 (by decide)
  · refine lv_iconst (v := 1) hx hb d_T_sum_17 (by decide) ?_
    refine lv_goto (tgt := 22) hx hb d_T_sum_18 (by decide) ?_
    refine va_put (D := D) (ci := 7) (v := .int 1) (ty := .int) (C := Q_T) (T := F_T) (N := 17) hx hb hg in_T tq_T tq_T_ok n_T hown hK hP hD hS 0 rfl rfl 0 (by decide) (hg _ g_639) (fun _ h9 => h9) rfl (by decide +kernel) rfl rfl (Nat.le_of_ble_eq_true rfl) d_T_sum_22 (fun H locs hP hD hS => ?_)
    have hP : va_P D cls [(o, .inr (7, [.int 1, .int (nI n), .ref dT, .ref gT, .int (nI ns), .ref la, .ref ca, .int (nI nn), .ref aa, .ref na, .ref ya, .int (nI nr), .ref ta, .int be, .int bp, .long bo, .int bm])), (dT, .inl (cI, 64, .inl d)), (gT, .inl (cZ, 64, .inl g)), (la, .inl (cI, 8, .inl sl)), (ca, .inl (cI, 128, .inl cr)), (aa, .inl (cI, 16, .inl ak)), (na, .inl (cI, 16, .inl no)), (ya, .inl (cI, 16, .inl ye)), (ta, .inl (cI, 48, .inl tl))] H := hP
    have hD : va_D A [(o, .inr (7, [.int 1, .int (nI n), .ref dT, .ref gT, .int (nI ns), .ref la, .ref ca, .int (nI nn), .ref aa, .ref na, .ref ya, .int (nI nr), .ref ta, .int be, .int bp, .long bo, .int bm])), (dT, .inl (cI, 64, .inl d)), (gT, .inl (cZ, 64, .inl g)), (la, .inl (cI, 8, .inl sl)), (ca, .inl (cI, 128, .inl cr)), (aa, .inl (cI, 16, .inl ak)), (na, .inl (cI, 16, .inl no)), (ya, .inl (cI, 16, .inl ye)), (ta, .inl (cI, 48, .inl tl))] := hD
    refine lv_aload_n hx hb d_T_sum_25 rfl (lv_at hl 0 rfl) ?_
    refine va_get (D := D) (ci := 7) (v := .int 1) (C := Q_T) (T := F_T) (N := 17) hx hb hg in_T hown hK hP 0 rfl rfl 0 (by decide) (hg _ g_639) (fun _ h9 => h9) rfl d_T_sum_26 ?_
    refine lv_if_le (tgt := 36) hx hb d_T_sum_29 (by decide) (fun c_29 => ?_) (fun c_29 => ?_)
    · exact absurd c_29 (by decide)
    · refine lv_lconst (v := 0) hx hb d_T_sum_32 (by decide) ?_
      refine lv_goto (tgt := 41) hx hb d_T_sum_33 (by decide) ?_
      exact W.lret hx hb hr (fun t9 ht hW => ⟨⟨_, [(o, .inr (7, [.int 1, .int (nI n), .ref dT, .ref gT, .int (nI ns), .ref la, .ref ca, .int (nI nn), .ref aa, .ref na, .ref ya, .int (nI nr), .ref ta, .int be, .int bp, .long bo, .int bm])), (dT, .inl (cI, 64, .inl d)), (gT, .inl (cZ, 64, .inl g)), (la, .inl (cI, 8, .inl sl)), (ca, .inl (cI, 128, .inl cr)), (aa, .inl (cI, 16, .inl ak)), (na, .inl (cI, 16, .inl no)), (ya, .inl (cI, 16, .inl ye)), (ta, .inl (cI, 48, .inl tl))], rfl, ⟨by rw [cs_1 c_14], fun h => absurd h (by rw [cs_1 c_14]; decide)⟩, by rw [ht]; exact hP, va_K.moved hW.alike hK, hD⟩, hS.F ht⟩) hS.2.2 d_T_sum_41

set_option maxHeartbeats 4000000 in
set_option maxRecDepth 100000 in
/-- the reference: forget() -/
theorem c_T_forget_ok (l : Launch) (D : va_G) (cI cZ cJ cO : ClassId) (sz : Nat) (o dT gT la ca aa na ya ta : Nat) (n ns nn nr : Nat) (d g sl cr ak no ye tl : Nat → Int32) (th be bp bm : Int32) (bo : Int64) (h4 : 4 ≤ n) (h64 : n ≤ 64) (hd : dOK n d)  : Met l y_T_forget (wq y_T_forget c_T_forget 3 (some .int)) ({ frames := 0, cells := 0, slots := 0, locals := 0 }) (mP D (TY cI cZ cJ cO) [(o, .inr (7, [.int th, .int (nI n), .ref dT, .ref gT, .int (nI ns), .ref la, .ref ca, .int (nI nn), .ref aa, .ref na, .ref ya, .int (nI nr), .ref ta, .int be, .int bp, .long bo, .int bm])), (dT, .inl (cI, 64, .inl d)), (gT, .inl (cZ, 64, .inl g)), (la, .inl (cI, 8, .inl sl)), (ca, .inl (cI, 128, .inl cr)), (aa, .inl (cI, 16, .inl ak)), (na, .inl (cI, 16, .inl no)), (ya, .inl (cI, 16, .inl ye)), (ta, .inl (cI, 48, .inl tl))] [.ref o] sz) (va_Qi (fun (r : Int32) (u : va_W) => r = nI (lgs d g n).2.2 ∧ u = [(o, .inr (7, [.int 0, .int (nI n), .ref dT, .ref gT, .int (nI ns), .ref la, .ref ca, .int (nI nn), .ref aa, .ref na, .ref ya, .int (nI nr), .ref ta, .int be, .int bp, .long bo, .int bm])), (dT, .inl (cI, 64, .inl ((lgs d g n).1))), (gT, .inl (cZ, 64, .inl ((lgs d g n).2.1))), (la, .inl (cI, 8, .inl sl)), (ca, .inl (cI, 128, .inl cr)), (aa, .inl (cI, 16, .inl ak)), (na, .inl (cI, 16, .inl no)), (ya, .inl (cI, 16, .inl ye)), (ta, .inl (cI, 48, .inl tl))]) (mB D (TY cI cZ cJ cO) (va_A [(o, .inr (7, [.int th, .int (nI n), .ref dT, .ref gT, .int (nI ns), .ref la, .ref ca, .int (nI nn), .ref aa, .ref na, .ref ya, .int (nI nr), .ref ta, .int be, .int bp, .long bo, .int bm])), (dT, .inl (cI, 64, .inl d)), (gT, .inl (cZ, 64, .inl g)), (la, .inl (cI, 8, .inl sl)), (ca, .inl (cI, 128, .inl cr)), (aa, .inl (cI, 16, .inl ak)), (na, .inl (cI, 16, .inl no)), (ya, .inl (cI, 16, .inl ye)), (ta, .inl (cI, 48, .inl tl))] sz)) (va_A [(o, .inr (7, [.int th, .int (nI n), .ref dT, .ref gT, .int (nI ns), .ref la, .ref ca, .int (nI nn), .ref aa, .ref na, .ref ya, .int (nI nr), .ref ta, .int be, .int bp, .long bo, .int bm])), (dT, .inl (cI, 64, .inl d)), (gT, .inl (cZ, 64, .inl g)), (la, .inl (cI, 8, .inl sl)), (ca, .inl (cI, 128, .inl cr)), (aa, .inl (cI, 16, .inl ak)), (na, .inl (cI, 16, .inl no)), (ya, .inl (cI, 16, .inl ye)), (ta, .inl (cI, 48, .inl tl))] sz)) 0 0 (va_A [(o, .inr (7, [.int th, .int (nI n), .ref dT, .ref gT, .int (nI ns), .ref la, .ref ca, .int (nI nn), .ref aa, .ref na, .ref ya, .int (nI nr), .ref ta, .int be, .int bp, .long bo, .int bm])), (dT, .inl (cI, 64, .inl d)), (gT, .inl (cZ, 64, .inl g)), (la, .inl (cI, 8, .inl sl)), (ca, .inl (cI, 128, .inl cr)), (aa, .inl (cI, 16, .inl ak)), (na, .inl (cI, 16, .inl no)), (ya, .inl (cI, 16, .inl ye)), (ta, .inl (cI, 48, .inl tl))] sz) := by
  refine Met.ofW (cc := c_T_forget) (maxL := 3) (ret := (some .int)) (by decide) rfl ?_
  intro p e s m args below meth c s₁ B hml hv
  obtain ⟨rfl, hsz, hP, hK, hD0, hN⟩ := hv
  have hx := B.exec
  have hb := B.bytes
  have hr := B.returns
  have hg := gt_h (atoms_spec (ws := (wq y_T_forget c_T_forget 3 (some .int))) B.pre)
  have hown : s.vm.findClass "RubbingMirrorsModel" = some m.cls := findClass_of_methodNamed B.named
  have hlocks := B.notSynchronized
  subst hsz
  have hD := hD0.self (sz := s.heap.size)
  generalize hAe : va_A [(o, .inr (7, [.int th, .int (nI n), .ref dT, .ref gT, .int (nI ns), .ref la, .ref ca, .int (nI nn), .ref aa, .ref na, .ref ya, .int (nI nr), .ref ta, .int be, .int bp, .long bo, .int bm])), (dT, .inl (cI, 64, .inl d)), (gT, .inl (cZ, 64, .inl g)), (la, .inl (cI, 8, .inl sl)), (ca, .inl (cI, 128, .inl cr)), (aa, .inl (cI, 16, .inl ak)), (na, .inl (cI, 16, .inl no)), (ya, .inl (cI, 16, .inl ye)), (ta, .inl (cI, 48, .inl tl))] s.heap.size = A at hD ⊢
  have hA : ∀ q : Nat, s.heap.size ≤ q → A q := fun q h => by rw [← hAe]; exact Or.inr h
  have hS : va_S A s.heap s.heap [] := va_S.rf
  have hl := lv_entry ([.ref o]) (n := 3) (Nat.le_of_ble_eq_true rfl)
  rw [lg_entry_eq]
  generalize (lg_sl ([.ref o]) ++ List.replicate (3 - (lg_sl ([.ref o])).length) Slot.unset).toArray = ls at hl ⊢
  have hl : lv_has ls 3 [(0, .ref o)] := hl
  refine lv_aload_n hx hb d_T_forget_0 rfl (lv_at hl 0 rfl) ?_
  refine lv_iconst (v := 0) hx hb d_T_forget_1 (by decide) ?_
  refine va_put (D := D) (ci := 7) (v := .int 0) (ty := .int) (C := Q_T) (T := F_T) (N := 17) hx hb hg in_T tq_T tq_T_ok n_T hown hK hP hD hS 0 rfl rfl 0 (by decide) (hg _ g_639) (fun _ h9 => h9) rfl (by decide +kernel) rfl rfl (Nat.le_of_ble_eq_true rfl) d_T_forget_2 (fun H locs hP hD hS => ?_)
  have hP : va_P D cls [(o, .inr (7, [.int 0, .int (nI n), .ref dT, .ref gT, .int (nI ns), .ref la, .ref ca, .int (nI nn), .ref aa, .ref na, .ref ya, .int (nI nr), .ref ta, .int be, .int bp, .long bo, .int bm])), (dT, .inl (cI, 64, .inl d)), (gT, .inl (cZ, 64, .inl g)), (la, .inl (cI, 8, .inl sl)), (ca, .inl (cI, 128, .inl cr)), (aa, .inl (cI, 16, .inl ak)), (na, .inl (cI, 16, .inl no)), (ya, .inl (cI, 16, .inl ye)), (ta, .inl (cI, 48, .inl tl))] H := hP
  have hD : va_D A [(o, .inr (7, [.int 0, .int (nI n), .ref dT, .ref gT, .int (nI ns), .ref la, .ref ca, .int (nI nn), .ref aa, .ref na, .ref ya, .int (nI nr), .ref ta, .int be, .int bp, .long bo, .int bm])), (dT, .inl (cI, 64, .inl d)), (gT, .inl (cZ, 64, .inl g)), (la, .inl (cI, 8, .inl sl)), (ca, .inl (cI, 128, .inl cr)), (aa, .inl (cI, 16, .inl ak)), (na, .inl (cI, 16, .inl no)), (ya, .inl (cI, 16, .inl ye)), (ta, .inl (cI, 48, .inl tl))] := hD
  refine lv_iconst (v := 0) hx hb d_T_forget_5 (by decide) ?_
  refine lv_istore_n (lv' := [(1, .int 0), (0, .ref o)]) hx hb d_T_forget_6 rfl hl (by decide) rfl (fun ls hl => ?_)
  refine lv_iconst (v := 0) hx hb d_T_forget_7 (by decide) ?_
  refine lv_istore_n (lv' := [(2, .int 0), (1, .int 0), (0, .ref o)]) hx hb d_T_forget_8 rfl hl (by decide) rfl (fun ls hl => ?_)
  have loop_9 : ∀ (f9 : Nat) (j : Nat) (d1 g1 : Nat → Int32) (c1 : Nat) (x1 : Int32) (x2 : Int32) (H : Heap) (locs : List Loc) (ls : Array Slot), (j ≤ n ∧ n < j + f9 ∧ x1 = nI c1 ∧ x2 = nI j ∧ (d1, g1, c1) = lgs d g j) → va_P D cls [(o, .inr (7, [.int 0, .int (nI n), .ref dT, .ref gT, .int (nI ns), .ref la, .ref ca, .int (nI nn), .ref aa, .ref na, .ref ya, .int (nI nr), .ref ta, .int be, .int bp, .long bo, .int bm])), (dT, .inl (cI, 64, .inl d1)), (gT, .inl (cZ, 64, .inl g1)), (la, .inl (cI, 8, .inl sl)), (ca, .inl (cI, 128, .inl cr)), (aa, .inl (cI, 16, .inl ak)), (na, .inl (cI, 16, .inl no)), (ya, .inl (cI, 16, .inl ye)), (ta, .inl (cI, 48, .inl tl))] H → va_D A [(o, .inr (7, [.int 0, .int (nI n), .ref dT, .ref gT, .int (nI ns), .ref la, .ref ca, .int (nI nn), .ref aa, .ref na, .ref ya, .int (nI nr), .ref ta, .int be, .int bp, .long bo, .int bm])), (dT, .inl (cI, 64, .inl d1)), (gT, .inl (cZ, 64, .inl g1)), (la, .inl (cI, 8, .inl sl)), (ca, .inl (cI, 128, .inl cr)), (aa, .inl (cI, 16, .inl ak)), (na, .inl (cI, 16, .inl no)), (ya, .inl (cI, 16, .inl ye)), (ta, .inl (cI, 48, .inl tl))] → va_S A s.heap H locs → lv_has ls 3 [(0, .ref o), (1, .int x1), (2, .int x2)] → W p l e (headSpec (wq y_T_forget c_T_forget 3 (some .int)) ({ frames := 0, cells := 0, slots := 0, locals := 0 })).room s m ([.ref o] : List Value).toArray below meth c H locs 0 0 (MQ below (va_Qi (fun (r : Int32) (u : va_W) => r = nI (lgs d g n).2.2 ∧ u = [(o, .inr (7, [.int 0, .int (nI n), .ref dT, .ref gT, .int (nI ns), .ref la, .ref ca, .int (nI nn), .ref aa, .ref na, .ref ya, .int (nI nr), .ref ta, .int be, .int bp, .long bo, .int bm])), (dT, .inl (cI, 64, .inl ((lgs d g n).1))), (gT, .inl (cZ, 64, .inl ((lgs d g n).2.1))), (la, .inl (cI, 8, .inl sl)), (ca, .inl (cI, 128, .inl cr)), (aa, .inl (cI, 16, .inl ak)), (na, .inl (cI, 16, .inl no)), (ya, .inl (cI, 16, .inl ye)), (ta, .inl (cI, 48, .inl tl))]) (mB D (TY cI cZ cJ cO) A) A) ([.ref o] : List Value).toArray s 0 0 A) (F0 m 9 ls []) := by
    intro f9
    induction f9 with
    | zero =>
      intro j d1 g1 c1 x1 x2 H locs ls hI hP hD hS hl
      obtain ⟨hj1, hj2, rfl, rfl, hq⟩ := hI
      omega
    | succ f9 ih9 =>
      intro j d1 g1 c1 x1 x2 H locs ls hI hP hD hS hl
      obtain ⟨hj1, hj2, rfl, rfl, hq⟩ := hI
      refine lv_iload_n hx hb d_T_forget_9 rfl (lv_at hl 2 rfl) ?_
      refine lv_aload_n hx hb d_T_forget_10 rfl (lv_at hl 0 rfl) ?_
      refine va_get (D := D) (ci := 7) (v := .int (nI n)) (C := Q_T) (T := F_T) (N := 17) hx hb hg in_T hown hK hP 0 rfl rfl 1 (by decide) (hg _ g_640) (fun _ h9 => h9) rfl d_T_forget_11 ?_
      refine lv_icmp_ge (tgt := 49) hx hb d_T_forget_14 (by decide) (fun c_14 => ?_) (fun c_14 => ?_)
      · refine lv_iload_n hx hb d_T_forget_49 rfl (lv_at hl 1 rfl) ?_
        exact W.iret hx hb hr (fun t9 ht hW => ⟨⟨_, [(o, .inr (7, [.int 0, .int (nI n), .ref dT, .ref gT, .int (nI ns), .ref la, .ref ca, .int (nI nn), .ref aa, .ref na, .ref ya, .int (nI nr), .ref ta, .int be, .int bp, .long bo, .int bm])), (dT, .inl (cI, 64, .inl d1)), (gT, .inl (cZ, 64, .inl g1)), (la, .inl (cI, 8, .inl sl)), (ca, .inl (cI, 128, .inl cr)), (aa, .inl (cI, 16, .inl ak)), (na, .inl (cI, 16, .inl no)), (ya, .inl (cI, 16, .inl ye)), (ta, .inl (cI, 48, .inl tl))], rfl, (by rw [gj_out (by omega) hj1 c_14] at hq; rw [← hq]; exact ⟨rfl, rfl⟩), by rw [ht]; exact hP, va_K.moved hW.alike hK, hD⟩, hS.F ht⟩) hS.2.2 d_T_forget_50
      · refine lv_aload_n hx hb d_T_forget_17 rfl (lv_at hl 0 rfl) ?_
        refine va_get (D := D) (ci := 7) (v := .ref gT) (C := Q_T) (T := F_T) (N := 17) hx hb hg in_T hown hK hP 0 rfl rfl 3 (by decide) (hg _ g_642) (fun _ h9 => h9) rfl d_T_forget_18 ?_
        refine lv_iload_n hx hb d_T_forget_21 rfl (lv_at hl 2 rfl) ?_
        refine va_zald hx hb hK hP 2 1 rfl rfl (v64 h64 (gj_in (by omega) hj1 c_14)) d_T_forget_22 ?_
        refine lv_if_eq (tgt := 43) hx hb d_T_forget_23 (by decide) (fun c_23 => ?_) (fun c_23 => ?_)
        · refine lv_iinc (v := (nI j) + 1) (lv' := [(2, .int ((nI j) + 1)), (0, .ref o), (1, .int (nI c1))]) hx hb d_T_forget_43 hl (k := 2) rfl rfl (by decide) rfl (fun ls hl => ?_)
          refine lv_goto (tgt := 9) hx hb d_T_forget_46 (by decide) ?_
          exact ih9 (j + 1) d1 g1 c1 (nI c1) ((nI j) + 1) _ _ ls (⟨by have := gj_in (by omega) hj1 c_14; omega, by omega, rfl, nI_1 j, by rw [lgs, ← hq]; exact (lg_1 (by omega) c_23).symm⟩) hP hD hS (lv_sub hl [1, 2, 0] rfl)
        · refine lv_aload_n hx hb d_T_forget_26 rfl (lv_at hl 0 rfl) ?_
          refine va_get (D := D) (ci := 7) (v := .ref dT) (C := Q_T) (T := F_T) (N := 17) hx hb hg in_T hown hK hP 0 rfl rfl 2 (by decide) (hg _ g_641) (fun _ h9 => h9) rfl d_T_forget_27 ?_
          refine lv_iload_n hx hb d_T_forget_30 rfl (lv_at hl 2 rfl) ?_
          refine lv_iconst (v := (-1)) hx hb d_T_forget_31 (by decide) ?_
          refine va_iast hx hb hK hP hD hS 1 0 rfl rfl (v64 h64 (gj_in (by omega) hj1 c_14)) d_T_forget_32 (fun H locs hP hD hS => ?_)
          rw [nI_clamp (show j < 2 ^ 31 by omega)] at hP hD
          have hP : va_P D cls [(o, .inr (7, [.int 0, .int (nI n), .ref dT, .ref gT, .int (nI ns), .ref la, .ref ca, .int (nI nn), .ref aa, .ref na, .ref ya, .int (nI nr), .ref ta, .int be, .int bp, .long bo, .int bm])), (dT, .inl (cI, 64, .inl (upd d1 j (-1)))), (gT, .inl (cZ, 64, .inl g1)), (la, .inl (cI, 8, .inl sl)), (ca, .inl (cI, 128, .inl cr)), (aa, .inl (cI, 16, .inl ak)), (na, .inl (cI, 16, .inl no)), (ya, .inl (cI, 16, .inl ye)), (ta, .inl (cI, 48, .inl tl))] H := hP
          have hD : va_D A [(o, .inr (7, [.int 0, .int (nI n), .ref dT, .ref gT, .int (nI ns), .ref la, .ref ca, .int (nI nn), .ref aa, .ref na, .ref ya, .int (nI nr), .ref ta, .int be, .int bp, .long bo, .int bm])), (dT, .inl (cI, 64, .inl (upd d1 j (-1)))), (gT, .inl (cZ, 64, .inl g1)), (la, .inl (cI, 8, .inl sl)), (ca, .inl (cI, 128, .inl cr)), (aa, .inl (cI, 16, .inl ak)), (na, .inl (cI, 16, .inl no)), (ya, .inl (cI, 16, .inl ye)), (ta, .inl (cI, 48, .inl tl))] := hD
          refine lv_aload_n hx hb d_T_forget_33 rfl (lv_at hl 0 rfl) ?_
          refine va_get (D := D) (ci := 7) (v := .ref gT) (C := Q_T) (T := F_T) (N := 17) hx hb hg in_T hown hK hP 0 rfl rfl 3 (by decide) (hg _ g_642) (fun _ h9 => h9) rfl d_T_forget_34 ?_
          refine lv_iload_n hx hb d_T_forget_37 rfl (lv_at hl 2 rfl) ?_
          refine lv_iconst (v := 0) hx hb d_T_forget_38 (by decide) ?_
          refine va_zast hx hb hK hP hD hS 2 1 rfl rfl (v64 h64 (gj_in (by omega) hj1 c_14)) d_T_forget_39 (fun H locs hP hD hS => ?_)
          rw [nI_clamp (show j < 2 ^ 31 by omega)] at hP hD
          have hP : va_P D cls [(o, .inr (7, [.int 0, .int (nI n), .ref dT, .ref gT, .int (nI ns), .ref la, .ref ca, .int (nI nn), .ref aa, .ref na, .ref ya, .int (nI nr), .ref ta, .int be, .int bp, .long bo, .int bm])), (dT, .inl (cI, 64, .inl (upd d1 j (-1)))), (gT, .inl (cZ, 64, .inl (upd g1 j 0))), (la, .inl (cI, 8, .inl sl)), (ca, .inl (cI, 128, .inl cr)), (aa, .inl (cI, 16, .inl ak)), (na, .inl (cI, 16, .inl no)), (ya, .inl (cI, 16, .inl ye)), (ta, .inl (cI, 48, .inl tl))] H := hP
          have hD : va_D A [(o, .inr (7, [.int 0, .int (nI n), .ref dT, .ref gT, .int (nI ns), .ref la, .ref ca, .int (nI nn), .ref aa, .ref na, .ref ya, .int (nI nr), .ref ta, .int be, .int bp, .long bo, .int bm])), (dT, .inl (cI, 64, .inl (upd d1 j (-1)))), (gT, .inl (cZ, 64, .inl (upd g1 j 0))), (la, .inl (cI, 8, .inl sl)), (ca, .inl (cI, 128, .inl cr)), (aa, .inl (cI, 16, .inl ak)), (na, .inl (cI, 16, .inl no)), (ya, .inl (cI, 16, .inl ye)), (ta, .inl (cI, 48, .inl tl))] := hD
          refine lv_iinc (v := (nI c1) + 1) (lv' := [(1, .int ((nI c1) + 1)), (0, .ref o), (2, .int (nI j))]) hx hb d_T_forget_40 hl (k := 1) rfl rfl (by decide) rfl (fun ls hl => ?_)
          refine lv_iinc (v := (nI j) + 1) (lv' := [(2, .int ((nI j) + 1)), (1, .int ((nI c1) + 1)), (0, .ref o)]) hx hb d_T_forget_43 hl (k := 2) rfl rfl (by decide) rfl (fun ls hl => ?_)
          refine lv_goto (tgt := 9) hx hb d_T_forget_46 (by decide) ?_
          exact ih9 (j + 1) (upd d1 j (-1)) (upd g1 j 0) (c1 + 1) ((nI c1) + 1) ((nI j) + 1) _ _ ls (⟨by have := gj_in (by omega) hj1 c_14; omega, by omega, nI_1 c1, nI_1 j, by rw [lgs, ← hq]; exact (lg_2 (by omega) c_23).symm⟩) hP hD hS (lv_sub hl [2, 1, 0] rfl)
  exact loop_9 (n + 1) 0 d g 0 0 0 _ _ ls (⟨by omega, by omega, rfl, rfl, rfl⟩) hP hD hS (lv_sub hl [2, 1, 0] rfl)


theorem rj2_in {F T j : Nat} (hT : T < 2 ^ 20 ∧ F < 2 ^ 20 ∧ j < 2 ^ 20) (c : ¬ nI T < nI (F + 1 + j)) : F + 1 + j ≤ T := by
  rcases Nat.lt_or_ge T (F + 1 + j) with q | q
  · exact absurd (nI_lt q (by omega)) c
  · exact q
theorem rj2_out {F T j : Nat} (hT : T < 2 ^ 20 ∧ F < 2 ^ 20 ∧ j < 2 ^ 20) (h : j ≤ T - F) (hF : F ≤ T) (c : nI T < nI (F + 1 + j)) : j = T - F := by
  have := (nI_ltI (by omega) (by omega)).mp c
  omega

set_option maxHeartbeats 4000000 in
set_option maxRecDepth 100000 in
/-- the reference: repeat(f, t) -/
theorem c_T_repeat__ok (l : Launch) (D : va_G) (cI cZ cJ cO : ClassId) (sz : Nat) (o dT gT la ca aa na ya ta : Nat) (n ns nn nr : Nat) (d g sl cr ak no ye tl : Nat → Int32) (th be bp bm : Int32) (bo : Int64) (h4 : 4 ≤ n) (h64 : n ≤ 64) (hd : dOK n d) (f9 t9 : Int32) : Met l y_T_repeat_ (wq y_T_repeat_ c_T_repeat_ 5 (some .int)) ({ frames := 4, cells := 0, slots := 0, locals := 93 }) (mP D (TY cI cZ cJ cO) [(o, .inr (7, [.int th, .int (nI n), .ref dT, .ref gT, .int (nI ns), .ref la, .ref ca, .int (nI nn), .ref aa, .ref na, .ref ya, .int (nI nr), .ref ta, .int be, .int bp, .long bo, .int bm])), (dT, .inl (cI, 64, .inl d)), (gT, .inl (cZ, 64, .inl g)), (la, .inl (cI, 8, .inl sl)), (ca, .inl (cI, 128, .inl cr)), (aa, .inl (cI, 16, .inl ak)), (na, .inl (cI, 16, .inl no)), (ya, .inl (cI, 16, .inl ye)), (ta, .inl (cI, 48, .inl tl))] [.ref o, .int f9, .int t9] sz) (va_Qi (fun (r : Int32) (u : va_W) => u = [(o, .inr (7, [.int (cRep n f9 t9), .int (nI n), .ref dT, .ref gT, .int (nI ns), .ref la, .ref ca, .int (nI nn), .ref aa, .ref na, .ref ya, .int (nI nr), .ref ta, .int be, .int bp, .long bo, .int bm])), (dT, .inl (cI, 64, .inl d)), (gT, .inl (cZ, 64, .inl g)), (la, .inl (cI, 8, .inl sl)), (ca, .inl (cI, 128, .inl cr)), (aa, .inl (cI, 16, .inl ak)), (na, .inl (cI, 16, .inl no)), (ya, .inl (cI, 16, .inl ye)), (ta, .inl (cI, 48, .inl tl))] ∧ (cRep n f9 t9 = 0 → r = nI (rp n d g f9.toNatClampNeg (t9.toNatClampNeg - f9.toNatClampNeg)))) (mB D (TY cI cZ cJ cO) (va_A [(o, .inr (7, [.int th, .int (nI n), .ref dT, .ref gT, .int (nI ns), .ref la, .ref ca, .int (nI nn), .ref aa, .ref na, .ref ya, .int (nI nr), .ref ta, .int be, .int bp, .long bo, .int bm])), (dT, .inl (cI, 64, .inl d)), (gT, .inl (cZ, 64, .inl g)), (la, .inl (cI, 8, .inl sl)), (ca, .inl (cI, 128, .inl cr)), (aa, .inl (cI, 16, .inl ak)), (na, .inl (cI, 16, .inl no)), (ya, .inl (cI, 16, .inl ye)), (ta, .inl (cI, 48, .inl tl))] sz)) (va_A [(o, .inr (7, [.int th, .int (nI n), .ref dT, .ref gT, .int (nI ns), .ref la, .ref ca, .int (nI nn), .ref aa, .ref na, .ref ya, .int (nI nr), .ref ta, .int be, .int bp, .long bo, .int bm])), (dT, .inl (cI, 64, .inl d)), (gT, .inl (cZ, 64, .inl g)), (la, .inl (cI, 8, .inl sl)), (ca, .inl (cI, 128, .inl cr)), (aa, .inl (cI, 16, .inl ak)), (na, .inl (cI, 16, .inl no)), (ya, .inl (cI, 16, .inl ye)), (ta, .inl (cI, 48, .inl tl))] sz)) 0 0 (va_A [(o, .inr (7, [.int th, .int (nI n), .ref dT, .ref gT, .int (nI ns), .ref la, .ref ca, .int (nI nn), .ref aa, .ref na, .ref ya, .int (nI nr), .ref ta, .int be, .int bp, .long bo, .int bm])), (dT, .inl (cI, 64, .inl d)), (gT, .inl (cZ, 64, .inl g)), (la, .inl (cI, 8, .inl sl)), (ca, .inl (cI, 128, .inl cr)), (aa, .inl (cI, 16, .inl ak)), (na, .inl (cI, 16, .inl no)), (ya, .inl (cI, 16, .inl ye)), (ta, .inl (cI, 48, .inl tl))] sz) := by
  refine Met.ofW (cc := c_T_repeat_) (maxL := 5) (ret := (some .int)) (by decide) rfl ?_
  intro p e s m args below meth c s₁ B hml hv
  obtain ⟨rfl, hsz, hP, hK, hD0, hN⟩ := hv
  have hx := B.exec
  have hb := B.bytes
  have hr := B.returns
  have hg := gt_h (atoms_spec (ws := (wq y_T_repeat_ c_T_repeat_ 5 (some .int))) B.pre)
  have hown : s.vm.findClass "RubbingMirrorsModel" = some m.cls := findClass_of_methodNamed B.named
  have hlocks := B.notSynchronized
  subst hsz
  have hD := hD0.self (sz := s.heap.size)
  generalize hAe : va_A [(o, .inr (7, [.int th, .int (nI n), .ref dT, .ref gT, .int (nI ns), .ref la, .ref ca, .int (nI nn), .ref aa, .ref na, .ref ya, .int (nI nr), .ref ta, .int be, .int bp, .long bo, .int bm])), (dT, .inl (cI, 64, .inl d)), (gT, .inl (cZ, 64, .inl g)), (la, .inl (cI, 8, .inl sl)), (ca, .inl (cI, 128, .inl cr)), (aa, .inl (cI, 16, .inl ak)), (na, .inl (cI, 16, .inl no)), (ya, .inl (cI, 16, .inl ye)), (ta, .inl (cI, 48, .inl tl))] s.heap.size = A at hD ⊢
  have hA : ∀ q : Nat, s.heap.size ≤ q → A q := fun q h => by rw [← hAe]; exact Or.inr h
  have hS : va_S A s.heap s.heap [] := va_S.rf
  have hl := lv_entry ([.ref o, .int f9, .int t9]) (n := 5) (Nat.le_of_ble_eq_true rfl)
  rw [lg_entry_eq]
  generalize (lg_sl ([.ref o, .int f9, .int t9]) ++ List.replicate (5 - (lg_sl ([.ref o, .int f9, .int t9])).length) Slot.unset).toArray = ls at hl ⊢
  have hl : lv_has ls 5 [(0, .ref o), (1, .int f9), (2, .int t9)] := hl
  refine lv_aload_n hx hb d_T_repeat__0 rfl (lv_at hl 0 rfl) ?_
  refine lv_iload_n hx hb d_T_repeat__1 rfl (lv_at hl 1 rfl) ?_
  refine lv_i2l (v := f9.toInt64) hx hb d_T_repeat__2 rfl ?_
  refine lv_lconst (v := 1) hx hb d_T_repeat__3 (by decide) ?_
  refine lv_aload_n hx hb d_T_repeat__4 rfl (lv_at hl 0 rfl) ?_
  refine va_get (D := D) (ci := 7) (v := .int (nI n)) (C := Q_T) (T := F_T) (N := 17) hx hb hg in_T hown hK hP 0 rfl rfl 1 (by decide) (hg _ g_640) (fun _ h9 => h9) rfl d_T_repeat__5 ?_
  refine lv_iconst (v := 1) hx hb d_T_repeat__8 (by decide) ?_
  refine lv_isub hx hb d_T_repeat__9 ?_
  refine lv_i2l (v := ((nI n) - 1).toInt64) hx hb d_T_repeat__10 rfl ?_
  refine vp_callSi (va_Run.run (va_runS (As := [.long f9.toInt64, .long 1, .long (((nI n) - 1).toInt64)]) (rest := [.ref o]) ⟨hx, hb, hml, hown, hg⟩ (c_T_isIn_ok l D cI cZ cJ cO f9.toInt64 1 (((nI n) - 1).toInt64)) (va_cwS 3 hg (gs2 g_703 g_704 g_26 g_705) rfl rfl rfl (by decide +kernel) ⟨Nat.le_of_ble_eq_true rfl, Nat.le_of_ble_eq_true rfl⟩) (pS ba_nil hK hN) rfl rfl hl.1 rfl (lv_room (Nat.le_of_ble_eq_true rfl)) d_T_repeat__11 ⟨Nat.zero_le _, Nat.zero_le _⟩)) (fun r_1 hr_1 => ?_)
  subst hr_1
  rw [lw_c (v := f9) (lo := 1) (hi := ((nI n) - 1)) (by decide) rfl]
  refine lv_if_eq (tgt := 34) hx hb d_T_repeat__14 (by decide) (fun c_14 => ?_) (fun c_14 => ?_)
  · refine lv_iconst (v := 1) hx hb d_T_repeat__34 (by decide) ?_
    refine lv_goto (tgt := 39) hx hb d_T_repeat__35 (by decide) ?_
    refine va_put (D := D) (ci := 7) (v := .int 1) (ty := .int) (C := Q_T) (T := F_T) (N := 17) hx hb hg in_T tq_T tq_T_ok n_T hown hK hP hD hS 0 rfl rfl 0 (by decide) (hg _ g_639) (fun _ h9 => h9) rfl (by decide +kernel) rfl rfl (Nat.le_of_ble_eq_true rfl) d_T_repeat__39 (fun H locs hP hD hS => ?_)
    have hP : va_P D cls [(o, .inr (7, [.int 1, .int (nI n), .ref dT, .ref gT, .int (nI ns), .ref la, .ref ca, .int (nI nn), .ref aa, .ref na, .ref ya, .int (nI nr), .ref ta, .int be, .int bp, .long bo, .int bm])), (dT, .inl (cI, 64, .inl d)), (gT, .inl (cZ, 64, .inl g)), (la, .inl (cI, 8, .inl sl)), (ca, .inl (cI, 128, .inl cr)), (aa, .inl (cI, 16, .inl ak)), (na, .inl (cI, 16, .inl no)), (ya, .inl (cI, 16, .inl ye)), (ta, .inl (cI, 48, .inl tl))] H := hP
    have hD : va_D A [(o, .inr (7, [.int 1, .int (nI n), .ref dT, .ref gT, .int (nI ns), .ref la, .ref ca, .int (nI nn), .ref aa, .ref na, .ref ya, .int (nI nr), .ref ta, .int be, .int bp, .long bo, .int bm])), (dT, .inl (cI, 64, .inl d)), (gT, .inl (cZ, 64, .inl g)), (la, .inl (cI, 8, .inl sl)), (ca, .inl (cI, 128, .inl cr)), (aa, .inl (cI, 16, .inl ak)), (na, .inl (cI, 16, .inl no)), (ya, .inl (cI, 16, .inl ye)), (ta, .inl (cI, 48, .inl tl))] := hD
    refine lv_aload_n hx hb d_T_repeat__42 rfl (lv_at hl 0 rfl) ?_
    refine va_get (D := D) (ci := 7) (v := .int 1) (C := Q_T) (T := F_T) (N := 17) hx hb hg in_T hown hK hP 0 rfl rfl 0 (by decide) (hg _ g_639) (fun _ h9 => h9) rfl d_T_repeat__43 ?_
    refine lv_if_le (tgt := 51) hx hb d_T_repeat__46 (by decide) (fun c_46 => ?_) (fun c_46 => ?_)
    · exact absurd c_46 (by decide)
    · refine lv_iconst (v := 0) hx hb d_T_repeat__49 (by decide) ?_
      exact W.iret hx hb hr (fun t9 ht hW => ⟨⟨_, [(o, .inr (7, [.int 1, .int (nI n), .ref dT, .ref gT, .int (nI ns), .ref la, .ref ca, .int (nI nn), .ref aa, .ref na, .ref ya, .int (nI nr), .ref ta, .int be, .int bp, .long bo, .int bm])), (dT, .inl (cI, 64, .inl d)), (gT, .inl (cZ, 64, .inl g)), (la, .inl (cI, 8, .inl sl)), (ca, .inl (cI, 128, .inl cr)), (aa, .inl (cI, 16, .inl ak)), (na, .inl (cI, 16, .inl no)), (ya, .inl (cI, 16, .inl ye)), (ta, .inl (cI, 48, .inl tl))], rfl, ⟨by first | rw [cr_1 c_14] | rw [cr_2 c_31], fun h => absurd h (by first | (rw [cr_1 c_14]; decide) | (rw [cr_2 c_31]; decide))⟩, by rw [ht]; exact hP, va_K.moved hW.alike hK, hD⟩, hS.F ht⟩) hS.2.2 d_T_repeat__50
  · refine lv_iload_n hx hb d_T_repeat__17 rfl (lv_at hl 2 rfl) ?_
    refine lv_i2l (v := t9.toInt64) hx hb d_T_repeat__18 rfl ?_
    refine lv_iload_n hx hb d_T_repeat__19 rfl (lv_at hl 1 rfl) ?_
    refine lv_i2l (v := f9.toInt64) hx hb d_T_repeat__20 rfl ?_
    refine lv_aload_n hx hb d_T_repeat__21 rfl (lv_at hl 0 rfl) ?_
    refine va_get (D := D) (ci := 7) (v := .int (nI n)) (C := Q_T) (T := F_T) (N := 17) hx hb hg in_T hown hK hP 0 rfl rfl 1 (by decide) (hg _ g_640) (fun _ h9 => h9) rfl d_T_repeat__22 ?_
    refine lv_iconst (v := 1) hx hb d_T_repeat__25 (by decide) ?_
    refine lv_isub hx hb d_T_repeat__26 ?_
    refine lv_i2l (v := ((nI n) - 1).toInt64) hx hb d_T_repeat__27 rfl ?_
    refine vp_callSi (va_Run.run (va_runS (As := [.long t9.toInt64, .long f9.toInt64, .long (((nI n) - 1).toInt64)]) (rest := [.ref o]) ⟨hx, hb, hml, hown, hg⟩ (c_T_isIn_ok l D cI cZ cJ cO t9.toInt64 f9.toInt64 (((nI n) - 1).toInt64)) (va_cwS 3 hg (gs2 g_703 g_704 g_26 g_705) rfl rfl rfl (by decide +kernel) ⟨Nat.le_of_ble_eq_true rfl, Nat.le_of_ble_eq_true rfl⟩) (pS ba_nil hK hN) rfl rfl hl.1 rfl (lv_room (Nat.le_of_ble_eq_true rfl)) d_T_repeat__28 ⟨Nat.zero_le _, Nat.zero_le _⟩)) (fun r_2 hr_2 => ?_)
    subst hr_2
    rw [lw_c (v := t9) (lo := f9) (hi := ((nI n) - 1)) rfl rfl]
    refine lv_if_ne (tgt := 38) hx hb d_T_repeat__31 (by decide) (fun c_31 => ?_) (fun c_31 => ?_)
    · obtain ⟨F, hF1, hF2, rfl⟩ := iwS h4 h64 c_14
      obtain ⟨T, hT1, hT2, rfl⟩ := iwT h4 h64 hF2 c_31
      refine lv_iconst (v := 0) hx hb d_T_repeat__38 (by decide) ?_
      refine va_put (D := D) (ci := 7) (v := .int 0) (ty := .int) (C := Q_T) (T := F_T) (N := 17) hx hb hg in_T tq_T tq_T_ok n_T hown hK hP hD hS 0 rfl rfl 0 (by decide) (hg _ g_639) (fun _ h9 => h9) rfl (by decide +kernel) rfl rfl (Nat.le_of_ble_eq_true rfl) d_T_repeat__39 (fun H locs hP hD hS => ?_)
      have hP : va_P D cls [(o, .inr (7, [.int 0, .int (nI n), .ref dT, .ref gT, .int (nI ns), .ref la, .ref ca, .int (nI nn), .ref aa, .ref na, .ref ya, .int (nI nr), .ref ta, .int be, .int bp, .long bo, .int bm])), (dT, .inl (cI, 64, .inl d)), (gT, .inl (cZ, 64, .inl g)), (la, .inl (cI, 8, .inl sl)), (ca, .inl (cI, 128, .inl cr)), (aa, .inl (cI, 16, .inl ak)), (na, .inl (cI, 16, .inl no)), (ya, .inl (cI, 16, .inl ye)), (ta, .inl (cI, 48, .inl tl))] H := hP
      have hD : va_D A [(o, .inr (7, [.int 0, .int (nI n), .ref dT, .ref gT, .int (nI ns), .ref la, .ref ca, .int (nI nn), .ref aa, .ref na, .ref ya, .int (nI nr), .ref ta, .int be, .int bp, .long bo, .int bm])), (dT, .inl (cI, 64, .inl d)), (gT, .inl (cZ, 64, .inl g)), (la, .inl (cI, 8, .inl sl)), (ca, .inl (cI, 128, .inl cr)), (aa, .inl (cI, 16, .inl ak)), (na, .inl (cI, 16, .inl no)), (ya, .inl (cI, 16, .inl ye)), (ta, .inl (cI, 48, .inl tl))] := hD
      refine lv_aload_n hx hb d_T_repeat__42 rfl (lv_at hl 0 rfl) ?_
      refine va_get (D := D) (ci := 7) (v := .int 0) (C := Q_T) (T := F_T) (N := 17) hx hb hg in_T hown hK hP 0 rfl rfl 0 (by decide) (hg _ g_639) (fun _ h9 => h9) rfl d_T_repeat__43 ?_
      refine lv_if_le (tgt := 51) hx hb d_T_repeat__46 (by decide) (fun c_46 => ?_) (fun c_46 => ?_)
      · refine lv_iload_n hx hb d_T_repeat__51 rfl (lv_at hl 1 rfl) ?_
        refine lv_istore_n (lv' := [(3, .int (nI F)), (0, .ref o), (1, .int (nI F)), (2, .int (nI T))]) hx hb d_T_repeat__52 rfl hl (by decide) rfl (fun ls hl => ?_)
        refine lv_iload_n hx hb d_T_repeat__53 rfl (lv_at hl 2 rfl) ?_
        refine lv_iconst (v := 1) hx hb d_T_repeat__54 (by decide) ?_
        refine lv_iadd hx hb d_T_repeat__55 ?_
        refine lv_istore (lv' := [(4, .int ((nI F) + 1)), (3, .int (nI F)), (0, .ref o), (1, .int (nI F)), (2, .int (nI T))]) hx hb d_T_repeat__56 hl (by decide) rfl (fun ls hl => ?_)
        have loop_58 : ∀ (f58 : Nat) (j : Nat) (x3 : Int32) (x4 : Int32) (ls : Array Slot), (j ≤ T - F ∧ T - F < j + f58 ∧ x3 = nI (rp n d g F j) ∧ x4 = nI (F + 1 + j)) → lv_has ls 5 [(0, .ref o), (1, .int (nI F)), (2, .int (nI T)), (3, .int x3), (4, .int x4)] → W p l e (headSpec (wq y_T_repeat_ c_T_repeat_ 5 (some .int)) ({ frames := 4, cells := 0, slots := 0, locals := 93 })).room s m ([.ref o, .int (nI F), .int (nI T)] : List Value).toArray below meth c H locs 0 0 (MQ below (va_Qi (fun (r : Int32) (u : va_W) => u = [(o, .inr (7, [.int (cRep n (nI F) (nI T)), .int (nI n), .ref dT, .ref gT, .int (nI ns), .ref la, .ref ca, .int (nI nn), .ref aa, .ref na, .ref ya, .int (nI nr), .ref ta, .int be, .int bp, .long bo, .int bm])), (dT, .inl (cI, 64, .inl d)), (gT, .inl (cZ, 64, .inl g)), (la, .inl (cI, 8, .inl sl)), (ca, .inl (cI, 128, .inl cr)), (aa, .inl (cI, 16, .inl ak)), (na, .inl (cI, 16, .inl no)), (ya, .inl (cI, 16, .inl ye)), (ta, .inl (cI, 48, .inl tl))] ∧ (cRep n (nI F) (nI T) = 0 → r = nI (rp n d g (nI F).toNatClampNeg ((nI T).toNatClampNeg - (nI F).toNatClampNeg)))) (mB D (TY cI cZ cJ cO) A) A) ([.ref o, .int (nI F), .int (nI T)] : List Value).toArray s 0 0 A) (F0 m 58 ls []) := by
          intro f58
          induction f58 with
          | zero =>
            intro j x3 x4 ls hI hl
            obtain ⟨hj1, hj2, rfl, rfl⟩ := hI
            omega
          | succ f58 ih58 =>
            intro j x3 x4 ls hI hl
            obtain ⟨hj1, hj2, rfl, rfl⟩ := hI
            refine lv_iload hx hb d_T_repeat__58 (lv_at hl 4 rfl) ?_
            refine lv_iload_n hx hb d_T_repeat__60 rfl (lv_at hl 2 rfl) ?_
            refine lv_icmp_gt (tgt := 92) hx hb d_T_repeat__61 (by decide) (fun c_61 => ?_) (fun c_61 => ?_)
            · refine lv_iload_n hx hb d_T_repeat__92 rfl (lv_at hl 3 rfl) ?_
              exact W.iret hx hb hr (fun t9 ht hW => ⟨⟨_, [(o, .inr (7, [.int 0, .int (nI n), .ref dT, .ref gT, .int (nI ns), .ref la, .ref ca, .int (nI nn), .ref aa, .ref na, .ref ya, .int (nI nr), .ref ta, .int be, .int bp, .long bo, .int bm])), (dT, .inl (cI, 64, .inl d)), (gT, .inl (cZ, 64, .inl g)), (la, .inl (cI, 8, .inl sl)), (ca, .inl (cI, 128, .inl cr)), (aa, .inl (cI, 16, .inl ak)), (na, .inl (cI, 16, .inl no)), (ya, .inl (cI, 16, .inl ye)), (ta, .inl (cI, 48, .inl tl))], rfl, ⟨by rw [cr_0 c_14 c_31], fun _ => by rw [nI_clamp (show F < 2 ^ 31 by omega), nI_clamp (show T < 2 ^ 31 by omega), ← rj2_out (by omega) hj1 hT1 c_61]⟩, by rw [ht]; exact hP, va_K.moved hW.alike hK, hD⟩, hS.F ht⟩) hS.2.2 d_T_repeat__93
            · refine lv_aload_n hx hb d_T_repeat__64 rfl (lv_at hl 0 rfl) ?_
              refine lv_iload hx hb d_T_repeat__65 (lv_at hl 4 rfl) ?_
              refine vp_callSl (va_Run.run (va_runV (As := [.int (nI (F + 1 + j))]) (rest := []) ⟨hx, hb, hml, hown, hg⟩ (c_T_sumOf_ok l D cI cZ cJ cO o dT gT la ca aa na ya ta n ns nn nr d g sl cr ak no ye tl 0 be bp bm bo h4 h64 hd (F + 1 + j) (by omega)) (cwV 1 hg (gv g_733 g_735 g_13 g_26 g_736) rfl rfl rfl (by decide +kernel) ⟨Nat.le_of_ble_eq_true rfl, Nat.le_of_ble_eq_true rfl⟩) (pV hP hK hN (va_recv hK hP (ci := 7) (q0 := 0) rfl rfl)) rfl rfl hl.1 rfl (lv_room (Nat.le_of_ble_eq_true rfl)) d_T_repeat__67 ⟨Nat.zero_le _, Nat.zero_le _⟩)) (fun r_3 hr_3 => ?_)
              subst hr_3
              refine lv_aload_n hx hb d_T_repeat__70 rfl (lv_at hl 0 rfl) ?_
              refine lv_iload_n hx hb d_T_repeat__71 rfl (lv_at hl 3 rfl) ?_
              refine vp_callSl (va_Run.run (va_runV (As := [.int (nI (rp n d g F j))]) (rest := [.long (rsv n d g (F + 1 + j))]) ⟨hx, hb, hml, hown, hg⟩ (c_T_sumOf_ok l D cI cZ cJ cO o dT gT la ca aa na ya ta n ns nn nr d g sl cr ak no ye tl 0 be bp bm bo h4 h64 hd (rp n d g F j) (by have := rp_le (n := n) (d := d) (g := g) (F := F) j; omega)) (cwV 1 hg (gv g_733 g_735 g_13 g_26 g_736) rfl rfl rfl (by decide +kernel) ⟨Nat.le_of_ble_eq_true rfl, Nat.le_of_ble_eq_true rfl⟩) (pV hP hK hN (va_recv hK hP (ci := 7) (q0 := 0) rfl rfl)) rfl rfl hl.1 rfl (lv_room (Nat.le_of_ble_eq_true rfl)) d_T_repeat__72 ⟨Nat.zero_le _, Nat.zero_le _⟩)) (fun r_4 hr_4 => ?_)
              subst hr_4
              refine W.lcmp hx hb d_T_repeat__75 ?_
              refine lv_if_le (tgt := 84) hx hb d_T_repeat__76 (by decide) (fun c_76 => ?_) (fun c_76 => ?_)
              · refine lv_iload_n hx hb d_T_repeat__84 rfl (lv_at hl 3 rfl) ?_
                refine lv_istore_n (lv' := [(3, .int (nI (rp n d g F j))), (0, .ref o), (1, .int (nI F)), (2, .int (nI T)), (4, .int (nI (F + 1 + j)))]) hx hb d_T_repeat__85 rfl hl (by decide) rfl (fun ls hl => ?_)
                refine lv_iinc (v := (nI (F + 1 + j)) + 1) (lv' := [(4, .int ((nI (F + 1 + j)) + 1)), (3, .int (nI (rp n d g F j))), (0, .ref o), (1, .int (nI F)), (2, .int (nI T))]) hx hb d_T_repeat__86 hl (k := 4) rfl rfl (by decide) rfl (fun ls hl => ?_)
                refine lv_goto (tgt := 58) hx hb d_T_repeat__89 (by decide) ?_
                exact ih58 (j + 1) (nI (rp n d g F j)) ((nI (F + 1 + j)) + 1) ls (⟨by have := rj2_in (by omega) c_61; omega, by omega, (by rw [rp, if_neg (show ¬ rsv n d g (rp n d g F j) < rsv n d g (F + 1 + j) from cmp_le.mp c_76)]), nI_1 _⟩) (lv_sub hl [2, 3, 4, 1, 0] rfl)
              · refine lv_iload hx hb d_T_repeat__79 (lv_at hl 4 rfl) ?_
                refine lv_goto (tgt := 85) hx hb d_T_repeat__81 (by decide) ?_
                refine lv_istore_n (lv' := [(3, .int (nI (F + 1 + j))), (0, .ref o), (1, .int (nI F)), (2, .int (nI T)), (4, .int (nI (F + 1 + j)))]) hx hb d_T_repeat__85 rfl hl (by decide) rfl (fun ls hl => ?_)
                refine lv_iinc (v := (nI (F + 1 + j)) + 1) (lv' := [(4, .int ((nI (F + 1 + j)) + 1)), (3, .int (nI (F + 1 + j))), (0, .ref o), (1, .int (nI F)), (2, .int (nI T))]) hx hb d_T_repeat__86 hl (k := 4) rfl rfl (by decide) rfl (fun ls hl => ?_)
                refine lv_goto (tgt := 58) hx hb d_T_repeat__89 (by decide) ?_
                exact ih58 (j + 1) (nI (F + 1 + j)) ((nI (F + 1 + j)) + 1) ls (⟨by have := rj2_in (by omega) c_61; omega, by omega, (by rw [rp, if_pos (show rsv n d g (rp n d g F j) < rsv n d g (F + 1 + j) from Decidable.not_not.mp (fun q => c_76 (cmp_le.mpr q)))]), nI_1 _⟩) (lv_sub hl [2, 3, 4, 1, 0] rfl)
        exact loop_58 (T + 1) 0 (nI F) ((nI F) + 1) ls (⟨by omega, by omega, rfl, nI_1 F⟩) (lv_sub hl [2, 3, 4, 1, 0] rfl)
      · exact absurd c_46 (by decide)
    · refine lv_iconst (v := 1) hx hb d_T_repeat__34 (by decide) ?_
      refine lv_goto (tgt := 39) hx hb d_T_repeat__35 (by decide) ?_
      refine va_put (D := D) (ci := 7) (v := .int 1) (ty := .int) (C := Q_T) (T := F_T) (N := 17) hx hb hg in_T tq_T tq_T_ok n_T hown hK hP hD hS 0 rfl rfl 0 (by decide) (hg _ g_639) (fun _ h9 => h9) rfl (by decide +kernel) rfl rfl (Nat.le_of_ble_eq_true rfl) d_T_repeat__39 (fun H locs hP hD hS => ?_)
      have hP : va_P D cls [(o, .inr (7, [.int 1, .int (nI n), .ref dT, .ref gT, .int (nI ns), .ref la, .ref ca, .int (nI nn), .ref aa, .ref na, .ref ya, .int (nI nr), .ref ta, .int be, .int bp, .long bo, .int bm])), (dT, .inl (cI, 64, .inl d)), (gT, .inl (cZ, 64, .inl g)), (la, .inl (cI, 8, .inl sl)), (ca, .inl (cI, 128, .inl cr)), (aa, .inl (cI, 16, .inl ak)), (na, .inl (cI, 16, .inl no)), (ya, .inl (cI, 16, .inl ye)), (ta, .inl (cI, 48, .inl tl))] H := hP
      have hD : va_D A [(o, .inr (7, [.int 1, .int (nI n), .ref dT, .ref gT, .int (nI ns), .ref la, .ref ca, .int (nI nn), .ref aa, .ref na, .ref ya, .int (nI nr), .ref ta, .int be, .int bp, .long bo, .int bm])), (dT, .inl (cI, 64, .inl d)), (gT, .inl (cZ, 64, .inl g)), (la, .inl (cI, 8, .inl sl)), (ca, .inl (cI, 128, .inl cr)), (aa, .inl (cI, 16, .inl ak)), (na, .inl (cI, 16, .inl no)), (ya, .inl (cI, 16, .inl ye)), (ta, .inl (cI, 48, .inl tl))] := hD
      refine lv_aload_n hx hb d_T_repeat__42 rfl (lv_at hl 0 rfl) ?_
      refine va_get (D := D) (ci := 7) (v := .int 1) (C := Q_T) (T := F_T) (N := 17) hx hb hg in_T hown hK hP 0 rfl rfl 0 (by decide) (hg _ g_639) (fun _ h9 => h9) rfl d_T_repeat__43 ?_
      refine lv_if_le (tgt := 51) hx hb d_T_repeat__46 (by decide) (fun c_46 => ?_) (fun c_46 => ?_)
      · exact absurd c_46 (by decide)
      · refine lv_iconst (v := 0) hx hb d_T_repeat__49 (by decide) ?_
        exact W.iret hx hb hr (fun t9 ht hW => ⟨⟨_, [(o, .inr (7, [.int 1, .int (nI n), .ref dT, .ref gT, .int (nI ns), .ref la, .ref ca, .int (nI nn), .ref aa, .ref na, .ref ya, .int (nI nr), .ref ta, .int be, .int bp, .long bo, .int bm])), (dT, .inl (cI, 64, .inl d)), (gT, .inl (cZ, 64, .inl g)), (la, .inl (cI, 8, .inl sl)), (ca, .inl (cI, 128, .inl cr)), (aa, .inl (cI, 16, .inl ak)), (na, .inl (cI, 16, .inl no)), (ya, .inl (cI, 16, .inl ye)), (ta, .inl (cI, 48, .inl tl))], rfl, ⟨by first | rw [cr_1 c_14] | rw [cr_2 c_31], fun h => absurd h (by first | (rw [cr_1 c_14]; decide) | (rw [cr_2 c_31]; decide))⟩, by rw [ht]; exact hP, va_K.moved hW.alike hK, hD⟩, hS.F ht⟩) hS.2.2 d_T_repeat__50

set_option maxHeartbeats 4000000 in
set_option maxRecDepth 100000 in
/-- the reference: fill(s, a) -/
theorem c_T_fill_ok (l : Launch) (D : va_G) (cI cZ cJ cO : ClassId) (sz : Nat) (o dT gT la ca aa na ya ta : Nat) (n ns nn nr : Nat) (d g sl cr ak no ye tl : Nat → Int32) (th be bp bm : Int32) (bo : Int64) (h4 : 4 ≤ n) (h64 : n ≤ 64) (hd : dOK n d) (s9 a : Int32) : Met l y_T_fill (wq y_T_fill c_T_fill 6 (some .int)) ({ frames := 4, cells := 0, slots := 0, locals := 95 }) (mP D (TY cI cZ cJ cO) [(o, .inr (7, [.int th, .int (nI n), .ref dT, .ref gT, .int (nI ns), .ref la, .ref ca, .int (nI nn), .ref aa, .ref na, .ref ya, .int (nI nr), .ref ta, .int be, .int bp, .long bo, .int bm])), (dT, .inl (cI, 64, .inl d)), (gT, .inl (cZ, 64, .inl g)), (la, .inl (cI, 8, .inl sl)), (ca, .inl (cI, 128, .inl cr)), (aa, .inl (cI, 16, .inl ak)), (na, .inl (cI, 16, .inl no)), (ya, .inl (cI, 16, .inl ye)), (ta, .inl (cI, 48, .inl tl))] [.ref o, .int s9, .int a] sz) (va_Qi (fun (r : Int32) (u : va_W) => u = [(o, .inr (7, [.int (cFil n s9 a), .int (nI n), .ref dT, .ref gT, .int (nI ns), .ref la, .ref ca, .int (nI nn), .ref aa, .ref na, .ref ya, .int (nI nr), .ref ta, .int be, .int bp, .long bo, .int bm])), (dT, .inl (cI, 64, .inl ((fil n d g s9 a).1))), (gT, .inl (cZ, 64, .inl ((fil n d g s9 a).2.1))), (la, .inl (cI, 8, .inl sl)), (ca, .inl (cI, 128, .inl cr)), (aa, .inl (cI, 16, .inl ak)), (na, .inl (cI, 16, .inl no)), (ya, .inl (cI, 16, .inl ye)), (ta, .inl (cI, 48, .inl tl))] ∧ (cFil n s9 a = 0 → r = nI (fil n d g s9 a).2.2)) (mB D (TY cI cZ cJ cO) (va_A [(o, .inr (7, [.int th, .int (nI n), .ref dT, .ref gT, .int (nI ns), .ref la, .ref ca, .int (nI nn), .ref aa, .ref na, .ref ya, .int (nI nr), .ref ta, .int be, .int bp, .long bo, .int bm])), (dT, .inl (cI, 64, .inl d)), (gT, .inl (cZ, 64, .inl g)), (la, .inl (cI, 8, .inl sl)), (ca, .inl (cI, 128, .inl cr)), (aa, .inl (cI, 16, .inl ak)), (na, .inl (cI, 16, .inl no)), (ya, .inl (cI, 16, .inl ye)), (ta, .inl (cI, 48, .inl tl))] sz)) (va_A [(o, .inr (7, [.int th, .int (nI n), .ref dT, .ref gT, .int (nI ns), .ref la, .ref ca, .int (nI nn), .ref aa, .ref na, .ref ya, .int (nI nr), .ref ta, .int be, .int bp, .long bo, .int bm])), (dT, .inl (cI, 64, .inl d)), (gT, .inl (cZ, 64, .inl g)), (la, .inl (cI, 8, .inl sl)), (ca, .inl (cI, 128, .inl cr)), (aa, .inl (cI, 16, .inl ak)), (na, .inl (cI, 16, .inl no)), (ya, .inl (cI, 16, .inl ye)), (ta, .inl (cI, 48, .inl tl))] sz)) 0 0 (va_A [(o, .inr (7, [.int th, .int (nI n), .ref dT, .ref gT, .int (nI ns), .ref la, .ref ca, .int (nI nn), .ref aa, .ref na, .ref ya, .int (nI nr), .ref ta, .int be, .int bp, .long bo, .int bm])), (dT, .inl (cI, 64, .inl d)), (gT, .inl (cZ, 64, .inl g)), (la, .inl (cI, 8, .inl sl)), (ca, .inl (cI, 128, .inl cr)), (aa, .inl (cI, 16, .inl ak)), (na, .inl (cI, 16, .inl no)), (ya, .inl (cI, 16, .inl ye)), (ta, .inl (cI, 48, .inl tl))] sz) := by
  refine Met.ofW (cc := c_T_fill) (maxL := 6) (ret := (some .int)) (by decide) rfl ?_
  intro p e s m args below meth c s₁ B hml hv
  obtain ⟨rfl, hsz, hP, hK, hD0, hN⟩ := hv
  have hx := B.exec
  have hb := B.bytes
  have hr := B.returns
  have hg := gt_h (atoms_spec (ws := (wq y_T_fill c_T_fill 6 (some .int))) B.pre)
  have hown : s.vm.findClass "RubbingMirrorsModel" = some m.cls := findClass_of_methodNamed B.named
  have hlocks := B.notSynchronized
  subst hsz
  have hD := hD0.self (sz := s.heap.size)
  generalize hAe : va_A [(o, .inr (7, [.int th, .int (nI n), .ref dT, .ref gT, .int (nI ns), .ref la, .ref ca, .int (nI nn), .ref aa, .ref na, .ref ya, .int (nI nr), .ref ta, .int be, .int bp, .long bo, .int bm])), (dT, .inl (cI, 64, .inl d)), (gT, .inl (cZ, 64, .inl g)), (la, .inl (cI, 8, .inl sl)), (ca, .inl (cI, 128, .inl cr)), (aa, .inl (cI, 16, .inl ak)), (na, .inl (cI, 16, .inl no)), (ya, .inl (cI, 16, .inl ye)), (ta, .inl (cI, 48, .inl tl))] s.heap.size = A at hD ⊢
  have hA : ∀ q : Nat, s.heap.size ≤ q → A q := fun q h => by rw [← hAe]; exact Or.inr h
  have hS : va_S A s.heap s.heap [] := va_S.rf
  have hl := lv_entry ([.ref o, .int s9, .int a]) (n := 6) (Nat.le_of_ble_eq_true rfl)
  rw [lg_entry_eq]
  generalize (lg_sl ([.ref o, .int s9, .int a]) ++ List.replicate (6 - (lg_sl ([.ref o, .int s9, .int a])).length) Slot.unset).toArray = ls at hl ⊢
  have hl : lv_has ls 6 [(0, .ref o), (1, .int s9), (2, .int a)] := hl
  refine lv_aload_n hx hb d_T_fill_0 rfl (lv_at hl 0 rfl) ?_
  refine lv_iload_n hx hb d_T_fill_1 rfl (lv_at hl 1 rfl) ?_
  refine lv_i2l (v := s9.toInt64) hx hb d_T_fill_2 rfl ?_
  refine lv_lconst (v := 0) hx hb d_T_fill_3 (by decide) ?_
  refine lv_aload_n hx hb d_T_fill_4 rfl (lv_at hl 0 rfl) ?_
  refine va_get (D := D) (ci := 7) (v := .int (nI n)) (C := Q_T) (T := F_T) (N := 17) hx hb hg in_T hown hK hP 0 rfl rfl 1 (by decide) (hg _ g_640) (fun _ h9 => h9) rfl d_T_fill_5 ?_
  refine lv_iconst (v := 1) hx hb d_T_fill_8 (by decide) ?_
  refine lv_isub hx hb d_T_fill_9 ?_
  refine lv_i2l (v := ((nI n) - 1).toInt64) hx hb d_T_fill_10 rfl ?_
  refine vp_callSi (va_Run.run (va_runS (As := [.long s9.toInt64, .long 0, .long (((nI n) - 1).toInt64)]) (rest := [.ref o]) ⟨hx, hb, hml, hown, hg⟩ (c_T_isIn_ok l D cI cZ cJ cO s9.toInt64 0 (((nI n) - 1).toInt64)) (va_cwS 3 hg (gs2 g_703 g_704 g_26 g_705) rfl rfl rfl (by decide +kernel) ⟨Nat.le_of_ble_eq_true rfl, Nat.le_of_ble_eq_true rfl⟩) (pS ba_nil hK hN) rfl rfl hl.1 rfl (lv_room (Nat.le_of_ble_eq_true rfl)) d_T_fill_11 ⟨Nat.zero_le _, Nat.zero_le _⟩)) (fun r_1 hr_1 => ?_)
  subst hr_1
  rw [lw_c (v := s9) (lo := 0) (hi := ((nI n) - 1)) (by decide) rfl]
  refine lv_if_eq (tgt := 37) hx hb d_T_fill_14 (by decide) (fun c_14 => ?_) (fun c_14 => ?_)
  · refine lv_iconst (v := 1) hx hb d_T_fill_37 (by decide) ?_
    refine lv_goto (tgt := 42) hx hb d_T_fill_38 (by decide) ?_
    refine va_put (D := D) (ci := 7) (v := .int 1) (ty := .int) (C := Q_T) (T := F_T) (N := 17) hx hb hg in_T tq_T tq_T_ok n_T hown hK hP hD hS 0 rfl rfl 0 (by decide) (hg _ g_639) (fun _ h9 => h9) rfl (by decide +kernel) rfl rfl (Nat.le_of_ble_eq_true rfl) d_T_fill_42 (fun H locs hP hD hS => ?_)
    have hP : va_P D cls [(o, .inr (7, [.int 1, .int (nI n), .ref dT, .ref gT, .int (nI ns), .ref la, .ref ca, .int (nI nn), .ref aa, .ref na, .ref ya, .int (nI nr), .ref ta, .int be, .int bp, .long bo, .int bm])), (dT, .inl (cI, 64, .inl d)), (gT, .inl (cZ, 64, .inl g)), (la, .inl (cI, 8, .inl sl)), (ca, .inl (cI, 128, .inl cr)), (aa, .inl (cI, 16, .inl ak)), (na, .inl (cI, 16, .inl no)), (ya, .inl (cI, 16, .inl ye)), (ta, .inl (cI, 48, .inl tl))] H := hP
    have hD : va_D A [(o, .inr (7, [.int 1, .int (nI n), .ref dT, .ref gT, .int (nI ns), .ref la, .ref ca, .int (nI nn), .ref aa, .ref na, .ref ya, .int (nI nr), .ref ta, .int be, .int bp, .long bo, .int bm])), (dT, .inl (cI, 64, .inl d)), (gT, .inl (cZ, 64, .inl g)), (la, .inl (cI, 8, .inl sl)), (ca, .inl (cI, 128, .inl cr)), (aa, .inl (cI, 16, .inl ak)), (na, .inl (cI, 16, .inl no)), (ya, .inl (cI, 16, .inl ye)), (ta, .inl (cI, 48, .inl tl))] := hD
    refine lv_iconst (v := 0) hx hb d_T_fill_45 (by decide) ?_
    refine lv_istore_n (lv' := [(3, .int 0), (0, .ref o), (1, .int s9), (2, .int a)]) hx hb d_T_fill_46 rfl hl (by decide) rfl (fun ls hl => ?_)
    refine lv_iconst (v := 0) hx hb d_T_fill_47 (by decide) ?_
    refine lv_istore (lv' := [(4, .int 0), (3, .int 0), (0, .ref o), (1, .int s9), (2, .int a)]) hx hb d_T_fill_48 hl (by decide) rfl (fun ls hl => ?_)
    refine lv_iload hx hb d_T_fill_50 (lv_at hl 0 rfl) ?_
    refine lv_aload_n hx hb d_T_fill_52 rfl (lv_at hl 2 rfl) ?_
    refine va_get (D := D) (ci := 7) (v := .int (nI n)) (C := Q_T) (T := F_T) (N := 17) hx hb hg in_T hown hK hP 0 rfl rfl 1 (by decide) (hg _ g_640) (fun _ h9 => h9) rfl d_T_fill_53 ?_
    refine lv_icmp_ge (tgt := 126) hx hb d_T_fill_56 (by decide) (fun c_56 => ?_) (fun c_56 => ?_)
    · exact absurd (gj_out (n := n) (j := 0) (by omega) (by omega) c_56) (by omega)
    · refine lv_aload_n hx hb d_T_fill_59 rfl (lv_at hl 2 rfl) ?_
      refine va_get (D := D) (ci := 7) (v := .int 1) (C := Q_T) (T := F_T) (N := 17) hx hb hg in_T hown hK hP 0 rfl rfl 0 (by decide) (hg _ g_639) (fun _ h9 => h9) rfl d_T_fill_60 ?_
      refine lv_if_ne (tgt := 126) hx hb d_T_fill_63 (by decide) (fun c_63 => ?_) (fun c_63 => ?_)
      · refine lv_iload_n hx hb d_T_fill_126 rfl (lv_at hl 1 rfl) ?_
        exact W.iret hx hb hr (fun t9 ht hW => ⟨⟨_, [(o, .inr (7, [.int 1, .int (nI n), .ref dT, .ref gT, .int (nI ns), .ref la, .ref ca, .int (nI nn), .ref aa, .ref na, .ref ya, .int (nI nr), .ref ta, .int be, .int bp, .long bo, .int bm])), (dT, .inl (cI, 64, .inl d)), (gT, .inl (cZ, 64, .inl g)), (la, .inl (cI, 8, .inl sl)), (ca, .inl (cI, 128, .inl cr)), (aa, .inl (cI, 16, .inl ak)), (na, .inl (cI, 16, .inl no)), (ya, .inl (cI, 16, .inl ye)), (ta, .inl (cI, 48, .inl tl))], rfl, ⟨by unfold fil; (first | rw [cf_1 c_14] | rw [cf_2 c_34]); rfl, fun h => absurd h (by first | (rw [cf_1 c_14]; decide) | (rw [cf_2 c_34]; decide))⟩, by rw [ht]; exact hP, va_K.moved hW.alike hK, hD⟩, hS.F ht⟩) hS.2.2 d_T_fill_127
      · exact absurd c_63 (by decide)
  · refine lv_iload_n hx hb d_T_fill_17 rfl (lv_at hl 2 rfl) ?_
    refine lv_i2l (v := a.toInt64) hx hb d_T_fill_18 rfl ?_
    refine lv_ldc2 (v := (-1)) hx hb hown (hg _ g_706) d_T_fill_19 ?_
    refine lv_iconst (v := 2) hx hb d_T_fill_22 (by decide) ?_
    refine lv_aload_n hx hb d_T_fill_23 rfl (lv_at hl 0 rfl) ?_
    refine va_get (D := D) (ci := 7) (v := .int (nI n)) (C := Q_T) (T := F_T) (N := 17) hx hb hg in_T hown hK hP 0 rfl rfl 1 (by decide) (hg _ g_640) (fun _ h9 => h9) rfl d_T_fill_24 ?_
    refine lv_imul hx hb d_T_fill_27 ?_
    refine lv_iconst (v := 2) hx hb d_T_fill_28 (by decide) ?_
    refine lv_isub hx hb d_T_fill_29 ?_
    refine lv_i2l (v := ((2 * (nI n)) - 2).toInt64) hx hb d_T_fill_30 rfl ?_
    refine vp_callSi (va_Run.run (va_runS (As := [.long a.toInt64, .long (-1), .long (((2 * (nI n)) - 2).toInt64)]) (rest := [.ref o]) ⟨hx, hb, hml, hown, hg⟩ (c_T_isIn_ok l D cI cZ cJ cO a.toInt64 (-1) (((2 * (nI n)) - 2).toInt64)) (va_cwS 3 hg (gs2 g_703 g_704 g_26 g_705) rfl rfl rfl (by decide +kernel) ⟨Nat.le_of_ble_eq_true rfl, Nat.le_of_ble_eq_true rfl⟩) (pS ba_nil hK hN) rfl rfl hl.1 rfl (lv_room (Nat.le_of_ble_eq_true rfl)) d_T_fill_31 ⟨Nat.zero_le _, Nat.zero_le _⟩)) (fun r_2 hr_2 => ?_)
    subst hr_2
    rw [lw_c (v := a) (lo := (-1)) (hi := ((2 * (nI n)) - 2)) (by decide) rfl]
    refine lv_if_ne (tgt := 41) hx hb d_T_fill_34 (by decide) (fun c_34 => ?_) (fun c_34 => ?_)
    · obtain ⟨S, hS2, rfl⟩ := iwS0 h4 h64 c_14
      obtain ⟨ha1, ha2⟩ := iwA h4 h64 c_34
      refine lv_iconst (v := 0) hx hb d_T_fill_41 (by decide) ?_
      refine va_put (D := D) (ci := 7) (v := .int 0) (ty := .int) (C := Q_T) (T := F_T) (N := 17) hx hb hg in_T tq_T tq_T_ok n_T hown hK hP hD hS 0 rfl rfl 0 (by decide) (hg _ g_639) (fun _ h9 => h9) rfl (by decide +kernel) rfl rfl (Nat.le_of_ble_eq_true rfl) d_T_fill_42 (fun H locs hP hD hS => ?_)
      have hP : va_P D cls [(o, .inr (7, [.int 0, .int (nI n), .ref dT, .ref gT, .int (nI ns), .ref la, .ref ca, .int (nI nn), .ref aa, .ref na, .ref ya, .int (nI nr), .ref ta, .int be, .int bp, .long bo, .int bm])), (dT, .inl (cI, 64, .inl d)), (gT, .inl (cZ, 64, .inl g)), (la, .inl (cI, 8, .inl sl)), (ca, .inl (cI, 128, .inl cr)), (aa, .inl (cI, 16, .inl ak)), (na, .inl (cI, 16, .inl no)), (ya, .inl (cI, 16, .inl ye)), (ta, .inl (cI, 48, .inl tl))] H := hP
      have hD : va_D A [(o, .inr (7, [.int 0, .int (nI n), .ref dT, .ref gT, .int (nI ns), .ref la, .ref ca, .int (nI nn), .ref aa, .ref na, .ref ya, .int (nI nr), .ref ta, .int be, .int bp, .long bo, .int bm])), (dT, .inl (cI, 64, .inl d)), (gT, .inl (cZ, 64, .inl g)), (la, .inl (cI, 8, .inl sl)), (ca, .inl (cI, 128, .inl cr)), (aa, .inl (cI, 16, .inl ak)), (na, .inl (cI, 16, .inl no)), (ya, .inl (cI, 16, .inl ye)), (ta, .inl (cI, 48, .inl tl))] := hD
      refine lv_iconst (v := 0) hx hb d_T_fill_45 (by decide) ?_
      refine lv_istore_n (lv' := [(3, .int 0), (0, .ref o), (1, .int (nI S)), (2, .int a)]) hx hb d_T_fill_46 rfl hl (by decide) rfl (fun ls hl => ?_)
      refine lv_iconst (v := 0) hx hb d_T_fill_47 (by decide) ?_
      refine lv_istore (lv' := [(4, .int 0), (3, .int 0), (0, .ref o), (1, .int (nI S)), (2, .int a)]) hx hb d_T_fill_48 hl (by decide) rfl (fun ls hl => ?_)
      have loop_50 : ∀ (f50 : Nat) (j : Nat) (d1 g1 : Nat → Int32) (c1 : Nat) (x3 : Int32) (x4 : Int32) (H : Heap) (locs : List Loc) (ls : Array Slot), (j ≤ n ∧ n < j + f50 ∧ x3 = nI c1 ∧ x4 = nI j ∧ (d1, g1, c1) = fl n S a.toInt d g j) → va_P D cls [(o, .inr (7, [.int 0, .int (nI n), .ref dT, .ref gT, .int (nI ns), .ref la, .ref ca, .int (nI nn), .ref aa, .ref na, .ref ya, .int (nI nr), .ref ta, .int be, .int bp, .long bo, .int bm])), (dT, .inl (cI, 64, .inl d1)), (gT, .inl (cZ, 64, .inl g1)), (la, .inl (cI, 8, .inl sl)), (ca, .inl (cI, 128, .inl cr)), (aa, .inl (cI, 16, .inl ak)), (na, .inl (cI, 16, .inl no)), (ya, .inl (cI, 16, .inl ye)), (ta, .inl (cI, 48, .inl tl))] H → va_D A [(o, .inr (7, [.int 0, .int (nI n), .ref dT, .ref gT, .int (nI ns), .ref la, .ref ca, .int (nI nn), .ref aa, .ref na, .ref ya, .int (nI nr), .ref ta, .int be, .int bp, .long bo, .int bm])), (dT, .inl (cI, 64, .inl d1)), (gT, .inl (cZ, 64, .inl g1)), (la, .inl (cI, 8, .inl sl)), (ca, .inl (cI, 128, .inl cr)), (aa, .inl (cI, 16, .inl ak)), (na, .inl (cI, 16, .inl no)), (ya, .inl (cI, 16, .inl ye)), (ta, .inl (cI, 48, .inl tl))] → va_S A s.heap H locs → lv_has ls 6 [(0, .ref o), (1, .int (nI S)), (2, .int a), (3, .int x3), (4, .int x4)] → W p l e (headSpec (wq y_T_fill c_T_fill 6 (some .int)) ({ frames := 4, cells := 0, slots := 0, locals := 95 })).room s m ([.ref o, .int (nI S), .int a] : List Value).toArray below meth c H locs 0 0 (MQ below (va_Qi (fun (r : Int32) (u : va_W) => u = [(o, .inr (7, [.int (cFil n (nI S) a), .int (nI n), .ref dT, .ref gT, .int (nI ns), .ref la, .ref ca, .int (nI nn), .ref aa, .ref na, .ref ya, .int (nI nr), .ref ta, .int be, .int bp, .long bo, .int bm])), (dT, .inl (cI, 64, .inl ((fil n d g (nI S) a).1))), (gT, .inl (cZ, 64, .inl ((fil n d g (nI S) a).2.1))), (la, .inl (cI, 8, .inl sl)), (ca, .inl (cI, 128, .inl cr)), (aa, .inl (cI, 16, .inl ak)), (na, .inl (cI, 16, .inl no)), (ya, .inl (cI, 16, .inl ye)), (ta, .inl (cI, 48, .inl tl))] ∧ (cFil n (nI S) a = 0 → r = nI (fil n d g (nI S) a).2.2)) (mB D (TY cI cZ cJ cO) A) A) ([.ref o, .int (nI S), .int a] : List Value).toArray s 0 0 A) (F0 m 50 ls []) := by
        intro f50
        induction f50 with
        | zero =>
          intro j d1 g1 c1 x3 x4 H locs ls hI hP hD hS hl
          obtain ⟨hj1, hj2, rfl, rfl, hq⟩ := hI
          omega
        | succ f50 ih50 =>
          intro j d1 g1 c1 x3 x4 H locs ls hI hP hD hS hl
          obtain ⟨hj1, hj2, rfl, rfl, hq⟩ := hI
          have hd1 : dOK n d1 := by have := dOK_fl (S := S) (a := a.toInt) (g := g) hd j; rw [← hq] at this; exact this
          refine lv_iload hx hb d_T_fill_50 (lv_at hl 4 rfl) ?_
          refine lv_aload_n hx hb d_T_fill_52 rfl (lv_at hl 0 rfl) ?_
          refine va_get (D := D) (ci := 7) (v := .int (nI n)) (C := Q_T) (T := F_T) (N := 17) hx hb hg in_T hown hK hP 0 rfl rfl 1 (by decide) (hg _ g_640) (fun _ h9 => h9) rfl d_T_fill_53 ?_
          refine lv_icmp_ge (tgt := 126) hx hb d_T_fill_56 (by decide) (fun c_56 => ?_) (fun c_56 => ?_)
          · refine lv_iload_n hx hb d_T_fill_126 rfl (lv_at hl 3 rfl) ?_
            exact W.iret hx hb hr (fun t9 ht hW => ⟨⟨_, [(o, .inr (7, [.int 0, .int (nI n), .ref dT, .ref gT, .int (nI ns), .ref la, .ref ca, .int (nI nn), .ref aa, .ref na, .ref ya, .int (nI nr), .ref ta, .int be, .int bp, .long bo, .int bm])), (dT, .inl (cI, 64, .inl d1)), (gT, .inl (cZ, 64, .inl g1)), (la, .inl (cI, 8, .inl sl)), (ca, .inl (cI, 128, .inl cr)), (aa, .inl (cI, 16, .inl ak)), (na, .inl (cI, 16, .inl no)), (ya, .inl (cI, 16, .inl ye)), (ta, .inl (cI, 48, .inl tl))], rfl, (by unfold fil; rw [cf_0 c_14 c_34, if_pos rfl, nI_toInt (show S < 2 ^ 31 by omega)]; rw [gj_out (by omega) hj1 c_56] at hq; rw [← hq]; exact ⟨rfl, fun _ => rfl⟩), by rw [ht]; exact hP, va_K.moved hW.alike hK, hD⟩, hS.F ht⟩) hS.2.2 d_T_fill_127
          · refine lv_aload_n hx hb d_T_fill_59 rfl (lv_at hl 0 rfl) ?_
            refine va_get (D := D) (ci := 7) (v := .int 0) (C := Q_T) (T := F_T) (N := 17) hx hb hg in_T hown hK hP 0 rfl rfl 0 (by decide) (hg _ g_639) (fun _ h9 => h9) rfl d_T_fill_60 ?_
            refine lv_if_ne (tgt := 126) hx hb d_T_fill_63 (by decide) (fun c_63 => ?_) (fun c_63 => ?_)
            · exact absurd c_63 (by decide)
            · refine lv_aload_n hx hb d_T_fill_66 rfl (lv_at hl 0 rfl) ?_
              refine va_get (D := D) (ci := 7) (v := .ref dT) (C := Q_T) (T := F_T) (N := 17) hx hb hg in_T hown hK hP 0 rfl rfl 2 (by decide) (hg _ g_641) (fun _ h9 => h9) rfl d_T_fill_67 ?_
              refine lv_iload hx hb d_T_fill_70 (lv_at hl 4 rfl) ?_
              refine va_iald hx hb hK hP 1 0 rfl rfl (v64 h64 (gj_in (by omega) hj1 c_56)) d_T_fill_72 ?_
              refine lv_if_ge (tgt := 87) hx hb d_T_fill_73 (by decide) (fun c_73 => ?_) (fun c_73 => ?_)
              · refine lv_iconst (v := (-1)) hx hb d_T_fill_87 (by decide) ?_
                refine lv_istore (lv' := [(5, .int (-1)), (0, .ref o), (1, .int (nI S)), (2, .int a), (3, .int (nI c1)), (4, .int (nI j))]) hx hb d_T_fill_88 hl (by decide) rfl (fun ls hl => ?_)
                refine lv_iload hx hb d_T_fill_90 (lv_at hl 0 rfl) ?_
                refine lv_if_lt (tgt := 120) hx hb d_T_fill_92 (by decide) (fun c_92 => ?_) (fun c_92 => ?_)
                · refine lv_iinc (v := (nI j) + 1) (lv' := [(4, .int ((nI j) + 1)), (5, .int (-1)), (0, .ref o), (1, .int (nI S)), (2, .int a), (3, .int (nI c1))]) hx hb d_T_fill_120 hl (k := 5) rfl rfl (by decide) rfl (fun ls hl => ?_)
                  refine lv_goto (tgt := 50) hx hb d_T_fill_123 (by decide) ?_
                  exact ih50 (j + 1) d1 g1 c1 (nI c1) ((nI j) + 1) _ _ ls (⟨by have := gj_in (by omega) hj1 c_56; omega, by omega, rfl, nI_1 j, by rw [fl, ← hq]; exact (fs_1 (by omega) (dn1 c_73)).symm⟩) hP hD hS (lv_sub hl [2, 3, 4, 5, 0] rfl)
                · exact absurd c_92 (by decide)
              · refine lv_aload_n hx hb d_T_fill_76 rfl (lv_at hl 0 rfl) ?_
                refine lv_iload hx hb d_T_fill_77 (lv_at hl 4 rfl) ?_
                refine lv_iload_n hx hb d_T_fill_79 rfl (lv_at hl 1 rfl) ?_
                refine lv_iload_n hx hb d_T_fill_80 rfl (lv_at hl 2 rfl) ?_
                refine vp_callSi (va_Run.run (va_runV (As := [.int (nI j), .int (nI S), .int a]) (rest := []) ⟨hx, hb, hml, hown, hg⟩ (c_T_source_ok l D cI cZ cJ cO o dT gT la ca aa na ya ta n ns nn nr d1 g1 sl cr ak no ye tl 0 be bp bm bo h4 h64 hd1 j S a (by omega) (by omega) ha1 ha2) (cwV 3 hg (gv g_745 g_747 g_14 g_26 g_748) rfl rfl rfl (by decide +kernel) ⟨Nat.le_of_ble_eq_true rfl, Nat.le_of_ble_eq_true rfl⟩) (pV hP hK hN (va_recv hK hP (ci := 7) (q0 := 0) rfl rfl)) rfl rfl hl.1 rfl (lv_room (Nat.le_of_ble_eq_true rfl)) d_T_fill_81 ⟨Nat.zero_le _, Nat.zero_le _⟩)) (fun r_3 hr_3 => ?_)
                refine lv_goto (tgt := 88) hx hb d_T_fill_84 (by decide) ?_
                refine lv_istore (lv' := [(5, .int r_3), (0, .ref o), (1, .int (nI S)), (2, .int a), (3, .int (nI c1)), (4, .int (nI j))]) hx hb d_T_fill_88 hl (by decide) rfl (fun ls hl => ?_)
                refine lv_iload hx hb d_T_fill_90 (lv_at hl 0 rfl) ?_
                refine lv_if_lt (tgt := 120) hx hb d_T_fill_92 (by decide) (fun c_92 => ?_) (fun c_92 => ?_)
                · refine lv_iinc (v := (nI j) + 1) (lv' := [(4, .int ((nI j) + 1)), (5, .int r_3), (0, .ref o), (1, .int (nI S)), (2, .int a), (3, .int (nI c1))]) hx hb d_T_fill_120 hl (k := 5) rfl rfl (by decide) rfl (fun ls hl => ?_)
                  refine lv_goto (tgt := 50) hx hb d_T_fill_123 (by decide) ?_
                  exact ih50 (j + 1) d1 g1 c1 (nI c1) ((nI j) + 1) _ _ ls (⟨by have := gj_in (by omega) hj1 c_56; omega, by omega, rfl, nI_1 j, by rw [fl, ← hq]; exact (fT_2 (by omega) (dm1 hd1 (gj_in (by omega) hj1 c_56) h64 c_73) hr_3 c_92).symm⟩) hP hD hS (lv_sub hl [2, 3, 4, 5, 0] rfl)
                · refine lv_aload_n hx hb d_T_fill_95 rfl (lv_at hl 1 rfl) ?_
                  refine va_get (D := D) (ci := 7) (v := .ref dT) (C := Q_T) (T := F_T) (N := 17) hx hb hg in_T hown hK hP 0 rfl rfl 2 (by decide) (hg _ g_641) (fun _ h9 => h9) rfl d_T_fill_96 ?_
                  refine lv_iload hx hb d_T_fill_99 (lv_at hl 5 rfl) ?_
                  refine lv_aload_n hx hb d_T_fill_101 rfl (lv_at hl 1 rfl) ?_
                  refine va_get (D := D) (ci := 7) (v := .ref dT) (C := Q_T) (T := F_T) (N := 17) hx hb hg in_T hown hK hP 0 rfl rfl 2 (by decide) (hg _ g_641) (fun _ h9 => h9) rfl d_T_fill_102 ?_
                  refine lv_iload hx hb d_T_fill_105 (lv_at hl 0 rfl) ?_
                  refine va_iald hx hb hK hP 1 0 rfl rfl (v64h h64 (fT_h hr_3 c_92)) d_T_fill_107 ?_
                  refine va_iast hx hb hK hP hD hS 1 0 rfl rfl (v64 h64 (gj_in (by omega) hj1 c_56)) d_T_fill_108 (fun H locs hP hD hS => ?_)
                  rw [nI_clamp (show j < 2 ^ 31 by omega)] at hP hD
                  have hP : va_P D cls [(o, .inr (7, [.int 0, .int (nI n), .ref dT, .ref gT, .int (nI ns), .ref la, .ref ca, .int (nI nn), .ref aa, .ref na, .ref ya, .int (nI nr), .ref ta, .int be, .int bp, .long bo, .int bm])), (dT, .inl (cI, 64, .inl (upd d1 j (d1 r_3.toNatClampNeg)))), (gT, .inl (cZ, 64, .inl g1)), (la, .inl (cI, 8, .inl sl)), (ca, .inl (cI, 128, .inl cr)), (aa, .inl (cI, 16, .inl ak)), (na, .inl (cI, 16, .inl no)), (ya, .inl (cI, 16, .inl ye)), (ta, .inl (cI, 48, .inl tl))] H := hP
                  have hD : va_D A [(o, .inr (7, [.int 0, .int (nI n), .ref dT, .ref gT, .int (nI ns), .ref la, .ref ca, .int (nI nn), .ref aa, .ref na, .ref ya, .int (nI nr), .ref ta, .int be, .int bp, .long bo, .int bm])), (dT, .inl (cI, 64, .inl (upd d1 j (d1 r_3.toNatClampNeg)))), (gT, .inl (cZ, 64, .inl g1)), (la, .inl (cI, 8, .inl sl)), (ca, .inl (cI, 128, .inl cr)), (aa, .inl (cI, 16, .inl ak)), (na, .inl (cI, 16, .inl no)), (ya, .inl (cI, 16, .inl ye)), (ta, .inl (cI, 48, .inl tl))] := hD
                  refine lv_aload_n hx hb d_T_fill_109 rfl (lv_at hl 1 rfl) ?_
                  refine va_get (D := D) (ci := 7) (v := .ref gT) (C := Q_T) (T := F_T) (N := 17) hx hb hg in_T hown hK hP 0 rfl rfl 3 (by decide) (hg _ g_642) (fun _ h9 => h9) rfl d_T_fill_110 ?_
                  refine lv_iload hx hb d_T_fill_113 (lv_at hl 5 rfl) ?_
                  refine lv_iconst (v := 1) hx hb d_T_fill_115 (by decide) ?_
                  refine va_zast hx hb hK hP hD hS 2 1 rfl rfl (v64 h64 (gj_in (by omega) hj1 c_56)) d_T_fill_116 (fun H locs hP hD hS => ?_)
                  rw [nI_clamp (show j < 2 ^ 31 by omega)] at hP hD
                  have hP : va_P D cls [(o, .inr (7, [.int 0, .int (nI n), .ref dT, .ref gT, .int (nI ns), .ref la, .ref ca, .int (nI nn), .ref aa, .ref na, .ref ya, .int (nI nr), .ref ta, .int be, .int bp, .long bo, .int bm])), (dT, .inl (cI, 64, .inl (upd d1 j (d1 r_3.toNatClampNeg)))), (gT, .inl (cZ, 64, .inl (upd g1 j 1))), (la, .inl (cI, 8, .inl sl)), (ca, .inl (cI, 128, .inl cr)), (aa, .inl (cI, 16, .inl ak)), (na, .inl (cI, 16, .inl no)), (ya, .inl (cI, 16, .inl ye)), (ta, .inl (cI, 48, .inl tl))] H := hP
                  have hD : va_D A [(o, .inr (7, [.int 0, .int (nI n), .ref dT, .ref gT, .int (nI ns), .ref la, .ref ca, .int (nI nn), .ref aa, .ref na, .ref ya, .int (nI nr), .ref ta, .int be, .int bp, .long bo, .int bm])), (dT, .inl (cI, 64, .inl (upd d1 j (d1 r_3.toNatClampNeg)))), (gT, .inl (cZ, 64, .inl (upd g1 j 1))), (la, .inl (cI, 8, .inl sl)), (ca, .inl (cI, 128, .inl cr)), (aa, .inl (cI, 16, .inl ak)), (na, .inl (cI, 16, .inl no)), (ya, .inl (cI, 16, .inl ye)), (ta, .inl (cI, 48, .inl tl))] := hD
                  refine lv_iinc (v := (nI c1) + 1) (lv' := [(3, .int ((nI c1) + 1)), (5, .int r_3), (0, .ref o), (1, .int (nI S)), (2, .int a), (4, .int (nI j))]) hx hb d_T_fill_117 hl (k := 4) rfl rfl (by decide) rfl (fun ls hl => ?_)
                  refine lv_iinc (v := (nI j) + 1) (lv' := [(4, .int ((nI j) + 1)), (3, .int ((nI c1) + 1)), (5, .int r_3), (0, .ref o), (1, .int (nI S)), (2, .int a)]) hx hb d_T_fill_120 hl (k := 5) rfl rfl (by decide) rfl (fun ls hl => ?_)
                  refine lv_goto (tgt := 50) hx hb d_T_fill_123 (by decide) ?_
                  exact ih50 (j + 1) (upd d1 j (d1 r_3.toNatClampNeg)) (upd g1 j 1) (c1 + 1) ((nI c1) + 1) ((nI j) + 1) _ _ ls (⟨by have := gj_in (by omega) hj1 c_56; omega, by omega, nI_1 c1, nI_1 j, by rw [fl, ← hq]; exact (fs_3 (by omega) (dm1 hd1 (gj_in (by omega) hj1 c_56) h64 c_73) hr_3 (fT_h hr_3 c_92)).symm⟩) hP hD hS (lv_sub hl [3, 4, 5, 1, 0] rfl)
      exact loop_50 (n + 1) 0 d g 0 0 0 _ _ ls (⟨by omega, by omega, rfl, rfl, rfl⟩) hP hD hS (lv_sub hl [2, 3, 4, 1, 0] rfl)
    · refine lv_iconst (v := 1) hx hb d_T_fill_37 (by decide) ?_
      refine lv_goto (tgt := 42) hx hb d_T_fill_38 (by decide) ?_
      refine va_put (D := D) (ci := 7) (v := .int 1) (ty := .int) (C := Q_T) (T := F_T) (N := 17) hx hb hg in_T tq_T tq_T_ok n_T hown hK hP hD hS 0 rfl rfl 0 (by decide) (hg _ g_639) (fun _ h9 => h9) rfl (by decide +kernel) rfl rfl (Nat.le_of_ble_eq_true rfl) d_T_fill_42 (fun H locs hP hD hS => ?_)
      have hP : va_P D cls [(o, .inr (7, [.int 1, .int (nI n), .ref dT, .ref gT, .int (nI ns), .ref la, .ref ca, .int (nI nn), .ref aa, .ref na, .ref ya, .int (nI nr), .ref ta, .int be, .int bp, .long bo, .int bm])), (dT, .inl (cI, 64, .inl d)), (gT, .inl (cZ, 64, .inl g)), (la, .inl (cI, 8, .inl sl)), (ca, .inl (cI, 128, .inl cr)), (aa, .inl (cI, 16, .inl ak)), (na, .inl (cI, 16, .inl no)), (ya, .inl (cI, 16, .inl ye)), (ta, .inl (cI, 48, .inl tl))] H := hP
      have hD : va_D A [(o, .inr (7, [.int 1, .int (nI n), .ref dT, .ref gT, .int (nI ns), .ref la, .ref ca, .int (nI nn), .ref aa, .ref na, .ref ya, .int (nI nr), .ref ta, .int be, .int bp, .long bo, .int bm])), (dT, .inl (cI, 64, .inl d)), (gT, .inl (cZ, 64, .inl g)), (la, .inl (cI, 8, .inl sl)), (ca, .inl (cI, 128, .inl cr)), (aa, .inl (cI, 16, .inl ak)), (na, .inl (cI, 16, .inl no)), (ya, .inl (cI, 16, .inl ye)), (ta, .inl (cI, 48, .inl tl))] := hD
      refine lv_iconst (v := 0) hx hb d_T_fill_45 (by decide) ?_
      refine lv_istore_n (lv' := [(3, .int 0), (0, .ref o), (1, .int s9), (2, .int a)]) hx hb d_T_fill_46 rfl hl (by decide) rfl (fun ls hl => ?_)
      refine lv_iconst (v := 0) hx hb d_T_fill_47 (by decide) ?_
      refine lv_istore (lv' := [(4, .int 0), (3, .int 0), (0, .ref o), (1, .int s9), (2, .int a)]) hx hb d_T_fill_48 hl (by decide) rfl (fun ls hl => ?_)
      refine lv_iload hx hb d_T_fill_50 (lv_at hl 0 rfl) ?_
      refine lv_aload_n hx hb d_T_fill_52 rfl (lv_at hl 2 rfl) ?_
      refine va_get (D := D) (ci := 7) (v := .int (nI n)) (C := Q_T) (T := F_T) (N := 17) hx hb hg in_T hown hK hP 0 rfl rfl 1 (by decide) (hg _ g_640) (fun _ h9 => h9) rfl d_T_fill_53 ?_
      refine lv_icmp_ge (tgt := 126) hx hb d_T_fill_56 (by decide) (fun c_56 => ?_) (fun c_56 => ?_)
      · exact absurd (gj_out (n := n) (j := 0) (by omega) (by omega) c_56) (by omega)
      · refine lv_aload_n hx hb d_T_fill_59 rfl (lv_at hl 2 rfl) ?_
        refine va_get (D := D) (ci := 7) (v := .int 1) (C := Q_T) (T := F_T) (N := 17) hx hb hg in_T hown hK hP 0 rfl rfl 0 (by decide) (hg _ g_639) (fun _ h9 => h9) rfl d_T_fill_60 ?_
        refine lv_if_ne (tgt := 126) hx hb d_T_fill_63 (by decide) (fun c_63 => ?_) (fun c_63 => ?_)
        · refine lv_iload_n hx hb d_T_fill_126 rfl (lv_at hl 1 rfl) ?_
          exact W.iret hx hb hr (fun t9 ht hW => ⟨⟨_, [(o, .inr (7, [.int 1, .int (nI n), .ref dT, .ref gT, .int (nI ns), .ref la, .ref ca, .int (nI nn), .ref aa, .ref na, .ref ya, .int (nI nr), .ref ta, .int be, .int bp, .long bo, .int bm])), (dT, .inl (cI, 64, .inl d)), (gT, .inl (cZ, 64, .inl g)), (la, .inl (cI, 8, .inl sl)), (ca, .inl (cI, 128, .inl cr)), (aa, .inl (cI, 16, .inl ak)), (na, .inl (cI, 16, .inl no)), (ya, .inl (cI, 16, .inl ye)), (ta, .inl (cI, 48, .inl tl))], rfl, ⟨by unfold fil; (first | rw [cf_1 c_14] | rw [cf_2 c_34]); rfl, fun h => absurd h (by first | (rw [cf_1 c_14]; decide) | (rw [cf_2 c_34]; decide))⟩, by rw [ht]; exact hP, va_K.moved hW.alike hK, hD⟩, hS.F ht⟩) hS.2.2 d_T_fill_127
        · exact absurd c_63 (by decide)
end
