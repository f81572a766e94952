theorem g_0 : Cond.selects "java/lang/Throwable" ⟨"java/lang/Throwable", "fillInStackTrace", "(I)Ljava/lang/Throwable;"⟩ ⟨"java/lang/Throwable", "fillInStackTrace", "(I)Ljava/lang/Throwable;"⟩ ∈ GT := gm 0 rfl rfl
theorem g_1 : Cond.selects "RubbingMirrors" y_M_findMirror y_M_findMirror ∈ GT := gm 1 rfl rfl
theorem g_2 : Cond.selects "RubbingMirrors$Best" y_B_isBetter y_B_isBetter ∈ GT := gm 2 rfl rfl
theorem g_3 : Cond.selects "RubbingMirrors$Row" y_R_sourceFor y_R_sourceFor ∈ GT := gm 3 rfl rfl
theorem g_4 : Cond.selects "java/util/ArrayList" y_A_add2 y_A_add2 ∈ GT := gm 4 rfl rfl
theorem g_5 : Cond.selects "java/util/ArrayList" y_A_grow y_A_grow ∈ GT := gm 5 rfl rfl
theorem g_6 : Cond.selects "java/util/ArrayList" y_A_grow2 y_A_grow2 ∈ GT := gm 6 rfl rfl
theorem g_7 : Cond.selects "RubbingMirrors" y_M_findMatch y_M_findMatch ∈ GT := gm 7 rfl rfl
theorem g_8 : Cond.selects "RubbingMirrors" y_M_lastAsked y_M_lastAsked ∈ GT := gm 8 rfl rfl
theorem g_9 : Cond.selects "RubbingMirrorsModel" y_T_isPlace y_T_isPlace ∈ GT := gm 9 rfl rfl
theorem g_10 : Cond.selects "RubbingMirrorsModel" y_T_findMirror y_T_findMirror ∈ GT := gm 10 rfl rfl
theorem g_11 : Cond.selects "RubbingMirrorsModel" y_T_isKnown y_T_isKnown ∈ GT := gm 11 rfl rfl
theorem g_12 : Cond.selects "RubbingMirrorsModel" y_T_isBetter y_T_isBetter ∈ GT := gm 12 rfl rfl
theorem g_13 : Cond.selects "RubbingMirrorsModel" y_T_sumOf y_T_sumOf ∈ GT := gm 13 rfl rfl
theorem g_14 : Cond.selects "RubbingMirrorsModel" y_T_source y_T_source ∈ GT := gm 14 rfl rfl
theorem g_15 : Cond.selects "RubbingMirrorsModel" y_T_findMatch y_T_findMatch ∈ GT := gm 15 rfl rfl
theorem g_16 : Cond.selects "RubbingMirrorsModel" y_T_holds y_T_holds ∈ GT := gm 16 rfl rfl
theorem g_17 : Cond.initialized "RubbingMirrorsLaw" ∈ GT := gm 17 rfl rfl
theorem g_18 : Cond.initialized "RubbingMirrors" ∈ GT := gm 18 rfl rfl
theorem g_19 : Cond.initialized "java/util/AbstractCollection" ∈ GT := gm 19 rfl rfl
theorem g_20 : Cond.initialized "java/util/AbstractList" ∈ GT := gm 20 rfl rfl
theorem g_21 : Cond.initialized "java/util/ArrayList" ∈ GT := gm 21 rfl rfl
theorem g_22 : Cond.initialized "RubbingMirrors$Best" ∈ GT := gm 22 rfl rfl
theorem g_23 : Cond.initialized "RubbingMirrors$Row" ∈ GT := gm 23 rfl rfl
theorem g_24 : Cond.initialized "java/lang/Math" ∈ GT := gm 24 rfl rfl
theorem g_25 : Cond.initialized "java/util/Arrays" ∈ GT := gm 25 rfl rfl
theorem g_26 : Cond.initialized "RubbingMirrorsModel" ∈ GT := gm 26 rfl rfl
theorem g_27 : Cond.initialized "java/lang/Throwable" ∈ GT := gm 27 rfl rfl
theorem g_28 : Cond.initialized "java/lang/Exception" ∈ GT := gm 28 rfl rfl
theorem g_29 : Cond.initialized "java/lang/RuntimeException" ∈ GT := gm 29 rfl rfl
theorem g_30 : Cond.initialized "java/lang/IndexOutOfBoundsException" ∈ GT := gm 30 rfl rfl
theorem g_31 : Cond.initialized "java/lang/IllegalArgumentException" ∈ GT := gm 31 rfl rfl
theorem g_32 : Cond.initialized "java/lang/IllegalStateException" ∈ GT := gm 32 rfl rfl
theorem g_33 : Cond.initialized "RubbingMirrors$Shape" ∈ GT := gm 33 rfl rfl
theorem g_34 : Cond.initialized "jdk/internal/util/ArraysSupport" ∈ GT := gm 34 rfl rfl
theorem g_35 : Cond.initialized "java/lang/System" ∈ GT := gm 35 rfl rfl
theorem g_36 : Cond.initialized "java/util/Objects" ∈ GT := gm 36 rfl rfl
theorem g_37 : Cond.initialized "jdk/internal/util/Preconditions" ∈ GT := gm 37 rfl rfl
theorem g_38 : Cond.initialized "RubbingMirrors$Node" ∈ GT := gm 38 rfl rfl
theorem g_39 : Cond.initialized "RubbingMirrors$Rule" ∈ GT := gm 39 rfl rfl
theorem g_40 : Cond.classLink "RubbingMirrorsLaw" 8 "RubbingMirrors" ∈ GT := gm 40 rfl rfl
theorem g_41 : Cond.instantiable "RubbingMirrors" 5 ∈ GT := gm 41 rfl rfl
theorem g_42 : Cond.methodLink "RubbingMirrorsLaw" 70 y_M_init ∈ GT := gm 42 rfl rfl
theorem g_43 : Cond.instanceMethod y_M_init ∈ GT := gm 43 rfl rfl
theorem g_44 : Cond.code y_M_init prog_1_method_1_code 2 none ∈ GT := gm 44 rfl rfl
theorem g_45 : Cond.methodLink "RubbingMirrors" 1 y_O_init ∈ GT := gm 45 rfl rfl
theorem g_46 : Cond.instanceMethod y_O_init ∈ GT := gm 46 rfl rfl
theorem g_47 : Cond.code y_O_init object_method_1_code 1 none ∈ GT := gm 47 rfl rfl
theorem g_48 : Cond.classLink "RubbingMirrors" 7 "java/util/ArrayList" ∈ GT := gm 48 rfl rfl
theorem g_49 : Cond.instantiable "java/util/ArrayList" 3 ∈ GT := gm 49 rfl rfl
theorem g_50 : Cond.methodLink "RubbingMirrors" 9 y_A_init ∈ GT := gm 50 rfl rfl
theorem g_51 : Cond.instanceMethod y_A_init ∈ GT := gm 51 rfl rfl
theorem g_52 : Cond.code y_A_init prog_23_method_2_code 1 none ∈ GT := gm 52 rfl rfl
theorem g_53 : Cond.methodLink "java/util/ArrayList" 1 y_AL_init ∈ GT := gm 53 rfl rfl
theorem g_54 : Cond.instanceMethod y_AL_init ∈ GT := gm 54 rfl rfl
theorem g_55 : Cond.code y_AL_init prog_22_method_1_code 1 none ∈ GT := gm 55 rfl rfl
theorem g_56 : Cond.methodLink "java/util/AbstractList" 1 y_AC_init ∈ GT := gm 56 rfl rfl
theorem g_57 : Cond.instanceMethod y_AC_init ∈ GT := gm 57 rfl rfl
theorem g_58 : Cond.code y_AC_init prog_21_method_1_code 1 none ∈ GT := gm 58 rfl rfl
theorem g_59 : Cond.methodLink "java/util/AbstractCollection" 1 y_O_init ∈ GT := gm 59 rfl rfl
theorem g_60 : Cond.fieldLink "java/util/ArrayList" 39 "java/util/ArrayList" "DEFAULTCAPACITY_EMPTY_ELEMENTDATA" "[Ljava/lang/Object;" ∈ GT := gm 60 rfl rfl
theorem g_62 : Cond.fieldLink "java/util/ArrayList" 9 "java/util/ArrayList" "elementData" "[Ljava/lang/Object;" ∈ GT := gm 62 rfl rfl
theorem g_63 : Cond.fieldLink "java/util/ArrayList" 48 "java/util/ArrayList" "size" "I" ∈ GT := gm 63 rfl rfl
theorem g_64 : Cond.fieldLink "java/util/AbstractList" 7 "java/util/AbstractList" "modCount" "I" ∈ GT := gm 64 rfl rfl
theorem g_65 : Cond.fieldLink "java/util/ArrayList" 63 "java/util/ArrayList" "modCount" "I" ∈ GT := gm 65 rfl rfl
theorem g_66 : Cond.sameField "java/util/ArrayList" "java/util/AbstractList" "modCount" "I" ∈ GT := gm 66 rfl rfl
theorem g_67 : Cond.lays "java/util/ArrayList" "java/util/ArrayList" "elementData" "[Ljava/lang/Object;" ∈ GT := gm 67 rfl rfl
theorem g_69 : Cond.lays "java/util/ArrayList" "java/util/ArrayList" "size" "I" ∈ GT := gm 69 rfl rfl
theorem g_71 : Cond.lays "java/util/ArrayList" "java/util/AbstractList" "modCount" "I" ∈ GT := gm 71 rfl rfl
theorem g_74 : Cond.classLink "RubbingMirrors" 22 "RubbingMirrors$Best" ∈ GT := gm 74 rfl rfl
theorem g_75 : Cond.instantiable "RubbingMirrors$Best" 5 ∈ GT := gm 75 rfl rfl
theorem g_77 : Cond.instanceMethod y_B_init ∈ GT := gm 77 rfl rfl
theorem g_78 : Cond.code y_B_init prog_2_method_1_code 1 none ∈ GT := gm 78 rfl rfl
theorem g_79 : Cond.methodLink "RubbingMirrors$Best" 1 y_O_init ∈ GT := gm 79 rfl rfl
theorem g_80 : Cond.fieldLink "RubbingMirrors$Best" 7 "RubbingMirrors$Best" "found" "Z" ∈ GT := gm 80 rfl rfl
theorem g_82 : Cond.fieldLink "RubbingMirrors$Best" 17 "RubbingMirrors$Best" "which" "I" ∈ GT := gm 82 rfl rfl
theorem g_84 : Cond.fieldLink "RubbingMirrors$Best" 21 "RubbingMirrors$Best" "at" "I" ∈ GT := gm 84 rfl rfl
theorem g_86 : Cond.fieldLink "RubbingMirrors$Best" 24 "RubbingMirrors$Best" "total" "I" ∈ GT := gm 86 rfl rfl
theorem g_88 : Cond.fieldLink "RubbingMirrors$Best" 27 "RubbingMirrors$Best" "count" "I" ∈ GT := gm 88 rfl rfl
theorem g_90 : Cond.lays "RubbingMirrors$Best" "RubbingMirrors$Best" "found" "Z" ∈ GT := gm 90 rfl rfl
theorem g_92 : Cond.lays "RubbingMirrors$Best" "RubbingMirrors$Best" "which" "I" ∈ GT := gm 92 rfl rfl
theorem g_94 : Cond.lays "RubbingMirrors$Best" "RubbingMirrors$Best" "at" "I" ∈ GT := gm 94 rfl rfl
theorem g_96 : Cond.lays "RubbingMirrors$Best" "RubbingMirrors$Best" "total" "I" ∈ GT := gm 96 rfl rfl
theorem g_98 : Cond.lays "RubbingMirrors$Best" "RubbingMirrors$Best" "count" "I" ∈ GT := gm 98 rfl rfl
theorem g_101 : Cond.classLink "RubbingMirrors" 29 "RubbingMirrors$Row" ∈ GT := gm 101 rfl rfl
theorem g_102 : Cond.instantiable "RubbingMirrors$Row" 2 ∈ GT := gm 102 rfl rfl
theorem g_103 : Cond.methodLink "RubbingMirrors" 31 y_MA_min ∈ GT := gm 103 rfl rfl
theorem g_104 : Cond.static y_MA_min ∈ GT := gm 104 rfl rfl
theorem g_105 : Cond.code y_MA_min prog_16_method_69_code 2 (some .int) ∈ GT := gm 105 rfl rfl
theorem g_106 : Cond.methodLink "RubbingMirrors" 37 y_MA_max ∈ GT := gm 106 rfl rfl
theorem g_107 : Cond.static y_MA_max ∈ GT := gm 107 rfl rfl
theorem g_108 : Cond.code y_MA_max prog_16_method_65_code 2 (some .int) ∈ GT := gm 108 rfl rfl
theorem g_109 : Cond.methodLink "RubbingMirrors" 40 y_R_init ∈ GT := gm 109 rfl rfl
theorem g_110 : Cond.instanceMethod y_R_init ∈ GT := gm 110 rfl rfl
theorem g_111 : Cond.code y_R_init prog_4_method_1_code 2 none ∈ GT := gm 111 rfl rfl
theorem g_112 : Cond.methodLink "RubbingMirrors$Row" 3 y_O_init ∈ GT := gm 112 rfl rfl
theorem g_113 : Cond.methodLink "RubbingMirrors$Row" 19 y_AR_fill ∈ GT := gm 113 rfl rfl
theorem g_114 : Cond.static y_AR_fill ∈ GT := gm 114 rfl rfl
theorem g_115 : Cond.code y_AR_fill prog_24_method_103_code 4 none ∈ GT := gm 115 rfl rfl
theorem g_116 : Cond.fieldLink "RubbingMirrors$Row" 9 "RubbingMirrors$Row" "depths" "[I" ∈ GT := gm 116 rfl rfl
theorem g_117 : Cond.fieldLink "RubbingMirrors$Row" 15 "RubbingMirrors$Row" "guesses" "[Z" ∈ GT := gm 117 rfl rfl
theorem g_118 : Cond.laysFinal "RubbingMirrors$Row" "RubbingMirrors$Row" "depths" "[I" ∈ GT := gm 118 rfl rfl
theorem g_120 : Cond.laysFinal "RubbingMirrors$Row" "RubbingMirrors$Row" "guesses" "[Z" ∈ GT := gm 120 rfl rfl
theorem g_123 : Cond.arrayClass .int ∈ GT := gm 123 rfl rfl
theorem g_124 : Cond.arrayClass .boolean ∈ GT := gm 124 rfl rfl
theorem g_125 : Cond.fieldLink "RubbingMirrors" 43 "RubbingMirrors" "row" "LRubbingMirrors$Row;" ∈ GT := gm 125 rfl rfl
theorem g_126 : Cond.fieldLink "RubbingMirrors" 10 "RubbingMirrors" "shapes" "Ljava/util/ArrayList;" ∈ GT := gm 126 rfl rfl
theorem g_127 : Cond.fieldLink "RubbingMirrors" 16 "RubbingMirrors" "nodes" "Ljava/util/ArrayList;" ∈ GT := gm 127 rfl rfl
theorem g_128 : Cond.fieldLink "RubbingMirrors" 19 "RubbingMirrors" "rules" "Ljava/util/ArrayList;" ∈ GT := gm 128 rfl rfl
theorem g_129 : Cond.fieldLink "RubbingMirrors" 25 "RubbingMirrors" "best" "LRubbingMirrors$Best;" ∈ GT := gm 129 rfl rfl
theorem g_130 : Cond.laysFinal "RubbingMirrors" "RubbingMirrors" "row" "LRubbingMirrors$Row;" ∈ GT := gm 130 rfl rfl
theorem g_132 : Cond.laysFinal "RubbingMirrors" "RubbingMirrors" "shapes" "Ljava/util/ArrayList;" ∈ GT := gm 132 rfl rfl
theorem g_134 : Cond.laysFinal "RubbingMirrors" "RubbingMirrors" "nodes" "Ljava/util/ArrayList;" ∈ GT := gm 134 rfl rfl
theorem g_136 : Cond.laysFinal "RubbingMirrors" "RubbingMirrors" "rules" "Ljava/util/ArrayList;" ∈ GT := gm 136 rfl rfl
theorem g_138 : Cond.laysFinal "RubbingMirrors" "RubbingMirrors" "best" "LRubbingMirrors$Best;" ∈ GT := gm 138 rfl rfl
theorem g_141 : Cond.methodLink "RubbingMirrorsLaw" 101 y_M_forget ∈ GT := gm 141 rfl rfl
theorem g_142 : Cond.instanceMethod y_M_forget ∈ GT := gm 142 rfl rfl
theorem g_143 : Cond.selects "RubbingMirrors" y_M_forget y_M_forget ∈ GT := gm 143 rfl rfl
theorem g_144 : Cond.code y_M_forget prog_1_method_8_code 1 (some .int) ∈ GT := gm 144 rfl rfl
theorem g_145 : Cond.methodLink "RubbingMirrors" 124 y_R_loseGuesses ∈ GT := gm 145 rfl rfl
theorem g_146 : Cond.instanceMethod y_R_loseGuesses ∈ GT := gm 146 rfl rfl
theorem g_147 : Cond.selects "RubbingMirrors$Row" y_R_loseGuesses y_R_loseGuesses ∈ GT := gm 147 rfl rfl
theorem g_148 : Cond.code y_R_loseGuesses prog_4_method_14_code 3 (some .int) ∈ GT := gm 148 rfl rfl
theorem g_149 : Cond.methodLink "RubbingMirrorsLaw" 64 y_L_cell ∈ GT := gm 149 rfl rfl
theorem g_150 : Cond.static y_L_cell ∈ GT := gm 150 rfl rfl
theorem g_151 : Cond.code y_L_cell method_2_code 2 (some .int) ∈ GT := gm 151 rfl rfl
theorem g_152 : Cond.methodLink "RubbingMirrorsLaw" 76 y_L_depth ∈ GT := gm 152 rfl rfl
theorem g_153 : Cond.static y_L_depth ∈ GT := gm 153 rfl rfl
theorem g_154 : Cond.codeWith y_L_depth method_3_code 4 (some .int) [(0, 6, 9, 13), (0, 6, 12, 15)] ∈ GT := gm 154 rfl rfl
theorem g_155 : Cond.classLink "RubbingMirrorsLaw" 13 "java/lang/IndexOutOfBoundsException" ∈ GT := gm 155 rfl rfl
theorem g_156 : Cond.classLink "RubbingMirrorsLaw" 15 "java/lang/IllegalArgumentException" ∈ GT := gm 156 rfl rfl
theorem g_157 : Cond.methodLink "RubbingMirrorsLaw" 7 y_M_depth ∈ GT := gm 157 rfl rfl
theorem g_158 : Cond.instanceMethod y_M_depth ∈ GT := gm 158 rfl rfl
theorem g_159 : Cond.selects "RubbingMirrors" y_M_depth y_M_depth ∈ GT := gm 159 rfl rfl
theorem g_160 : Cond.code y_M_depth prog_1_method_2_code 3 none ∈ GT := gm 160 rfl rfl
theorem g_161 : Cond.methodLink "RubbingMirrors" 47 y_R_has ∈ GT := gm 161 rfl rfl
theorem g_162 : Cond.instanceMethod y_R_has ∈ GT := gm 162 rfl rfl
theorem g_163 : Cond.selects "RubbingMirrors$Row" y_R_has y_R_has ∈ GT := gm 163 rfl rfl
theorem g_164 : Cond.code y_R_has prog_4_method_4_code 2 (some .boolean) ∈ GT := gm 164 rfl rfl
theorem g_165 : Cond.classLink "RubbingMirrors" 51 "java/lang/IndexOutOfBoundsException" ∈ GT := gm 165 rfl rfl
theorem g_166 : Cond.instantiable "java/lang/IndexOutOfBoundsException" 6 ∈ GT := gm 166 rfl rfl
theorem g_174 : Cond.selects "java/lang/IndexOutOfBoundsException" ⟨"java/lang/Throwable", "fillInStackTrace", "(I)Ljava/lang/Throwable;"⟩ ⟨"java/lang/Throwable", "fillInStackTrace", "(I)Ljava/lang/Throwable;"⟩ ∈ GT := gm 174 rfl rfl
theorem g_175 : Cond.selects "java/lang/IndexOutOfBoundsException" ⟨"java/lang/Throwable", "fillInStackTrace", "()Ljava/lang/Throwable;"⟩ ⟨"java/lang/Throwable", "fillInStackTrace", "()Ljava/lang/Throwable;"⟩ ∈ GT := gm 175 rfl rfl
theorem g_176 : Cond.lays "java/lang/IndexOutOfBoundsException" "java/lang/Throwable" "cause" "Ljava/lang/Throwable;" ∈ GT := gm 176 rfl rfl
theorem g_177 : Cond.lays "java/lang/Throwable" "java/lang/Throwable" "cause" "Ljava/lang/Throwable;" ∈ GT := gm 177 rfl rfl
theorem g_178 : Cond.lays "java/lang/IndexOutOfBoundsException" "java/lang/Throwable" "stackTrace" "[Ljava/lang/StackTraceElement;" ∈ GT := gm 178 rfl rfl
theorem g_179 : Cond.lays "java/lang/Throwable" "java/lang/Throwable" "stackTrace" "[Ljava/lang/StackTraceElement;" ∈ GT := gm 179 rfl rfl
theorem g_180 : Cond.lays "java/lang/IndexOutOfBoundsException" "java/lang/Throwable" "suppressedExceptions" "Ljava/util/List;" ∈ GT := gm 180 rfl rfl
theorem g_181 : Cond.lays "java/lang/Throwable" "java/lang/Throwable" "suppressedExceptions" "Ljava/util/List;" ∈ GT := gm 181 rfl rfl
theorem g_182 : Cond.lays "java/lang/IndexOutOfBoundsException" "java/lang/Throwable" "detailMessage" "Ljava/lang/String;" ∈ GT := gm 182 rfl rfl
theorem g_183 : Cond.lays "java/lang/Throwable" "java/lang/Throwable" "detailMessage" "Ljava/lang/String;" ∈ GT := gm 183 rfl rfl
theorem g_184 : Cond.lays "java/lang/IndexOutOfBoundsException" "java/lang/Throwable" "backtrace" "Ljava/lang/Object;" ∈ GT := gm 184 rfl rfl
theorem g_185 : Cond.lays "java/lang/Throwable" "java/lang/Throwable" "backtrace" "Ljava/lang/Object;" ∈ GT := gm 185 rfl rfl
theorem g_186 : Cond.fieldLink "java/lang/Throwable" 198 "java/lang/Throwable" "backtrace" "Ljava/lang/Object;" ∈ GT := gm 186 rfl rfl
theorem g_188 : Cond.instanceMethod ⟨"java/lang/Throwable", "<init>", "()V"⟩ ∈ GT := gm 188 rfl rfl
theorem g_189 : Cond.code ⟨"java/lang/Throwable", "<init>", "()V"⟩ prog_20_method_1_code 1 none ∈ GT := gm 189 rfl rfl
theorem g_190 : Cond.methodLink "java/lang/Throwable" 1 y_O_init ∈ GT := gm 190 rfl rfl
theorem g_191 : Cond.fieldLink "java/lang/Throwable" 13 "java/lang/Throwable" "UNASSIGNED_STACK" "[Ljava/lang/StackTraceElement;" ∈ GT := gm 191 rfl rfl
theorem g_193 : Cond.fieldLink "java/lang/Throwable" 20 "java/lang/Throwable" "SUPPRESSED_SENTINEL" "Ljava/util/List;" ∈ GT := gm 193 rfl rfl
theorem g_195 : Cond.methodLink "java/lang/Throwable" 27 ⟨"java/lang/Throwable", "fillInStackTrace", "()Ljava/lang/Throwable;"⟩ ∈ GT := gm 195 rfl rfl
theorem g_196 : Cond.instanceMethod ⟨"java/lang/Throwable", "fillInStackTrace", "()Ljava/lang/Throwable;"⟩ ∈ GT := gm 196 rfl rfl
theorem g_197 : Cond.sameMethod "java/lang/Throwable" "java/lang/Throwable" "fillInStackTrace" "()Ljava/lang/Throwable;" ∈ GT := gm 197 rfl rfl
theorem g_198 : Cond.selects "java/lang/IllegalArgumentException" ⟨"java/lang/Throwable", "fillInStackTrace", "()Ljava/lang/Throwable;"⟩ ⟨"java/lang/Throwable", "fillInStackTrace", "()Ljava/lang/Throwable;"⟩ ∈ GT := gm 198 rfl rfl
theorem g_199 : Cond.selects "java/lang/IllegalStateException" ⟨"java/lang/Throwable", "fillInStackTrace", "()Ljava/lang/Throwable;"⟩ ⟨"java/lang/Throwable", "fillInStackTrace", "()Ljava/lang/Throwable;"⟩ ∈ GT := gm 199 rfl rfl
theorem g_200 : Cond.codeSync ⟨"java/lang/Throwable", "fillInStackTrace", "()Ljava/lang/Throwable;"⟩ prog_20_method_18_code 1 (some (.object "java/lang/Throwable")) ∈ GT := gm 200 rfl rfl
theorem g_201 : Cond.methodLink "java/lang/Throwable" 202 ⟨"java/lang/Throwable", "fillInStackTrace", "(I)Ljava/lang/Throwable;"⟩ ∈ GT := gm 201 rfl rfl
theorem g_203 : Cond.instanceMethod ⟨"java/lang/Throwable", "fillInStackTrace", "(I)Ljava/lang/Throwable;"⟩ ∈ GT := gm 203 rfl rfl
theorem g_204 : Cond.instantiable "java/lang/Throwable" 6 ∈ GT := gm 204 rfl rfl
theorem g_205 : Cond.native ⟨"java/lang/Throwable", "fillInStackTrace", "(I)Ljava/lang/Throwable;"⟩ ∈ GT := gm 205 rfl rfl
theorem g_207 : Cond.methodLink "RubbingMirrors" 55 ⟨"java/lang/IndexOutOfBoundsException", "<init>", "(Ljava/lang/String;)V"⟩ ∈ GT := gm 207 rfl rfl
theorem g_208 : Cond.instanceMethod ⟨"java/lang/IndexOutOfBoundsException", "<init>", "(Ljava/lang/String;)V"⟩ ∈ GT := gm 208 rfl rfl
theorem g_209 : Cond.code ⟨"java/lang/IndexOutOfBoundsException", "<init>", "(Ljava/lang/String;)V"⟩ prog_14_method_2_code 2 none ∈ GT := gm 209 rfl rfl
theorem g_210 : Cond.methodLink "java/lang/IndexOutOfBoundsException" 7 ⟨"java/lang/RuntimeException", "<init>", "(Ljava/lang/String;)V"⟩ ∈ GT := gm 210 rfl rfl
theorem g_211 : Cond.instanceMethod ⟨"java/lang/RuntimeException", "<init>", "(Ljava/lang/String;)V"⟩ ∈ GT := gm 211 rfl rfl
theorem g_212 : Cond.code ⟨"java/lang/RuntimeException", "<init>", "(Ljava/lang/String;)V"⟩ prog_17_method_2_code 2 none ∈ GT := gm 212 rfl rfl
theorem g_213 : Cond.methodLink "java/lang/RuntimeException" 7 ⟨"java/lang/Exception", "<init>", "(Ljava/lang/String;)V"⟩ ∈ GT := gm 213 rfl rfl
theorem g_214 : Cond.instanceMethod ⟨"java/lang/Exception", "<init>", "(Ljava/lang/String;)V"⟩ ∈ GT := gm 214 rfl rfl
theorem g_215 : Cond.code ⟨"java/lang/Exception", "<init>", "(Ljava/lang/String;)V"⟩ prog_11_method_2_code 2 none ∈ GT := gm 215 rfl rfl
theorem g_216 : Cond.methodLink "java/lang/Exception" 7 ⟨"java/lang/Throwable", "<init>", "(Ljava/lang/String;)V"⟩ ∈ GT := gm 216 rfl rfl
theorem g_217 : Cond.instanceMethod ⟨"java/lang/Throwable", "<init>", "(Ljava/lang/String;)V"⟩ ∈ GT := gm 217 rfl rfl
theorem g_218 : Cond.code ⟨"java/lang/Throwable", "<init>", "(Ljava/lang/String;)V"⟩ prog_20_method_2_code 2 none ∈ GT := gm 218 rfl rfl
theorem g_220 : Cond.fieldLink "java/lang/Throwable" 31 "java/lang/Throwable" "detailMessage" "Ljava/lang/String;" ∈ GT := gm 220 rfl rfl
theorem g_221 : Cond.fieldLink "java/lang/Throwable" 7 "java/lang/Throwable" "cause" "Ljava/lang/Throwable;" ∈ GT := gm 221 rfl rfl
theorem g_222 : Cond.fieldLink "java/lang/Throwable" 17 "java/lang/Throwable" "stackTrace" "[Ljava/lang/StackTraceElement;" ∈ GT := gm 222 rfl rfl
theorem g_223 : Cond.fieldLink "java/lang/Throwable" 24 "java/lang/Throwable" "suppressedExceptions" "Ljava/util/List;" ∈ GT := gm 223 rfl rfl
theorem g_228 : Cond.lays "java/lang/IndexOutOfBoundsException" "java/lang/Throwable" "depth" "I" ∈ GT := gm 228 rfl rfl
theorem g_232 : Cond.arrayClass .byte ∈ GT := gm 232 rfl rfl
theorem g_233 : Cond.methodLink "RubbingMirrors" 58 y_M_isWithin ∈ GT := gm 233 rfl rfl
theorem g_234 : Cond.static y_M_isWithin ∈ GT := gm 234 rfl rfl
theorem g_235 : Cond.code y_M_isWithin prog_1_method_17_code 3 (some .boolean) ∈ GT := gm 235 rfl rfl
theorem g_236 : Cond.classLink "RubbingMirrors" 62 "java/lang/IllegalArgumentException" ∈ GT := gm 236 rfl rfl
theorem g_237 : Cond.instantiable "java/lang/IllegalArgumentException" 6 ∈ GT := gm 237 rfl rfl
theorem g_239 : Cond.selects "java/lang/IllegalArgumentException" ⟨"java/lang/Throwable", "fillInStackTrace", "(I)Ljava/lang/Throwable;"⟩ ⟨"java/lang/Throwable", "fillInStackTrace", "(I)Ljava/lang/Throwable;"⟩ ∈ GT := gm 239 rfl rfl
theorem g_240 : Cond.lays "java/lang/IllegalArgumentException" "java/lang/Throwable" "cause" "Ljava/lang/Throwable;" ∈ GT := gm 240 rfl rfl
theorem g_241 : Cond.lays "java/lang/IllegalArgumentException" "java/lang/Throwable" "stackTrace" "[Ljava/lang/StackTraceElement;" ∈ GT := gm 241 rfl rfl
theorem g_242 : Cond.lays "java/lang/IllegalArgumentException" "java/lang/Throwable" "suppressedExceptions" "Ljava/util/List;" ∈ GT := gm 242 rfl rfl
theorem g_243 : Cond.lays "java/lang/IllegalArgumentException" "java/lang/Throwable" "detailMessage" "Ljava/lang/String;" ∈ GT := gm 243 rfl rfl
theorem g_244 : Cond.lays "java/lang/IllegalArgumentException" "java/lang/Throwable" "backtrace" "Ljava/lang/Object;" ∈ GT := gm 244 rfl rfl
theorem g_246 : Cond.methodLink "RubbingMirrors" 66 ⟨"java/lang/IllegalArgumentException", "<init>", "(Ljava/lang/String;)V"⟩ ∈ GT := gm 246 rfl rfl
theorem g_247 : Cond.instanceMethod ⟨"java/lang/IllegalArgumentException", "<init>", "(Ljava/lang/String;)V"⟩ ∈ GT := gm 247 rfl rfl
theorem g_248 : Cond.code ⟨"java/lang/IllegalArgumentException", "<init>", "(Ljava/lang/String;)V"⟩ prog_12_method_2_code 2 none ∈ GT := gm 248 rfl rfl
theorem g_249 : Cond.methodLink "java/lang/IllegalArgumentException" 7 ⟨"java/lang/RuntimeException", "<init>", "(Ljava/lang/String;)V"⟩ ∈ GT := gm 249 rfl rfl
theorem g_250 : Cond.lays "java/lang/IllegalArgumentException" "java/lang/Throwable" "depth" "I" ∈ GT := gm 250 rfl rfl
theorem g_252 : Cond.methodLink "RubbingMirrors" 67 y_R_put ∈ GT := gm 252 rfl rfl
theorem g_253 : Cond.instanceMethod y_R_put ∈ GT := gm 253 rfl rfl
theorem g_254 : Cond.selects "RubbingMirrors$Row" y_R_put y_R_put ∈ GT := gm 254 rfl rfl
theorem g_255 : Cond.code y_R_put prog_4_method_8_code 3 none ∈ GT := gm 255 rfl rfl
theorem g_256 : Cond.methodLink "RubbingMirrors$Row" 25 y_R_has ∈ GT := gm 256 rfl rfl
theorem g_257 : Cond.methodLink "RubbingMirrorsLaw" 84 y_L_place ∈ GT := gm 257 rfl rfl
theorem g_258 : Cond.static y_L_place ∈ GT := gm 258 rfl rfl
theorem g_259 : Cond.codeWith y_L_place method_4_code 5 (some .int) [(0, 10, 13, 13)] ∈ GT := gm 259 rfl rfl
theorem g_260 : Cond.methodLink "RubbingMirrorsLaw" 17 y_M_place ∈ GT := gm 260 rfl rfl
theorem g_261 : Cond.instanceMethod y_M_place ∈ GT := gm 261 rfl rfl
theorem g_262 : Cond.selects "RubbingMirrors" y_M_place y_M_place ∈ GT := gm 262 rfl rfl
theorem g_263 : Cond.code y_M_place prog_1_method_3_code 3 (some .int) ∈ GT := gm 263 rfl rfl
theorem g_265 : Cond.methodLink "RubbingMirrors" 73 y_R_depthAt ∈ GT := gm 265 rfl rfl
theorem g_266 : Cond.instanceMethod y_R_depthAt ∈ GT := gm 266 rfl rfl
theorem g_267 : Cond.selects "RubbingMirrors$Row" y_R_depthAt y_R_depthAt ∈ GT := gm 267 rfl rfl
theorem g_268 : Cond.code y_R_depthAt prog_4_method_5_code 2 (some .int) ∈ GT := gm 268 rfl rfl
theorem g_269 : Cond.methodLink "RubbingMirrors" 77 y_R_isGuess ∈ GT := gm 269 rfl rfl
theorem g_270 : Cond.instanceMethod y_R_isGuess ∈ GT := gm 270 rfl rfl
theorem g_271 : Cond.selects "RubbingMirrors$Row" y_R_isGuess y_R_isGuess ∈ GT := gm 271 rfl rfl
theorem g_272 : Cond.code y_R_isGuess prog_4_method_6_code 2 (some .boolean) ∈ GT := gm 272 rfl rfl
theorem g_273 : Cond.methodLink "RubbingMirrorsLaw" 88 y_L_mirror ∈ GT := gm 273 rfl rfl
theorem g_274 : Cond.static y_L_mirror ∈ GT := gm 274 rfl rfl
theorem g_275 : Cond.codeWith y_L_mirror method_5_code 4 (some .int) [(0, 8, 11, 25), (0, 8, 14, 13)] ∈ GT := gm 275 rfl rfl
theorem g_276 : Cond.classLink "RubbingMirrorsLaw" 25 "java/lang/IllegalStateException" ∈ GT := gm 276 rfl rfl
theorem g_277 : Cond.methodLink "RubbingMirrorsLaw" 21 y_M_mirror ∈ GT := gm 277 rfl rfl
theorem g_278 : Cond.instanceMethod y_M_mirror ∈ GT := gm 278 rfl rfl
theorem g_279 : Cond.selects "RubbingMirrors" y_M_mirror y_M_mirror ∈ GT := gm 279 rfl rfl
theorem g_280 : Cond.code y_M_mirror prog_1_method_4_code 2 (some .long) ∈ GT := gm 280 rfl rfl
theorem g_281 : Cond.methodLink "RubbingMirrors" 80 y_M_findMirror ∈ GT := gm 281 rfl rfl
theorem g_283 : Cond.instanceMethod y_M_findMirror ∈ GT := gm 283 rfl rfl
theorem g_284 : Cond.code y_M_findMirror prog_1_method_18_code 4 none ∈ GT := gm 284 rfl rfl
theorem g_285 : Cond.methodLink "RubbingMirrors" 102 y_R_size ∈ GT := gm 285 rfl rfl
theorem g_286 : Cond.instanceMethod y_R_size ∈ GT := gm 286 rfl rfl
theorem g_287 : Cond.selects "RubbingMirrors$Row" y_R_size y_R_size ∈ GT := gm 287 rfl rfl
theorem g_288 : Cond.code y_R_size prog_4_method_2_code 1 (some .int) ∈ GT := gm 288 rfl rfl
theorem g_289 : Cond.methodLink "RubbingMirrors" 223 y_B_clear ∈ GT := gm 289 rfl rfl
theorem g_290 : Cond.instanceMethod y_B_clear ∈ GT := gm 290 rfl rfl
theorem g_291 : Cond.selects "RubbingMirrors$Best" y_B_clear y_B_clear ∈ GT := gm 291 rfl rfl
theorem g_292 : Cond.code y_B_clear prog_2_method_2_code 1 none ∈ GT := gm 292 rfl rfl
theorem g_293 : Cond.methodLink "RubbingMirrors" 116 y_R_lastMirror ∈ GT := gm 293 rfl rfl
theorem g_294 : Cond.instanceMethod y_R_lastMirror ∈ GT := gm 294 rfl rfl
theorem g_295 : Cond.selects "RubbingMirrors$Row" y_R_lastMirror y_R_lastMirror ∈ GT := gm 295 rfl rfl
theorem g_296 : Cond.code y_R_lastMirror prog_4_method_3_code 1 (some .int) ∈ GT := gm 296 rfl rfl
theorem g_297 : Cond.methodLink "RubbingMirrors" 226 y_R_mirrorPairs ∈ GT := gm 297 rfl rfl
theorem g_298 : Cond.instanceMethod y_R_mirrorPairs ∈ GT := gm 298 rfl rfl
theorem g_299 : Cond.selects "RubbingMirrors$Row" y_R_mirrorPairs y_R_mirrorPairs ∈ GT := gm 299 rfl rfl
theorem g_300 : Cond.code y_R_mirrorPairs prog_4_method_9_code 4 (some .int) ∈ GT := gm 300 rfl rfl
theorem g_301 : Cond.methodLink "RubbingMirrors$Row" 29 y_R_isKnown ∈ GT := gm 301 rfl rfl
theorem g_302 : Cond.instanceMethod y_R_isKnown ∈ GT := gm 302 rfl rfl
theorem g_303 : Cond.selects "RubbingMirrors$Row" y_R_isKnown y_R_isKnown ∈ GT := gm 303 rfl rfl
theorem g_304 : Cond.code y_R_isKnown prog_4_method_7_code 2 (some .boolean) ∈ GT := gm 304 rfl rfl
theorem g_305 : Cond.methodLink "RubbingMirrors" 229 y_R_mirrorOff ∈ GT := gm 305 rfl rfl
theorem g_306 : Cond.instanceMethod y_R_mirrorOff ∈ GT := gm 306 rfl rfl
theorem g_307 : Cond.selects "RubbingMirrors$Row" y_R_mirrorOff y_R_mirrorOff ∈ GT := gm 307 rfl rfl
theorem g_308 : Cond.code y_R_mirrorOff prog_4_method_10_code 5 (some .int) ∈ GT := gm 308 rfl rfl
theorem g_309 : Cond.methodLink "RubbingMirrors" 232 y_B_offer ∈ GT := gm 309 rfl rfl
theorem g_310 : Cond.instanceMethod y_B_offer ∈ GT := gm 310 rfl rfl
theorem g_311 : Cond.selects "RubbingMirrors$Best" y_B_offer y_B_offer ∈ GT := gm 311 rfl rfl
theorem g_312 : Cond.code y_B_offer prog_2_method_3_code 5 none ∈ GT := gm 312 rfl rfl
theorem g_313 : Cond.methodLink "RubbingMirrors$Best" 13 y_B_isBetter ∈ GT := gm 313 rfl rfl
theorem g_315 : Cond.instanceMethod y_B_isBetter ∈ GT := gm 315 rfl rfl
theorem g_316 : Cond.code y_B_isBetter prog_2_method_4_code 7 (some .boolean) ∈ GT := gm 316 rfl rfl
theorem g_317 : Cond.classLink "RubbingMirrors" 87 "java/lang/IllegalStateException" ∈ GT := gm 317 rfl rfl
theorem g_318 : Cond.instantiable "java/lang/IllegalStateException" 6 ∈ GT := gm 318 rfl rfl
theorem g_320 : Cond.selects "java/lang/IllegalStateException" ⟨"java/lang/Throwable", "fillInStackTrace", "(I)Ljava/lang/Throwable;"⟩ ⟨"java/lang/Throwable", "fillInStackTrace", "(I)Ljava/lang/Throwable;"⟩ ∈ GT := gm 320 rfl rfl
theorem g_321 : Cond.lays "java/lang/IllegalStateException" "java/lang/Throwable" "cause" "Ljava/lang/Throwable;" ∈ GT := gm 321 rfl rfl
theorem g_322 : Cond.lays "java/lang/IllegalStateException" "java/lang/Throwable" "stackTrace" "[Ljava/lang/StackTraceElement;" ∈ GT := gm 322 rfl rfl
theorem g_323 : Cond.lays "java/lang/IllegalStateException" "java/lang/Throwable" "suppressedExceptions" "Ljava/util/List;" ∈ GT := gm 323 rfl rfl
theorem g_324 : Cond.lays "java/lang/IllegalStateException" "java/lang/Throwable" "detailMessage" "Ljava/lang/String;" ∈ GT := gm 324 rfl rfl
theorem g_325 : Cond.lays "java/lang/IllegalStateException" "java/lang/Throwable" "backtrace" "Ljava/lang/Object;" ∈ GT := gm 325 rfl rfl
theorem g_327 : Cond.methodLink "RubbingMirrors" 91 ⟨"java/lang/IllegalStateException", "<init>", "(Ljava/lang/String;)V"⟩ ∈ GT := gm 327 rfl rfl
theorem g_328 : Cond.instanceMethod ⟨"java/lang/IllegalStateException", "<init>", "(Ljava/lang/String;)V"⟩ ∈ GT := gm 328 rfl rfl
theorem g_329 : Cond.code ⟨"java/lang/IllegalStateException", "<init>", "(Ljava/lang/String;)V"⟩ prog_13_method_2_code 2 none ∈ GT := gm 329 rfl rfl
theorem g_330 : Cond.methodLink "java/lang/IllegalStateException" 7 ⟨"java/lang/RuntimeException", "<init>", "(Ljava/lang/String;)V"⟩ ∈ GT := gm 330 rfl rfl
theorem g_331 : Cond.lays "java/lang/IllegalStateException" "java/lang/Throwable" "depth" "I" ∈ GT := gm 331 rfl rfl
theorem g_333 : Cond.methodLink "RubbingMirrorsLaw" 92 y_L_sum ∈ GT := gm 333 rfl rfl
theorem g_334 : Cond.static y_L_sum ∈ GT := gm 334 rfl rfl
theorem g_335 : Cond.codeWith y_L_sum method_6_code 4 (some .int) [(0, 8, 11, 15)] ∈ GT := gm 335 rfl rfl
theorem g_336 : Cond.methodLink "RubbingMirrorsLaw" 27 y_M_sum ∈ GT := gm 336 rfl rfl
theorem g_337 : Cond.instanceMethod y_M_sum ∈ GT := gm 337 rfl rfl
theorem g_338 : Cond.selects "RubbingMirrors" y_M_sum y_M_sum ∈ GT := gm 338 rfl rfl
theorem g_339 : Cond.code y_M_sum prog_1_method_5_code 2 (some .long) ∈ GT := gm 339 rfl rfl
theorem g_341 : Cond.methodLink "RubbingMirrors" 108 y_R_repeatSum ∈ GT := gm 341 rfl rfl
theorem g_342 : Cond.instanceMethod y_R_repeatSum ∈ GT := gm 342 rfl rfl
theorem g_343 : Cond.selects "RubbingMirrors$Row" y_R_repeatSum y_R_repeatSum ∈ GT := gm 343 rfl rfl
theorem g_344 : Cond.code y_R_repeatSum prog_4_method_11_code 5 (some .long) ∈ GT := gm 344 rfl rfl
theorem g_345 : Cond.methodLink "RubbingMirrorsLaw" 95 y_L_repeat_ ∈ GT := gm 345 rfl rfl
theorem g_346 : Cond.static y_L_repeat_ ∈ GT := gm 346 rfl rfl
theorem g_347 : Cond.codeWith y_L_repeat_ method_7_code 5 (some .int) [(0, 10, 13, 15)] ∈ GT := gm 347 rfl rfl
theorem g_348 : Cond.methodLink "RubbingMirrorsLaw" 30 y_M_repeat_ ∈ GT := gm 348 rfl rfl
theorem g_349 : Cond.instanceMethod y_M_repeat_ ∈ GT := gm 349 rfl rfl
theorem g_350 : Cond.selects "RubbingMirrors" y_M_repeat_ y_M_repeat_ ∈ GT := gm 350 rfl rfl
theorem g_351 : Cond.code y_M_repeat_ prog_1_method_6_code 10 (some .int) ∈ GT := gm 351 rfl rfl
theorem g_353 : Cond.methodLink "RubbingMirrorsLaw" 98 y_L_fill ∈ GT := gm 353 rfl rfl
theorem g_354 : Cond.static y_L_fill ∈ GT := gm 354 rfl rfl
theorem g_355 : Cond.codeWith y_L_fill method_8_code 5 (some .int) [(0, 10, 13, 15)] ∈ GT := gm 355 rfl rfl
theorem g_356 : Cond.methodLink "RubbingMirrorsLaw" 33 y_M_fill ∈ GT := gm 356 rfl rfl
theorem g_357 : Cond.instanceMethod y_M_fill ∈ GT := gm 357 rfl rfl
theorem g_358 : Cond.selects "RubbingMirrors" y_M_fill y_M_fill ∈ GT := gm 358 rfl rfl
theorem g_359 : Cond.code y_M_fill prog_1_method_7_code 3 (some .int) ∈ GT := gm 359 rfl rfl
theorem g_362 : Cond.methodLink "RubbingMirrors" 121 y_R_guessLost ∈ GT := gm 362 rfl rfl
theorem g_363 : Cond.instanceMethod y_R_guessLost ∈ GT := gm 363 rfl rfl
theorem g_364 : Cond.selects "RubbingMirrors$Row" y_R_guessLost y_R_guessLost ∈ GT := gm 364 rfl rfl
theorem g_365 : Cond.code y_R_guessLost prog_4_method_12_code 6 (some .int) ∈ GT := gm 365 rfl rfl
theorem g_366 : Cond.methodLink "RubbingMirrors$Row" 32 y_R_sourceFor ∈ GT := gm 366 rfl rfl
theorem g_368 : Cond.instanceMethod y_R_sourceFor ∈ GT := gm 368 rfl rfl
theorem g_369 : Cond.code y_R_sourceFor prog_4_method_13_code 5 (some .int) ∈ GT := gm 369 rfl rfl
theorem g_370 : Cond.methodLink "RubbingMirrorsLaw" 105 y_L_shape ∈ GT := gm 370 rfl rfl
theorem g_371 : Cond.static y_L_shape ∈ GT := gm 371 rfl rfl
theorem g_372 : Cond.codeWith y_L_shape method_9_code 4 (some .int) [(0, 9, 12, 15), (0, 9, 15, 25)] ∈ GT := gm 372 rfl rfl
theorem g_373 : Cond.methodLink "RubbingMirrorsLaw" 36 y_M_shape ∈ GT := gm 373 rfl rfl
theorem g_374 : Cond.instanceMethod y_M_shape ∈ GT := gm 374 rfl rfl
theorem g_375 : Cond.selects "RubbingMirrors" y_M_shape y_M_shape ∈ GT := gm 375 rfl rfl
theorem g_376 : Cond.code y_M_shape prog_1_method_9_code 2 (some .int) ∈ GT := gm 376 rfl rfl
theorem g_378 : Cond.methodLink "RubbingMirrors" 129 y_A_size ∈ GT := gm 378 rfl rfl
theorem g_379 : Cond.instanceMethod y_A_size ∈ GT := gm 379 rfl rfl
theorem g_380 : Cond.selects "java/util/ArrayList" y_A_size y_A_size ∈ GT := gm 380 rfl rfl
theorem g_381 : Cond.code y_A_size prog_23_method_8_code 1 (some .int) ∈ GT := gm 381 rfl rfl
theorem g_383 : Cond.classLink "RubbingMirrors" 132 "RubbingMirrors$Shape" ∈ GT := gm 383 rfl rfl
theorem g_384 : Cond.instantiable "RubbingMirrors$Shape" 1 ∈ GT := gm 384 rfl rfl
theorem g_385 : Cond.methodLink "RubbingMirrors" 134 y_S_init ∈ GT := gm 385 rfl rfl
theorem g_386 : Cond.instanceMethod y_S_init ∈ GT := gm 386 rfl rfl
theorem g_387 : Cond.code y_S_init prog_6_method_1_code 2 none ∈ GT := gm 387 rfl rfl
theorem g_388 : Cond.methodLink "RubbingMirrors$Shape" 3 y_O_init ∈ GT := gm 388 rfl rfl
theorem g_389 : Cond.methodLink "RubbingMirrors$Shape" 15 y_AR_fill ∈ GT := gm 389 rfl rfl
theorem g_390 : Cond.fieldLink "RubbingMirrors$Shape" 9 "RubbingMirrors$Shape" "depths" "[I" ∈ GT := gm 390 rfl rfl
theorem g_391 : Cond.laysFinal "RubbingMirrors$Shape" "RubbingMirrors$Shape" "depths" "[I" ∈ GT := gm 391 rfl rfl
theorem g_394 : Cond.methodLink "RubbingMirrors" 135 y_A_add ∈ GT := gm 394 rfl rfl
theorem g_395 : Cond.instanceMethod y_A_add ∈ GT := gm 395 rfl rfl
theorem g_396 : Cond.selects "java/util/ArrayList" y_A_add y_A_add ∈ GT := gm 396 rfl rfl
theorem g_397 : Cond.code y_A_add prog_23_method_25_code 2 (some .boolean) ∈ GT := gm 397 rfl rfl
theorem g_398 : Cond.methodLink "java/util/ArrayList" 131 y_A_add2 ∈ GT := gm 398 rfl rfl
theorem g_400 : Cond.instanceMethod y_A_add2 ∈ GT := gm 400 rfl rfl
set_option maxRecDepth 20000 in
theorem g_401 : Cond.code y_A_add2 prog_23_method_24_code 4 none ∈ GT := gm 401 rfl rfl
set_option maxRecDepth 20000 in
theorem g_402 : Cond.methodLink "java/util/ArrayList" 129 y_A_grow ∈ GT := gm 402 rfl rfl
set_option maxRecDepth 20000 in
theorem g_404 : Cond.instanceMethod y_A_grow ∈ GT := gm 404 rfl rfl
set_option maxRecDepth 20000 in
theorem g_405 : Cond.code y_A_grow prog_23_method_7_code 1 (some (.array (.object "java/lang/Object"))) ∈ GT := gm 405 rfl rfl
set_option maxRecDepth 20000 in
theorem g_406 : Cond.methodLink "java/util/ArrayList" 69 y_A_grow2 ∈ GT := gm 406 rfl rfl
set_option maxRecDepth 20000 in
theorem g_408 : Cond.instanceMethod y_A_grow2 ∈ GT := gm 408 rfl rfl
set_option maxRecDepth 20000 in
theorem g_409 : Cond.code y_A_grow2 prog_23_method_6_code 4 (some (.array (.object "java/lang/Object"))) ∈ GT := gm 409 rfl rfl
set_option maxRecDepth 20000 in
theorem g_410 : Cond.methodLink "java/util/ArrayList" 73 y_AS_newLength ∈ GT := gm 410 rfl rfl
set_option maxRecDepth 20000 in
theorem g_411 : Cond.static y_AS_newLength ∈ GT := gm 411 rfl rfl
set_option maxRecDepth 20000 in
theorem g_412 : Cond.code y_AS_newLength prog_30_method_27_code 4 (some .int) ∈ GT := gm 412 rfl rfl
set_option maxRecDepth 20000 in
theorem g_413 : Cond.methodLink "jdk/internal/util/ArraysSupport" 194 y_MA_max ∈ GT := gm 413 rfl rfl
set_option maxRecDepth 20000 in
theorem g_414 : Cond.constant "jdk/internal/util/ArraysSupport" 200 (2147483639 : Int32) ∈ GT := gm 414 rfl rfl
set_option maxRecDepth 20000 in
theorem g_415 : Cond.methodLink "jdk/internal/util/ArraysSupport" 201 y_AS_hugeLength ∈ GT := gm 415 rfl rfl
set_option maxRecDepth 20000 in
theorem g_416 : Cond.static y_AS_hugeLength ∈ GT := gm 416 rfl rfl
set_option maxRecDepth 20000 in
theorem g_417 : Cond.code y_AS_hugeLength prog_30_method_28_code 3 (some .int) ∈ GT := gm 417 rfl rfl
set_option maxRecDepth 20000 in
theorem g_418 : Cond.methodLink "java/util/ArrayList" 66 y_AR_copyOf ∈ GT := gm 418 rfl rfl
set_option maxRecDepth 20000 in
theorem g_419 : Cond.static y_AR_copyOf ∈ GT := gm 419 rfl rfl
set_option maxRecDepth 20000 in
theorem g_420 : Cond.code y_AR_copyOf prog_24_method_119_code 2 (some (.array (.object "java/lang/Object"))) ∈ GT := gm 420 rfl rfl
set_option maxRecDepth 20000 in
theorem g_421 : Cond.methodLink "java/util/Arrays" 86 ⟨"java/lang/Object", "getClass", "()Ljava/lang/Class;"⟩ ∈ GT := gm 421 rfl rfl
set_option maxRecDepth 20000 in
theorem g_422 : Cond.instanceMethod ⟨"java/lang/Object", "getClass", "()Ljava/lang/Class;"⟩ ∈ GT := gm 422 rfl rfl
set_option maxRecDepth 20000 in
theorem g_423 : Cond.sameMethod "java/lang/Object" "java/lang/Object" "getClass" "()Ljava/lang/Class;" ∈ GT := gm 423 rfl rfl
set_option maxRecDepth 20000 in
theorem g_424 : Cond.selects "RubbingMirrors" ⟨"java/lang/Object", "getClass", "()Ljava/lang/Class;"⟩ ⟨"java/lang/Object", "getClass", "()Ljava/lang/Class;"⟩ ∈ GT := gm 424 rfl rfl
set_option maxRecDepth 20000 in
theorem g_425 : Cond.selects "RubbingMirrors$Best" ⟨"java/lang/Object", "getClass", "()Ljava/lang/Class;"⟩ ⟨"java/lang/Object", "getClass", "()Ljava/lang/Class;"⟩ ∈ GT := gm 425 rfl rfl
set_option maxRecDepth 20000 in
theorem g_426 : Cond.selects "RubbingMirrors$Node" ⟨"java/lang/Object", "getClass", "()Ljava/lang/Class;"⟩ ⟨"java/lang/Object", "getClass", "()Ljava/lang/Class;"⟩ ∈ GT := gm 426 rfl rfl
set_option maxRecDepth 20000 in
theorem g_427 : Cond.selects "RubbingMirrors$Row" ⟨"java/lang/Object", "getClass", "()Ljava/lang/Class;"⟩ ⟨"java/lang/Object", "getClass", "()Ljava/lang/Class;"⟩ ∈ GT := gm 427 rfl rfl
set_option maxRecDepth 20000 in
theorem g_428 : Cond.selects "RubbingMirrors$Rule" ⟨"java/lang/Object", "getClass", "()Ljava/lang/Class;"⟩ ⟨"java/lang/Object", "getClass", "()Ljava/lang/Class;"⟩ ∈ GT := gm 428 rfl rfl
set_option maxRecDepth 20000 in
theorem g_429 : Cond.selects "RubbingMirrors$Shape" ⟨"java/lang/Object", "getClass", "()Ljava/lang/Class;"⟩ ⟨"java/lang/Object", "getClass", "()Ljava/lang/Class;"⟩ ∈ GT := gm 429 rfl rfl
set_option maxRecDepth 20000 in
theorem g_430 : Cond.selects "RubbingMirrorsModel" ⟨"java/lang/Object", "getClass", "()Ljava/lang/Class;"⟩ ⟨"java/lang/Object", "getClass", "()Ljava/lang/Class;"⟩ ∈ GT := gm 430 rfl rfl
set_option maxRecDepth 20000 in
theorem g_431 : Cond.selects "java/lang/IllegalArgumentException" ⟨"java/lang/Object", "getClass", "()Ljava/lang/Class;"⟩ ⟨"java/lang/Object", "getClass", "()Ljava/lang/Class;"⟩ ∈ GT := gm 431 rfl rfl
set_option maxRecDepth 20000 in
theorem g_432 : Cond.selects "java/lang/IllegalStateException" ⟨"java/lang/Object", "getClass", "()Ljava/lang/Class;"⟩ ⟨"java/lang/Object", "getClass", "()Ljava/lang/Class;"⟩ ∈ GT := gm 432 rfl rfl
set_option maxRecDepth 20000 in
theorem g_433 : Cond.selects "java/lang/IndexOutOfBoundsException" ⟨"java/lang/Object", "getClass", "()Ljava/lang/Class;"⟩ ⟨"java/lang/Object", "getClass", "()Ljava/lang/Class;"⟩ ∈ GT := gm 433 rfl rfl
set_option maxRecDepth 20000 in
theorem g_434 : Cond.selects "java/util/ArrayList" ⟨"java/lang/Object", "getClass", "()Ljava/lang/Class;"⟩ ⟨"java/lang/Object", "getClass", "()Ljava/lang/Class;"⟩ ∈ GT := gm 434 rfl rfl
set_option maxRecDepth 20000 in
theorem g_435 : Cond.native ⟨"java/lang/Object", "getClass", "()Ljava/lang/Class;"⟩ ∈ GT := gm 435 rfl rfl
set_option maxRecDepth 20000 in
theorem g_436 : Cond.methodLink "java/util/Arrays" 300 y_AR_copyOf2 ∈ GT := gm 436 rfl rfl
set_option maxRecDepth 20000 in
theorem g_437 : Cond.static y_AR_copyOf2 ∈ GT := gm 437 rfl rfl
set_option maxRecDepth 20000 in
theorem g_438 : Cond.code y_AR_copyOf2 prog_24_method_120_code 4 (some (.array (.object "java/lang/Object"))) ∈ GT := gm 438 rfl rfl
set_option maxRecDepth 20000 in
theorem g_439 : Cond.classLink "java/util/Arrays" 110 "[Ljava/lang/Object;" ∈ GT := gm 439 rfl rfl
set_option maxRecDepth 20000 in
theorem g_441 : Cond.classLink "java/util/Arrays" 2 "java/lang/Object" ∈ GT := gm 441 rfl rfl
set_option maxRecDepth 20000 in
theorem g_442 : Cond.methodLink "java/util/Arrays" 304 y_MA_min ∈ GT := gm 442 rfl rfl
set_option maxRecDepth 20000 in
theorem g_443 : Cond.methodLink "java/util/Arrays" 150 ⟨"java/lang/System", "arraycopy", "(Ljava/lang/Object;ILjava/lang/Object;II)V"⟩ ∈ GT := gm 443 rfl rfl
set_option maxRecDepth 20000 in
theorem g_444 : Cond.static ⟨"java/lang/System", "arraycopy", "(Ljava/lang/Object;ILjava/lang/Object;II)V"⟩ ∈ GT := gm 444 rfl rfl
set_option maxRecDepth 20000 in
theorem g_445 : Cond.native ⟨"java/lang/System", "arraycopy", "(Ljava/lang/Object;ILjava/lang/Object;II)V"⟩ ∈ GT := gm 445 rfl rfl
set_option maxRecDepth 20000 in
theorem g_446 : Cond.methodLink "java/util/ArrayList" 79 y_MA_max ∈ GT := gm 446 rfl rfl
set_option maxRecDepth 20000 in
theorem g_447 : Cond.classLink "java/util/ArrayList" 7 "java/lang/Object" ∈ GT := gm 447 rfl rfl
set_option maxRecDepth 20000 in
theorem g_448 : Cond.methodLink "RubbingMirrorsLaw" 108 y_L_carve ∈ GT := gm 448 rfl rfl
set_option maxRecDepth 20000 in
theorem g_449 : Cond.static y_L_carve ∈ GT := gm 449 rfl rfl
set_option maxRecDepth 20000 in
theorem g_450 : Cond.codeWith y_L_carve method_10_code 5 (some .int) [(0, 7, 10, 13), (0, 7, 14, 15)] ∈ GT := gm 450 rfl rfl
set_option maxRecDepth 20000 in
theorem g_451 : Cond.methodLink "RubbingMirrorsLaw" 40 y_M_carve ∈ GT := gm 451 rfl rfl
set_option maxRecDepth 20000 in
theorem g_452 : Cond.instanceMethod y_M_carve ∈ GT := gm 452 rfl rfl
set_option maxRecDepth 20000 in
theorem g_453 : Cond.selects "RubbingMirrors" y_M_carve y_M_carve ∈ GT := gm 453 rfl rfl
set_option maxRecDepth 20000 in
theorem g_454 : Cond.code y_M_carve prog_1_method_10_code 5 none ∈ GT := gm 454 rfl rfl
set_option maxRecDepth 20000 in
theorem g_456 : Cond.methodLink "RubbingMirrors" 141 y_A_get ∈ GT := gm 456 rfl rfl
set_option maxRecDepth 20000 in
theorem g_457 : Cond.instanceMethod y_A_get ∈ GT := gm 457 rfl rfl
set_option maxRecDepth 20000 in
theorem g_458 : Cond.selects "java/util/ArrayList" y_A_get y_A_get ∈ GT := gm 458 rfl rfl
set_option maxRecDepth 20000 in
theorem g_459 : Cond.code y_A_get prog_23_method_20_code 2 (some (.object "java/lang/Object")) ∈ GT := gm 459 rfl rfl
set_option maxRecDepth 20000 in
theorem g_460 : Cond.methodLink "java/util/ArrayList" 118 y_OB_checkIndex ∈ GT := gm 460 rfl rfl
set_option maxRecDepth 20000 in
theorem g_461 : Cond.static y_OB_checkIndex ∈ GT := gm 461 rfl rfl
set_option maxRecDepth 20000 in
theorem g_462 : Cond.code y_OB_checkIndex prog_27_method_17_code 2 (some .int) ∈ GT := gm 462 rfl rfl
set_option maxRecDepth 20000 in
theorem g_463 : Cond.methodLink "java/util/Objects" 105 y_PC_checkIndex ∈ GT := gm 463 rfl rfl
set_option maxRecDepth 20000 in
theorem g_464 : Cond.static y_PC_checkIndex ∈ GT := gm 464 rfl rfl
set_option maxRecDepth 20000 in
theorem g_465 : Cond.code y_PC_checkIndex prog_31_method_11_code 3 (some .int) ∈ GT := gm 465 rfl rfl
set_option maxRecDepth 20000 in
theorem g_466 : Cond.methodLink "java/util/ArrayList" 123 y_A_elementData ∈ GT := gm 466 rfl rfl
set_option maxRecDepth 20000 in
theorem g_467 : Cond.instanceMethod y_A_elementData ∈ GT := gm 467 rfl rfl
set_option maxRecDepth 20000 in
theorem g_468 : Cond.selects "java/util/ArrayList" y_A_elementData y_A_elementData ∈ GT := gm 468 rfl rfl
set_option maxRecDepth 20000 in
theorem g_469 : Cond.code y_A_elementData prog_23_method_18_code 2 (some (.object "java/lang/Object")) ∈ GT := gm 469 rfl rfl
set_option maxRecDepth 20000 in
theorem g_470 : Cond.methodLink "RubbingMirrors" 145 y_S_has ∈ GT := gm 470 rfl rfl
set_option maxRecDepth 20000 in
theorem g_471 : Cond.instanceMethod y_S_has ∈ GT := gm 471 rfl rfl
set_option maxRecDepth 20000 in
theorem g_472 : Cond.selects "RubbingMirrors$Shape" y_S_has y_S_has ∈ GT := gm 472 rfl rfl
set_option maxRecDepth 20000 in
theorem g_473 : Cond.code y_S_has prog_6_method_2_code 2 (some .boolean) ∈ GT := gm 473 rfl rfl
set_option maxRecDepth 20000 in
theorem g_476 : Cond.methodLink "RubbingMirrors" 150 y_S_put ∈ GT := gm 476 rfl rfl
set_option maxRecDepth 20000 in
theorem g_477 : Cond.instanceMethod y_S_put ∈ GT := gm 477 rfl rfl
set_option maxRecDepth 20000 in
theorem g_478 : Cond.selects "RubbingMirrors$Shape" y_S_put y_S_put ∈ GT := gm 478 rfl rfl
set_option maxRecDepth 20000 in
theorem g_479 : Cond.code y_S_put prog_6_method_3_code 3 none ∈ GT := gm 479 rfl rfl
set_option maxRecDepth 20000 in
theorem g_480 : Cond.methodLink "RubbingMirrors$Shape" 21 y_S_has ∈ GT := gm 480 rfl rfl
set_option maxRecDepth 20000 in
theorem g_481 : Cond.methodLink "RubbingMirrorsLaw" 112 y_L_match_ ∈ GT := gm 481 rfl rfl
set_option maxRecDepth 20000 in
theorem g_482 : Cond.static y_L_match_ ∈ GT := gm 482 rfl rfl
set_option maxRecDepth 20000 in
theorem g_483 : Cond.codeWith y_L_match_ method_11_code 4 (some .int) [(0, 9, 12, 25), (0, 9, 15, 13)] ∈ GT := gm 483 rfl rfl
set_option maxRecDepth 20000 in
theorem g_484 : Cond.methodLink "RubbingMirrorsLaw" 44 y_M_match_ ∈ GT := gm 484 rfl rfl
set_option maxRecDepth 20000 in
theorem g_485 : Cond.instanceMethod y_M_match_ ∈ GT := gm 485 rfl rfl
set_option maxRecDepth 20000 in
theorem g_486 : Cond.selects "RubbingMirrors" y_M_match_ y_M_match_ ∈ GT := gm 486 rfl rfl
set_option maxRecDepth 20000 in
theorem g_487 : Cond.code y_M_match_ prog_1_method_11_code 2 (some .int) ∈ GT := gm 487 rfl rfl
set_option maxRecDepth 20000 in
theorem g_488 : Cond.methodLink "RubbingMirrors" 151 y_M_findMatch ∈ GT := gm 488 rfl rfl
set_option maxRecDepth 20000 in
theorem g_490 : Cond.instanceMethod y_M_findMatch ∈ GT := gm 490 rfl rfl
set_option maxRecDepth 20000 in
theorem g_491 : Cond.code y_M_findMatch prog_1_method_19_code 5 none ∈ GT := gm 491 rfl rfl
set_option maxRecDepth 20000 in
theorem g_492 : Cond.methodLink "RubbingMirrors" 235 y_S_coverAt ∈ GT := gm 492 rfl rfl
set_option maxRecDepth 20000 in
theorem g_493 : Cond.instanceMethod y_S_coverAt ∈ GT := gm 493 rfl rfl
set_option maxRecDepth 20000 in
theorem g_494 : Cond.selects "RubbingMirrors$Shape" y_S_coverAt y_S_coverAt ∈ GT := gm 494 rfl rfl
set_option maxRecDepth 20000 in
theorem g_495 : Cond.code y_S_coverAt prog_6_method_5_code 5 (some .int) ∈ GT := gm 495 rfl rfl
set_option maxRecDepth 20000 in
theorem g_496 : Cond.methodLink "RubbingMirrors$Shape" 25 y_R_depthAt ∈ GT := gm 496 rfl rfl
set_option maxRecDepth 20000 in
theorem g_497 : Cond.methodLink "RubbingMirrors" 239 y_S_leastCover ∈ GT := gm 497 rfl rfl
set_option maxRecDepth 20000 in
theorem g_498 : Cond.instanceMethod y_S_leastCover ∈ GT := gm 498 rfl rfl
set_option maxRecDepth 20000 in
theorem g_499 : Cond.selects "RubbingMirrors$Shape" y_S_leastCover y_S_leastCover ∈ GT := gm 499 rfl rfl
set_option maxRecDepth 20000 in
theorem g_500 : Cond.code y_S_leastCover prog_6_method_4_code 1 (some .int) ∈ GT := gm 500 rfl rfl
set_option maxRecDepth 20000 in
theorem g_501 : Cond.methodLink "RubbingMirrors" 242 y_S_missAt ∈ GT := gm 501 rfl rfl
set_option maxRecDepth 20000 in
theorem g_502 : Cond.instanceMethod y_S_missAt ∈ GT := gm 502 rfl rfl
set_option maxRecDepth 20000 in
theorem g_503 : Cond.selects "RubbingMirrors$Shape" y_S_missAt y_S_missAt ∈ GT := gm 503 rfl rfl
set_option maxRecDepth 20000 in
theorem g_504 : Cond.code y_S_missAt prog_6_method_6_code 6 (some .int) ∈ GT := gm 504 rfl rfl
set_option maxRecDepth 20000 in
theorem g_505 : Cond.methodLink "RubbingMirrors$Shape" 31 y_MA_abs ∈ GT := gm 505 rfl rfl
set_option maxRecDepth 20000 in
theorem g_506 : Cond.static y_MA_abs ∈ GT := gm 506 rfl rfl
set_option maxRecDepth 20000 in
theorem g_507 : Cond.code y_MA_abs prog_16_method_59_code 1 (some .int) ∈ GT := gm 507 rfl rfl
set_option maxRecDepth 20000 in
theorem g_509 : Cond.methodLink "RubbingMirrorsLaw" 115 y_L_kind ∈ GT := gm 509 rfl rfl
set_option maxRecDepth 20000 in
theorem g_510 : Cond.static y_L_kind ∈ GT := gm 510 rfl rfl
set_option maxRecDepth 20000 in
theorem g_511 : Cond.codeWith y_L_kind method_12_code 4 (some .int) [(0, 9, 12, 15), (0, 9, 15, 25)] ∈ GT := gm 511 rfl rfl
set_option maxRecDepth 20000 in
theorem g_512 : Cond.methodLink "RubbingMirrorsLaw" 47 y_M_kind ∈ GT := gm 512 rfl rfl
set_option maxRecDepth 20000 in
theorem g_513 : Cond.instanceMethod y_M_kind ∈ GT := gm 513 rfl rfl
set_option maxRecDepth 20000 in
theorem g_514 : Cond.selects "RubbingMirrors" y_M_kind y_M_kind ∈ GT := gm 514 rfl rfl
set_option maxRecDepth 20000 in
theorem g_515 : Cond.code y_M_kind prog_1_method_12_code 2 (some .int) ∈ GT := gm 515 rfl rfl
set_option maxRecDepth 20000 in
theorem g_518 : Cond.classLink "RubbingMirrors" 163 "RubbingMirrors$Node" ∈ GT := gm 518 rfl rfl
set_option maxRecDepth 20000 in
theorem g_519 : Cond.instantiable "RubbingMirrors$Node" 4 ∈ GT := gm 519 rfl rfl
set_option maxRecDepth 20000 in
theorem g_520 : Cond.methodLink "RubbingMirrors" 165 y_N_init ∈ GT := gm 520 rfl rfl
set_option maxRecDepth 20000 in
theorem g_521 : Cond.instanceMethod y_N_init ∈ GT := gm 521 rfl rfl
set_option maxRecDepth 20000 in
theorem g_522 : Cond.code y_N_init prog_3_method_1_code 5 none ∈ GT := gm 522 rfl rfl
set_option maxRecDepth 20000 in
theorem g_523 : Cond.methodLink "RubbingMirrors$Node" 3 y_O_init ∈ GT := gm 523 rfl rfl
set_option maxRecDepth 20000 in
theorem g_524 : Cond.fieldLink "RubbingMirrors$Node" 9 "RubbingMirrors$Node" "asked" "I" ∈ GT := gm 524 rfl rfl
set_option maxRecDepth 20000 in
theorem g_526 : Cond.fieldLink "RubbingMirrors$Node" 15 "RubbingMirrors$Node" "named" "I" ∈ GT := gm 526 rfl rfl
set_option maxRecDepth 20000 in
theorem g_528 : Cond.fieldLink "RubbingMirrors$Node" 18 "RubbingMirrors$Node" "no" "I" ∈ GT := gm 528 rfl rfl
set_option maxRecDepth 20000 in
theorem g_529 : Cond.fieldLink "RubbingMirrors$Node" 21 "RubbingMirrors$Node" "yes" "I" ∈ GT := gm 529 rfl rfl
set_option maxRecDepth 20000 in
theorem g_530 : Cond.laysFinal "RubbingMirrors$Node" "RubbingMirrors$Node" "asked" "I" ∈ GT := gm 530 rfl rfl
set_option maxRecDepth 20000 in
theorem g_532 : Cond.laysFinal "RubbingMirrors$Node" "RubbingMirrors$Node" "named" "I" ∈ GT := gm 532 rfl rfl
set_option maxRecDepth 20000 in
theorem g_534 : Cond.laysFinal "RubbingMirrors$Node" "RubbingMirrors$Node" "no" "I" ∈ GT := gm 534 rfl rfl
set_option maxRecDepth 20000 in
theorem g_536 : Cond.laysFinal "RubbingMirrors$Node" "RubbingMirrors$Node" "yes" "I" ∈ GT := gm 536 rfl rfl
set_option maxRecDepth 20000 in
theorem g_539 : Cond.methodLink "RubbingMirrorsLaw" 118 y_L_question ∈ GT := gm 539 rfl rfl
set_option maxRecDepth 20000 in
theorem g_540 : Cond.static y_L_question ∈ GT := gm 540 rfl rfl
set_option maxRecDepth 20000 in
theorem g_541 : Cond.codeWith y_L_question method_13_code 6 (some .int) [(0, 12, 15, 13), (0, 12, 19, 15), (0, 12, 23, 25)] ∈ GT := gm 541 rfl rfl
set_option maxRecDepth 20000 in
theorem g_542 : Cond.methodLink "RubbingMirrorsLaw" 50 y_M_question ∈ GT := gm 542 rfl rfl
set_option maxRecDepth 20000 in
theorem g_543 : Cond.instanceMethod y_M_question ∈ GT := gm 543 rfl rfl
set_option maxRecDepth 20000 in
theorem g_544 : Cond.selects "RubbingMirrors" y_M_question y_M_question ∈ GT := gm 544 rfl rfl
set_option maxRecDepth 20000 in
theorem g_545 : Cond.code y_M_question prog_1_method_13_code 5 (some .int) ∈ GT := gm 545 rfl rfl
set_option maxRecDepth 20000 in
theorem g_548 : Cond.methodLink "RubbingMirrorsLaw" 122 y_L_ask ∈ GT := gm 548 rfl rfl
set_option maxRecDepth 20000 in
theorem g_549 : Cond.static y_L_ask ∈ GT := gm 549 rfl rfl
set_option maxRecDepth 20000 in
theorem g_550 : Cond.codeWith y_L_ask method_14_code 5 (some .int) [(0, 10, 13, 15), (0, 10, 17, 25)] ∈ GT := gm 550 rfl rfl
set_option maxRecDepth 20000 in
theorem g_551 : Cond.methodLink "RubbingMirrorsLaw" 54 y_M_ask ∈ GT := gm 551 rfl rfl
set_option maxRecDepth 20000 in
theorem g_552 : Cond.instanceMethod y_M_ask ∈ GT := gm 552 rfl rfl
set_option maxRecDepth 20000 in
theorem g_553 : Cond.selects "RubbingMirrors" y_M_ask y_M_ask ∈ GT := gm 553 rfl rfl
set_option maxRecDepth 20000 in
theorem g_554 : Cond.code y_M_ask prog_1_method_14_code 4 (some .int) ∈ GT := gm 554 rfl rfl
set_option maxRecDepth 20000 in
theorem g_555 : Cond.constant "RubbingMirrors" 172 (65535 : Int32) ∈ GT := gm 555 rfl rfl
set_option maxRecDepth 20000 in
theorem g_557 : Cond.methodLink "RubbingMirrors" 175 y_A_isEmpty ∈ GT := gm 557 rfl rfl
set_option maxRecDepth 20000 in
theorem g_558 : Cond.instanceMethod y_A_isEmpty ∈ GT := gm 558 rfl rfl
set_option maxRecDepth 20000 in
theorem g_559 : Cond.selects "java/util/ArrayList" y_A_isEmpty y_A_isEmpty ∈ GT := gm 559 rfl rfl
set_option maxRecDepth 20000 in
theorem g_560 : Cond.code y_A_isEmpty prog_23_method_9_code 1 (some .boolean) ∈ GT := gm 560 rfl rfl
set_option maxRecDepth 20000 in
theorem g_562 : Cond.methodLink "RubbingMirrors" 181 y_M_lastAsked ∈ GT := gm 562 rfl rfl
set_option maxRecDepth 20000 in
theorem g_564 : Cond.instanceMethod y_M_lastAsked ∈ GT := gm 564 rfl rfl
set_option maxRecDepth 20000 in
theorem g_565 : Cond.code y_M_lastAsked prog_1_method_20_code 7 (some (.object "RubbingMirrors$Node")) ∈ GT := gm 565 rfl rfl
set_option maxRecDepth 20000 in
theorem g_566 : Cond.methodLink "RubbingMirrors" 245 y_N_isAnsweredBy ∈ GT := gm 566 rfl rfl
set_option maxRecDepth 20000 in
theorem g_567 : Cond.instanceMethod y_N_isAnsweredBy ∈ GT := gm 567 rfl rfl
set_option maxRecDepth 20000 in
theorem g_568 : Cond.selects "RubbingMirrors$Node" y_N_isAnsweredBy y_N_isAnsweredBy ∈ GT := gm 568 rfl rfl
set_option maxRecDepth 20000 in
theorem g_569 : Cond.code y_N_isAnsweredBy prog_3_method_3_code 2 (some .boolean) ∈ GT := gm 569 rfl rfl
set_option maxRecDepth 20000 in
theorem g_570 : Cond.methodLink "RubbingMirrors$Node" 24 y_N_isQuestion ∈ GT := gm 570 rfl rfl
set_option maxRecDepth 20000 in
theorem g_571 : Cond.instanceMethod y_N_isQuestion ∈ GT := gm 571 rfl rfl
set_option maxRecDepth 20000 in
theorem g_572 : Cond.selects "RubbingMirrors$Node" y_N_isQuestion y_N_isQuestion ∈ GT := gm 572 rfl rfl
set_option maxRecDepth 20000 in
theorem g_573 : Cond.code y_N_isQuestion prog_3_method_2_code 1 (some .boolean) ∈ GT := gm 573 rfl rfl
set_option maxRecDepth 20000 in
theorem g_574 : Cond.methodLink "RubbingMirrors" 248 y_N_nextBy ∈ GT := gm 574 rfl rfl
set_option maxRecDepth 20000 in
theorem g_575 : Cond.instanceMethod y_N_nextBy ∈ GT := gm 575 rfl rfl
set_option maxRecDepth 20000 in
theorem g_576 : Cond.selects "RubbingMirrors$Node" y_N_nextBy y_N_nextBy ∈ GT := gm 576 rfl rfl
set_option maxRecDepth 20000 in
theorem g_577 : Cond.code y_N_nextBy prog_3_method_4_code 2 (some .int) ∈ GT := gm 577 rfl rfl
set_option maxRecDepth 20000 in
theorem g_578 : Cond.methodLink "RubbingMirrors" 185 y_N_isQuestion ∈ GT := gm 578 rfl rfl
set_option maxRecDepth 20000 in
theorem g_579 : Cond.methodLink "RubbingMirrorsLaw" 125 y_L_rule ∈ GT := gm 579 rfl rfl
set_option maxRecDepth 20000 in
theorem g_580 : Cond.static y_L_rule ∈ GT := gm 580 rfl rfl
set_option maxRecDepth 20000 in
theorem g_581 : Cond.codeWith y_L_rule method_15_code 9 (some .int) [(0, 18, 21, 13), (0, 18, 25, 15), (0, 18, 29, 25)] ∈ GT := gm 581 rfl rfl
set_option maxRecDepth 20000 in
theorem g_582 : Cond.methodLink "RubbingMirrorsLaw" 57 y_M_rule ∈ GT := gm 582 rfl rfl
set_option maxRecDepth 20000 in
theorem g_583 : Cond.instanceMethod y_M_rule ∈ GT := gm 583 rfl rfl
set_option maxRecDepth 20000 in
theorem g_584 : Cond.selects "RubbingMirrors" y_M_rule y_M_rule ∈ GT := gm 584 rfl rfl
set_option maxRecDepth 20000 in
theorem g_585 : Cond.code y_M_rule prog_1_method_15_code 7 (some .int) ∈ GT := gm 585 rfl rfl
set_option maxRecDepth 20000 in
theorem g_591 : Cond.classLink "RubbingMirrors" 204 "RubbingMirrors$Rule" ∈ GT := gm 591 rfl rfl
set_option maxRecDepth 20000 in
theorem g_592 : Cond.instantiable "RubbingMirrors$Rule" 6 ∈ GT := gm 592 rfl rfl
set_option maxRecDepth 20000 in
theorem g_593 : Cond.methodLink "RubbingMirrors" 206 y_U_init ∈ GT := gm 593 rfl rfl
set_option maxRecDepth 20000 in
theorem g_594 : Cond.instanceMethod y_U_init ∈ GT := gm 594 rfl rfl
set_option maxRecDepth 20000 in
theorem g_595 : Cond.code y_U_init prog_5_method_1_code 7 none ∈ GT := gm 595 rfl rfl
set_option maxRecDepth 20000 in
theorem g_596 : Cond.methodLink "RubbingMirrors$Rule" 1 y_O_init ∈ GT := gm 596 rfl rfl
set_option maxRecDepth 20000 in
theorem g_597 : Cond.fieldLink "RubbingMirrors$Rule" 7 "RubbingMirrors$Rule" "from" "I" ∈ GT := gm 597 rfl rfl
set_option maxRecDepth 20000 in
theorem g_598 : Cond.fieldLink "RubbingMirrors$Rule" 13 "RubbingMirrors$Rule" "to" "I" ∈ GT := gm 598 rfl rfl
set_option maxRecDepth 20000 in
theorem g_599 : Cond.fieldLink "RubbingMirrors$Rule" 16 "RubbingMirrors$Rule" "least" "I" ∈ GT := gm 599 rfl rfl
set_option maxRecDepth 20000 in
theorem g_600 : Cond.fieldLink "RubbingMirrors$Rule" 19 "RubbingMirrors$Rule" "greatest" "I" ∈ GT := gm 600 rfl rfl
set_option maxRecDepth 20000 in
theorem g_601 : Cond.fieldLink "RubbingMirrors$Rule" 22 "RubbingMirrors$Rule" "year" "I" ∈ GT := gm 601 rfl rfl
set_option maxRecDepth 20000 in
theorem g_603 : Cond.fieldLink "RubbingMirrors$Rule" 25 "RubbingMirrors$Rule" "until" "I" ∈ GT := gm 603 rfl rfl
set_option maxRecDepth 20000 in
theorem g_605 : Cond.laysFinal "RubbingMirrors$Rule" "RubbingMirrors$Rule" "from" "I" ∈ GT := gm 605 rfl rfl
set_option maxRecDepth 20000 in
theorem g_607 : Cond.laysFinal "RubbingMirrors$Rule" "RubbingMirrors$Rule" "to" "I" ∈ GT := gm 607 rfl rfl
set_option maxRecDepth 20000 in
theorem g_609 : Cond.laysFinal "RubbingMirrors$Rule" "RubbingMirrors$Rule" "least" "I" ∈ GT := gm 609 rfl rfl
set_option maxRecDepth 20000 in
theorem g_611 : Cond.laysFinal "RubbingMirrors$Rule" "RubbingMirrors$Rule" "greatest" "I" ∈ GT := gm 611 rfl rfl
set_option maxRecDepth 20000 in
theorem g_613 : Cond.laysFinal "RubbingMirrors$Rule" "RubbingMirrors$Rule" "year" "I" ∈ GT := gm 613 rfl rfl
set_option maxRecDepth 20000 in
theorem g_615 : Cond.laysFinal "RubbingMirrors$Rule" "RubbingMirrors$Rule" "until" "I" ∈ GT := gm 615 rfl rfl
set_option maxRecDepth 20000 in
theorem g_618 : Cond.methodLink "RubbingMirrorsLaw" 129 y_L_age ∈ GT := gm 618 rfl rfl
set_option maxRecDepth 20000 in
theorem g_619 : Cond.static y_L_age ∈ GT := gm 619 rfl rfl
set_option maxRecDepth 20000 in
theorem g_620 : Cond.codeWith y_L_age method_16_code 4 (some .int) [(0, 9, 12, 13), (0, 9, 15, 25)] ∈ GT := gm 620 rfl rfl
set_option maxRecDepth 20000 in
theorem g_621 : Cond.methodLink "RubbingMirrorsLaw" 61 y_M_age ∈ GT := gm 621 rfl rfl
set_option maxRecDepth 20000 in
theorem g_622 : Cond.instanceMethod y_M_age ∈ GT := gm 622 rfl rfl
set_option maxRecDepth 20000 in
theorem g_623 : Cond.selects "RubbingMirrors" y_M_age y_M_age ∈ GT := gm 623 rfl rfl
set_option maxRecDepth 20000 in
theorem g_624 : Cond.code y_M_age prog_1_method_16_code 7 (some .int) ∈ GT := gm 624 rfl rfl
set_option maxRecDepth 20000 in
theorem g_625 : Cond.methodLink "RubbingMirrors" 209 y_U_holdsOn ∈ GT := gm 625 rfl rfl
set_option maxRecDepth 20000 in
theorem g_626 : Cond.instanceMethod y_U_holdsOn ∈ GT := gm 626 rfl rfl
set_option maxRecDepth 20000 in
theorem g_627 : Cond.selects "RubbingMirrors$Rule" y_U_holdsOn y_U_holdsOn ∈ GT := gm 627 rfl rfl
set_option maxRecDepth 20000 in
theorem g_628 : Cond.code y_U_holdsOn prog_5_method_2_code 3 (some .boolean) ∈ GT := gm 628 rfl rfl
set_option maxRecDepth 20000 in
theorem g_629 : Cond.methodLink "RubbingMirrors$Rule" 28 y_R_depthAt ∈ GT := gm 629 rfl rfl
set_option maxRecDepth 20000 in
theorem g_633 : Cond.classLink "RubbingMirrorsLaw" 73 "RubbingMirrorsModel" ∈ GT := gm 633 rfl rfl
set_option maxRecDepth 20000 in
theorem g_634 : Cond.instantiable "RubbingMirrorsModel" 17 ∈ GT := gm 634 rfl rfl
set_option maxRecDepth 20000 in
theorem g_635 : Cond.methodLink "RubbingMirrorsLaw" 75 y_T_init ∈ GT := gm 635 rfl rfl
set_option maxRecDepth 20000 in
theorem g_636 : Cond.instanceMethod y_T_init ∈ GT := gm 636 rfl rfl
set_option maxRecDepth 20000 in
theorem g_637 : Cond.code y_T_init prog_8_method_1_code 3 none ∈ GT := gm 637 rfl rfl
set_option maxRecDepth 20000 in
theorem g_638 : Cond.methodLink "RubbingMirrorsModel" 1 y_O_init ∈ GT := gm 638 rfl rfl
set_option maxRecDepth 20000 in
theorem g_639 : Cond.fieldLink "RubbingMirrorsModel" 39 "RubbingMirrorsModel" "thrown" "I" ∈ GT := gm 639 rfl rfl
set_option maxRecDepth 20000 in
theorem g_640 : Cond.fieldLink "RubbingMirrorsModel" 35 "RubbingMirrorsModel" "n" "I" ∈ GT := gm 640 rfl rfl
set_option maxRecDepth 20000 in
theorem g_641 : Cond.fieldLink "RubbingMirrorsModel" 7 "RubbingMirrorsModel" "depths" "[I" ∈ GT := gm 641 rfl rfl
set_option maxRecDepth 20000 in
theorem g_642 : Cond.fieldLink "RubbingMirrorsModel" 13 "RubbingMirrorsModel" "guesses" "[Z" ∈ GT := gm 642 rfl rfl
set_option maxRecDepth 20000 in
theorem g_643 : Cond.fieldLink "RubbingMirrorsModel" 86 "RubbingMirrorsModel" "shapes" "I" ∈ GT := gm 643 rfl rfl
set_option maxRecDepth 20000 in
theorem g_644 : Cond.fieldLink "RubbingMirrorsModel" 17 "RubbingMirrorsModel" "lengths" "[I" ∈ GT := gm 644 rfl rfl
set_option maxRecDepth 20000 in
theorem g_645 : Cond.fieldLink "RubbingMirrorsModel" 20 "RubbingMirrorsModel" "carved" "[I" ∈ GT := gm 645 rfl rfl
set_option maxRecDepth 20000 in
theorem g_646 : Cond.fieldLink "RubbingMirrorsModel" 99 "RubbingMirrorsModel" "nodes" "I" ∈ GT := gm 646 rfl rfl
set_option maxRecDepth 20000 in
theorem g_647 : Cond.fieldLink "RubbingMirrorsModel" 23 "RubbingMirrorsModel" "asks" "[I" ∈ GT := gm 647 rfl rfl
set_option maxRecDepth 20000 in
theorem g_648 : Cond.fieldLink "RubbingMirrorsModel" 26 "RubbingMirrorsModel" "noes" "[I" ∈ GT := gm 648 rfl rfl
set_option maxRecDepth 20000 in
theorem g_649 : Cond.fieldLink "RubbingMirrorsModel" 29 "RubbingMirrorsModel" "yeses" "[I" ∈ GT := gm 649 rfl rfl
set_option maxRecDepth 20000 in
theorem g_650 : Cond.fieldLink "RubbingMirrorsModel" 110 "RubbingMirrorsModel" "rules" "I" ∈ GT := gm 650 rfl rfl
set_option maxRecDepth 20000 in
theorem g_651 : Cond.fieldLink "RubbingMirrorsModel" 32 "RubbingMirrorsModel" "told" "[I" ∈ GT := gm 651 rfl rfl
set_option maxRecDepth 20000 in
theorem g_652 : Cond.fieldLink "RubbingMirrorsModel" 61 "RubbingMirrorsModel" "best" "I" ∈ GT := gm 652 rfl rfl
set_option maxRecDepth 20000 in
theorem g_653 : Cond.fieldLink "RubbingMirrorsModel" 89 "RubbingMirrorsModel" "bestPlace" "I" ∈ GT := gm 653 rfl rfl
set_option maxRecDepth 20000 in
theorem g_654 : Cond.fieldLink "RubbingMirrorsModel" 57 "RubbingMirrorsModel" "bestOff" "J" ∈ GT := gm 654 rfl rfl
set_option maxRecDepth 20000 in
theorem g_655 : Cond.fieldLink "RubbingMirrorsModel" 54 "RubbingMirrorsModel" "bestMany" "I" ∈ GT := gm 655 rfl rfl
set_option maxRecDepth 20000 in
theorem g_656 : Cond.lays "RubbingMirrorsModel" "RubbingMirrorsModel" "thrown" "I" ∈ GT := gm 656 rfl rfl
set_option maxRecDepth 20000 in
theorem g_658 : Cond.laysFinal "RubbingMirrorsModel" "RubbingMirrorsModel" "n" "I" ∈ GT := gm 658 rfl rfl
set_option maxRecDepth 20000 in
theorem g_660 : Cond.laysFinal "RubbingMirrorsModel" "RubbingMirrorsModel" "depths" "[I" ∈ GT := gm 660 rfl rfl
set_option maxRecDepth 20000 in
theorem g_662 : Cond.laysFinal "RubbingMirrorsModel" "RubbingMirrorsModel" "guesses" "[Z" ∈ GT := gm 662 rfl rfl
set_option maxRecDepth 20000 in
theorem g_664 : Cond.lays "RubbingMirrorsModel" "RubbingMirrorsModel" "shapes" "I" ∈ GT := gm 664 rfl rfl
set_option maxRecDepth 20000 in
theorem g_666 : Cond.laysFinal "RubbingMirrorsModel" "RubbingMirrorsModel" "lengths" "[I" ∈ GT := gm 666 rfl rfl
set_option maxRecDepth 20000 in
theorem g_668 : Cond.laysFinal "RubbingMirrorsModel" "RubbingMirrorsModel" "carved" "[I" ∈ GT := gm 668 rfl rfl
set_option maxRecDepth 20000 in
theorem g_670 : Cond.lays "RubbingMirrorsModel" "RubbingMirrorsModel" "nodes" "I" ∈ GT := gm 670 rfl rfl
set_option maxRecDepth 20000 in
theorem g_672 : Cond.laysFinal "RubbingMirrorsModel" "RubbingMirrorsModel" "asks" "[I" ∈ GT := gm 672 rfl rfl
set_option maxRecDepth 20000 in
theorem g_674 : Cond.laysFinal "RubbingMirrorsModel" "RubbingMirrorsModel" "noes" "[I" ∈ GT := gm 674 rfl rfl
set_option maxRecDepth 20000 in
theorem g_676 : Cond.laysFinal "RubbingMirrorsModel" "RubbingMirrorsModel" "yeses" "[I" ∈ GT := gm 676 rfl rfl
set_option maxRecDepth 20000 in
theorem g_678 : Cond.lays "RubbingMirrorsModel" "RubbingMirrorsModel" "rules" "I" ∈ GT := gm 678 rfl rfl
set_option maxRecDepth 20000 in
theorem g_680 : Cond.laysFinal "RubbingMirrorsModel" "RubbingMirrorsModel" "told" "[I" ∈ GT := gm 680 rfl rfl
set_option maxRecDepth 20000 in
theorem g_682 : Cond.lays "RubbingMirrorsModel" "RubbingMirrorsModel" "best" "I" ∈ GT := gm 682 rfl rfl
set_option maxRecDepth 20000 in
theorem g_684 : Cond.lays "RubbingMirrorsModel" "RubbingMirrorsModel" "bestPlace" "I" ∈ GT := gm 684 rfl rfl
set_option maxRecDepth 20000 in
theorem g_686 : Cond.lays "RubbingMirrorsModel" "RubbingMirrorsModel" "bestOff" "J" ∈ GT := gm 686 rfl rfl
set_option maxRecDepth 20000 in
theorem g_688 : Cond.lays "RubbingMirrorsModel" "RubbingMirrorsModel" "bestMany" "I" ∈ GT := gm 688 rfl rfl
set_option maxRecDepth 20000 in
theorem g_691 : Cond.methodLink "RubbingMirrorsLaw" 80 y_T_thrown ∈ GT := gm 691 rfl rfl
set_option maxRecDepth 20000 in
theorem g_692 : Cond.instanceMethod y_T_thrown ∈ GT := gm 692 rfl rfl
set_option maxRecDepth 20000 in
theorem g_693 : Cond.selects "RubbingMirrorsModel" y_T_thrown y_T_thrown ∈ GT := gm 693 rfl rfl
set_option maxRecDepth 20000 in
theorem g_694 : Cond.code y_T_thrown prog_8_method_2_code 1 (some .int) ∈ GT := gm 694 rfl rfl
set_option maxRecDepth 20000 in
theorem g_695 : Cond.methodLink "RubbingMirrorsLaw" 79 y_T_depth ∈ GT := gm 695 rfl rfl
set_option maxRecDepth 20000 in
theorem g_696 : Cond.instanceMethod y_T_depth ∈ GT := gm 696 rfl rfl
set_option maxRecDepth 20000 in
theorem g_697 : Cond.selects "RubbingMirrorsModel" y_T_depth y_T_depth ∈ GT := gm 697 rfl rfl
set_option maxRecDepth 20000 in
theorem g_698 : Cond.code y_T_depth prog_8_method_6_code 3 none ∈ GT := gm 698 rfl rfl
set_option maxRecDepth 20000 in
theorem g_699 : Cond.methodLink "RubbingMirrorsModel" 46 y_T_isPlace ∈ GT := gm 699 rfl rfl
set_option maxRecDepth 20000 in
theorem g_701 : Cond.instanceMethod y_T_isPlace ∈ GT := gm 701 rfl rfl
set_option maxRecDepth 20000 in
theorem g_702 : Cond.code y_T_isPlace prog_8_method_4_code 3 (some .boolean) ∈ GT := gm 702 rfl rfl
set_option maxRecDepth 20000 in
theorem g_703 : Cond.methodLink "RubbingMirrorsModel" 42 y_T_isIn ∈ GT := gm 703 rfl rfl
set_option maxRecDepth 20000 in
theorem g_704 : Cond.static y_T_isIn ∈ GT := gm 704 rfl rfl
set_option maxRecDepth 20000 in
theorem g_705 : Cond.code y_T_isIn prog_8_method_3_code 6 (some .boolean) ∈ GT := gm 705 rfl rfl
set_option maxRecDepth 20000 in
theorem g_706 : Cond.constantLong "RubbingMirrorsModel" 50 (-1 : Int64) ∈ GT := gm 706 rfl rfl
set_option maxRecDepth 20000 in
theorem g_707 : Cond.constantLong "RubbingMirrorsModel" 52 (255 : Int64) ∈ GT := gm 707 rfl rfl
set_option maxRecDepth 20000 in
theorem g_708 : Cond.methodLink "RubbingMirrorsLaw" 87 y_T_place ∈ GT := gm 708 rfl rfl
set_option maxRecDepth 20000 in
theorem g_709 : Cond.instanceMethod y_T_place ∈ GT := gm 709 rfl rfl
set_option maxRecDepth 20000 in
theorem g_710 : Cond.selects "RubbingMirrorsModel" y_T_place y_T_place ∈ GT := gm 710 rfl rfl
set_option maxRecDepth 20000 in
theorem g_711 : Cond.code y_T_place prog_8_method_7_code 3 (some .int) ∈ GT := gm 711 rfl rfl
set_option maxRecDepth 20000 in
theorem g_712 : Cond.methodLink "RubbingMirrorsLaw" 91 y_T_mirror ∈ GT := gm 712 rfl rfl
set_option maxRecDepth 20000 in
theorem g_713 : Cond.instanceMethod y_T_mirror ∈ GT := gm 713 rfl rfl
set_option maxRecDepth 20000 in
theorem g_714 : Cond.selects "RubbingMirrorsModel" y_T_mirror y_T_mirror ∈ GT := gm 714 rfl rfl
set_option maxRecDepth 20000 in
theorem g_715 : Cond.code y_T_mirror prog_8_method_10_code 2 (some .long) ∈ GT := gm 715 rfl rfl
set_option maxRecDepth 20000 in
theorem g_716 : Cond.methodLink "RubbingMirrorsModel" 71 y_T_findMirror ∈ GT := gm 716 rfl rfl
set_option maxRecDepth 20000 in
theorem g_718 : Cond.instanceMethod y_T_findMirror ∈ GT := gm 718 rfl rfl
set_option maxRecDepth 20000 in
theorem g_719 : Cond.code y_T_findMirror prog_8_method_9_code 7 none ∈ GT := gm 719 rfl rfl
set_option maxRecDepth 20000 in
theorem g_720 : Cond.methodLink "RubbingMirrorsModel" 64 y_T_isKnown ∈ GT := gm 720 rfl rfl
set_option maxRecDepth 20000 in
theorem g_722 : Cond.instanceMethod y_T_isKnown ∈ GT := gm 722 rfl rfl
set_option maxRecDepth 20000 in
theorem g_723 : Cond.code y_T_isKnown prog_8_method_5_code 3 (some .boolean) ∈ GT := gm 723 rfl rfl
set_option maxRecDepth 20000 in
theorem g_724 : Cond.methodLink "RubbingMirrorsModel" 67 y_T_isBetter ∈ GT := gm 724 rfl rfl
set_option maxRecDepth 20000 in
theorem g_726 : Cond.instanceMethod y_T_isBetter ∈ GT := gm 726 rfl rfl
set_option maxRecDepth 20000 in
theorem g_727 : Cond.code y_T_isBetter prog_8_method_8_code 8 (some .boolean) ∈ GT := gm 727 rfl rfl
set_option maxRecDepth 20000 in
theorem g_728 : Cond.constantLong "RubbingMirrorsModel" 74 (2 : Int64) ∈ GT := gm 728 rfl rfl
set_option maxRecDepth 20000 in
theorem g_729 : Cond.methodLink "RubbingMirrorsLaw" 94 y_T_sum ∈ GT := gm 729 rfl rfl
set_option maxRecDepth 20000 in
theorem g_730 : Cond.instanceMethod y_T_sum ∈ GT := gm 730 rfl rfl
set_option maxRecDepth 20000 in
theorem g_731 : Cond.selects "RubbingMirrorsModel" y_T_sum y_T_sum ∈ GT := gm 731 rfl rfl
set_option maxRecDepth 20000 in
theorem g_732 : Cond.code y_T_sum prog_8_method_12_code 2 (some .long) ∈ GT := gm 732 rfl rfl
set_option maxRecDepth 20000 in
theorem g_733 : Cond.methodLink "RubbingMirrorsModel" 76 y_T_sumOf ∈ GT := gm 733 rfl rfl
set_option maxRecDepth 20000 in
theorem g_735 : Cond.instanceMethod y_T_sumOf ∈ GT := gm 735 rfl rfl
set_option maxRecDepth 20000 in
theorem g_736 : Cond.code y_T_sumOf prog_8_method_11_code 5 (some .long) ∈ GT := gm 736 rfl rfl
set_option maxRecDepth 20000 in
theorem g_737 : Cond.methodLink "RubbingMirrorsLaw" 97 y_T_repeat_ ∈ GT := gm 737 rfl rfl
set_option maxRecDepth 20000 in
theorem g_738 : Cond.instanceMethod y_T_repeat_ ∈ GT := gm 738 rfl rfl
set_option maxRecDepth 20000 in
theorem g_739 : Cond.selects "RubbingMirrorsModel" y_T_repeat_ y_T_repeat_ ∈ GT := gm 739 rfl rfl
set_option maxRecDepth 20000 in
theorem g_740 : Cond.code y_T_repeat_ prog_8_method_13_code 5 (some .int) ∈ GT := gm 740 rfl rfl
set_option maxRecDepth 20000 in
theorem g_741 : Cond.methodLink "RubbingMirrorsLaw" 100 y_T_fill ∈ GT := gm 741 rfl rfl
set_option maxRecDepth 20000 in
theorem g_742 : Cond.instanceMethod y_T_fill ∈ GT := gm 742 rfl rfl
set_option maxRecDepth 20000 in
theorem g_743 : Cond.selects "RubbingMirrorsModel" y_T_fill y_T_fill ∈ GT := gm 743 rfl rfl
set_option maxRecDepth 20000 in
theorem g_744 : Cond.code y_T_fill prog_8_method_15_code 6 (some .int) ∈ GT := gm 744 rfl rfl
set_option maxRecDepth 20000 in
theorem g_745 : Cond.methodLink "RubbingMirrorsModel" 80 y_T_source ∈ GT := gm 745 rfl rfl
set_option maxRecDepth 20000 in
theorem g_747 : Cond.instanceMethod y_T_source ∈ GT := gm 747 rfl rfl
set_option maxRecDepth 20000 in
theorem g_748 : Cond.code y_T_source prog_8_method_14_code 7 (some .int) ∈ GT := gm 748 rfl rfl
set_option maxRecDepth 20000 in
theorem g_749 : Cond.methodLink "RubbingMirrorsLaw" 104 y_T_forget ∈ GT := gm 749 rfl rfl
set_option maxRecDepth 20000 in
theorem g_750 : Cond.instanceMethod y_T_forget ∈ GT := gm 750 rfl rfl
set_option maxRecDepth 20000 in
theorem g_751 : Cond.selects "RubbingMirrorsModel" y_T_forget y_T_forget ∈ GT := gm 751 rfl rfl
set_option maxRecDepth 20000 in
theorem g_752 : Cond.code y_T_forget prog_8_method_16_code 3 (some .int) ∈ GT := gm 752 rfl rfl
set_option maxRecDepth 20000 in
theorem g_753 : Cond.methodLink "RubbingMirrorsLaw" 107 y_T_shape ∈ GT := gm 753 rfl rfl
set_option maxRecDepth 20000 in
theorem g_754 : Cond.instanceMethod y_T_shape ∈ GT := gm 754 rfl rfl
set_option maxRecDepth 20000 in
theorem g_755 : Cond.selects "RubbingMirrorsModel" y_T_shape y_T_shape ∈ GT := gm 755 rfl rfl
set_option maxRecDepth 20000 in
theorem g_756 : Cond.code y_T_shape prog_8_method_17_code 3 (some .int) ∈ GT := gm 756 rfl rfl
set_option maxRecDepth 20000 in
theorem g_757 : Cond.constantLong "RubbingMirrorsModel" 84 (16 : Int64) ∈ GT := gm 757 rfl rfl
set_option maxRecDepth 20000 in
theorem g_758 : Cond.methodLink "RubbingMirrorsLaw" 111 y_T_carve ∈ GT := gm 758 rfl rfl
set_option maxRecDepth 20000 in
theorem g_759 : Cond.instanceMethod y_T_carve ∈ GT := gm 759 rfl rfl
set_option maxRecDepth 20000 in
theorem g_760 : Cond.selects "RubbingMirrorsModel" y_T_carve y_T_carve ∈ GT := gm 760 rfl rfl
set_option maxRecDepth 20000 in
theorem g_761 : Cond.code y_T_carve prog_8_method_18_code 4 none ∈ GT := gm 761 rfl rfl
set_option maxRecDepth 20000 in
theorem g_762 : Cond.methodLink "RubbingMirrorsLaw" 114 y_T_match_ ∈ GT := gm 762 rfl rfl
set_option maxRecDepth 20000 in
theorem g_763 : Cond.instanceMethod y_T_match_ ∈ GT := gm 763 rfl rfl
set_option maxRecDepth 20000 in
theorem g_764 : Cond.selects "RubbingMirrorsModel" y_T_match_ y_T_match_ ∈ GT := gm 764 rfl rfl
set_option maxRecDepth 20000 in
theorem g_765 : Cond.code y_T_match_ prog_8_method_20_code 2 (some .int) ∈ GT := gm 765 rfl rfl
set_option maxRecDepth 20000 in
theorem g_766 : Cond.methodLink "RubbingMirrorsModel" 92 y_T_findMatch ∈ GT := gm 766 rfl rfl
set_option maxRecDepth 20000 in
theorem g_768 : Cond.instanceMethod y_T_findMatch ∈ GT := gm 768 rfl rfl
set_option maxRecDepth 20000 in
theorem g_769 : Cond.code y_T_findMatch prog_8_method_19_code 8 none ∈ GT := gm 769 rfl rfl
set_option maxRecDepth 20000 in
theorem g_770 : Cond.constantLong "RubbingMirrorsModel" 95 (3 : Int64) ∈ GT := gm 770 rfl rfl
set_option maxRecDepth 20000 in
theorem g_771 : Cond.methodLink "RubbingMirrorsLaw" 117 y_T_kind ∈ GT := gm 771 rfl rfl
set_option maxRecDepth 20000 in
theorem g_772 : Cond.instanceMethod y_T_kind ∈ GT := gm 772 rfl rfl
set_option maxRecDepth 20000 in
theorem g_773 : Cond.selects "RubbingMirrorsModel" y_T_kind y_T_kind ∈ GT := gm 773 rfl rfl
set_option maxRecDepth 20000 in
theorem g_774 : Cond.code y_T_kind prog_8_method_21_code 2 (some .int) ∈ GT := gm 774 rfl rfl
set_option maxRecDepth 20000 in
theorem g_775 : Cond.constantLong "RubbingMirrorsModel" 97 (1000 : Int64) ∈ GT := gm 775 rfl rfl
set_option maxRecDepth 20000 in
theorem g_776 : Cond.methodLink "RubbingMirrorsLaw" 121 y_T_question ∈ GT := gm 776 rfl rfl
set_option maxRecDepth 20000 in
theorem g_777 : Cond.instanceMethod y_T_question ∈ GT := gm 777 rfl rfl
set_option maxRecDepth 20000 in
theorem g_778 : Cond.selects "RubbingMirrorsModel" y_T_question y_T_question ∈ GT := gm 778 rfl rfl
set_option maxRecDepth 20000 in
theorem g_779 : Cond.code y_T_question prog_8_method_22_code 4 (some .int) ∈ GT := gm 779 rfl rfl
set_option maxRecDepth 20000 in
theorem g_780 : Cond.constantLong "RubbingMirrorsModel" 102 (15 : Int64) ∈ GT := gm 780 rfl rfl
set_option maxRecDepth 20000 in
theorem g_781 : Cond.methodLink "RubbingMirrorsLaw" 124 y_T_ask ∈ GT := gm 781 rfl rfl
set_option maxRecDepth 20000 in
theorem g_782 : Cond.instanceMethod y_T_ask ∈ GT := gm 782 rfl rfl
set_option maxRecDepth 20000 in
theorem g_783 : Cond.selects "RubbingMirrorsModel" y_T_ask y_T_ask ∈ GT := gm 783 rfl rfl
set_option maxRecDepth 20000 in
theorem g_784 : Cond.code y_T_ask prog_8_method_23_code 5 (some .int) ∈ GT := gm 784 rfl rfl
set_option maxRecDepth 20000 in
theorem g_785 : Cond.constantLong "RubbingMirrorsModel" 104 (65535 : Int64) ∈ GT := gm 785 rfl rfl
set_option maxRecDepth 20000 in
theorem g_786 : Cond.methodLink "RubbingMirrorsLaw" 128 y_T_rule ∈ GT := gm 786 rfl rfl
set_option maxRecDepth 20000 in
theorem g_787 : Cond.instanceMethod y_T_rule ∈ GT := gm 787 rfl rfl
set_option maxRecDepth 20000 in
theorem g_788 : Cond.selects "RubbingMirrorsModel" y_T_rule y_T_rule ∈ GT := gm 788 rfl rfl
set_option maxRecDepth 20000 in
theorem g_789 : Cond.code y_T_rule prog_8_method_24_code 8 (some .int) ∈ GT := gm 789 rfl rfl
set_option maxRecDepth 20000 in
theorem g_790 : Cond.constantLong "RubbingMirrorsModel" 106 (-10000 : Int64) ∈ GT := gm 790 rfl rfl
set_option maxRecDepth 20000 in
theorem g_791 : Cond.constantLong "RubbingMirrorsModel" 108 (10000 : Int64) ∈ GT := gm 791 rfl rfl
set_option maxRecDepth 20000 in
theorem g_792 : Cond.methodLink "RubbingMirrorsLaw" 131 y_T_age ∈ GT := gm 792 rfl rfl
set_option maxRecDepth 20000 in
theorem g_793 : Cond.instanceMethod y_T_age ∈ GT := gm 793 rfl rfl
set_option maxRecDepth 20000 in
theorem g_794 : Cond.selects "RubbingMirrorsModel" y_T_age y_T_age ∈ GT := gm 794 rfl rfl
set_option maxRecDepth 20000 in
theorem g_795 : Cond.code y_T_age prog_8_method_26_code 6 (some .int) ∈ GT := gm 795 rfl rfl
set_option maxRecDepth 20000 in
theorem g_796 : Cond.methodLink "RubbingMirrorsModel" 113 y_T_holds ∈ GT := gm 796 rfl rfl
set_option maxRecDepth 20000 in
theorem g_798 : Cond.instanceMethod y_T_holds ∈ GT := gm 798 rfl rfl
set_option maxRecDepth 20000 in
theorem g_799 : Cond.code y_T_holds prog_8_method_25_code 4 (some .boolean) ∈ GT := gm 799 rfl rfl
set_option maxRecDepth 20000 in
theorem g_800 : Cond.arrayClass .long ∈ GT := gm 800 rfl rfl
set_option maxRecDepth 20000 in
theorem g_801 : Cond.sameMethod "java/lang/Throwable" "java/lang/Throwable" "fillInStackTrace" "(I)Ljava/lang/Throwable;" ∈ GT := gm 801 rfl rfl
set_option maxRecDepth 20000 in
theorem g_805 : Cond.sameMethod "[Ljava/lang/Object;" "java/lang/Object" "getClass" "()Ljava/lang/Class;" ∈ GT := gm 805 rfl rfl
set_option maxRecDepth 20000 in
theorem g_806 : Cond.selects "[Ljava/lang/Object;" ⟨"java/lang/Object", "getClass", "()Ljava/lang/Class;"⟩ ⟨"java/lang/Object", "getClass", "()Ljava/lang/Class;"⟩ ∈ GT := gm 806 rfl rfl
