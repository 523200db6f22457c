/-! words, one by one -/
theorem w_0 : Cond.initialized "CorridorCellsLaw" ∈ mx_W := mx_win 34 (by decide +kernel) rfl
theorem w_1 : Cond.initialized "CorridorCells" ∈ mx_W := mx_win 35 (by decide +kernel) rfl
theorem w_2 : Cond.initialized "CorridorCells$Ground" ∈ mx_W := mx_win 36 (by decide +kernel) rfl
theorem w_3 : Cond.initialized "java/lang/Math" ∈ mx_W := mx_win 37 (by decide +kernel) rfl
theorem w_4 : Cond.initialized "CorridorCells$Search" ∈ mx_W := mx_win 38 (by decide +kernel) rfl
theorem w_5 : Cond.initialized "CorridorCells$LabelQueue" ∈ mx_W := mx_win 39 (by decide +kernel) rfl
theorem w_6 : Cond.initialized "CorridorCells$Way" ∈ mx_W := mx_win 40 (by decide +kernel) rfl
theorem w_7 : Cond.initialized "CorridorCellsModel" ∈ mx_W := mx_win 41 (by decide +kernel) rfl
theorem w_8 : Cond.initialized "java/lang/Integer" ∈ mx_W := mx_win 42 (by decide +kernel) rfl
theorem w_9 : Cond.initialized "java/util/Arrays" ∈ mx_W := mx_win 43 (by decide +kernel) rfl
theorem w_10 : Cond.initialized "CorridorCells$Span" ∈ mx_W := mx_win 44 (by decide +kernel) rfl
theorem w_11 : Cond.initialized "java/lang/Long" ∈ mx_W := mx_win 45 (by decide +kernel) rfl
theorem w_12 : Cond.classLink "CorridorCellsLaw" 7 "CorridorCells" ∈ mx_W := mx_win 46 (by decide +kernel) rfl
theorem w_13 : Cond.instantiable "CorridorCells" 7 ∈ mx_W := mx_win 47 (by decide +kernel) rfl
theorem w_14 : Cond.methodLink "CorridorCellsLaw" 15 ⟨"CorridorCells", "<init>", "(II)V"⟩ ∈ mx_W := mx_win 48 (by decide +kernel) rfl
theorem w_15 : Cond.instanceMethod ⟨"CorridorCells", "<init>", "(II)V"⟩ ∈ mx_W := mx_win 49 (by decide +kernel) rfl
theorem w_17 : Cond.methodLink "CorridorCells" 1 ⟨"java/lang/Object", "<init>", "()V"⟩ ∈ mx_W := mx_win 51 (by decide +kernel) rfl
theorem w_18 : Cond.instanceMethod ⟨"java/lang/Object", "<init>", "()V"⟩ ∈ mx_W := mx_win 52 (by decide +kernel) rfl
theorem w_20 : Cond.classLink "CorridorCells" 7 "CorridorCells$Ground" ∈ mx_W := mx_win 54 (by decide +kernel) rfl
theorem w_21 : Cond.instantiable "CorridorCells$Ground" 18 ∈ mx_W := mx_win 55 (by decide +kernel) rfl
theorem w_22 : Cond.methodLink "CorridorCells" 11 ⟨"java/lang/Math", "min", "(II)I"⟩ ∈ mx_W := mx_win 56 (by decide +kernel) rfl
theorem w_23 : Cond.static ⟨"java/lang/Math", "min", "(II)I"⟩ ∈ mx_W := mx_win 57 (by decide +kernel) rfl
theorem w_25 : Cond.methodLink "CorridorCells" 17 ⟨"java/lang/Math", "max", "(II)I"⟩ ∈ mx_W := mx_win 59 (by decide +kernel) rfl
theorem w_26 : Cond.static ⟨"java/lang/Math", "max", "(II)I"⟩ ∈ mx_W := mx_win 60 (by decide +kernel) rfl
theorem w_28 : Cond.methodLink "CorridorCells" 20 ⟨"CorridorCells$Ground", "<init>", "(II)V"⟩ ∈ mx_W := mx_win 62 (by decide +kernel) rfl
theorem w_29 : Cond.instanceMethod ⟨"CorridorCells$Ground", "<init>", "(II)V"⟩ ∈ mx_W := mx_win 63 (by decide +kernel) rfl
theorem w_31 : Cond.methodLink "CorridorCells$Ground" 3 ⟨"java/lang/Object", "<init>", "()V"⟩ ∈ mx_W := mx_win 65 (by decide +kernel) rfl
theorem w_36 : Cond.methodLink "CorridorCells$Ground" 37 ⟨"CorridorCells$Ground", "numberOf", "(II)I"⟩ ∈ mx_W := mx_win 70 (by decide +kernel) rfl
theorem w_37 : Cond.instanceMethod ⟨"CorridorCells$Ground", "numberOf", "(II)I"⟩ ∈ mx_W := mx_win 71 (by decide +kernel) rfl
theorem w_38 : Cond.selects "CorridorCells$Ground" ⟨"CorridorCells$Ground", "numberOf", "(II)I"⟩ ⟨"CorridorCells$Ground", "numberOf", "(II)I"⟩ ∈ mx_W := mx_win 72 (by decide +kernel) rfl
theorem w_40 : Cond.fieldLink "CorridorCells$Ground" 9 "CorridorCells$Ground" "width" "I" ∈ mx_W := mx_win 74 (by decide +kernel) rfl
theorem w_41 : Cond.fieldLink "CorridorCells$Ground" 15 "CorridorCells$Ground" "height" "I" ∈ mx_W := mx_win 75 (by decide +kernel) rfl
theorem w_42 : Cond.fieldLink "CorridorCells$Search" 17 "CorridorCells$Ground" "size" "I" ∈ mx_W := mx_win 76 (by decide +kernel) rfl
theorem w_43 : Cond.fieldLink "CorridorCells$Ground" 18 "CorridorCells$Ground" "size" "I" ∈ mx_W := mx_win 77 (by decide +kernel) rfl
theorem w_44 : Cond.fieldLink "CorridorCells" 102 "CorridorCells$Ground" "size" "I" ∈ mx_W := mx_win 78 (by decide +kernel) rfl
theorem w_45 : Cond.fieldLink "CorridorCells$Ground" 21 "CorridorCells$Ground" "columns" "[I" ∈ mx_W := mx_win 79 (by decide +kernel) rfl
theorem w_46 : Cond.fieldLink "CorridorCells" 131 "CorridorCells$Ground" "columns" "[I" ∈ mx_W := mx_win 80 (by decide +kernel) rfl
theorem w_47 : Cond.fieldLink "CorridorCells$Ground" 25 "CorridorCells$Ground" "rows" "[I" ∈ mx_W := mx_win 81 (by decide +kernel) rfl
theorem w_48 : Cond.fieldLink "CorridorCells" 137 "CorridorCells$Ground" "rows" "[I" ∈ mx_W := mx_win 82 (by decide +kernel) rfl
theorem w_49 : Cond.fieldLink "CorridorCells$Ground" 28 "CorridorCells$Ground" "neighbours" "[I" ∈ mx_W := mx_win 83 (by decide +kernel) rfl
theorem w_50 : Cond.fieldLink "CorridorCells$Ground" 41 "CorridorCells$Ground" "prices" "[I" ∈ mx_W := mx_win 84 (by decide +kernel) rfl
theorem w_51 : Cond.fieldLink "CorridorCells" 71 "CorridorCells$Ground" "prices" "[I" ∈ mx_W := mx_win 85 (by decide +kernel) rfl
theorem w_52 : Cond.fieldLink "CorridorCells$Ground" 44 "CorridorCells$Ground" "levels" "[I" ∈ mx_W := mx_win 86 (by decide +kernel) rfl
theorem w_53 : Cond.fieldLink "CorridorCells" 75 "CorridorCells$Ground" "levels" "[I" ∈ mx_W := mx_win 87 (by decide +kernel) rfl
theorem w_54 : Cond.fieldLink "CorridorCells$Ground" 47 "CorridorCells$Ground" "barred" "[Z" ∈ mx_W := mx_win 88 (by decide +kernel) rfl
theorem w_55 : Cond.fieldLink "CorridorCells" 78 "CorridorCells$Ground" "barred" "[Z" ∈ mx_W := mx_win 89 (by decide +kernel) rfl
theorem w_56 : Cond.fieldLink "CorridorCells$Search" 112 "CorridorCells$Ground" "barred" "[Z" ∈ mx_W := mx_win 90 (by decide +kernel) rfl
theorem w_57 : Cond.fieldLink "CorridorCells$Way" 39 "CorridorCells$Ground" "barred" "[Z" ∈ mx_W := mx_win 91 (by decide +kernel) rfl
theorem w_58 : Cond.fieldLink "CorridorCells$Ground" 51 "CorridorCells$Ground" "mosts" "[I" ∈ mx_W := mx_win 92 (by decide +kernel) rfl
theorem w_59 : Cond.fieldLink "CorridorCells$Search" 109 "CorridorCells$Ground" "mosts" "[I" ∈ mx_W := mx_win 93 (by decide +kernel) rfl
theorem w_60 : Cond.fieldLink "CorridorCells" 180 "CorridorCells$Ground" "mosts" "[I" ∈ mx_W := mx_win 94 (by decide +kernel) rfl
theorem w_61 : Cond.fieldLink "CorridorCells$Ground" 54 "CorridorCells$Ground" "cents" "[I" ∈ mx_W := mx_win 95 (by decide +kernel) rfl
theorem w_62 : Cond.fieldLink "CorridorCells" 183 "CorridorCells$Ground" "cents" "[I" ∈ mx_W := mx_win 96 (by decide +kernel) rfl
theorem w_63 : Cond.fieldLink "CorridorCells$Ground" 57 "CorridorCells$Ground" "zones" "[I" ∈ mx_W := mx_win 97 (by decide +kernel) rfl
theorem w_64 : Cond.fieldLink "CorridorCells" 194 "CorridorCells$Ground" "zones" "[I" ∈ mx_W := mx_win 98 (by decide +kernel) rfl
theorem w_65 : Cond.fieldLink "CorridorCells$Ground" 60 "CorridorCells$Ground" "marks" "[I" ∈ mx_W := mx_win 99 (by decide +kernel) rfl
theorem w_66 : Cond.fieldLink "CorridorCells$Ground" 63 "CorridorCells$Ground" "values" "[I" ∈ mx_W := mx_win 100 (by decide +kernel) rfl
theorem w_67 : Cond.fieldLink "CorridorCells" 99 "CorridorCells$Ground" "values" "[I" ∈ mx_W := mx_win 101 (by decide +kernel) rfl
theorem w_68 : Cond.fieldLink "CorridorCells$Ground" 66 "CorridorCells$Ground" "weights" "[J" ∈ mx_W := mx_win 102 (by decide +kernel) rfl
theorem w_69 : Cond.fieldLink "CorridorCells" 109 "CorridorCells$Ground" "weights" "[J" ∈ mx_W := mx_win 103 (by decide +kernel) rfl
theorem w_70 : Cond.fieldLink "CorridorCells$Ground" 70 "CorridorCells$Ground" "reach" "I" ∈ mx_W := mx_win 104 (by decide +kernel) rfl
theorem w_71 : Cond.fieldLink "CorridorCells" 86 "CorridorCells$Ground" "reach" "I" ∈ mx_W := mx_win 105 (by decide +kernel) rfl
theorem w_72 : Cond.fieldLink "CorridorCells$Ground" 73 "CorridorCells$Ground" "slope" "I" ∈ mx_W := mx_win 106 (by decide +kernel) rfl
theorem w_73 : Cond.fieldLink "CorridorCells" 89 "CorridorCells$Ground" "slope" "I" ∈ mx_W := mx_win 107 (by decide +kernel) rfl
theorem w_74 : Cond.fieldLink "CorridorCells$Ground" 76 "CorridorCells$Ground" "turn" "I" ∈ mx_W := mx_win 108 (by decide +kernel) rfl
theorem w_75 : Cond.fieldLink "CorridorCells" 92 "CorridorCells$Ground" "turn" "I" ∈ mx_W := mx_win 109 (by decide +kernel) rfl
theorem w_76 : Cond.fieldLink "CorridorCells$Search" 165 "CorridorCells$Ground" "turn" "I" ∈ mx_W := mx_win 110 (by decide +kernel) rfl
theorem w_114 : Cond.arrayClass .int ∈ mx_W := mx_win 148 (by decide +kernel) rfl
theorem w_115 : Cond.arrayClass .boolean ∈ mx_W := mx_win 149 (by decide +kernel) rfl
theorem w_116 : Cond.arrayClass .long ∈ mx_W := mx_win 150 (by decide +kernel) rfl
theorem w_117 : Cond.classLink "CorridorCells" 27 "CorridorCells$Search" ∈ mx_W := mx_win 151 (by decide +kernel) rfl
theorem w_118 : Cond.instantiable "CorridorCells$Search" 10 ∈ mx_W := mx_win 152 (by decide +kernel) rfl
theorem w_119 : Cond.methodLink "CorridorCells" 29 ⟨"CorridorCells$Search", "<init>", "(LCorridorCells$Ground;)V"⟩ ∈ mx_W := mx_win 153 (by decide +kernel) rfl
theorem w_120 : Cond.instanceMethod ⟨"CorridorCells$Search", "<init>", "(LCorridorCells$Ground;)V"⟩ ∈ mx_W := mx_win 154 (by decide +kernel) rfl
theorem w_122 : Cond.methodLink "CorridorCells$Search" 3 ⟨"java/lang/Object", "<init>", "()V"⟩ ∈ mx_W := mx_win 156 (by decide +kernel) rfl
theorem w_123 : Cond.classLink "CorridorCells$Search" 15 "CorridorCells$LabelQueue" ∈ mx_W := mx_win 157 (by decide +kernel) rfl
theorem w_124 : Cond.instantiable "CorridorCells$LabelQueue" 6 ∈ mx_W := mx_win 158 (by decide +kernel) rfl
theorem w_125 : Cond.methodLink "CorridorCells$Search" 23 ⟨"CorridorCells$LabelQueue", "<init>", "(I)V"⟩ ∈ mx_W := mx_win 159 (by decide +kernel) rfl
theorem w_126 : Cond.instanceMethod ⟨"CorridorCells$LabelQueue", "<init>", "(I)V"⟩ ∈ mx_W := mx_win 160 (by decide +kernel) rfl
theorem w_128 : Cond.methodLink "CorridorCells$LabelQueue" 5 ⟨"java/lang/Object", "<init>", "()V"⟩ ∈ mx_W := mx_win 162 (by decide +kernel) rfl
theorem w_129 : Cond.fieldLink "CorridorCells$LabelQueue" 11 "CorridorCells$LabelQueue" "costs" "[J" ∈ mx_W := mx_win 163 (by decide +kernel) rfl
theorem w_130 : Cond.fieldLink "CorridorCells$Search" 84 "CorridorCells$LabelQueue" "costs" "[J" ∈ mx_W := mx_win 164 (by decide +kernel) rfl
theorem w_131 : Cond.fieldLink "CorridorCells$LabelQueue" 15 "CorridorCells$LabelQueue" "ranks" "[J" ∈ mx_W := mx_win 165 (by decide +kernel) rfl
theorem w_132 : Cond.fieldLink "CorridorCells$LabelQueue" 18 "CorridorCells$LabelQueue" "spots" "[I" ∈ mx_W := mx_win 166 (by decide +kernel) rfl
theorem w_133 : Cond.fieldLink "CorridorCells$LabelQueue" 22 "CorridorCells$LabelQueue" "heap" "[I" ∈ mx_W := mx_win 167 (by decide +kernel) rfl
theorem w_134 : Cond.fieldLink "CorridorCells$LabelQueue" 25 "CorridorCells$LabelQueue" "rowCount" "I" ∈ mx_W := mx_win 168 (by decide +kernel) rfl
theorem w_135 : Cond.fieldLink "CorridorCells$LabelQueue" 29 "CorridorCells$LabelQueue" "count" "I" ∈ mx_W := mx_win 169 (by decide +kernel) rfl
theorem w_149 : Cond.constantLong "CorridorCells$Search" 42 (-1) ∈ mx_W := mx_win 183 (by decide +kernel) rfl
theorem w_150 : Cond.fieldLink "CorridorCells$Search" 9 "CorridorCells$Search" "ground" "LCorridorCells$Ground;" ∈ mx_W := mx_win 184 (by decide +kernel) rfl
theorem w_151 : Cond.fieldLink "CorridorCells$Search" 26 "CorridorCells$Search" "queue" "LCorridorCells$LabelQueue;" ∈ mx_W := mx_win 185 (by decide +kernel) rfl
theorem w_152 : Cond.fieldLink "CorridorCells$Search" 30 "CorridorCells$Search" "bases" "[I" ∈ mx_W := mx_win 186 (by decide +kernel) rfl
theorem w_153 : Cond.fieldLink "CorridorCells$Search" 34 "CorridorCells$Search" "units" "[J" ∈ mx_W := mx_win 187 (by decide +kernel) rfl
theorem w_154 : Cond.fieldLink "CorridorCells$Search" 38 "CorridorCells$Search" "shared" "[Z" ∈ mx_W := mx_win 188 (by decide +kernel) rfl
theorem w_155 : Cond.fieldLink "CorridorCells$Search" 63 "CorridorCells$Search" "first" "I" ∈ mx_W := mx_win 189 (by decide +kernel) rfl
theorem w_156 : Cond.fieldLink "CorridorCells$Search" 66 "CorridorCells$Search" "last" "I" ∈ mx_W := mx_win 190 (by decide +kernel) rfl
theorem w_157 : Cond.fieldLink "CorridorCells$Search" 69 "CorridorCells$Search" "sharedMost" "I" ∈ mx_W := mx_win 191 (by decide +kernel) rfl
theorem w_158 : Cond.fieldLink "CorridorCells$Search" 72 "CorridorCells$Search" "headingRows" "I" ∈ mx_W := mx_win 192 (by decide +kernel) rfl
theorem w_159 : Cond.fieldLink "CorridorCells$Search" 44 "CorridorCells$Search" "lastCost" "J" ∈ mx_W := mx_win 193 (by decide +kernel) rfl
theorem w_160 : Cond.fieldLink "CorridorCells" 208 "CorridorCells$Search" "lastCost" "J" ∈ mx_W := mx_win 194 (by decide +kernel) rfl
theorem w_182 : Cond.classLink "CorridorCells" 36 "CorridorCells$Way" ∈ mx_W := mx_win 216 (by decide +kernel) rfl
theorem w_184 : Cond.instantiable "CorridorCells$Way" 3 ∈ mx_W := mx_win 218 (by decide +kernel) rfl
theorem w_186 : Cond.instanceMethod ⟨"CorridorCells$Way", "<init>", "()V"⟩ ∈ mx_W := mx_win 220 (by decide +kernel) rfl
theorem w_188 : Cond.methodLink "CorridorCells$Way" 3 ⟨"java/lang/Object", "<init>", "()V"⟩ ∈ mx_W := mx_win 222 (by decide +kernel) rfl
theorem w_189 : Cond.fieldLink "CorridorCells$Way" 9 "CorridorCells$Way" "places" "[I" ∈ mx_W := mx_win 223 (by decide +kernel) rfl
theorem w_190 : Cond.fieldLink "CorridorCells$Search" 53 "CorridorCells$Way" "places" "[I" ∈ mx_W := mx_win 224 (by decide +kernel) rfl
theorem w_191 : Cond.fieldLink "CorridorCells" 134 "CorridorCells$Way" "places" "[I" ∈ mx_W := mx_win 225 (by decide +kernel) rfl
theorem w_192 : Cond.fieldLink "CorridorCells$Way" 15 "CorridorCells$Way" "headings" "[I" ∈ mx_W := mx_win 226 (by decide +kernel) rfl
theorem w_193 : Cond.fieldLink "CorridorCells" 140 "CorridorCells$Way" "headings" "[I" ∈ mx_W := mx_win 227 (by decide +kernel) rfl
theorem w_194 : Cond.fieldLink "CorridorCells$Search" 178 "CorridorCells$Way" "headings" "[I" ∈ mx_W := mx_win 228 (by decide +kernel) rfl
theorem w_195 : Cond.fieldLink "CorridorCells$Way" 18 "CorridorCells$Way" "length" "I" ∈ mx_W := mx_win 229 (by decide +kernel) rfl
theorem w_196 : Cond.fieldLink "CorridorCells$Search" 48 "CorridorCells$Way" "length" "I" ∈ mx_W := mx_win 230 (by decide +kernel) rfl
theorem w_197 : Cond.fieldLink "CorridorCells" 128 "CorridorCells$Way" "length" "I" ∈ mx_W := mx_win 231 (by decide +kernel) rfl
theorem w_205 : Cond.constantLong "CorridorCells" 51 (-1) ∈ mx_W := mx_win 239 (by decide +kernel) rfl
theorem w_206 : Cond.fieldLink "CorridorCells" 23 "CorridorCells" "ground" "LCorridorCells$Ground;" ∈ mx_W := mx_win 240 (by decide +kernel) rfl
theorem w_207 : Cond.fieldLink "CorridorCells" 32 "CorridorCells" "search" "LCorridorCells$Search;" ∈ mx_W := mx_win 241 (by decide +kernel) rfl
theorem w_208 : Cond.fieldLink "CorridorCells" 38 "CorridorCells" "found" "[LCorridorCells$Way;" ∈ mx_W := mx_win 242 (by decide +kernel) rfl
theorem w_209 : Cond.fieldLink "CorridorCells" 43 "CorridorCells" "foundCount" "I" ∈ mx_W := mx_win 243 (by decide +kernel) rfl
theorem w_210 : Cond.fieldLink "CorridorCells" 47 "CorridorCells" "lastNodes" "J" ∈ mx_W := mx_win 244 (by decide +kernel) rfl
theorem w_211 : Cond.fieldLink "CorridorCells" 53 "CorridorCells" "lastBound" "J" ∈ mx_W := mx_win 245 (by decide +kernel) rfl
theorem w_212 : Cond.fieldLink "CorridorCells" 56 "CorridorCells" "lastProved" "Z" ∈ mx_W := mx_win 246 (by decide +kernel) rfl
theorem w_228 : Cond.methodLink "CorridorCellsLaw" 21 ⟨"CorridorCells", "cell", "(IIII)Z"⟩ ∈ mx_W := mx_win 262 (by decide +kernel) rfl
theorem w_229 : Cond.instanceMethod ⟨"CorridorCells", "cell", "(IIII)Z"⟩ ∈ mx_W := mx_win 263 (by decide +kernel) rfl
theorem w_230 : Cond.selects "CorridorCells" ⟨"CorridorCells", "cell", "(IIII)Z"⟩ ⟨"CorridorCells", "cell", "(IIII)Z"⟩ ∈ mx_W := mx_win 264 (by decide +kernel) rfl
theorem w_232 : Cond.methodLink "CorridorCells" 60 ⟨"CorridorCells$Ground", "numberOf", "(II)I"⟩ ∈ mx_W := mx_win 266 (by decide +kernel) rfl
theorem w_233 : Cond.constantLong "CorridorCells" 63 999 ∈ mx_W := mx_win 267 (by decide +kernel) rfl
theorem w_234 : Cond.methodLink "CorridorCells" 65 ⟨"CorridorCells", "within", "(JJJ)Z"⟩ ∈ mx_W := mx_win 268 (by decide +kernel) rfl
theorem w_235 : Cond.static ⟨"CorridorCells", "within", "(JJJ)Z"⟩ ∈ mx_W := mx_win 269 (by decide +kernel) rfl
theorem w_237 : Cond.constantLong "CorridorCells" 69 9999 ∈ mx_W := mx_win 271 (by decide +kernel) rfl
theorem w_238 : Cond.methodLink "CorridorCellsLaw" 25 ⟨"CorridorCells", "bar", "(II)Z"⟩ ∈ mx_W := mx_win 272 (by decide +kernel) rfl
theorem w_239 : Cond.instanceMethod ⟨"CorridorCells", "bar", "(II)Z"⟩ ∈ mx_W := mx_win 273 (by decide +kernel) rfl
theorem w_240 : Cond.selects "CorridorCells" ⟨"CorridorCells", "bar", "(II)Z"⟩ ⟨"CorridorCells", "bar", "(II)Z"⟩ ∈ mx_W := mx_win 274 (by decide +kernel) rfl
theorem w_242 : Cond.methodLink "CorridorCellsLaw" 30 ⟨"CorridorCells", "moves", "(III)Z"⟩ ∈ mx_W := mx_win 276 (by decide +kernel) rfl
theorem w_243 : Cond.instanceMethod ⟨"CorridorCells", "moves", "(III)Z"⟩ ∈ mx_W := mx_win 277 (by decide +kernel) rfl
theorem w_244 : Cond.selects "CorridorCells" ⟨"CorridorCells", "moves", "(III)Z"⟩ ⟨"CorridorCells", "moves", "(III)Z"⟩ ∈ mx_W := mx_win 278 (by decide +kernel) rfl
theorem w_246 : Cond.constantLong "CorridorCells" 82 2 ∈ mx_W := mx_win 280 (by decide +kernel) rfl
theorem w_247 : Cond.constantLong "CorridorCells" 84 8 ∈ mx_W := mx_win 281 (by decide +kernel) rfl
theorem w_248 : Cond.methodLink "CorridorCellsLaw" 37 ⟨"CorridorCells", "aim", "(IIIJ)Z"⟩ ∈ mx_W := mx_win 282 (by decide +kernel) rfl
theorem w_249 : Cond.instanceMethod ⟨"CorridorCells", "aim", "(IIIJ)Z"⟩ ∈ mx_W := mx_win 283 (by decide +kernel) rfl
theorem w_250 : Cond.selects "CorridorCells" ⟨"CorridorCells", "aim", "(IIIJ)Z"⟩ ⟨"CorridorCells", "aim", "(IIIJ)Z"⟩ ∈ mx_W := mx_win 284 (by decide +kernel) rfl
theorem w_252 : Cond.methodLink "CorridorCells" 95 ⟨"CorridorCells", "isAim", "(I)Z"⟩ ∈ mx_W := mx_win 286 (by decide +kernel) rfl
theorem w_253 : Cond.static ⟨"CorridorCells", "isAim", "(I)Z"⟩ ∈ mx_W := mx_win 287 (by decide +kernel) rfl
theorem w_255 : Cond.constantLong "CorridorCells" 178 3 ∈ mx_W := mx_win 289 (by decide +kernel) rfl
theorem w_256 : Cond.methodLink "CorridorCellsLaw" 42 ⟨"CorridorCells", "weight", "(IJJ)Z"⟩ ∈ mx_W := mx_win 290 (by decide +kernel) rfl
theorem w_257 : Cond.instanceMethod ⟨"CorridorCells", "weight", "(IJJ)Z"⟩ ∈ mx_W := mx_win 291 (by decide +kernel) rfl
theorem w_258 : Cond.selects "CorridorCells" ⟨"CorridorCells", "weight", "(IJJ)Z"⟩ ⟨"CorridorCells", "weight", "(IJJ)Z"⟩ ∈ mx_W := mx_win 292 (by decide +kernel) rfl
theorem w_260 : Cond.constantLong "CorridorCells" 105 20 ∈ mx_W := mx_win 294 (by decide +kernel) rfl
theorem w_261 : Cond.constantLong "CorridorCells" 107 6 ∈ mx_W := mx_win 295 (by decide +kernel) rfl
theorem w_262 : Cond.constantLong "CorridorCells" 113 60 ∈ mx_W := mx_win 296 (by decide +kernel) rfl
theorem w_263 : Cond.methodLink "CorridorCellsLaw" 47 ⟨"CorridorCells", "run", "(IIIIJ)I"⟩ ∈ mx_W := mx_win 297 (by decide +kernel) rfl
theorem w_264 : Cond.instanceMethod ⟨"CorridorCells", "run", "(IIIIJ)I"⟩ ∈ mx_W := mx_win 298 (by decide +kernel) rfl
theorem w_265 : Cond.selects "CorridorCells" ⟨"CorridorCells", "run", "(IIIIJ)I"⟩ ⟨"CorridorCells", "run", "(IIIIJ)I"⟩ ∈ mx_W := mx_win 299 (by decide +kernel) rfl
theorem w_267 : Cond.constantLong "CorridorCells" 115 100000 ∈ mx_W := mx_win 301 (by decide +kernel) rfl
theorem w_268 : Cond.methodLink "CorridorCells" 117 ⟨"CorridorCells$Search", "shareNothing", "()V"⟩ ∈ mx_W := mx_win 302 (by decide +kernel) rfl
theorem w_269 : Cond.instanceMethod ⟨"CorridorCells$Search", "shareNothing", "()V"⟩ ∈ mx_W := mx_win 303 (by decide +kernel) rfl
theorem w_270 : Cond.selects "CorridorCells$Search" ⟨"CorridorCells$Search", "shareNothing", "()V"⟩ ⟨"CorridorCells$Search", "shareNothing", "()V"⟩ ∈ mx_W := mx_win 304 (by decide +kernel) rfl
theorem w_272 : Cond.methodLink "CorridorCells" 120 ⟨"CorridorCells", "seek", "(III)I"⟩ ∈ mx_W := mx_win 306 (by decide +kernel) rfl
theorem w_274 : Cond.instanceMethod ⟨"CorridorCells", "seek", "(III)I"⟩ ∈ mx_W := mx_win 308 (by decide +kernel) rfl
theorem w_276 : Cond.methodLink "CorridorCells" 204 ⟨"CorridorCells$Search", "close", "(IIIJ)I"⟩ ∈ mx_W := mx_win 310 (by decide +kernel) rfl
theorem w_277 : Cond.instanceMethod ⟨"CorridorCells$Search", "close", "(IIIJ)I"⟩ ∈ mx_W := mx_win 311 (by decide +kernel) rfl
theorem w_278 : Cond.selects "CorridorCells$Search" ⟨"CorridorCells$Search", "close", "(IIIJ)I"⟩ ⟨"CorridorCells$Search", "close", "(IIIJ)I"⟩ ∈ mx_W := mx_win 312 (by decide +kernel) rfl
theorem w_280 : Cond.methodLink "CorridorCells$Search" 75 ⟨"CorridorCells$Search", "layRows", "()V"⟩ ∈ mx_W := mx_win 314 (by decide +kernel) rfl
theorem w_282 : Cond.instanceMethod ⟨"CorridorCells$Search", "layRows", "()V"⟩ ∈ mx_W := mx_win 316 (by decide +kernel) rfl
theorem w_284 : Cond.methodLink "CorridorCells$Search" 101 ⟨"CorridorCells$Ground", "unitCost", "(I)J"⟩ ∈ mx_W := mx_win 318 (by decide +kernel) rfl
theorem w_285 : Cond.instanceMethod ⟨"CorridorCells$Ground", "unitCost", "(I)J"⟩ ∈ mx_W := mx_win 319 (by decide +kernel) rfl
theorem w_286 : Cond.selects "CorridorCells$Ground" ⟨"CorridorCells$Ground", "unitCost", "(I)J"⟩ ⟨"CorridorCells$Ground", "unitCost", "(I)J"⟩ ∈ mx_W := mx_win 320 (by decide +kernel) rfl
theorem w_288 : Cond.methodLink "CorridorCells$Ground" 86 ⟨"CorridorCells$Ground", "isBridged", "(I)Z"⟩ ∈ mx_W := mx_win 322 (by decide +kernel) rfl
theorem w_289 : Cond.instanceMethod ⟨"CorridorCells$Ground", "isBridged", "(I)Z"⟩ ∈ mx_W := mx_win 323 (by decide +kernel) rfl
theorem w_290 : Cond.selects "CorridorCells$Ground" ⟨"CorridorCells$Ground", "isBridged", "(I)Z"⟩ ⟨"CorridorCells$Ground", "isBridged", "(I)Z"⟩ ∈ mx_W := mx_win 324 (by decide +kernel) rfl
theorem w_292 : Cond.constantLong "CorridorCells$Ground" 90 60 ∈ mx_W := mx_win 326 (by decide +kernel) rfl
theorem w_293 : Cond.methodLink "CorridorCells$Ground" 92 ⟨"CorridorCells$Ground", "valueOf", "(II)J"⟩ ∈ mx_W := mx_win 327 (by decide +kernel) rfl
theorem w_294 : Cond.instanceMethod ⟨"CorridorCells$Ground", "valueOf", "(II)J"⟩ ∈ mx_W := mx_win 328 (by decide +kernel) rfl
theorem w_295 : Cond.selects "CorridorCells$Ground" ⟨"CorridorCells$Ground", "valueOf", "(II)J"⟩ ⟨"CorridorCells$Ground", "valueOf", "(II)J"⟩ ∈ mx_W := mx_win 329 (by decide +kernel) rfl
theorem w_297 : Cond.methodLink "CorridorCells$Ground" 79 ⟨"java/lang/Integer", "bitCount", "(I)I"⟩ ∈ mx_W := mx_win 331 (by decide +kernel) rfl
theorem w_298 : Cond.static ⟨"java/lang/Integer", "bitCount", "(I)I"⟩ ∈ mx_W := mx_win 332 (by decide +kernel) rfl
theorem w_300 : Cond.constant "java/lang/Integer" 265 1431655765 ∈ mx_W := mx_win 334 (by decide +kernel) rfl
theorem w_301 : Cond.constant "java/lang/Integer" 266 858993459 ∈ mx_W := mx_win 335 (by decide +kernel) rfl
theorem w_302 : Cond.constant "java/lang/Integer" 267 252645135 ∈ mx_W := mx_win 336 (by decide +kernel) rfl
theorem w_303 : Cond.constant "CorridorCells$Ground" 85 43690 ∈ mx_W := mx_win 337 (by decide +kernel) rfl
theorem w_304 : Cond.methodLink "CorridorCells$Search" 105 ⟨"CorridorCells$Ground", "isBridged", "(I)Z"⟩ ∈ mx_W := mx_win 338 (by decide +kernel) rfl
theorem w_305 : Cond.methodLink "CorridorCells$Search" 115 ⟨"CorridorCells$LabelQueue", "reset", "(I)V"⟩ ∈ mx_W := mx_win 339 (by decide +kernel) rfl
theorem w_306 : Cond.instanceMethod ⟨"CorridorCells$LabelQueue", "reset", "(I)V"⟩ ∈ mx_W := mx_win 340 (by decide +kernel) rfl
theorem w_307 : Cond.selects "CorridorCells$LabelQueue" ⟨"CorridorCells$LabelQueue", "reset", "(I)V"⟩ ⟨"CorridorCells$LabelQueue", "reset", "(I)V"⟩ ∈ mx_W := mx_win 341 (by decide +kernel) rfl
theorem w_309 : Cond.methodLink "CorridorCells$LabelQueue" 32 ⟨"java/util/Arrays", "fill", "([IIII)V"⟩ ∈ mx_W := mx_win 343 (by decide +kernel) rfl
theorem w_310 : Cond.static ⟨"java/util/Arrays", "fill", "([IIII)V"⟩ ∈ mx_W := mx_win 344 (by decide +kernel) rfl
theorem w_312 : Cond.methodLink "java/util/Arrays" 13 ⟨"java/util/Arrays", "rangeCheck", "(III)V"⟩ ∈ mx_W := mx_win 346 (by decide +kernel) rfl
theorem w_313 : Cond.static ⟨"java/util/Arrays", "rangeCheck", "(III)V"⟩ ∈ mx_W := mx_win 347 (by decide +kernel) rfl
theorem w_315 : Cond.methodLink "CorridorCells$Search" 78 ⟨"CorridorCells$Search", "openEnd", "()V"⟩ ∈ mx_W := mx_win 349 (by decide +kernel) rfl
theorem w_317 : Cond.instanceMethod ⟨"CorridorCells$Search", "openEnd", "()V"⟩ ∈ mx_W := mx_win 351 (by decide +kernel) rfl
theorem w_319 : Cond.methodLink "CorridorCells$Search" 118 ⟨"CorridorCells$Ground", "headingStep", "()I"⟩ ∈ mx_W := mx_win 353 (by decide +kernel) rfl
theorem w_320 : Cond.instanceMethod ⟨"CorridorCells$Ground", "headingStep", "()I"⟩ ∈ mx_W := mx_win 354 (by decide +kernel) rfl
theorem w_321 : Cond.selects "CorridorCells$Ground" ⟨"CorridorCells$Ground", "headingStep", "()I"⟩ ⟨"CorridorCells$Ground", "headingStep", "()I"⟩ ∈ mx_W := mx_win 355 (by decide +kernel) rfl
theorem w_323 : Cond.methodLink "CorridorCells$Search" 121 ⟨"CorridorCells$Search", "rowOf", "(IIII)I"⟩ ∈ mx_W := mx_win 357 (by decide +kernel) rfl
theorem w_325 : Cond.instanceMethod ⟨"CorridorCells$Search", "rowOf", "(IIII)I"⟩ ∈ mx_W := mx_win 359 (by decide +kernel) rfl
theorem w_327 : Cond.methodLink "CorridorCells$Search" 125 ⟨"CorridorCells$Search", "codeOf", "(IIII)I"⟩ ∈ mx_W := mx_win 361 (by decide +kernel) rfl
theorem w_328 : Cond.static ⟨"CorridorCells$Search", "codeOf", "(IIII)I"⟩ ∈ mx_W := mx_win 362 (by decide +kernel) rfl
theorem w_330 : Cond.methodLink "CorridorCells$Search" 127 ⟨"CorridorCells$LabelQueue", "offer", "(IJJI)V"⟩ ∈ mx_W := mx_win 364 (by decide +kernel) rfl
theorem w_331 : Cond.instanceMethod ⟨"CorridorCells$LabelQueue", "offer", "(IJJI)V"⟩ ∈ mx_W := mx_win 365 (by decide +kernel) rfl
theorem w_332 : Cond.selects "CorridorCells$LabelQueue" ⟨"CorridorCells$LabelQueue", "offer", "(IJJI)V"⟩ ⟨"CorridorCells$LabelQueue", "offer", "(IJJI)V"⟩ ∈ mx_W := mx_win 366 (by decide +kernel) rfl
theorem w_334 : Cond.methodLink "CorridorCells$LabelQueue" 44 ⟨"CorridorCells$LabelQueue", "isLess", "(JJI)Z"⟩ ∈ mx_W := mx_win 368 (by decide +kernel) rfl
theorem w_336 : Cond.instanceMethod ⟨"CorridorCells$LabelQueue", "isLess", "(JJI)Z"⟩ ∈ mx_W := mx_win 370 (by decide +kernel) rfl
theorem w_338 : Cond.methodLink "CorridorCells$LabelQueue" 48 ⟨"CorridorCells$LabelQueue", "rise", "(II)V"⟩ ∈ mx_W := mx_win 372 (by decide +kernel) rfl
theorem w_340 : Cond.instanceMethod ⟨"CorridorCells$LabelQueue", "rise", "(II)V"⟩ ∈ mx_W := mx_win 374 (by decide +kernel) rfl
theorem w_342 : Cond.methodLink "CorridorCells$Search" 81 ⟨"CorridorCells$LabelQueue", "takeLeast", "()I"⟩ ∈ mx_W := mx_win 376 (by decide +kernel) rfl
theorem w_343 : Cond.instanceMethod ⟨"CorridorCells$LabelQueue", "takeLeast", "()I"⟩ ∈ mx_W := mx_win 377 (by decide +kernel) rfl
theorem w_344 : Cond.selects "CorridorCells$LabelQueue" ⟨"CorridorCells$LabelQueue", "takeLeast", "()I"⟩ ⟨"CorridorCells$LabelQueue", "takeLeast", "()I"⟩ ∈ mx_W := mx_win 378 (by decide +kernel) rfl
theorem w_346 : Cond.methodLink "CorridorCells$LabelQueue" 52 ⟨"CorridorCells$LabelQueue", "sink", "(I)V"⟩ ∈ mx_W := mx_win 380 (by decide +kernel) rfl
theorem w_348 : Cond.instanceMethod ⟨"CorridorCells$LabelQueue", "sink", "(I)V"⟩ ∈ mx_W := mx_win 382 (by decide +kernel) rfl
theorem w_350 : Cond.methodLink "CorridorCells$Search" 87 ⟨"CorridorCells$LabelQueue", "codeOf", "(I)I"⟩ ∈ mx_W := mx_win 384 (by decide +kernel) rfl
theorem w_351 : Cond.instanceMethod ⟨"CorridorCells$LabelQueue", "codeOf", "(I)I"⟩ ∈ mx_W := mx_win 385 (by decide +kernel) rfl
theorem w_352 : Cond.selects "CorridorCells$LabelQueue" ⟨"CorridorCells$LabelQueue", "codeOf", "(I)I"⟩ ⟨"CorridorCells$LabelQueue", "codeOf", "(I)I"⟩ ∈ mx_W := mx_win 386 (by decide +kernel) rfl
theorem w_354 : Cond.constantLong "CorridorCells$LabelQueue" 38 262143 ∈ mx_W := mx_win 388 (by decide +kernel) rfl
theorem w_355 : Cond.methodLink "CorridorCells$Search" 91 ⟨"CorridorCells$Search", "headingOf", "(I)I"⟩ ∈ mx_W := mx_win 389 (by decide +kernel) rfl
theorem w_356 : Cond.static ⟨"CorridorCells$Search", "headingOf", "(I)I"⟩ ∈ mx_W := mx_win 390 (by decide +kernel) rfl
theorem w_358 : Cond.methodLink "CorridorCells$Search" 94 ⟨"CorridorCells$Search", "openBefore", "(I)V"⟩ ∈ mx_W := mx_win 392 (by decide +kernel) rfl
theorem w_360 : Cond.instanceMethod ⟨"CorridorCells$Search", "openBefore", "(I)V"⟩ ∈ mx_W := mx_win 394 (by decide +kernel) rfl
theorem w_362 : Cond.methodLink "CorridorCells$Search" 131 ⟨"CorridorCells$Ground", "behind", "(II)I"⟩ ∈ mx_W := mx_win 396 (by decide +kernel) rfl
theorem w_363 : Cond.instanceMethod ⟨"CorridorCells$Ground", "behind", "(II)I"⟩ ∈ mx_W := mx_win 397 (by decide +kernel) rfl
theorem w_364 : Cond.selects "CorridorCells$Ground" ⟨"CorridorCells$Ground", "behind", "(II)I"⟩ ⟨"CorridorCells$Ground", "behind", "(II)I"⟩ ∈ mx_W := mx_win 398 (by decide +kernel) rfl
theorem w_366 : Cond.methodLink "CorridorCells$Search" 135 ⟨"CorridorCells$Ground", "isClosedOff", "(I)Z"⟩ ∈ mx_W := mx_win 400 (by decide +kernel) rfl
theorem w_367 : Cond.instanceMethod ⟨"CorridorCells$Ground", "isClosedOff", "(I)Z"⟩ ∈ mx_W := mx_win 401 (by decide +kernel) rfl
theorem w_368 : Cond.selects "CorridorCells$Ground" ⟨"CorridorCells$Ground", "isClosedOff", "(I)Z"⟩ ⟨"CorridorCells$Ground", "isClosedOff", "(I)Z"⟩ ∈ mx_W := mx_win 402 (by decide +kernel) rfl
theorem w_370 : Cond.methodLink "CorridorCells$Search" 138 ⟨"CorridorCells$Ground", "isTooSteep", "(II)Z"⟩ ∈ mx_W := mx_win 404 (by decide +kernel) rfl
theorem w_371 : Cond.instanceMethod ⟨"CorridorCells$Ground", "isTooSteep", "(II)Z"⟩ ∈ mx_W := mx_win 405 (by decide +kernel) rfl
theorem w_372 : Cond.selects "CorridorCells$Ground" ⟨"CorridorCells$Ground", "isTooSteep", "(II)Z"⟩ ⟨"CorridorCells$Ground", "isTooSteep", "(II)Z"⟩ ∈ mx_W := mx_win 406 (by decide +kernel) rfl
theorem w_374 : Cond.methodLink "CorridorCells$Ground" 96 ⟨"java/lang/Math", "abs", "(I)I"⟩ ∈ mx_W := mx_win 408 (by decide +kernel) rfl
theorem w_375 : Cond.static ⟨"java/lang/Math", "abs", "(I)I"⟩ ∈ mx_W := mx_win 409 (by decide +kernel) rfl
theorem w_377 : Cond.methodLink "CorridorCells$Search" 142 ⟨"CorridorCells$Search", "bridgedOf", "(I)I"⟩ ∈ mx_W := mx_win 411 (by decide +kernel) rfl
theorem w_378 : Cond.static ⟨"CorridorCells$Search", "bridgedOf", "(I)I"⟩ ∈ mx_W := mx_win 412 (by decide +kernel) rfl
theorem w_380 : Cond.methodLink "CorridorCells$Search" 145 ⟨"java/lang/Math", "max", "(II)I"⟩ ∈ mx_W := mx_win 414 (by decide +kernel) rfl
theorem w_381 : Cond.methodLink "CorridorCells$Search" 150 ⟨"java/lang/Math", "min", "(II)I"⟩ ∈ mx_W := mx_win 415 (by decide +kernel) rfl
theorem w_382 : Cond.methodLink "CorridorCells$Search" 153 ⟨"CorridorCells$Search", "openHeadings", "(IIII)V"⟩ ∈ mx_W := mx_win 416 (by decide +kernel) rfl
theorem w_384 : Cond.instanceMethod ⟨"CorridorCells$Search", "openHeadings", "(IIII)V"⟩ ∈ mx_W := mx_win 418 (by decide +kernel) rfl
theorem w_388 : Cond.methodLink "CorridorCells$Search" 160 ⟨"CorridorCells$LabelQueue", "stepsOf", "(I)J"⟩ ∈ mx_W := mx_win 422 (by decide +kernel) rfl
theorem w_389 : Cond.instanceMethod ⟨"CorridorCells$LabelQueue", "stepsOf", "(I)J"⟩ ∈ mx_W := mx_win 423 (by decide +kernel) rfl
theorem w_390 : Cond.selects "CorridorCells$LabelQueue" ⟨"CorridorCells$LabelQueue", "stepsOf", "(I)J"⟩ ⟨"CorridorCells$LabelQueue", "stepsOf", "(I)J"⟩ ∈ mx_W := mx_win 424 (by decide +kernel) rfl
theorem w_392 : Cond.constantLong "CorridorCells$Search" 163 262144 ∈ mx_W := mx_win 426 (by decide +kernel) rfl
theorem w_393 : Cond.methodLink "CorridorCells$Search" 97 ⟨"CorridorCells$LabelQueue", "isEmpty", "()Z"⟩ ∈ mx_W := mx_win 427 (by decide +kernel) rfl
theorem w_394 : Cond.instanceMethod ⟨"CorridorCells$LabelQueue", "isEmpty", "()Z"⟩ ∈ mx_W := mx_win 428 (by decide +kernel) rfl
theorem w_395 : Cond.selects "CorridorCells$LabelQueue" ⟨"CorridorCells$LabelQueue", "isEmpty", "()Z"⟩ ⟨"CorridorCells$LabelQueue", "isEmpty", "()Z"⟩ ∈ mx_W := mx_win 429 (by decide +kernel) rfl
theorem w_397 : Cond.methodLink "CorridorCells" 211 ⟨"CorridorCells$Search", "trace", "(ILCorridorCells$Way;)V"⟩ ∈ mx_W := mx_win 431 (by decide +kernel) rfl
theorem w_398 : Cond.instanceMethod ⟨"CorridorCells$Search", "trace", "(ILCorridorCells$Way;)V"⟩ ∈ mx_W := mx_win 432 (by decide +kernel) rfl
theorem w_399 : Cond.selects "CorridorCells$Search" ⟨"CorridorCells$Search", "trace", "(ILCorridorCells$Way;)V"⟩ ⟨"CorridorCells$Search", "trace", "(ILCorridorCells$Way;)V"⟩ ∈ mx_W := mx_win 433 (by decide +kernel) rfl
theorem w_401 : Cond.methodLink "CorridorCells$Search" 168 ⟨"CorridorCells$LabelQueue", "movesOf", "(I)I"⟩ ∈ mx_W := mx_win 435 (by decide +kernel) rfl
theorem w_402 : Cond.instanceMethod ⟨"CorridorCells$LabelQueue", "movesOf", "(I)I"⟩ ∈ mx_W := mx_win 436 (by decide +kernel) rfl
theorem w_403 : Cond.selects "CorridorCells$LabelQueue" ⟨"CorridorCells$LabelQueue", "movesOf", "(I)I"⟩ ⟨"CorridorCells$LabelQueue", "movesOf", "(I)I"⟩ ∈ mx_W := mx_win 437 (by decide +kernel) rfl
theorem w_405 : Cond.methodLink "CorridorCells$LabelQueue" 40 ⟨"CorridorCells$LabelQueue", "stepsOf", "(I)J"⟩ ∈ mx_W := mx_win 439 (by decide +kernel) rfl
theorem w_406 : Cond.methodLink "CorridorCells$Search" 171 ⟨"CorridorCells$Way", "begin", "(II)V"⟩ ∈ mx_W := mx_win 440 (by decide +kernel) rfl
theorem w_407 : Cond.instanceMethod ⟨"CorridorCells$Way", "begin", "(II)V"⟩ ∈ mx_W := mx_win 441 (by decide +kernel) rfl
theorem w_408 : Cond.selects "CorridorCells$Way" ⟨"CorridorCells$Way", "begin", "(II)V"⟩ ⟨"CorridorCells$Way", "begin", "(II)V"⟩ ∈ mx_W := mx_win 442 (by decide +kernel) rfl
theorem w_410 : Cond.methodLink "CorridorCells$Search" 175 ⟨"CorridorCells$Search", "nextRow", "(I)I"⟩ ∈ mx_W := mx_win 444 (by decide +kernel) rfl
theorem w_412 : Cond.instanceMethod ⟨"CorridorCells$Search", "nextRow", "(I)I"⟩ ∈ mx_W := mx_win 446 (by decide +kernel) rfl
theorem w_414 : Cond.methodLink "CorridorCells$Search" 181 ⟨"CorridorCells$Search", "rowAfter", "(II)I"⟩ ∈ mx_W := mx_win 448 (by decide +kernel) rfl
theorem w_416 : Cond.instanceMethod ⟨"CorridorCells$Search", "rowAfter", "(II)I"⟩ ∈ mx_W := mx_win 450 (by decide +kernel) rfl
theorem w_418 : Cond.methodLink "CorridorCells$Search" 184 ⟨"CorridorCells$Ground", "moveFrom", "(III)I"⟩ ∈ mx_W := mx_win 452 (by decide +kernel) rfl
theorem w_419 : Cond.instanceMethod ⟨"CorridorCells$Ground", "moveFrom", "(III)I"⟩ ∈ mx_W := mx_win 453 (by decide +kernel) rfl
theorem w_420 : Cond.selects "CorridorCells$Ground" ⟨"CorridorCells$Ground", "moveFrom", "(III)I"⟩ ⟨"CorridorCells$Ground", "moveFrom", "(III)I"⟩ ∈ mx_W := mx_win 454 (by decide +kernel) rfl
theorem w_422 : Cond.methodLink "CorridorCells$Ground" 101 ⟨"CorridorCells$Ground", "ahead", "(II)I"⟩ ∈ mx_W := mx_win 456 (by decide +kernel) rfl
theorem w_423 : Cond.instanceMethod ⟨"CorridorCells$Ground", "ahead", "(II)I"⟩ ∈ mx_W := mx_win 457 (by decide +kernel) rfl
theorem w_424 : Cond.selects "CorridorCells$Ground" ⟨"CorridorCells$Ground", "ahead", "(II)I"⟩ ⟨"CorridorCells$Ground", "ahead", "(II)I"⟩ ∈ mx_W := mx_win 458 (by decide +kernel) rfl
theorem w_426 : Cond.methodLink "CorridorCells$Ground" 104 ⟨"CorridorCells$Ground", "isClosedOff", "(I)Z"⟩ ∈ mx_W := mx_win 460 (by decide +kernel) rfl
theorem w_427 : Cond.methodLink "CorridorCells$Ground" 107 ⟨"CorridorCells$Ground", "isTooSteep", "(II)Z"⟩ ∈ mx_W := mx_win 461 (by decide +kernel) rfl
theorem w_428 : Cond.methodLink "CorridorCells$Ground" 111 ⟨"java/lang/Math", "min", "(II)I"⟩ ∈ mx_W := mx_win 462 (by decide +kernel) rfl
theorem w_429 : Cond.methodLink "CorridorCells$Search" 188 ⟨"CorridorCells$Ground", "bridgedUpTo", "(II)I"⟩ ∈ mx_W := mx_win 463 (by decide +kernel) rfl
theorem w_430 : Cond.instanceMethod ⟨"CorridorCells$Ground", "bridgedUpTo", "(II)I"⟩ ∈ mx_W := mx_win 464 (by decide +kernel) rfl
theorem w_431 : Cond.selects "CorridorCells$Ground" ⟨"CorridorCells$Ground", "bridgedUpTo", "(II)I"⟩ ⟨"CorridorCells$Ground", "bridgedUpTo", "(II)I"⟩ ∈ mx_W := mx_win 465 (by decide +kernel) rfl
theorem w_433 : Cond.methodLink "CorridorCells$Search" 191 ⟨"CorridorCells$LabelQueue", "isTaken", "(I)Z"⟩ ∈ mx_W := mx_win 467 (by decide +kernel) rfl
theorem w_434 : Cond.instanceMethod ⟨"CorridorCells$LabelQueue", "isTaken", "(I)Z"⟩ ∈ mx_W := mx_win 468 (by decide +kernel) rfl
theorem w_435 : Cond.selects "CorridorCells$LabelQueue" ⟨"CorridorCells$LabelQueue", "isTaken", "(I)Z"⟩ ⟨"CorridorCells$LabelQueue", "isTaken", "(I)Z"⟩ ∈ mx_W := mx_win 469 (by decide +kernel) rfl
theorem w_437 : Cond.methodLink "CorridorCells" 215 ⟨"CorridorCells$Search", "share", "(LCorridorCells$Way;)V"⟩ ∈ mx_W := mx_win 471 (by decide +kernel) rfl
theorem w_438 : Cond.instanceMethod ⟨"CorridorCells$Search", "share", "(LCorridorCells$Way;)V"⟩ ∈ mx_W := mx_win 472 (by decide +kernel) rfl
theorem w_439 : Cond.selects "CorridorCells$Search" ⟨"CorridorCells$Search", "share", "(LCorridorCells$Way;)V"⟩ ⟨"CorridorCells$Search", "share", "(LCorridorCells$Way;)V"⟩ ∈ mx_W := mx_win 473 (by decide +kernel) rfl
theorem w_441 : Cond.methodLink "CorridorCells$Search" 56 ⟨"CorridorCells$Way", "firstPlace", "()I"⟩ ∈ mx_W := mx_win 475 (by decide +kernel) rfl
theorem w_442 : Cond.instanceMethod ⟨"CorridorCells$Way", "firstPlace", "()I"⟩ ∈ mx_W := mx_win 476 (by decide +kernel) rfl
theorem w_443 : Cond.selects "CorridorCells$Way" ⟨"CorridorCells$Way", "firstPlace", "()I"⟩ ⟨"CorridorCells$Way", "firstPlace", "()I"⟩ ∈ mx_W := mx_win 477 (by decide +kernel) rfl
theorem w_445 : Cond.methodLink "CorridorCells$Search" 60 ⟨"CorridorCells$Way", "lastPlace", "()I"⟩ ∈ mx_W := mx_win 479 (by decide +kernel) rfl
theorem w_446 : Cond.instanceMethod ⟨"CorridorCells$Way", "lastPlace", "()I"⟩ ∈ mx_W := mx_win 480 (by decide +kernel) rfl
theorem w_447 : Cond.selects "CorridorCells$Way" ⟨"CorridorCells$Way", "lastPlace", "()I"⟩ ⟨"CorridorCells$Way", "lastPlace", "()I"⟩ ∈ mx_W := mx_win 481 (by decide +kernel) rfl
theorem w_449 : Cond.methodLink "CorridorCellsLaw" 52 ⟨"CorridorCells", "at", "(II)I"⟩ ∈ mx_W := mx_win 483 (by decide +kernel) rfl
theorem w_450 : Cond.instanceMethod ⟨"CorridorCells", "at", "(II)I"⟩ ∈ mx_W := mx_win 484 (by decide +kernel) rfl
theorem w_451 : Cond.selects "CorridorCells" ⟨"CorridorCells", "at", "(II)I"⟩ ⟨"CorridorCells", "at", "(II)I"⟩ ∈ mx_W := mx_win 485 (by decide +kernel) rfl
theorem w_453 : Cond.methodLink "CorridorCells" 124 ⟨"CorridorCells", "wayAtHand", "()LCorridorCells$Way;"⟩ ∈ mx_W := mx_win 487 (by decide +kernel) rfl
theorem w_455 : Cond.instanceMethod ⟨"CorridorCells", "wayAtHand", "()LCorridorCells$Way;"⟩ ∈ mx_W := mx_win 489 (by decide +kernel) rfl
theorem w_457 : Cond.methodLink "CorridorCellsLaw" 57 ⟨"CorridorCells", "cost", "(I)J"⟩ ∈ mx_W := mx_win 491 (by decide +kernel) rfl
theorem w_458 : Cond.instanceMethod ⟨"CorridorCells", "cost", "(I)J"⟩ ∈ mx_W := mx_win 492 (by decide +kernel) rfl
theorem w_459 : Cond.selects "CorridorCells" ⟨"CorridorCells", "cost", "(I)J"⟩ ⟨"CorridorCells", "cost", "(I)J"⟩ ∈ mx_W := mx_win 493 (by decide +kernel) rfl
theorem w_461 : Cond.methodLink "CorridorCells" 143 ⟨"CorridorCells$Way", "scaledCost", "(LCorridorCells$Ground;)J"⟩ ∈ mx_W := mx_win 495 (by decide +kernel) rfl
theorem w_462 : Cond.instanceMethod ⟨"CorridorCells$Way", "scaledCost", "(LCorridorCells$Ground;)J"⟩ ∈ mx_W := mx_win 496 (by decide +kernel) rfl
theorem w_463 : Cond.selects "CorridorCells$Way" ⟨"CorridorCells$Way", "scaledCost", "(LCorridorCells$Ground;)J"⟩ ⟨"CorridorCells$Way", "scaledCost", "(LCorridorCells$Ground;)J"⟩ ∈ mx_W := mx_win 497 (by decide +kernel) rfl
theorem w_466 : Cond.methodLink "CorridorCells$Way" 25 ⟨"CorridorCells$Ground", "unitCost", "(I)J"⟩ ∈ mx_W := mx_win 500 (by decide +kernel) rfl
theorem w_467 : Cond.methodLink "CorridorCells" 147 ⟨"CorridorCells", "leastTerm", "(JJI)J"⟩ ∈ mx_W := mx_win 501 (by decide +kernel) rfl
theorem w_468 : Cond.static ⟨"CorridorCells", "leastTerm", "(JJI)J"⟩ ∈ mx_W := mx_win 502 (by decide +kernel) rfl
theorem w_470 : Cond.methodLink "CorridorCells" 219 ⟨"CorridorCells", "greatestDivisor", "(JJ)J"⟩ ∈ mx_W := mx_win 504 (by decide +kernel) rfl
theorem w_471 : Cond.static ⟨"CorridorCells", "greatestDivisor", "(JJ)J"⟩ ∈ mx_W := mx_win 505 (by decide +kernel) rfl
theorem w_473 : Cond.methodLink "CorridorCellsLaw" 62 ⟨"CorridorCells", "bound", "()J"⟩ ∈ mx_W := mx_win 507 (by decide +kernel) rfl
theorem w_474 : Cond.instanceMethod ⟨"CorridorCells", "bound", "()J"⟩ ∈ mx_W := mx_win 508 (by decide +kernel) rfl
theorem w_475 : Cond.selects "CorridorCells" ⟨"CorridorCells", "bound", "()J"⟩ ⟨"CorridorCells", "bound", "()J"⟩ ∈ mx_W := mx_win 509 (by decide +kernel) rfl
theorem w_477 : Cond.methodLink "CorridorCellsLaw" 67 ⟨"CorridorCells", "proved", "()Z"⟩ ∈ mx_W := mx_win 511 (by decide +kernel) rfl
theorem w_478 : Cond.instanceMethod ⟨"CorridorCells", "proved", "()Z"⟩ ∈ mx_W := mx_win 512 (by decide +kernel) rfl
theorem w_479 : Cond.selects "CorridorCells" ⟨"CorridorCells", "proved", "()Z"⟩ ⟨"CorridorCells", "proved", "()Z"⟩ ∈ mx_W := mx_win 513 (by decide +kernel) rfl
theorem w_481 : Cond.methodLink "CorridorCellsLaw" 72 ⟨"CorridorCells", "unlike", "(JJ)I"⟩ ∈ mx_W := mx_win 515 (by decide +kernel) rfl
theorem w_482 : Cond.instanceMethod ⟨"CorridorCells", "unlike", "(JJ)I"⟩ ∈ mx_W := mx_win 516 (by decide +kernel) rfl
theorem w_483 : Cond.selects "CorridorCells" ⟨"CorridorCells", "unlike", "(JJ)I"⟩ ⟨"CorridorCells", "unlike", "(JJ)I"⟩ ∈ mx_W := mx_win 517 (by decide +kernel) rfl
theorem w_485 : Cond.constantLong "CorridorCells" 151 100 ∈ mx_W := mx_win 519 (by decide +kernel) rfl
theorem w_486 : Cond.methodLink "CorridorCells" 153 ⟨"CorridorCells$Way", "firstPlace", "()I"⟩ ∈ mx_W := mx_win 520 (by decide +kernel) rfl
theorem w_487 : Cond.methodLink "CorridorCells" 157 ⟨"CorridorCells$Way", "lastPlace", "()I"⟩ ∈ mx_W := mx_win 521 (by decide +kernel) rfl
theorem w_488 : Cond.methodLink "CorridorCells" 160 ⟨"java/lang/Math", "min", "(JJ)J"⟩ ∈ mx_W := mx_win 522 (by decide +kernel) rfl
theorem w_489 : Cond.static ⟨"java/lang/Math", "min", "(JJ)J"⟩ ∈ mx_W := mx_win 523 (by decide +kernel) rfl
theorem w_491 : Cond.methodLink "CorridorCellsLaw" 77 ⟨"CorridorCells", "span", "(III)J"⟩ ∈ mx_W := mx_win 525 (by decide +kernel) rfl
theorem w_492 : Cond.instanceMethod ⟨"CorridorCells", "span", "(III)J"⟩ ∈ mx_W := mx_win 526 (by decide +kernel) rfl
theorem w_493 : Cond.selects "CorridorCells" ⟨"CorridorCells", "span", "(III)J"⟩ ⟨"CorridorCells", "span", "(III)J"⟩ ∈ mx_W := mx_win 527 (by decide +kernel) rfl
theorem w_495 : Cond.classLink "CorridorCells" 163 "CorridorCells$Span" ∈ mx_W := mx_win 529 (by decide +kernel) rfl
theorem w_496 : Cond.instantiable "CorridorCells$Span" 5 ∈ mx_W := mx_win 530 (by decide +kernel) rfl
theorem w_498 : Cond.instanceMethod ⟨"CorridorCells$Span", "<init>", "()V"⟩ ∈ mx_W := mx_win 532 (by decide +kernel) rfl
theorem w_500 : Cond.methodLink "CorridorCells$Span" 3 ⟨"java/lang/Object", "<init>", "()V"⟩ ∈ mx_W := mx_win 534 (by decide +kernel) rfl
theorem w_501 : Cond.fieldLink "CorridorCells$Span" 9 "CorridorCells$Span" "leastUpper" "J" ∈ mx_W := mx_win 535 (by decide +kernel) rfl
theorem w_502 : Cond.fieldLink "CorridorCells$Span" 15 "CorridorCells$Span" "leastLower" "J" ∈ mx_W := mx_win 536 (by decide +kernel) rfl
theorem w_503 : Cond.fieldLink "CorridorCells$Span" 18 "CorridorCells$Span" "greatestUpper" "J" ∈ mx_W := mx_win 537 (by decide +kernel) rfl
theorem w_504 : Cond.fieldLink "CorridorCells$Span" 21 "CorridorCells$Span" "greatestLower" "J" ∈ mx_W := mx_win 538 (by decide +kernel) rfl
theorem w_505 : Cond.fieldLink "CorridorCells$Span" 24 "CorridorCells$Span" "isEmpty" "Z" ∈ mx_W := mx_win 539 (by decide +kernel) rfl
theorem w_517 : Cond.methodLink "CorridorCells" 166 ⟨"CorridorCells$Way", "amountOf", "(LCorridorCells$Ground;I)J"⟩ ∈ mx_W := mx_win 551 (by decide +kernel) rfl
theorem w_518 : Cond.instanceMethod ⟨"CorridorCells$Way", "amountOf", "(LCorridorCells$Ground;I)J"⟩ ∈ mx_W := mx_win 552 (by decide +kernel) rfl
theorem w_519 : Cond.selects "CorridorCells$Way" ⟨"CorridorCells$Way", "amountOf", "(LCorridorCells$Ground;I)J"⟩ ⟨"CorridorCells$Way", "amountOf", "(LCorridorCells$Ground;I)J"⟩ ∈ mx_W := mx_win 553 (by decide +kernel) rfl
theorem w_521 : Cond.methodLink "CorridorCells$Way" 31 ⟨"CorridorCells$Ground", "isBridged", "(I)Z"⟩ ∈ mx_W := mx_win 555 (by decide +kernel) rfl
theorem w_522 : Cond.methodLink "CorridorCells$Way" 35 ⟨"CorridorCells$Ground", "valueOf", "(II)J"⟩ ∈ mx_W := mx_win 556 (by decide +kernel) rfl
theorem w_523 : Cond.methodLink "CorridorCells" 170 ⟨"CorridorCells$Span", "keepBelow", "(JJ)V"⟩ ∈ mx_W := mx_win 557 (by decide +kernel) rfl
theorem w_524 : Cond.instanceMethod ⟨"CorridorCells$Span", "keepBelow", "(JJ)V"⟩ ∈ mx_W := mx_win 558 (by decide +kernel) rfl
theorem w_525 : Cond.selects "CorridorCells$Span" ⟨"CorridorCells$Span", "keepBelow", "(JJ)V"⟩ ⟨"CorridorCells$Span", "keepBelow", "(JJ)V"⟩ ∈ mx_W := mx_win 559 (by decide +kernel) rfl
theorem w_527 : Cond.methodLink "CorridorCells$Span" 28 ⟨"CorridorCells$Span", "lowerGreatest", "(JJ)V"⟩ ∈ mx_W := mx_win 561 (by decide +kernel) rfl
theorem w_529 : Cond.instanceMethod ⟨"CorridorCells$Span", "lowerGreatest", "(JJ)V"⟩ ∈ mx_W := mx_win 563 (by decide +kernel) rfl
theorem w_532 : Cond.static ⟨"CorridorCells", "compareFractions", "(JJJJ)I"⟩ ∈ mx_W := mx_win 566 (by decide +kernel) rfl
theorem w_534 : Cond.methodLink "CorridorCells" 222 ⟨"java/lang/Long", "compare", "(JJ)I"⟩ ∈ mx_W := mx_win 568 (by decide +kernel) rfl
theorem w_535 : Cond.static ⟨"java/lang/Long", "compare", "(JJ)I"⟩ ∈ mx_W := mx_win 569 (by decide +kernel) rfl
theorem w_537 : Cond.methodLink "CorridorCells$Span" 32 ⟨"CorridorCells$Span", "raiseLeast", "(JJ)V"⟩ ∈ mx_W := mx_win 571 (by decide +kernel) rfl
theorem w_539 : Cond.instanceMethod ⟨"CorridorCells$Span", "raiseLeast", "(JJ)V"⟩ ∈ mx_W := mx_win 573 (by decide +kernel) rfl
theorem w_541 : Cond.methodLink "CorridorCells" 174 ⟨"CorridorCells$Span", "told", "(II)J"⟩ ∈ mx_W := mx_win 575 (by decide +kernel) rfl
theorem w_542 : Cond.instanceMethod ⟨"CorridorCells$Span", "told", "(II)J"⟩ ∈ mx_W := mx_win 576 (by decide +kernel) rfl
theorem w_543 : Cond.selects "CorridorCells$Span" ⟨"CorridorCells$Span", "told", "(II)J"⟩ ⟨"CorridorCells$Span", "told", "(II)J"⟩ ∈ mx_W := mx_win 577 (by decide +kernel) rfl
theorem w_545 : Cond.constantLong "CorridorCells$Span" 39 (-1) ∈ mx_W := mx_win 579 (by decide +kernel) rfl
theorem w_546 : Cond.constantLong "CorridorCells$Span" 41 60 ∈ mx_W := mx_win 580 (by decide +kernel) rfl
theorem w_548 : Cond.methodLink "CorridorCellsLaw" 82 ⟨"CorridorCells", "bridge", "(IIIJ)Z"⟩ ∈ mx_W := mx_win 582 (by decide +kernel) rfl
theorem w_549 : Cond.instanceMethod ⟨"CorridorCells", "bridge", "(IIIJ)Z"⟩ ∈ mx_W := mx_win 583 (by decide +kernel) rfl
theorem w_550 : Cond.selects "CorridorCells" ⟨"CorridorCells", "bridge", "(IIIJ)Z"⟩ ⟨"CorridorCells", "bridge", "(IIIJ)Z"⟩ ∈ mx_W := mx_win 584 (by decide +kernel) rfl
theorem w_552 : Cond.methodLink "CorridorCellsLaw" 86 ⟨"CorridorCells", "mark", "(IIII)I"⟩ ∈ mx_W := mx_win 586 (by decide +kernel) rfl
theorem w_553 : Cond.instanceMethod ⟨"CorridorCells", "mark", "(IIII)I"⟩ ∈ mx_W := mx_win 587 (by decide +kernel) rfl
theorem w_554 : Cond.selects "CorridorCells" ⟨"CorridorCells", "mark", "(IIII)I"⟩ ⟨"CorridorCells", "mark", "(IIII)I"⟩ ∈ mx_W := mx_win 588 (by decide +kernel) rfl
theorem w_556 : Cond.constantLong "CorridorCells" 186 7 ∈ mx_W := mx_win 590 (by decide +kernel) rfl
theorem w_557 : Cond.methodLink "CorridorCells" 188 ⟨"CorridorCells$Ground", "putMark", "(III)I"⟩ ∈ mx_W := mx_win 591 (by decide +kernel) rfl
theorem w_558 : Cond.instanceMethod ⟨"CorridorCells$Ground", "putMark", "(III)I"⟩ ∈ mx_W := mx_win 592 (by decide +kernel) rfl
theorem w_559 : Cond.selects "CorridorCells$Ground" ⟨"CorridorCells$Ground", "putMark", "(III)I"⟩ ⟨"CorridorCells$Ground", "putMark", "(III)I"⟩ ∈ mx_W := mx_win 593 (by decide +kernel) rfl
theorem w_561 : Cond.methodLink "CorridorCellsLaw" 91 ⟨"CorridorCells", "zone", "(III)I"⟩ ∈ mx_W := mx_win 595 (by decide +kernel) rfl
theorem w_562 : Cond.instanceMethod ⟨"CorridorCells", "zone", "(III)I"⟩ ∈ mx_W := mx_win 596 (by decide +kernel) rfl
theorem w_563 : Cond.selects "CorridorCells" ⟨"CorridorCells", "zone", "(III)I"⟩ ⟨"CorridorCells", "zone", "(III)I"⟩ ∈ mx_W := mx_win 597 (by decide +kernel) rfl
theorem w_565 : Cond.methodLink "CorridorCells" 191 ⟨"CorridorCells", "isZone", "(I)Z"⟩ ∈ mx_W := mx_win 599 (by decide +kernel) rfl
theorem w_566 : Cond.static ⟨"CorridorCells", "isZone", "(I)Z"⟩ ∈ mx_W := mx_win 600 (by decide +kernel) rfl
theorem w_568 : Cond.methodLink "CorridorCellsLaw" 96 ⟨"CorridorCells", "sum", "(I)J"⟩ ∈ mx_W := mx_win 602 (by decide +kernel) rfl
theorem w_569 : Cond.instanceMethod ⟨"CorridorCells", "sum", "(I)J"⟩ ∈ mx_W := mx_win 603 (by decide +kernel) rfl
theorem w_570 : Cond.selects "CorridorCells" ⟨"CorridorCells", "sum", "(I)J"⟩ ⟨"CorridorCells", "sum", "(I)J"⟩ ∈ mx_W := mx_win 604 (by decide +kernel) rfl
theorem w_572 : Cond.methodLink "CorridorCellsLaw" 100 ⟨"CorridorCells", "turns", "()I"⟩ ∈ mx_W := mx_win 606 (by decide +kernel) rfl
theorem w_573 : Cond.instanceMethod ⟨"CorridorCells", "turns", "()I"⟩ ∈ mx_W := mx_win 607 (by decide +kernel) rfl
theorem w_574 : Cond.selects "CorridorCells" ⟨"CorridorCells", "turns", "()I"⟩ ⟨"CorridorCells", "turns", "()I"⟩ ∈ mx_W := mx_win 608 (by decide +kernel) rfl
theorem w_576 : Cond.methodLink "CorridorCells" 197 ⟨"CorridorCells$Way", "turnCount", "()I"⟩ ∈ mx_W := mx_win 610 (by decide +kernel) rfl
theorem w_577 : Cond.instanceMethod ⟨"CorridorCells$Way", "turnCount", "()I"⟩ ∈ mx_W := mx_win 611 (by decide +kernel) rfl
theorem w_578 : Cond.selects "CorridorCells$Way" ⟨"CorridorCells$Way", "turnCount", "()I"⟩ ⟨"CorridorCells$Way", "turnCount", "()I"⟩ ∈ mx_W := mx_win 612 (by decide +kernel) rfl
theorem w_580 : Cond.methodLink "CorridorCellsLaw" 105 ⟨"CorridorCells", "keeps", "()Z"⟩ ∈ mx_W := mx_win 614 (by decide +kernel) rfl
theorem w_581 : Cond.instanceMethod ⟨"CorridorCells", "keeps", "()Z"⟩ ∈ mx_W := mx_win 615 (by decide +kernel) rfl
theorem w_582 : Cond.selects "CorridorCells" ⟨"CorridorCells", "keeps", "()Z"⟩ ⟨"CorridorCells", "keeps", "()Z"⟩ ∈ mx_W := mx_win 616 (by decide +kernel) rfl
theorem w_584 : Cond.methodLink "CorridorCells" 200 ⟨"CorridorCells$Way", "isKept", "(LCorridorCells$Ground;)Z"⟩ ∈ mx_W := mx_win 618 (by decide +kernel) rfl
theorem w_585 : Cond.instanceMethod ⟨"CorridorCells$Way", "isKept", "(LCorridorCells$Ground;)Z"⟩ ∈ mx_W := mx_win 619 (by decide +kernel) rfl
theorem w_586 : Cond.selects "CorridorCells$Way" ⟨"CorridorCells$Way", "isKept", "(LCorridorCells$Ground;)Z"⟩ ⟨"CorridorCells$Way", "isKept", "(LCorridorCells$Ground;)Z"⟩ ∈ mx_W := mx_win 620 (by decide +kernel) rfl
theorem w_588 : Cond.methodLink "CorridorCells$Way" 43 ⟨"CorridorCells$Way", "firstPlace", "()I"⟩ ∈ mx_W := mx_win 622 (by decide +kernel) rfl
theorem w_589 : Cond.methodLink "CorridorCells$Way" 47 ⟨"CorridorCells$Way", "lastPlace", "()I"⟩ ∈ mx_W := mx_win 623 (by decide +kernel) rfl
theorem w_590 : Cond.methodLink "CorridorCells$Way" 50 ⟨"CorridorCells$Ground", "moveFrom", "(III)I"⟩ ∈ mx_W := mx_win 624 (by decide +kernel) rfl
theorem w_591 : Cond.methodLink "CorridorCells$Way" 54 ⟨"CorridorCells$Ground", "bridgedUpTo", "(II)I"⟩ ∈ mx_W := mx_win 625 (by decide +kernel) rfl
theorem w_592 : Cond.methodLink "CorridorCellsLaw" 9 ⟨"CorridorCellsLaw", "cell", "([II)I"⟩ ∈ mx_W := mx_win 626 (by decide +kernel) rfl
theorem w_593 : Cond.static ⟨"CorridorCellsLaw", "cell", "([II)I"⟩ ∈ mx_W := mx_win 627 (by decide +kernel) rfl
theorem w_595 : Cond.classLink "CorridorCellsLaw" 18 "CorridorCellsModel" ∈ mx_W := mx_win 629 (by decide +kernel) rfl
theorem w_596 : Cond.instantiable "CorridorCellsModel" 33 ∈ mx_W := mx_win 630 (by decide +kernel) rfl
theorem w_597 : Cond.methodLink "CorridorCellsLaw" 20 ⟨"CorridorCellsModel", "<init>", "(II)V"⟩ ∈ mx_W := mx_win 631 (by decide +kernel) rfl
theorem w_598 : Cond.instanceMethod ⟨"CorridorCellsModel", "<init>", "(II)V"⟩ ∈ mx_W := mx_win 632 (by decide +kernel) rfl
theorem w_600 : Cond.methodLink "CorridorCellsModel" 1 ⟨"java/lang/Object", "<init>", "()V"⟩ ∈ mx_W := mx_win 634 (by decide +kernel) rfl
theorem w_601 : Cond.constantLong "CorridorCellsModel" 60 (-1) ∈ mx_W := mx_win 635 (by decide +kernel) rfl
theorem w_602 : Cond.constant "CorridorCellsModel" 69 88128 ∈ mx_W := mx_win 636 (by decide +kernel) rfl
theorem w_603 : Cond.fieldLink "CorridorCellsModel" 89 "CorridorCellsModel" "width" "I" ∈ mx_W := mx_win 637 (by decide +kernel) rfl
theorem w_604 : Cond.fieldLink "CorridorCellsModel" 92 "CorridorCellsModel" "height" "I" ∈ mx_W := mx_win 638 (by decide +kernel) rfl
theorem w_605 : Cond.fieldLink "CorridorCellsModel" 7 "CorridorCellsModel" "costs" "[I" ∈ mx_W := mx_win 639 (by decide +kernel) rfl
theorem w_606 : Cond.fieldLink "CorridorCellsModel" 13 "CorridorCellsModel" "levels" "[I" ∈ mx_W := mx_win 640 (by decide +kernel) rfl
theorem w_607 : Cond.fieldLink "CorridorCellsModel" 16 "CorridorCellsModel" "barred" "[Z" ∈ mx_W := mx_win 641 (by decide +kernel) rfl
theorem w_608 : Cond.fieldLink "CorridorCellsModel" 20 "CorridorCellsModel" "mosts" "[I" ∈ mx_W := mx_win 642 (by decide +kernel) rfl
theorem w_609 : Cond.fieldLink "CorridorCellsModel" 23 "CorridorCellsModel" "cents" "[I" ∈ mx_W := mx_win 643 (by decide +kernel) rfl
theorem w_610 : Cond.fieldLink "CorridorCellsModel" 26 "CorridorCellsModel" "values" "[I" ∈ mx_W := mx_win 644 (by decide +kernel) rfl
theorem w_611 : Cond.fieldLink "CorridorCellsModel" 29 "CorridorCellsModel" "marks" "[I" ∈ mx_W := mx_win 645 (by decide +kernel) rfl
theorem w_612 : Cond.fieldLink "CorridorCellsModel" 32 "CorridorCellsModel" "zones" "[I" ∈ mx_W := mx_win 646 (by decide +kernel) rfl
theorem w_613 : Cond.fieldLink "CorridorCellsModel" 35 "CorridorCellsModel" "weights" "[I" ∈ mx_W := mx_win 647 (by decide +kernel) rfl
theorem w_614 : Cond.fieldLink "CorridorCellsModel" 38 "CorridorCellsModel" "reach" "I" ∈ mx_W := mx_win 648 (by decide +kernel) rfl
theorem w_615 : Cond.fieldLink "CorridorCellsModel" 42 "CorridorCellsModel" "slope" "I" ∈ mx_W := mx_win 649 (by decide +kernel) rfl
theorem w_616 : Cond.fieldLink "CorridorCellsModel" 45 "CorridorCellsModel" "turn" "I" ∈ mx_W := mx_win 650 (by decide +kernel) rfl
theorem w_617 : Cond.fieldLink "CorridorCellsModel" 207 "CorridorCellsModel" "found" "I" ∈ mx_W := mx_win 651 (by decide +kernel) rfl
theorem w_618 : Cond.fieldLink "CorridorCellsModel" 48 "CorridorCellsModel" "hand" "I" ∈ mx_W := mx_win 652 (by decide +kernel) rfl
theorem w_619 : Cond.fieldLink "CorridorCellsModel" 51 "CorridorCellsModel" "places" "[I" ∈ mx_W := mx_win 653 (by decide +kernel) rfl
theorem w_620 : Cond.fieldLink "CorridorCellsModel" 54 "CorridorCellsModel" "cells" "[I" ∈ mx_W := mx_win 654 (by decide +kernel) rfl
theorem w_621 : Cond.fieldLink "CorridorCellsModel" 57 "CorridorCellsModel" "headings" "[I" ∈ mx_W := mx_win 655 (by decide +kernel) rfl
theorem w_622 : Cond.fieldLink "CorridorCellsModel" 197 "CorridorCellsModel" "nodes" "I" ∈ mx_W := mx_win 656 (by decide +kernel) rfl
theorem w_623 : Cond.fieldLink "CorridorCellsModel" 62 "CorridorCellsModel" "bound" "J" ∈ mx_W := mx_win 657 (by decide +kernel) rfl
theorem w_624 : Cond.fieldLink "CorridorCellsModel" 193 "CorridorCellsModel" "proved" "Z" ∈ mx_W := mx_win 658 (by decide +kernel) rfl
theorem w_625 : Cond.fieldLink "CorridorCellsModel" 190 "CorridorCellsModel" "from" "I" ∈ mx_W := mx_win 659 (by decide +kernel) rfl
theorem w_626 : Cond.fieldLink "CorridorCellsModel" 153 "CorridorCellsModel" "end" "I" ∈ mx_W := mx_win 660 (by decide +kernel) rfl
theorem w_627 : Cond.fieldLink "CorridorCellsModel" 156 "CorridorCellsModel" "shares" "I" ∈ mx_W := mx_win 661 (by decide +kernel) rfl
theorem w_628 : Cond.fieldLink "CorridorCellsModel" 66 "CorridorCellsModel" "shared" "[Z" ∈ mx_W := mx_win 662 (by decide +kernel) rfl
theorem w_629 : Cond.fieldLink "CorridorCellsModel" 70 "CorridorCellsModel" "rests" "[J" ∈ mx_W := mx_win 663 (by decide +kernel) rfl
theorem w_630 : Cond.fieldLink "CorridorCellsModel" 74 "CorridorCellsModel" "turnRests" "[I" ∈ mx_W := mx_win 664 (by decide +kernel) rfl
theorem w_631 : Cond.fieldLink "CorridorCellsModel" 77 "CorridorCellsModel" "moveRests" "[I" ∈ mx_W := mx_win 665 (by decide +kernel) rfl
theorem w_632 : Cond.fieldLink "CorridorCellsModel" 80 "CorridorCellsModel" "states" "[I" ∈ mx_W := mx_win 666 (by decide +kernel) rfl
theorem w_633 : Cond.fieldLink "CorridorCellsModel" 83 "CorridorCellsModel" "spots" "[I" ∈ mx_W := mx_win 667 (by decide +kernel) rfl
theorem w_634 : Cond.fieldLink "CorridorCellsModel" 146 "CorridorCellsModel" "size" "I" ∈ mx_W := mx_win 668 (by decide +kernel) rfl
theorem w_635 : Cond.fieldLink "CorridorCellsModel" 86 "CorridorCellsModel" "heap" "[I" ∈ mx_W := mx_win 669 (by decide +kernel) rfl
theorem w_703 : Cond.methodLink "CorridorCellsLaw" 24 ⟨"CorridorCellsModel", "cell", "(IIII)Z"⟩ ∈ mx_W := mx_win 737 (by decide +kernel) rfl
theorem w_704 : Cond.instanceMethod ⟨"CorridorCellsModel", "cell", "(IIII)Z"⟩ ∈ mx_W := mx_win 738 (by decide +kernel) rfl
theorem w_705 : Cond.selects "CorridorCellsModel" ⟨"CorridorCellsModel", "cell", "(IIII)Z"⟩ ⟨"CorridorCellsModel", "cell", "(IIII)Z"⟩ ∈ mx_W := mx_win 739 (by decide +kernel) rfl
theorem w_707 : Cond.methodLink "CorridorCellsModel" 99 ⟨"CorridorCellsModel", "isCell", "(II)Z"⟩ ∈ mx_W := mx_win 741 (by decide +kernel) rfl
theorem w_709 : Cond.instanceMethod ⟨"CorridorCellsModel", "isCell", "(II)Z"⟩ ∈ mx_W := mx_win 743 (by decide +kernel) rfl
theorem w_711 : Cond.methodLink "CorridorCellsModel" 95 ⟨"CorridorCellsModel", "within", "(JJJ)Z"⟩ ∈ mx_W := mx_win 745 (by decide +kernel) rfl
theorem w_712 : Cond.static ⟨"CorridorCellsModel", "within", "(JJJ)Z"⟩ ∈ mx_W := mx_win 746 (by decide +kernel) rfl
theorem w_714 : Cond.constantLong "CorridorCellsModel" 103 999 ∈ mx_W := mx_win 748 (by decide +kernel) rfl
theorem w_715 : Cond.constantLong "CorridorCellsModel" 105 9999 ∈ mx_W := mx_win 749 (by decide +kernel) rfl
theorem w_716 : Cond.methodLink "CorridorCellsLaw" 29 ⟨"CorridorCellsModel", "bar", "(II)Z"⟩ ∈ mx_W := mx_win 750 (by decide +kernel) rfl
theorem w_717 : Cond.instanceMethod ⟨"CorridorCellsModel", "bar", "(II)Z"⟩ ∈ mx_W := mx_win 751 (by decide +kernel) rfl
theorem w_718 : Cond.selects "CorridorCellsModel" ⟨"CorridorCellsModel", "bar", "(II)Z"⟩ ⟨"CorridorCellsModel", "bar", "(II)Z"⟩ ∈ mx_W := mx_win 752 (by decide +kernel) rfl
theorem w_720 : Cond.methodLink "CorridorCellsLaw" 34 ⟨"CorridorCellsModel", "moves", "(III)Z"⟩ ∈ mx_W := mx_win 754 (by decide +kernel) rfl
theorem w_721 : Cond.instanceMethod ⟨"CorridorCellsModel", "moves", "(III)Z"⟩ ∈ mx_W := mx_win 755 (by decide +kernel) rfl
theorem w_722 : Cond.selects "CorridorCellsModel" ⟨"CorridorCellsModel", "moves", "(III)Z"⟩ ⟨"CorridorCellsModel", "moves", "(III)Z"⟩ ∈ mx_W := mx_win 756 (by decide +kernel) rfl
theorem w_724 : Cond.constantLong "CorridorCellsModel" 107 2 ∈ mx_W := mx_win 758 (by decide +kernel) rfl
theorem w_725 : Cond.constantLong "CorridorCellsModel" 109 8 ∈ mx_W := mx_win 759 (by decide +kernel) rfl
theorem w_726 : Cond.methodLink "CorridorCellsLaw" 41 ⟨"CorridorCellsModel", "aim", "(IIIJ)Z"⟩ ∈ mx_W := mx_win 760 (by decide +kernel) rfl
theorem w_727 : Cond.instanceMethod ⟨"CorridorCellsModel", "aim", "(IIIJ)Z"⟩ ∈ mx_W := mx_win 761 (by decide +kernel) rfl
theorem w_728 : Cond.selects "CorridorCellsModel" ⟨"CorridorCellsModel", "aim", "(IIIJ)Z"⟩ ⟨"CorridorCellsModel", "aim", "(IIIJ)Z"⟩ ∈ mx_W := mx_win 762 (by decide +kernel) rfl
theorem w_730 : Cond.constantLong "CorridorCellsModel" 111 3 ∈ mx_W := mx_win 764 (by decide +kernel) rfl
theorem w_731 : Cond.methodLink "CorridorCellsLaw" 46 ⟨"CorridorCellsModel", "weight", "(IJJ)Z"⟩ ∈ mx_W := mx_win 765 (by decide +kernel) rfl
theorem w_732 : Cond.instanceMethod ⟨"CorridorCellsModel", "weight", "(IJJ)Z"⟩ ∈ mx_W := mx_win 766 (by decide +kernel) rfl
theorem w_733 : Cond.selects "CorridorCellsModel" ⟨"CorridorCellsModel", "weight", "(IJJ)Z"⟩ ⟨"CorridorCellsModel", "weight", "(IJJ)Z"⟩ ∈ mx_W := mx_win 767 (by decide +kernel) rfl
theorem w_735 : Cond.constantLong "CorridorCellsModel" 113 20 ∈ mx_W := mx_win 769 (by decide +kernel) rfl
theorem w_736 : Cond.constantLong "CorridorCellsModel" 115 6 ∈ mx_W := mx_win 770 (by decide +kernel) rfl
theorem w_737 : Cond.constantLong "CorridorCellsModel" 117 60 ∈ mx_W := mx_win 771 (by decide +kernel) rfl
theorem w_738 : Cond.methodLink "CorridorCellsLaw" 85 ⟨"CorridorCellsModel", "bridge", "(IIIJ)Z"⟩ ∈ mx_W := mx_win 772 (by decide +kernel) rfl
theorem w_739 : Cond.instanceMethod ⟨"CorridorCellsModel", "bridge", "(IIIJ)Z"⟩ ∈ mx_W := mx_win 773 (by decide +kernel) rfl
theorem w_740 : Cond.selects "CorridorCellsModel" ⟨"CorridorCellsModel", "bridge", "(IIIJ)Z"⟩ ⟨"CorridorCellsModel", "bridge", "(IIIJ)Z"⟩ ∈ mx_W := mx_win 774 (by decide +kernel) rfl
theorem w_742 : Cond.methodLink "CorridorCellsLaw" 90 ⟨"CorridorCellsModel", "mark", "(IIII)I"⟩ ∈ mx_W := mx_win 776 (by decide +kernel) rfl
theorem w_743 : Cond.instanceMethod ⟨"CorridorCellsModel", "mark", "(IIII)I"⟩ ∈ mx_W := mx_win 777 (by decide +kernel) rfl
theorem w_744 : Cond.selects "CorridorCellsModel" ⟨"CorridorCellsModel", "mark", "(IIII)I"⟩ ⟨"CorridorCellsModel", "mark", "(IIII)I"⟩ ∈ mx_W := mx_win 778 (by decide +kernel) rfl
theorem w_746 : Cond.constantLong "CorridorCellsModel" 119 7 ∈ mx_W := mx_win 780 (by decide +kernel) rfl
theorem w_747 : Cond.methodLink "CorridorCellsLaw" 95 ⟨"CorridorCellsModel", "zone", "(III)I"⟩ ∈ mx_W := mx_win 781 (by decide +kernel) rfl
theorem w_748 : Cond.instanceMethod ⟨"CorridorCellsModel", "zone", "(III)I"⟩ ∈ mx_W := mx_win 782 (by decide +kernel) rfl
theorem w_749 : Cond.selects "CorridorCellsModel" ⟨"CorridorCellsModel", "zone", "(III)I"⟩ ⟨"CorridorCellsModel", "zone", "(III)I"⟩ ∈ mx_W := mx_win 783 (by decide +kernel) rfl
theorem w_751 : Cond.methodLink "CorridorCellsLaw" 51 ⟨"CorridorCellsModel", "run", "(IIIIJ)I"⟩ ∈ mx_W := mx_win 785 (by decide +kernel) rfl
theorem w_752 : Cond.instanceMethod ⟨"CorridorCellsModel", "run", "(IIIIJ)I"⟩ ∈ mx_W := mx_win 786 (by decide +kernel) rfl
theorem w_753 : Cond.selects "CorridorCellsModel" ⟨"CorridorCellsModel", "run", "(IIIIJ)I"⟩ ⟨"CorridorCellsModel", "run", "(IIIIJ)I"⟩ ∈ mx_W := mx_win 787 (by decide +kernel) rfl
theorem w_755 : Cond.constantLong "CorridorCellsModel" 213 100000 ∈ mx_W := mx_win 789 (by decide +kernel) rfl
theorem w_756 : Cond.methodLink "CorridorCellsModel" 215 ⟨"CorridorCellsModel", "search", "()I"⟩ ∈ mx_W := mx_win 790 (by decide +kernel) rfl
theorem w_758 : Cond.instanceMethod ⟨"CorridorCellsModel", "search", "()I"⟩ ∈ mx_W := mx_win 792 (by decide +kernel) rfl
theorem w_760 : Cond.methodLink "CorridorCellsModel" 175 ⟨"CorridorCellsModel", "isHeading", "(I)Z"⟩ ∈ mx_W := mx_win 794 (by decide +kernel) rfl
theorem w_762 : Cond.instanceMethod ⟨"CorridorCellsModel", "isHeading", "(I)Z"⟩ ∈ mx_W := mx_win 796 (by decide +kernel) rfl
theorem w_764 : Cond.methodLink "CorridorCellsModel" 182 ⟨"CorridorCellsModel", "labelOf", "(IIII)I"⟩ ∈ mx_W := mx_win 798 (by decide +kernel) rfl
theorem w_765 : Cond.static ⟨"CorridorCellsModel", "labelOf", "(IIII)I"⟩ ∈ mx_W := mx_win 799 (by decide +kernel) rfl
theorem w_767 : Cond.methodLink "CorridorCellsModel" 186 ⟨"CorridorCellsModel", "offer", "(IJII)V"⟩ ∈ mx_W := mx_win 801 (by decide +kernel) rfl
theorem w_769 : Cond.instanceMethod ⟨"CorridorCellsModel", "offer", "(IJII)V"⟩ ∈ mx_W := mx_win 803 (by decide +kernel) rfl
theorem w_771 : Cond.methodLink "CorridorCellsModel" 149 ⟨"CorridorCellsModel", "rise", "(I)V"⟩ ∈ mx_W := mx_win 805 (by decide +kernel) rfl
theorem w_773 : Cond.instanceMethod ⟨"CorridorCellsModel", "rise", "(I)V"⟩ ∈ mx_W := mx_win 807 (by decide +kernel) rfl
theorem w_775 : Cond.methodLink "CorridorCellsModel" 139 ⟨"CorridorCellsModel", "isBefore", "(II)Z"⟩ ∈ mx_W := mx_win 809 (by decide +kernel) rfl
theorem w_777 : Cond.instanceMethod ⟨"CorridorCellsModel", "isBefore", "(II)Z"⟩ ∈ mx_W := mx_win 811 (by decide +kernel) rfl
theorem w_779 : Cond.methodLink "CorridorCellsModel" 142 ⟨"CorridorCellsModel", "lay", "(II)V"⟩ ∈ mx_W := mx_win 813 (by decide +kernel) rfl
theorem w_781 : Cond.instanceMethod ⟨"CorridorCellsModel", "lay", "(II)V"⟩ ∈ mx_W := mx_win 815 (by decide +kernel) rfl
theorem w_783 : Cond.methodLink "CorridorCellsModel" 200 ⟨"CorridorCellsModel", "takeLeast", "()I"⟩ ∈ mx_W := mx_win 817 (by decide +kernel) rfl
theorem w_785 : Cond.instanceMethod ⟨"CorridorCellsModel", "takeLeast", "()I"⟩ ∈ mx_W := mx_win 819 (by decide +kernel) rfl
theorem w_787 : Cond.methodLink "CorridorCellsModel" 204 ⟨"CorridorCellsModel", "spread", "(I)V"⟩ ∈ mx_W := mx_win 821 (by decide +kernel) rfl
theorem w_789 : Cond.instanceMethod ⟨"CorridorCellsModel", "spread", "(I)V"⟩ ∈ mx_W := mx_win 823 (by decide +kernel) rfl
theorem w_791 : Cond.methodLink "CorridorCellsModel" 159 ⟨"CorridorCellsModel", "onward", "(II)I"⟩ ∈ mx_W := mx_win 825 (by decide +kernel) rfl
theorem w_793 : Cond.instanceMethod ⟨"CorridorCellsModel", "onward", "(II)I"⟩ ∈ mx_W := mx_win 827 (by decide +kernel) rfl
theorem w_795 : Cond.methodLink "CorridorCellsModel" 129 ⟨"CorridorCellsModel", "stepX", "(I)I"⟩ ∈ mx_W := mx_win 829 (by decide +kernel) rfl
theorem w_796 : Cond.static ⟨"CorridorCellsModel", "stepX", "(I)I"⟩ ∈ mx_W := mx_win 830 (by decide +kernel) rfl
theorem w_798 : Cond.methodLink "CorridorCellsModel" 133 ⟨"CorridorCellsModel", "stepY", "(I)I"⟩ ∈ mx_W := mx_win 832 (by decide +kernel) rfl
theorem w_799 : Cond.static ⟨"CorridorCellsModel", "stepY", "(I)I"⟩ ∈ mx_W := mx_win 833 (by decide +kernel) rfl
theorem w_801 : Cond.methodLink "CorridorCellsModel" 162 ⟨"CorridorCellsModel", "isShut", "(I)Z"⟩ ∈ mx_W := mx_win 835 (by decide +kernel) rfl
theorem w_803 : Cond.instanceMethod ⟨"CorridorCellsModel", "isShut", "(I)Z"⟩ ∈ mx_W := mx_win 837 (by decide +kernel) rfl
theorem w_805 : Cond.methodLink "CorridorCellsModel" 165 ⟨"CorridorCellsModel", "isFlat", "(II)Z"⟩ ∈ mx_W := mx_win 839 (by decide +kernel) rfl
theorem w_807 : Cond.instanceMethod ⟨"CorridorCellsModel", "isFlat", "(II)Z"⟩ ∈ mx_W := mx_win 841 (by decide +kernel) rfl
theorem w_809 : Cond.methodLink "CorridorCellsModel" 168 ⟨"CorridorCellsModel", "lengthOf", "(I)I"⟩ ∈ mx_W := mx_win 843 (by decide +kernel) rfl
theorem w_810 : Cond.static ⟨"CorridorCellsModel", "lengthOf", "(I)I"⟩ ∈ mx_W := mx_win 844 (by decide +kernel) rfl
theorem w_812 : Cond.methodLink "CorridorCellsModel" 171 ⟨"CorridorCellsModel", "costOf", "(II)J"⟩ ∈ mx_W := mx_win 846 (by decide +kernel) rfl
theorem w_814 : Cond.instanceMethod ⟨"CorridorCellsModel", "costOf", "(II)J"⟩ ∈ mx_W := mx_win 848 (by decide +kernel) rfl
theorem w_816 : Cond.methodLink "CorridorCellsModel" 121 ⟨"CorridorCellsModel", "isBridged", "(I)Z"⟩ ∈ mx_W := mx_win 850 (by decide +kernel) rfl
theorem w_818 : Cond.instanceMethod ⟨"CorridorCellsModel", "isBridged", "(I)Z"⟩ ∈ mx_W := mx_win 852 (by decide +kernel) rfl
theorem w_820 : Cond.methodLink "CorridorCellsModel" 125 ⟨"CorridorCellsModel", "valueOf", "(II)I"⟩ ∈ mx_W := mx_win 854 (by decide +kernel) rfl
theorem w_822 : Cond.instanceMethod ⟨"CorridorCellsModel", "valueOf", "(II)I"⟩ ∈ mx_W := mx_win 856 (by decide +kernel) rfl
theorem w_824 : Cond.methodLink "CorridorCellsModel" 178 ⟨"CorridorCellsModel", "follows", "(IIII)Z"⟩ ∈ mx_W := mx_win 858 (by decide +kernel) rfl
theorem w_826 : Cond.instanceMethod ⟨"CorridorCellsModel", "follows", "(IIII)Z"⟩ ∈ mx_W := mx_win 860 (by decide +kernel) rfl
theorem w_828 : Cond.methodLink "CorridorCellsModel" 136 ⟨"CorridorCellsModel", "differ", "(II)I"⟩ ∈ mx_W := mx_win 862 (by decide +kernel) rfl
theorem w_829 : Cond.static ⟨"CorridorCellsModel", "differ", "(II)I"⟩ ∈ mx_W := mx_win 863 (by decide +kernel) rfl
theorem w_831 : Cond.methodLink "CorridorCellsModel" 218 ⟨"CorridorCellsModel", "keep", "(I)I"⟩ ∈ mx_W := mx_win 865 (by decide +kernel) rfl
theorem w_833 : Cond.instanceMethod ⟨"CorridorCellsModel", "keep", "(I)I"⟩ ∈ mx_W := mx_win 867 (by decide +kernel) rfl
theorem w_835 : Cond.methodLink "CorridorCellsModel" 210 ⟨"CorridorCellsModel", "next", "(I)I"⟩ ∈ mx_W := mx_win 869 (by decide +kernel) rfl
theorem w_837 : Cond.instanceMethod ⟨"CorridorCellsModel", "next", "(I)I"⟩ ∈ mx_W := mx_win 871 (by decide +kernel) rfl
theorem w_839 : Cond.methodLink "CorridorCellsLaw" 76 ⟨"CorridorCellsModel", "unlike", "(JJ)I"⟩ ∈ mx_W := mx_win 873 (by decide +kernel) rfl
theorem w_840 : Cond.instanceMethod ⟨"CorridorCellsModel", "unlike", "(JJ)I"⟩ ∈ mx_W := mx_win 874 (by decide +kernel) rfl
theorem w_841 : Cond.selects "CorridorCellsModel" ⟨"CorridorCellsModel", "unlike", "(JJ)I"⟩ ⟨"CorridorCellsModel", "unlike", "(JJ)I"⟩ ∈ mx_W := mx_win 875 (by decide +kernel) rfl
theorem w_843 : Cond.constantLong "CorridorCellsModel" 221 100 ∈ mx_W := mx_win 877 (by decide +kernel) rfl
theorem w_844 : Cond.methodLink "CorridorCellsLaw" 66 ⟨"CorridorCellsModel", "bound", "()J"⟩ ∈ mx_W := mx_win 878 (by decide +kernel) rfl
theorem w_845 : Cond.instanceMethod ⟨"CorridorCellsModel", "bound", "()J"⟩ ∈ mx_W := mx_win 879 (by decide +kernel) rfl
theorem w_846 : Cond.selects "CorridorCellsModel" ⟨"CorridorCellsModel", "bound", "()J"⟩ ⟨"CorridorCellsModel", "bound", "()J"⟩ ∈ mx_W := mx_win 880 (by decide +kernel) rfl
theorem w_848 : Cond.methodLink "CorridorCellsLaw" 71 ⟨"CorridorCellsModel", "proved", "()Z"⟩ ∈ mx_W := mx_win 882 (by decide +kernel) rfl
theorem w_849 : Cond.instanceMethod ⟨"CorridorCellsModel", "proved", "()Z"⟩ ∈ mx_W := mx_win 883 (by decide +kernel) rfl
theorem w_850 : Cond.selects "CorridorCellsModel" ⟨"CorridorCellsModel", "proved", "()Z"⟩ ⟨"CorridorCellsModel", "proved", "()Z"⟩ ∈ mx_W := mx_win 884 (by decide +kernel) rfl
theorem w_852 : Cond.methodLink "CorridorCellsLaw" 56 ⟨"CorridorCellsModel", "at", "(II)I"⟩ ∈ mx_W := mx_win 886 (by decide +kernel) rfl
theorem w_853 : Cond.instanceMethod ⟨"CorridorCellsModel", "at", "(II)I"⟩ ∈ mx_W := mx_win 887 (by decide +kernel) rfl
theorem w_854 : Cond.selects "CorridorCellsModel" ⟨"CorridorCellsModel", "at", "(II)I"⟩ ⟨"CorridorCellsModel", "at", "(II)I"⟩ ∈ mx_W := mx_win 888 (by decide +kernel) rfl
theorem w_856 : Cond.methodLink "CorridorCellsLaw" 61 ⟨"CorridorCellsModel", "cost", "(I)J"⟩ ∈ mx_W := mx_win 890 (by decide +kernel) rfl
theorem w_857 : Cond.instanceMethod ⟨"CorridorCellsModel", "cost", "(I)J"⟩ ∈ mx_W := mx_win 891 (by decide +kernel) rfl
theorem w_858 : Cond.selects "CorridorCellsModel" ⟨"CorridorCellsModel", "cost", "(I)J"⟩ ⟨"CorridorCellsModel", "cost", "(I)J"⟩ ∈ mx_W := mx_win 892 (by decide +kernel) rfl
theorem w_860 : Cond.methodLink "CorridorCellsModel" 223 ⟨"CorridorCellsModel", "wayCost", "(II)J"⟩ ∈ mx_W := mx_win 894 (by decide +kernel) rfl
theorem w_862 : Cond.instanceMethod ⟨"CorridorCellsModel", "wayCost", "(II)J"⟩ ∈ mx_W := mx_win 896 (by decide +kernel) rfl
theorem w_864 : Cond.methodLink "CorridorCellsModel" 226 ⟨"CorridorCellsModel", "divisor", "(JJ)J"⟩ ∈ mx_W := mx_win 898 (by decide +kernel) rfl
theorem w_865 : Cond.static ⟨"CorridorCellsModel", "divisor", "(JJ)J"⟩ ∈ mx_W := mx_win 899 (by decide +kernel) rfl
theorem w_867 : Cond.methodLink "CorridorCellsLaw" 81 ⟨"CorridorCellsModel", "span", "(III)J"⟩ ∈ mx_W := mx_win 901 (by decide +kernel) rfl
theorem w_868 : Cond.instanceMethod ⟨"CorridorCellsModel", "span", "(III)J"⟩ ∈ mx_W := mx_win 902 (by decide +kernel) rfl
theorem w_869 : Cond.selects "CorridorCellsModel" ⟨"CorridorCellsModel", "span", "(III)J"⟩ ⟨"CorridorCellsModel", "span", "(III)J"⟩ ∈ mx_W := mx_win 903 (by decide +kernel) rfl
theorem w_871 : Cond.methodLink "CorridorCellsModel" 230 ⟨"CorridorCellsModel", "wayValue", "(II)J"⟩ ∈ mx_W := mx_win 905 (by decide +kernel) rfl
theorem w_873 : Cond.instanceMethod ⟨"CorridorCellsModel", "wayValue", "(II)J"⟩ ∈ mx_W := mx_win 907 (by decide +kernel) rfl
theorem w_875 : Cond.methodLink "CorridorCellsModel" 233 ⟨"CorridorCellsModel", "isLess", "(JJJJ)Z"⟩ ∈ mx_W := mx_win 909 (by decide +kernel) rfl
theorem w_876 : Cond.static ⟨"CorridorCellsModel", "isLess", "(JJJJ)Z"⟩ ∈ mx_W := mx_win 910 (by decide +kernel) rfl
theorem w_878 : Cond.methodLink "CorridorCellsLaw" 99 ⟨"CorridorCellsModel", "sum", "(I)J"⟩ ∈ mx_W := mx_win 912 (by decide +kernel) rfl
theorem w_879 : Cond.instanceMethod ⟨"CorridorCellsModel", "sum", "(I)J"⟩ ∈ mx_W := mx_win 913 (by decide +kernel) rfl
theorem w_880 : Cond.selects "CorridorCellsModel" ⟨"CorridorCellsModel", "sum", "(I)J"⟩ ⟨"CorridorCellsModel", "sum", "(I)J"⟩ ∈ mx_W := mx_win 914 (by decide +kernel) rfl
theorem w_882 : Cond.methodLink "CorridorCellsLaw" 104 ⟨"CorridorCellsModel", "turns", "()I"⟩ ∈ mx_W := mx_win 916 (by decide +kernel) rfl
theorem w_883 : Cond.instanceMethod ⟨"CorridorCellsModel", "turns", "()I"⟩ ∈ mx_W := mx_win 917 (by decide +kernel) rfl
theorem w_884 : Cond.selects "CorridorCellsModel" ⟨"CorridorCellsModel", "turns", "()I"⟩ ⟨"CorridorCellsModel", "turns", "()I"⟩ ∈ mx_W := mx_win 918 (by decide +kernel) rfl
theorem w_886 : Cond.methodLink "CorridorCellsLaw" 108 ⟨"CorridorCellsModel", "keeps", "()Z"⟩ ∈ mx_W := mx_win 920 (by decide +kernel) rfl
theorem w_887 : Cond.instanceMethod ⟨"CorridorCellsModel", "keeps", "()Z"⟩ ∈ mx_W := mx_win 921 (by decide +kernel) rfl
theorem w_888 : Cond.selects "CorridorCellsModel" ⟨"CorridorCellsModel", "keeps", "()Z"⟩ ⟨"CorridorCellsModel", "keeps", "()Z"⟩ ∈ mx_W := mx_win 922 (by decide +kernel) rfl
theorem w_890 : Cond.constantLong "CorridorCellsLaw" 35 4294967295 ∈ mx_W := mx_win 924 (by decide +kernel) rfl
set_option maxRecDepth 100000 in
theorem w_oc : Cond.code Lib.objectInit ⟨#[0xb1]⟩ 1 none ∈ mx_W := mx_win 53 rfl rfl
set_option maxRecDepth 100000 in
theorem mk_X_init : mx_Mk mx_W q_X_init 2 := ⟨mx_win 50 rfl rfl, w_1, ⟨by decide, by decide⟩, by decide +kernel⟩
set_option maxRecDepth 100000 in
theorem mk_X_cell : mx_Mk mx_W q_X_cell 4 := ⟨mx_win 265 rfl rfl, w_1, ⟨by decide, by decide⟩, by decide +kernel⟩
set_option maxRecDepth 100000 in
theorem mk_X_bar : mx_Mk mx_W q_X_bar 2 := ⟨mx_win 275 rfl rfl, w_1, ⟨by decide, by decide⟩, by decide +kernel⟩
set_option maxRecDepth 100000 in
theorem mk_X_moves : mx_Mk mx_W q_X_moves 3 := ⟨mx_win 279 rfl rfl, w_1, ⟨by decide, by decide⟩, by decide +kernel⟩
set_option maxRecDepth 100000 in
theorem mk_X_aim : mx_Mk mx_W q_X_aim 4 := ⟨mx_win 285 rfl rfl, w_1, ⟨by decide, by decide⟩, by decide +kernel⟩
set_option maxRecDepth 100000 in
theorem mk_X_weight : mx_Mk mx_W q_X_weight 3 := ⟨mx_win 293 rfl rfl, w_1, ⟨by decide, by decide⟩, by decide +kernel⟩
set_option maxRecDepth 100000 in
theorem mk_X_run : mx_Mk mx_W q_X_run 5 := ⟨mx_win 300 rfl rfl, w_1, ⟨by decide, by decide⟩, by decide +kernel⟩
set_option maxRecDepth 100000 in
theorem mk_X_at : mx_Mk mx_W q_X_at 2 := ⟨mx_win 486 rfl rfl, w_1, ⟨by decide, by decide⟩, by decide +kernel⟩
set_option maxRecDepth 100000 in
theorem mk_X_cost : mx_Mk mx_W q_X_cost 1 := ⟨mx_win 494 rfl rfl, w_1, ⟨by decide, by decide⟩, by decide +kernel⟩
set_option maxRecDepth 100000 in
theorem mk_X_bound : mx_Mk mx_W q_X_bound 0 := ⟨mx_win 510 rfl rfl, w_1, ⟨by decide, by decide⟩, by decide +kernel⟩
set_option maxRecDepth 100000 in
theorem mk_X_proved : mx_Mk mx_W q_X_proved 0 := ⟨mx_win 514 rfl rfl, w_1, ⟨by decide, by decide⟩, by decide +kernel⟩
set_option maxRecDepth 100000 in
theorem mk_X_unlike : mx_Mk mx_W q_X_unlike 2 := ⟨mx_win 518 rfl rfl, w_1, ⟨by decide, by decide⟩, by decide +kernel⟩
set_option maxRecDepth 100000 in
theorem mk_X_span : mx_Mk mx_W q_X_span 3 := ⟨mx_win 528 rfl rfl, w_1, ⟨by decide, by decide⟩, by decide +kernel⟩
set_option maxRecDepth 100000 in
theorem mk_X_bridge : mx_Mk mx_W q_X_bridge 4 := ⟨mx_win 585 rfl rfl, w_1, ⟨by decide, by decide⟩, by decide +kernel⟩
set_option maxRecDepth 100000 in
theorem mk_X_mark : mx_Mk mx_W q_X_mark 4 := ⟨mx_win 589 rfl rfl, w_1, ⟨by decide, by decide⟩, by decide +kernel⟩
set_option maxRecDepth 100000 in
theorem mk_X_zone : mx_Mk mx_W q_X_zone 3 := ⟨mx_win 598 rfl rfl, w_1, ⟨by decide, by decide⟩, by decide +kernel⟩
set_option maxRecDepth 100000 in
theorem mk_X_sum : mx_Mk mx_W q_X_sum 1 := ⟨mx_win 605 rfl rfl, w_1, ⟨by decide, by decide⟩, by decide +kernel⟩
set_option maxRecDepth 100000 in
theorem mk_X_turns : mx_Mk mx_W q_X_turns 0 := ⟨mx_win 609 rfl rfl, w_1, ⟨by decide, by decide⟩, by decide +kernel⟩
set_option maxRecDepth 100000 in
theorem mk_X_keeps : mx_Mk mx_W q_X_keeps 0 := ⟨mx_win 617 rfl rfl, w_1, ⟨by decide, by decide⟩, by decide +kernel⟩
set_option maxRecDepth 100000 in
theorem mk_X_wayAtHand : mx_Mk mx_W q_X_wayAtHand 0 := ⟨mx_win 490 rfl rfl, w_1, ⟨by decide, by decide⟩, by decide +kernel⟩
set_option maxRecDepth 100000 in
theorem mk_X_seek : mx_Mk mx_W q_X_seek 3 := ⟨mx_win 309 rfl rfl, w_1, ⟨by decide, by decide⟩, by decide +kernel⟩
set_option maxRecDepth 100000 in
theorem mk_X_isAim : mx_Mk mx_W q_X_isAim 1 := ⟨mx_win 288 rfl rfl, w_1, ⟨by decide, by decide⟩, by decide +kernel⟩
set_option maxRecDepth 100000 in
theorem mk_X_isZone : mx_Mk mx_W q_X_isZone 1 := ⟨mx_win 601 rfl rfl, w_1, ⟨by decide, by decide⟩, by decide +kernel⟩
set_option maxRecDepth 100000 in
theorem mk_X_within : mx_Mk mx_W q_X_within 3 := ⟨mx_win 270 rfl rfl, w_1, ⟨by decide, by decide⟩, by decide +kernel⟩
set_option maxRecDepth 100000 in
theorem mk_X_greatestDivisor : mx_Mk mx_W q_X_greatestDivisor 2 := ⟨mx_win 506 rfl rfl, w_1, ⟨by decide, by decide⟩, by decide +kernel⟩
set_option maxRecDepth 100000 in
theorem mk_X_leastTerm : mx_Mk mx_W q_X_leastTerm 3 := ⟨mx_win 503 rfl rfl, w_1, ⟨by decide, by decide⟩, by decide +kernel⟩
set_option maxRecDepth 100000 in
theorem mk_X_compareFractions : mx_Mk mx_W q_X_compareFractions 4 := ⟨mx_win 567 rfl rfl, w_1, ⟨by decide, by decide⟩, by decide +kernel⟩
set_option maxRecDepth 100000 in
theorem mk_G_init : mx_Mk mx_W q_G_init 2 := ⟨mx_win 64 rfl rfl, w_2, ⟨by decide, by decide⟩, by decide +kernel⟩
set_option maxRecDepth 100000 in
theorem mk_G_numberOf : mx_Mk mx_W q_G_numberOf 2 := ⟨mx_win 73 rfl rfl, w_2, ⟨by decide, by decide⟩, by decide +kernel⟩
set_option maxRecDepth 100000 in
theorem mk_G_isBridged : mx_Mk mx_W q_G_isBridged 1 := ⟨mx_win 325 rfl rfl, w_2, ⟨by decide, by decide⟩, by decide +kernel⟩
set_option maxRecDepth 100000 in
theorem mk_G_isClosedOff : mx_Mk mx_W q_G_isClosedOff 1 := ⟨mx_win 403 rfl rfl, w_2, ⟨by decide, by decide⟩, by decide +kernel⟩
set_option maxRecDepth 100000 in
theorem mk_G_putMark : mx_Mk mx_W q_G_putMark 3 := ⟨mx_win 594 rfl rfl, w_2, ⟨by decide, by decide⟩, by decide +kernel⟩
set_option maxRecDepth 100000 in
theorem mk_G_valueOf : mx_Mk mx_W q_G_valueOf 2 := ⟨mx_win 330 rfl rfl, w_2, ⟨by decide, by decide⟩, by decide +kernel⟩
set_option maxRecDepth 100000 in
theorem mk_G_unitCost : mx_Mk mx_W q_G_unitCost 1 := ⟨mx_win 321 rfl rfl, w_2, ⟨by decide, by decide⟩, by decide +kernel⟩
set_option maxRecDepth 100000 in
theorem mk_G_headingStep : mx_Mk mx_W q_G_headingStep 0 := ⟨mx_win 356 rfl rfl, w_2, ⟨by decide, by decide⟩, by decide +kernel⟩
set_option maxRecDepth 100000 in
theorem mk_G_ahead : mx_Mk mx_W q_G_ahead 2 := ⟨mx_win 459 rfl rfl, w_2, ⟨by decide, by decide⟩, by decide +kernel⟩
set_option maxRecDepth 100000 in
theorem mk_G_behind : mx_Mk mx_W q_G_behind 2 := ⟨mx_win 399 rfl rfl, w_2, ⟨by decide, by decide⟩, by decide +kernel⟩
set_option maxRecDepth 100000 in
theorem mk_G_isTooSteep : mx_Mk mx_W q_G_isTooSteep 2 := ⟨mx_win 407 rfl rfl, w_2, ⟨by decide, by decide⟩, by decide +kernel⟩
set_option maxRecDepth 100000 in
theorem mk_G_moveFrom : mx_Mk mx_W q_G_moveFrom 3 := ⟨mx_win 455 rfl rfl, w_2, ⟨by decide, by decide⟩, by decide +kernel⟩
set_option maxRecDepth 100000 in
theorem mk_G_bridgedUpTo : mx_Mk mx_W q_G_bridgedUpTo 2 := ⟨mx_win 466 rfl rfl, w_2, ⟨by decide, by decide⟩, by decide +kernel⟩
set_option maxRecDepth 100000 in
theorem mk_S_init : mx_Mk mx_W q_S_init 1 := ⟨mx_win 155 rfl rfl, w_4, ⟨by decide, by decide⟩, by decide +kernel⟩
set_option maxRecDepth 100000 in
theorem mk_S_shareNothing : mx_Mk mx_W q_S_shareNothing 0 := ⟨mx_win 305 rfl rfl, w_4, ⟨by decide, by decide⟩, by decide +kernel⟩
set_option maxRecDepth 100000 in
theorem mk_S_share : mx_Mk mx_W q_S_share 1 := ⟨mx_win 474 rfl rfl, w_4, ⟨by decide, by decide⟩, by decide +kernel⟩
set_option maxRecDepth 100000 in
theorem mk_S_close : mx_Mk mx_W q_S_close 4 := ⟨mx_win 313 rfl rfl, w_4, ⟨by decide, by decide⟩, by decide +kernel⟩
set_option maxRecDepth 100000 in
theorem mk_S_layRows : mx_Mk mx_W q_S_layRows 0 := ⟨mx_win 317 rfl rfl, w_4, ⟨by decide, by decide⟩, by decide +kernel⟩
set_option maxRecDepth 100000 in
theorem mk_S_openEnd : mx_Mk mx_W q_S_openEnd 0 := ⟨mx_win 352 rfl rfl, w_4, ⟨by decide, by decide⟩, by decide +kernel⟩
set_option maxRecDepth 100000 in
theorem mk_S_openBefore : mx_Mk mx_W q_S_openBefore 1 := ⟨mx_win 395 rfl rfl, w_4, ⟨by decide, by decide⟩, by decide +kernel⟩
set_option maxRecDepth 100000 in
theorem mk_S_openHeadings : mx_Mk mx_W q_S_openHeadings 4 := ⟨mx_win 419 rfl rfl, w_4, ⟨by decide, by decide⟩, by decide +kernel⟩
set_option maxRecDepth 100000 in
theorem mk_S_trace : mx_Mk mx_W q_S_trace 2 := ⟨mx_win 434 rfl rfl, w_4, ⟨by decide, by decide⟩, by decide +kernel⟩
set_option maxRecDepth 100000 in
theorem mk_S_nextRow : mx_Mk mx_W q_S_nextRow 1 := ⟨mx_win 447 rfl rfl, w_4, ⟨by decide, by decide⟩, by decide +kernel⟩
set_option maxRecDepth 100000 in
theorem mk_S_rowAfter : mx_Mk mx_W q_S_rowAfter 2 := ⟨mx_win 451 rfl rfl, w_4, ⟨by decide, by decide⟩, by decide +kernel⟩
set_option maxRecDepth 100000 in
theorem mk_S_rowOf : mx_Mk mx_W q_S_rowOf 4 := ⟨mx_win 360 rfl rfl, w_4, ⟨by decide, by decide⟩, by decide +kernel⟩
set_option maxRecDepth 100000 in
theorem mk_S_codeOf : mx_Mk mx_W q_S_codeOf 4 := ⟨mx_win 363 rfl rfl, w_4, ⟨by decide, by decide⟩, by decide +kernel⟩
set_option maxRecDepth 100000 in
theorem mk_S_headingOf : mx_Mk mx_W q_S_headingOf 1 := ⟨mx_win 391 rfl rfl, w_4, ⟨by decide, by decide⟩, by decide +kernel⟩
set_option maxRecDepth 100000 in
theorem mk_S_bridgedOf : mx_Mk mx_W q_S_bridgedOf 1 := ⟨mx_win 413 rfl rfl, w_4, ⟨by decide, by decide⟩, by decide +kernel⟩
set_option maxRecDepth 100000 in
theorem mk_Q_init : mx_Mk mx_W q_Q_init 1 := ⟨mx_win 161 rfl rfl, w_5, ⟨by decide, by decide⟩, by decide +kernel⟩
set_option maxRecDepth 100000 in
theorem mk_Q_reset : mx_Mk mx_W q_Q_reset 1 := ⟨mx_win 342 rfl rfl, w_5, ⟨by decide, by decide⟩, by decide +kernel⟩
set_option maxRecDepth 100000 in
theorem mk_Q_codeOf : mx_Mk mx_W q_Q_codeOf 1 := ⟨mx_win 387 rfl rfl, w_5, ⟨by decide, by decide⟩, by decide +kernel⟩
set_option maxRecDepth 100000 in
theorem mk_Q_stepsOf : mx_Mk mx_W q_Q_stepsOf 1 := ⟨mx_win 425 rfl rfl, w_5, ⟨by decide, by decide⟩, by decide +kernel⟩
set_option maxRecDepth 100000 in
theorem mk_Q_movesOf : mx_Mk mx_W q_Q_movesOf 1 := ⟨mx_win 438 rfl rfl, w_5, ⟨by decide, by decide⟩, by decide +kernel⟩
set_option maxRecDepth 100000 in
theorem mk_Q_isEmpty : mx_Mk mx_W q_Q_isEmpty 0 := ⟨mx_win 430 rfl rfl, w_5, ⟨by decide, by decide⟩, by decide +kernel⟩
set_option maxRecDepth 100000 in
theorem mk_Q_isTaken : mx_Mk mx_W q_Q_isTaken 1 := ⟨mx_win 470 rfl rfl, w_5, ⟨by decide, by decide⟩, by decide +kernel⟩
set_option maxRecDepth 100000 in
theorem mk_Q_offer : mx_Mk mx_W q_Q_offer 4 := ⟨mx_win 367 rfl rfl, w_5, ⟨by decide, by decide⟩, by decide +kernel⟩
set_option maxRecDepth 100000 in
theorem mk_Q_takeLeast : mx_Mk mx_W q_Q_takeLeast 0 := ⟨mx_win 379 rfl rfl, w_5, ⟨by decide, by decide⟩, by decide +kernel⟩
set_option maxRecDepth 100000 in
theorem mk_Q_isLess : mx_Mk mx_W q_Q_isLess 3 := ⟨mx_win 371 rfl rfl, w_5, ⟨by decide, by decide⟩, by decide +kernel⟩
set_option maxRecDepth 100000 in
theorem mk_Q_rise : mx_Mk mx_W q_Q_rise 2 := ⟨mx_win 375 rfl rfl, w_5, ⟨by decide, by decide⟩, by decide +kernel⟩
set_option maxRecDepth 100000 in
theorem mk_Q_sink : mx_Mk mx_W q_Q_sink 1 := ⟨mx_win 383 rfl rfl, w_5, ⟨by decide, by decide⟩, by decide +kernel⟩
set_option maxRecDepth 100000 in
theorem mk_W_init : mx_Mk mx_W q_W_init 0 := ⟨mx_win 221 rfl rfl, w_6, ⟨by decide, by decide⟩, by decide +kernel⟩
set_option maxRecDepth 100000 in
theorem mk_W_begin : mx_Mk mx_W q_W_begin 2 := ⟨mx_win 443 rfl rfl, w_6, ⟨by decide, by decide⟩, by decide +kernel⟩
set_option maxRecDepth 100000 in
theorem mk_W_firstPlace : mx_Mk mx_W q_W_firstPlace 0 := ⟨mx_win 478 rfl rfl, w_6, ⟨by decide, by decide⟩, by decide +kernel⟩
set_option maxRecDepth 100000 in
theorem mk_W_lastPlace : mx_Mk mx_W q_W_lastPlace 0 := ⟨mx_win 482 rfl rfl, w_6, ⟨by decide, by decide⟩, by decide +kernel⟩
set_option maxRecDepth 100000 in
theorem mk_W_scaledCost : mx_Mk mx_W q_W_scaledCost 1 := ⟨mx_win 498 rfl rfl, w_6, ⟨by decide, by decide⟩, by decide +kernel⟩
set_option maxRecDepth 100000 in
theorem mk_W_amountOf : mx_Mk mx_W q_W_amountOf 2 := ⟨mx_win 554 rfl rfl, w_6, ⟨by decide, by decide⟩, by decide +kernel⟩
set_option maxRecDepth 100000 in
theorem mk_W_turnCount : mx_Mk mx_W q_W_turnCount 0 := ⟨mx_win 613 rfl rfl, w_6, ⟨by decide, by decide⟩, by decide +kernel⟩
set_option maxRecDepth 100000 in
theorem mk_W_isKept : mx_Mk mx_W q_W_isKept 1 := ⟨mx_win 621 rfl rfl, w_6, ⟨by decide, by decide⟩, by decide +kernel⟩
set_option maxRecDepth 100000 in
theorem mk_M_init : mx_Mk mx_W q_M_init 2 := ⟨mx_win 633 rfl rfl, w_7, ⟨by decide, by decide⟩, by decide +kernel⟩
set_option maxRecDepth 100000 in
theorem mk_M_within : mx_Mk mx_W q_M_within 3 := ⟨mx_win 747 rfl rfl, w_7, ⟨by decide, by decide⟩, by decide +kernel⟩
set_option maxRecDepth 100000 in
theorem mk_M_isCell : mx_Mk mx_W q_M_isCell 2 := ⟨mx_win 744 rfl rfl, w_7, ⟨by decide, by decide⟩, by decide +kernel⟩
set_option maxRecDepth 100000 in
theorem mk_M_cell : mx_Mk mx_W q_M_cell 4 := ⟨mx_win 740 rfl rfl, w_7, ⟨by decide, by decide⟩, by decide +kernel⟩
set_option maxRecDepth 100000 in
theorem mk_M_bar : mx_Mk mx_W q_M_bar 2 := ⟨mx_win 753 rfl rfl, w_7, ⟨by decide, by decide⟩, by decide +kernel⟩
set_option maxRecDepth 100000 in
theorem mk_M_moves : mx_Mk mx_W q_M_moves 3 := ⟨mx_win 757 rfl rfl, w_7, ⟨by decide, by decide⟩, by decide +kernel⟩
set_option maxRecDepth 100000 in
theorem mk_M_aim : mx_Mk mx_W q_M_aim 4 := ⟨mx_win 763 rfl rfl, w_7, ⟨by decide, by decide⟩, by decide +kernel⟩
set_option maxRecDepth 100000 in
theorem mk_M_weight : mx_Mk mx_W q_M_weight 3 := ⟨mx_win 768 rfl rfl, w_7, ⟨by decide, by decide⟩, by decide +kernel⟩
set_option maxRecDepth 100000 in
theorem mk_M_bridge : mx_Mk mx_W q_M_bridge 4 := ⟨mx_win 775 rfl rfl, w_7, ⟨by decide, by decide⟩, by decide +kernel⟩
set_option maxRecDepth 100000 in
theorem mk_M_mark : mx_Mk mx_W q_M_mark 4 := ⟨mx_win 779 rfl rfl, w_7, ⟨by decide, by decide⟩, by decide +kernel⟩
set_option maxRecDepth 100000 in
theorem mk_M_zone : mx_Mk mx_W q_M_zone 3 := ⟨mx_win 784 rfl rfl, w_7, ⟨by decide, by decide⟩, by decide +kernel⟩
set_option maxRecDepth 100000 in
theorem mk_M_isBridged : mx_Mk mx_W q_M_isBridged 1 := ⟨mx_win 853 rfl rfl, w_7, ⟨by decide, by decide⟩, by decide +kernel⟩
set_option maxRecDepth 100000 in
theorem mk_M_isShut : mx_Mk mx_W q_M_isShut 1 := ⟨mx_win 838 rfl rfl, w_7, ⟨by decide, by decide⟩, by decide +kernel⟩
set_option maxRecDepth 100000 in
theorem mk_M_valueOf : mx_Mk mx_W q_M_valueOf 2 := ⟨mx_win 857 rfl rfl, w_7, ⟨by decide, by decide⟩, by decide +kernel⟩
set_option maxRecDepth 100000 in
theorem mk_M_costOf : mx_Mk mx_W q_M_costOf 2 := ⟨mx_win 849 rfl rfl, w_7, ⟨by decide, by decide⟩, by decide +kernel⟩
set_option maxRecDepth 100000 in
theorem mk_M_stepX : mx_Mk mx_W q_M_stepX 1 := ⟨mx_win 831 rfl rfl, w_7, ⟨by decide, by decide⟩, by decide +kernel⟩
set_option maxRecDepth 100000 in
theorem mk_M_stepY : mx_Mk mx_W q_M_stepY 1 := ⟨mx_win 834 rfl rfl, w_7, ⟨by decide, by decide⟩, by decide +kernel⟩
set_option maxRecDepth 100000 in
theorem mk_M_lengthOf : mx_Mk mx_W q_M_lengthOf 1 := ⟨mx_win 845 rfl rfl, w_7, ⟨by decide, by decide⟩, by decide +kernel⟩
set_option maxRecDepth 100000 in
theorem mk_M_differ : mx_Mk mx_W q_M_differ 2 := ⟨mx_win 864 rfl rfl, w_7, ⟨by decide, by decide⟩, by decide +kernel⟩
set_option maxRecDepth 100000 in
theorem mk_M_isHeading : mx_Mk mx_W q_M_isHeading 1 := ⟨mx_win 797 rfl rfl, w_7, ⟨by decide, by decide⟩, by decide +kernel⟩
set_option maxRecDepth 100000 in
theorem mk_M_onward : mx_Mk mx_W q_M_onward 2 := ⟨mx_win 828 rfl rfl, w_7, ⟨by decide, by decide⟩, by decide +kernel⟩
set_option maxRecDepth 100000 in
theorem mk_M_isFlat : mx_Mk mx_W q_M_isFlat 2 := ⟨mx_win 842 rfl rfl, w_7, ⟨by decide, by decide⟩, by decide +kernel⟩
set_option maxRecDepth 100000 in
theorem mk_M_follows : mx_Mk mx_W q_M_follows 4 := ⟨mx_win 861 rfl rfl, w_7, ⟨by decide, by decide⟩, by decide +kernel⟩
set_option maxRecDepth 100000 in
theorem mk_M_labelOf : mx_Mk mx_W q_M_labelOf 4 := ⟨mx_win 800 rfl rfl, w_7, ⟨by decide, by decide⟩, by decide +kernel⟩
set_option maxRecDepth 100000 in
theorem mk_M_isBefore : mx_Mk mx_W q_M_isBefore 2 := ⟨mx_win 812 rfl rfl, w_7, ⟨by decide, by decide⟩, by decide +kernel⟩
set_option maxRecDepth 100000 in
theorem mk_M_lay : mx_Mk mx_W q_M_lay 2 := ⟨mx_win 816 rfl rfl, w_7, ⟨by decide, by decide⟩, by decide +kernel⟩
set_option maxRecDepth 100000 in
theorem mk_M_rise : mx_Mk mx_W q_M_rise 1 := ⟨mx_win 808 rfl rfl, w_7, ⟨by decide, by decide⟩, by decide +kernel⟩
set_option maxRecDepth 100000 in
theorem mk_M_takeLeast : mx_Mk mx_W q_M_takeLeast 0 := ⟨mx_win 820 rfl rfl, w_7, ⟨by decide, by decide⟩, by decide +kernel⟩
set_option maxRecDepth 100000 in
theorem mk_M_offer : mx_Mk mx_W q_M_offer 4 := ⟨mx_win 804 rfl rfl, w_7, ⟨by decide, by decide⟩, by decide +kernel⟩
set_option maxRecDepth 100000 in
theorem mk_M_spread : mx_Mk mx_W q_M_spread 1 := ⟨mx_win 824 rfl rfl, w_7, ⟨by decide, by decide⟩, by decide +kernel⟩
set_option maxRecDepth 100000 in
theorem mk_M_search : mx_Mk mx_W q_M_search 0 := ⟨mx_win 793 rfl rfl, w_7, ⟨by decide, by decide⟩, by decide +kernel⟩
set_option maxRecDepth 100000 in
theorem mk_M_keep : mx_Mk mx_W q_M_keep 1 := ⟨mx_win 868 rfl rfl, w_7, ⟨by decide, by decide⟩, by decide +kernel⟩
set_option maxRecDepth 100000 in
theorem mk_M_next : mx_Mk mx_W q_M_next 1 := ⟨mx_win 872 rfl rfl, w_7, ⟨by decide, by decide⟩, by decide +kernel⟩
set_option maxRecDepth 100000 in
theorem mk_M_run : mx_Mk mx_W q_M_run 5 := ⟨mx_win 788 rfl rfl, w_7, ⟨by decide, by decide⟩, by decide +kernel⟩
set_option maxRecDepth 100000 in
theorem mk_M_unlike : mx_Mk mx_W q_M_unlike 2 := ⟨mx_win 876 rfl rfl, w_7, ⟨by decide, by decide⟩, by decide +kernel⟩
set_option maxRecDepth 100000 in
theorem mk_M_bound : mx_Mk mx_W q_M_bound 0 := ⟨mx_win 881 rfl rfl, w_7, ⟨by decide, by decide⟩, by decide +kernel⟩
set_option maxRecDepth 100000 in
theorem mk_M_proved : mx_Mk mx_W q_M_proved 0 := ⟨mx_win 885 rfl rfl, w_7, ⟨by decide, by decide⟩, by decide +kernel⟩
set_option maxRecDepth 100000 in
theorem mk_M_at : mx_Mk mx_W q_M_at 2 := ⟨mx_win 889 rfl rfl, w_7, ⟨by decide, by decide⟩, by decide +kernel⟩
set_option maxRecDepth 100000 in
theorem mk_M_wayCost : mx_Mk mx_W q_M_wayCost 2 := ⟨mx_win 897 rfl rfl, w_7, ⟨by decide, by decide⟩, by decide +kernel⟩
set_option maxRecDepth 100000 in
theorem mk_M_wayValue : mx_Mk mx_W q_M_wayValue 2 := ⟨mx_win 908 rfl rfl, w_7, ⟨by decide, by decide⟩, by decide +kernel⟩
set_option maxRecDepth 100000 in
theorem mk_M_divisor : mx_Mk mx_W q_M_divisor 2 := ⟨mx_win 900 rfl rfl, w_7, ⟨by decide, by decide⟩, by decide +kernel⟩
set_option maxRecDepth 100000 in
theorem mk_M_cost : mx_Mk mx_W q_M_cost 1 := ⟨mx_win 893 rfl rfl, w_7, ⟨by decide, by decide⟩, by decide +kernel⟩
set_option maxRecDepth 100000 in
theorem mk_M_isLess : mx_Mk mx_W q_M_isLess 4 := ⟨mx_win 911 rfl rfl, w_7, ⟨by decide, by decide⟩, by decide +kernel⟩
set_option maxRecDepth 100000 in
theorem mk_M_span : mx_Mk mx_W q_M_span 3 := ⟨mx_win 904 rfl rfl, w_7, ⟨by decide, by decide⟩, by decide +kernel⟩
set_option maxRecDepth 100000 in
theorem mk_M_sum : mx_Mk mx_W q_M_sum 1 := ⟨mx_win 915 rfl rfl, w_7, ⟨by decide, by decide⟩, by decide +kernel⟩
set_option maxRecDepth 100000 in
theorem mk_M_turns : mx_Mk mx_W q_M_turns 0 := ⟨mx_win 919 rfl rfl, w_7, ⟨by decide, by decide⟩, by decide +kernel⟩
set_option maxRecDepth 100000 in
theorem mk_M_keeps : mx_Mk mx_W q_M_keeps 0 := ⟨mx_win 923 rfl rfl, w_7, ⟨by decide, by decide⟩, by decide +kernel⟩
set_option maxRecDepth 100000 in
theorem mk_P_init : mx_Mk mx_W q_P_init 0 := ⟨mx_win 533 rfl rfl, w_10, ⟨by decide, by decide⟩, by decide +kernel⟩
set_option maxRecDepth 100000 in
theorem mk_P_keepBelow : mx_Mk mx_W q_P_keepBelow 2 := ⟨mx_win 560 rfl rfl, w_10, ⟨by decide, by decide⟩, by decide +kernel⟩
set_option maxRecDepth 100000 in
theorem mk_P_lowerGreatest : mx_Mk mx_W q_P_lowerGreatest 2 := ⟨mx_win 564 rfl rfl, w_10, ⟨by decide, by decide⟩, by decide +kernel⟩
set_option maxRecDepth 100000 in
theorem mk_P_raiseLeast : mx_Mk mx_W q_P_raiseLeast 2 := ⟨mx_win 574 rfl rfl, w_10, ⟨by decide, by decide⟩, by decide +kernel⟩
set_option maxRecDepth 100000 in
theorem mk_P_told : mx_Mk mx_W q_P_told 2 := ⟨mx_win 578 rfl rfl, w_10, ⟨by decide, by decide⟩, by decide +kernel⟩
set_option maxRecDepth 100000 in
theorem mk_JL_compare : mx_Mk mx_W q_JL_compare 2 := ⟨mx_win 570 rfl rfl, w_11, ⟨by decide, by decide⟩, by decide +kernel⟩
set_option maxRecDepth 100000 in
theorem mk_JM_abs : mx_Mk mx_W q_JM_abs 1 := ⟨mx_win 410 rfl rfl, w_3, ⟨by decide, by decide⟩, by decide +kernel⟩
set_option maxRecDepth 100000 in
theorem mk_JM_max : mx_Mk mx_W q_JM_max 2 := ⟨mx_win 61 rfl rfl, w_3, ⟨by decide, by decide⟩, by decide +kernel⟩
set_option maxRecDepth 100000 in
theorem mk_JM_min_I : mx_Mk mx_W q_JM_min_I 2 := ⟨mx_win 58 rfl rfl, w_3, ⟨by decide, by decide⟩, by decide +kernel⟩
set_option maxRecDepth 100000 in
theorem mk_JM_min_J : mx_Mk mx_W q_JM_min_J 2 := ⟨mx_win 524 rfl rfl, w_3, ⟨by decide, by decide⟩, by decide +kernel⟩
set_option maxRecDepth 100000 in
theorem mk_JA_rangeCheck : mx_Mk mx_W q_JA_rangeCheck 3 := ⟨mx_win 348 rfl rfl, w_9, ⟨by decide, by decide⟩, by decide +kernel⟩
set_option maxRecDepth 100000 in
theorem mk_JA_fill : mx_Mk mx_W q_JA_fill 4 := ⟨mx_win 345 rfl rfl, w_9, ⟨by decide, by decide⟩, by decide +kernel⟩
set_option maxRecDepth 100000 in
theorem mk_L_cell : mx_Mk mx_W q_L_cell 2 := ⟨mx_win 628 rfl rfl, w_0, ⟨by decide, by decide⟩, by decide +kernel⟩
set_option maxRecDepth 100000 in
theorem mk_JI_bitCount : mx_Mk mx_W q_JI_bitCount 1 := ⟨mx_win 333 rfl rfl, w_8, ⟨by decide, by decide⟩, by decide +kernel⟩
theorem ws_X_seek : Cond.selects "CorridorCells" ⟨"CorridorCells", "seek", "(III)I"⟩ ⟨"CorridorCells", "seek", "(III)I"⟩ ∈ mx_W := mx_win 0 (by decide +kernel) rfl
theorem ws_S_layRows : Cond.selects "CorridorCells$Search" ⟨"CorridorCells$Search", "layRows", "()V"⟩ ⟨"CorridorCells$Search", "layRows", "()V"⟩ ∈ mx_W := mx_win 1 (by decide +kernel) rfl
theorem ws_S_openEnd : Cond.selects "CorridorCells$Search" ⟨"CorridorCells$Search", "openEnd", "()V"⟩ ⟨"CorridorCells$Search", "openEnd", "()V"⟩ ∈ mx_W := mx_win 2 (by decide +kernel) rfl
theorem ws_S_rowOf : Cond.selects "CorridorCells$Search" ⟨"CorridorCells$Search", "rowOf", "(IIII)I"⟩ ⟨"CorridorCells$Search", "rowOf", "(IIII)I"⟩ ∈ mx_W := mx_win 3 (by decide +kernel) rfl
theorem ws_Q_isLess : Cond.selects "CorridorCells$LabelQueue" ⟨"CorridorCells$LabelQueue", "isLess", "(JJI)Z"⟩ ⟨"CorridorCells$LabelQueue", "isLess", "(JJI)Z"⟩ ∈ mx_W := mx_win 4 (by decide +kernel) rfl
theorem ws_Q_rise : Cond.selects "CorridorCells$LabelQueue" ⟨"CorridorCells$LabelQueue", "rise", "(II)V"⟩ ⟨"CorridorCells$LabelQueue", "rise", "(II)V"⟩ ∈ mx_W := mx_win 5 (by decide +kernel) rfl
theorem ws_Q_sink : Cond.selects "CorridorCells$LabelQueue" ⟨"CorridorCells$LabelQueue", "sink", "(I)V"⟩ ⟨"CorridorCells$LabelQueue", "sink", "(I)V"⟩ ∈ mx_W := mx_win 6 (by decide +kernel) rfl
theorem ws_S_openBefore : Cond.selects "CorridorCells$Search" ⟨"CorridorCells$Search", "openBefore", "(I)V"⟩ ⟨"CorridorCells$Search", "openBefore", "(I)V"⟩ ∈ mx_W := mx_win 7 (by decide +kernel) rfl
theorem ws_S_openHeadings : Cond.selects "CorridorCells$Search" ⟨"CorridorCells$Search", "openHeadings", "(IIII)V"⟩ ⟨"CorridorCells$Search", "openHeadings", "(IIII)V"⟩ ∈ mx_W := mx_win 8 (by decide +kernel) rfl
theorem ws_S_nextRow : Cond.selects "CorridorCells$Search" ⟨"CorridorCells$Search", "nextRow", "(I)I"⟩ ⟨"CorridorCells$Search", "nextRow", "(I)I"⟩ ∈ mx_W := mx_win 9 (by decide +kernel) rfl
theorem ws_S_rowAfter : Cond.selects "CorridorCells$Search" ⟨"CorridorCells$Search", "rowAfter", "(II)I"⟩ ⟨"CorridorCells$Search", "rowAfter", "(II)I"⟩ ∈ mx_W := mx_win 10 (by decide +kernel) rfl
theorem ws_X_wayAtHand : Cond.selects "CorridorCells" ⟨"CorridorCells", "wayAtHand", "()LCorridorCells$Way;"⟩ ⟨"CorridorCells", "wayAtHand", "()LCorridorCells$Way;"⟩ ∈ mx_W := mx_win 11 (by decide +kernel) rfl
theorem ws_P_lowerGreatest : Cond.selects "CorridorCells$Span" ⟨"CorridorCells$Span", "lowerGreatest", "(JJ)V"⟩ ⟨"CorridorCells$Span", "lowerGreatest", "(JJ)V"⟩ ∈ mx_W := mx_win 12 (by decide +kernel) rfl
theorem ws_P_raiseLeast : Cond.selects "CorridorCells$Span" ⟨"CorridorCells$Span", "raiseLeast", "(JJ)V"⟩ ⟨"CorridorCells$Span", "raiseLeast", "(JJ)V"⟩ ∈ mx_W := mx_win 13 (by decide +kernel) rfl
theorem ws_M_isCell : Cond.selects "CorridorCellsModel" ⟨"CorridorCellsModel", "isCell", "(II)Z"⟩ ⟨"CorridorCellsModel", "isCell", "(II)Z"⟩ ∈ mx_W := mx_win 14 (by decide +kernel) rfl
theorem ws_M_search : Cond.selects "CorridorCellsModel" ⟨"CorridorCellsModel", "search", "()I"⟩ ⟨"CorridorCellsModel", "search", "()I"⟩ ∈ mx_W := mx_win 15 (by decide +kernel) rfl
theorem ws_M_isHeading : Cond.selects "CorridorCellsModel" ⟨"CorridorCellsModel", "isHeading", "(I)Z"⟩ ⟨"CorridorCellsModel", "isHeading", "(I)Z"⟩ ∈ mx_W := mx_win 16 (by decide +kernel) rfl
theorem ws_M_offer : Cond.selects "CorridorCellsModel" ⟨"CorridorCellsModel", "offer", "(IJII)V"⟩ ⟨"CorridorCellsModel", "offer", "(IJII)V"⟩ ∈ mx_W := mx_win 17 (by decide +kernel) rfl
theorem ws_M_rise : Cond.selects "CorridorCellsModel" ⟨"CorridorCellsModel", "rise", "(I)V"⟩ ⟨"CorridorCellsModel", "rise", "(I)V"⟩ ∈ mx_W := mx_win 18 (by decide +kernel) rfl
theorem ws_M_isBefore : Cond.selects "CorridorCellsModel" ⟨"CorridorCellsModel", "isBefore", "(II)Z"⟩ ⟨"CorridorCellsModel", "isBefore", "(II)Z"⟩ ∈ mx_W := mx_win 19 (by decide +kernel) rfl
theorem ws_M_lay : Cond.selects "CorridorCellsModel" ⟨"CorridorCellsModel", "lay", "(II)V"⟩ ⟨"CorridorCellsModel", "lay", "(II)V"⟩ ∈ mx_W := mx_win 20 (by decide +kernel) rfl
theorem ws_M_takeLeast : Cond.selects "CorridorCellsModel" ⟨"CorridorCellsModel", "takeLeast", "()I"⟩ ⟨"CorridorCellsModel", "takeLeast", "()I"⟩ ∈ mx_W := mx_win 21 (by decide +kernel) rfl
theorem ws_M_spread : Cond.selects "CorridorCellsModel" ⟨"CorridorCellsModel", "spread", "(I)V"⟩ ⟨"CorridorCellsModel", "spread", "(I)V"⟩ ∈ mx_W := mx_win 22 (by decide +kernel) rfl
theorem ws_M_onward : Cond.selects "CorridorCellsModel" ⟨"CorridorCellsModel", "onward", "(II)I"⟩ ⟨"CorridorCellsModel", "onward", "(II)I"⟩ ∈ mx_W := mx_win 23 (by decide +kernel) rfl
theorem ws_M_isShut : Cond.selects "CorridorCellsModel" ⟨"CorridorCellsModel", "isShut", "(I)Z"⟩ ⟨"CorridorCellsModel", "isShut", "(I)Z"⟩ ∈ mx_W := mx_win 24 (by decide +kernel) rfl
theorem ws_M_isFlat : Cond.selects "CorridorCellsModel" ⟨"CorridorCellsModel", "isFlat", "(II)Z"⟩ ⟨"CorridorCellsModel", "isFlat", "(II)Z"⟩ ∈ mx_W := mx_win 25 (by decide +kernel) rfl
theorem ws_M_costOf : Cond.selects "CorridorCellsModel" ⟨"CorridorCellsModel", "costOf", "(II)J"⟩ ⟨"CorridorCellsModel", "costOf", "(II)J"⟩ ∈ mx_W := mx_win 26 (by decide +kernel) rfl
theorem ws_M_isBridged : Cond.selects "CorridorCellsModel" ⟨"CorridorCellsModel", "isBridged", "(I)Z"⟩ ⟨"CorridorCellsModel", "isBridged", "(I)Z"⟩ ∈ mx_W := mx_win 27 (by decide +kernel) rfl
theorem ws_M_valueOf : Cond.selects "CorridorCellsModel" ⟨"CorridorCellsModel", "valueOf", "(II)I"⟩ ⟨"CorridorCellsModel", "valueOf", "(II)I"⟩ ∈ mx_W := mx_win 28 (by decide +kernel) rfl
theorem ws_M_follows : Cond.selects "CorridorCellsModel" ⟨"CorridorCellsModel", "follows", "(IIII)Z"⟩ ⟨"CorridorCellsModel", "follows", "(IIII)Z"⟩ ∈ mx_W := mx_win 29 (by decide +kernel) rfl
theorem ws_M_keep : Cond.selects "CorridorCellsModel" ⟨"CorridorCellsModel", "keep", "(I)I"⟩ ⟨"CorridorCellsModel", "keep", "(I)I"⟩ ∈ mx_W := mx_win 30 (by decide +kernel) rfl
theorem ws_M_next : Cond.selects "CorridorCellsModel" ⟨"CorridorCellsModel", "next", "(I)I"⟩ ⟨"CorridorCellsModel", "next", "(I)I"⟩ ∈ mx_W := mx_win 31 (by decide +kernel) rfl
theorem ws_M_wayCost : Cond.selects "CorridorCellsModel" ⟨"CorridorCellsModel", "wayCost", "(II)J"⟩ ⟨"CorridorCellsModel", "wayCost", "(II)J"⟩ ∈ mx_W := mx_win 32 (by decide +kernel) rfl
theorem ws_M_wayValue : Cond.selects "CorridorCellsModel" ⟨"CorridorCellsModel", "wayValue", "(II)J"⟩ ⟨"CorridorCellsModel", "wayValue", "(II)J"⟩ ∈ mx_W := mx_win 33 (by decide +kernel) rfl
