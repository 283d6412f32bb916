/-! words of the tables, by their places -/
theorem w_1 : (Cond.initialized "SnapStacks") ∈ lwg := mw 55 (by decide +kernel) rfl
theorem w_2 : (Cond.initialized "SnapStacks$State") ∈ lwg := mw 56 (by decide +kernel) rfl
theorem w_3 : (Cond.initialized "SnapStacks$Strip") ∈ lwg := mw 57 (by decide +kernel) rfl
theorem w_4 : (Cond.initialized "SnapStacks$Room") ∈ lwg := mw 58 (by decide +kernel) rfl
theorem w_5 : (Cond.initialized "SnapStacks$History") ∈ lwg := mw 59 (by decide +kernel) rfl
theorem w_6 : (Cond.initialized "SnapStacks$Text") ∈ lwg := mw 60 (by decide +kernel) rfl
theorem w_7 : (Cond.initialized "SnapStacks$LoopFinder") ∈ lwg := mw 61 (by decide +kernel) rfl
theorem w_8 : (Cond.initialized "SnapStacks$StackFinder") ∈ lwg := mw 62 (by decide +kernel) rfl
theorem w_9 : (Cond.initialized "SnapStacksModel") ∈ lwg := mw 63 (by decide +kernel) rfl
theorem w_10 : (Cond.initialized "java/lang/System") ∈ lwg := mw 64 (by decide +kernel) rfl
theorem w_11 : (Cond.initialized "java/lang/Math") ∈ lwg := mw 65 (by decide +kernel) rfl
theorem w_12 : (Cond.initialized "java/util/Arrays") ∈ lwg := mw 66 (by decide +kernel) rfl
theorem w_18 : (Cond.methodLink "SnapStacks" (1 : Nat) ({ cls := "java/lang/Object", name := "<init>", desc := "()V" } : MethodName)) ∈ lwg := mw 72 (by decide +kernel) rfl
theorem w_19 : (Cond.instanceMethod ({ cls := "java/lang/Object", name := "<init>", desc := "()V" } : MethodName)) ∈ lwg := mw 73 (by decide +kernel) rfl
theorem w_20 : (Cond.code ({ cls := "java/lang/Object", name := "<init>", desc := "()V" } : MethodName) object_method_1_code (1 : Nat) (Option.none : Option ClassFile.FieldType)) ∈ lwg := mw 74 (by decide +kernel) rfl
theorem w_21 : (Cond.classLink "SnapStacks" (7 : Nat) "SnapStacks$State") ∈ lwg := mw 75 (by decide +kernel) rfl
theorem w_22 : (Cond.instantiable "SnapStacks$State" (8 : Nat)) ∈ lwg := mw 76 (by decide +kernel) rfl
theorem w_23 : (Cond.methodLink "SnapStacks" (9 : Nat) ({ cls := "SnapStacks$State", name := "<init>", desc := "()V" } : MethodName)) ∈ lwg := mw 77 (by decide +kernel) rfl
theorem w_24 : (Cond.instanceMethod ({ cls := "SnapStacks$State", name := "<init>", desc := "()V" } : MethodName)) ∈ lwg := mw 78 (by decide +kernel) rfl
theorem w_25 : (Cond.code ({ cls := "SnapStacks$State", name := "<init>", desc := "()V" } : MethodName) prog_6_method_1_code (2 : Nat) (Option.none : Option ClassFile.FieldType)) ∈ lwg := mw 79 (by decide +kernel) rfl
theorem w_26 : (Cond.methodLink "SnapStacks$State" (3 : Nat) ({ cls := "java/lang/Object", name := "<init>", desc := "()V" } : MethodName)) ∈ lwg := mw 80 (by decide +kernel) rfl
theorem w_27 : (Cond.classLink "SnapStacks$State" (18 : Nat) "SnapStacks$Strip") ∈ lwg := mw 81 (by decide +kernel) rfl
theorem w_29 : (Cond.classLink "SnapStacks$State" (24 : Nat) "SnapStacks$Room") ∈ lwg := mw 83 (by decide +kernel) rfl
theorem w_31 : (Cond.instantiable "SnapStacks$Strip" (11 : Nat)) ∈ lwg := mw 85 (by decide +kernel) rfl
theorem w_32 : (Cond.methodLink "SnapStacks$State" (30 : Nat) ({ cls := "SnapStacks$Strip", name := "<init>", desc := "()V" } : MethodName)) ∈ lwg := mw 86 (by decide +kernel) rfl
theorem w_33 : (Cond.instanceMethod ({ cls := "SnapStacks$Strip", name := "<init>", desc := "()V" } : MethodName)) ∈ lwg := mw 87 (by decide +kernel) rfl
theorem w_34 : (Cond.code ({ cls := "SnapStacks$Strip", name := "<init>", desc := "()V" } : MethodName) prog_7_method_1_code (1 : Nat) (Option.none : Option ClassFile.FieldType)) ∈ lwg := mw 88 (by decide +kernel) rfl
theorem w_35 : (Cond.methodLink "SnapStacks$Strip" (3 : Nat) ({ cls := "java/lang/Object", name := "<init>", desc := "()V" } : MethodName)) ∈ lwg := mw 89 (by decide +kernel) rfl
theorem w_36 : (Cond.fieldLink "SnapStacks$Strip" (9 : Nat) "SnapStacks$Strip" "lengths" "[I") ∈ lwg := mw 90 (by decide +kernel) rfl
theorem w_37 : (Cond.fieldLink "SnapStacks" (165 : Nat) "SnapStacks$Strip" "lengths" "[I") ∈ lwg := mw 91 (by decide +kernel) rfl
theorem w_38 : (Cond.fieldLink "SnapStacks$Strip" (15 : Nat) "SnapStacks$Strip" "uppers" "[I") ∈ lwg := mw 92 (by decide +kernel) rfl
theorem w_39 : (Cond.fieldLink "SnapStacks" (168 : Nat) "SnapStacks$Strip" "uppers" "[I") ∈ lwg := mw 93 (by decide +kernel) rfl
theorem w_40 : (Cond.fieldLink "SnapStacks$Strip" (18 : Nat) "SnapStacks$Strip" "lowers" "[I") ∈ lwg := mw 94 (by decide +kernel) rfl
theorem w_41 : (Cond.fieldLink "SnapStacks" (171 : Nat) "SnapStacks$Strip" "lowers" "[I") ∈ lwg := mw 95 (by decide +kernel) rfl
theorem w_42 : (Cond.fieldLink "SnapStacks$Strip" (34 : Nat) "SnapStacks$Strip" "parts" "I") ∈ lwg := mw 96 (by decide +kernel) rfl
theorem w_43 : (Cond.fieldLink "SnapStacks" (68 : Nat) "SnapStacks$Strip" "parts" "I") ∈ lwg := mw 97 (by decide +kernel) rfl
theorem w_44 : (Cond.fieldLink "SnapStacks$Strip" (21 : Nat) "SnapStacks$Strip" "low" "I") ∈ lwg := mw 98 (by decide +kernel) rfl
theorem w_45 : (Cond.fieldLink "SnapStacks" (83 : Nat) "SnapStacks$Strip" "low" "I") ∈ lwg := mw 99 (by decide +kernel) rfl
theorem w_46 : (Cond.fieldLink "SnapStacks$Strip" (25 : Nat) "SnapStacks$Strip" "high" "I") ∈ lwg := mw 100 (by decide +kernel) rfl
theorem w_47 : (Cond.fieldLink "SnapStacks" (86 : Nat) "SnapStacks$Strip" "high" "I") ∈ lwg := mw 101 (by decide +kernel) rfl
theorem w_48 : (Cond.fieldLink "SnapStacks$Strip" (37 : Nat) "SnapStacks$Strip" "late" "I") ∈ lwg := mw 102 (by decide +kernel) rfl
theorem w_49 : (Cond.fieldLink "SnapStacks" (89 : Nat) "SnapStacks$Strip" "late" "I") ∈ lwg := mw 103 (by decide +kernel) rfl
theorem w_50 : (Cond.fieldLink "SnapStacks$Strip" (40 : Nat) "SnapStacks$Strip" "pulls" "I") ∈ lwg := mw 104 (by decide +kernel) rfl
theorem w_51 : (Cond.fieldLink "SnapStacks$State" (126 : Nat) "SnapStacks$Strip" "pulls" "I") ∈ lwg := mw 105 (by decide +kernel) rfl
theorem w_52 : (Cond.fieldLink "SnapStacks" (158 : Nat) "SnapStacks$Strip" "pulls" "I") ∈ lwg := mw 106 (by decide +kernel) rfl
theorem w_53 : (Cond.fieldLink "SnapStacks$Strip" (43 : Nat) "SnapStacks$Strip" "snaps" "I") ∈ lwg := mw 107 (by decide +kernel) rfl
theorem w_54 : (Cond.fieldLink "SnapStacks$State" (77 : Nat) "SnapStacks$Strip" "snaps" "I") ∈ lwg := mw 108 (by decide +kernel) rfl
theorem w_55 : (Cond.fieldLink "SnapStacks" (161 : Nat) "SnapStacks$Strip" "snaps" "I") ∈ lwg := mw 109 (by decide +kernel) rfl
theorem w_56 : (Cond.fieldLink "SnapStacks$Strip" (46 : Nat) "SnapStacks$Strip" "kind" "I") ∈ lwg := mw 110 (by decide +kernel) rfl
theorem w_57 : (Cond.fieldLink "SnapStacks" (96 : Nat) "SnapStacks$Strip" "kind" "I") ∈ lwg := mw 111 (by decide +kernel) rfl
theorem w_58 : (Cond.fieldLink "SnapStacks$Strip" (49 : Nat) "SnapStacks$Strip" "isSnapped" "Z") ∈ lwg := mw 112 (by decide +kernel) rfl
theorem w_59 : (Cond.fieldLink "SnapStacks$State" (119 : Nat) "SnapStacks$Strip" "isSnapped" "Z") ∈ lwg := mw 113 (by decide +kernel) rfl
theorem w_60 : (Cond.fieldLink "SnapStacks" (155 : Nat) "SnapStacks$Strip" "isSnapped" "Z") ∈ lwg := mw 114 (by decide +kernel) rfl
theorem w_84 : (Cond.arrayClass ClassFile.FieldType.int) ∈ lwg := mw 138 (by decide +kernel) rfl
theorem w_85 : (Cond.instantiable "SnapStacks$Room" (7 : Nat)) ∈ lwg := mw 139 (by decide +kernel) rfl
theorem w_86 : (Cond.methodLink "SnapStacks$State" (31 : Nat) ({ cls := "SnapStacks$Room", name := "<init>", desc := "()V" } : MethodName)) ∈ lwg := mw 140 (by decide +kernel) rfl
theorem w_87 : (Cond.instanceMethod ({ cls := "SnapStacks$Room", name := "<init>", desc := "()V" } : MethodName)) ∈ lwg := mw 141 (by decide +kernel) rfl
theorem w_88 : (Cond.code ({ cls := "SnapStacks$Room", name := "<init>", desc := "()V" } : MethodName) prog_4_method_1_code (1 : Nat) (Option.none : Option ClassFile.FieldType)) ∈ lwg := mw 142 (by decide +kernel) rfl
theorem w_89 : (Cond.methodLink "SnapStacks$Room" (3 : Nat) ({ cls := "java/lang/Object", name := "<init>", desc := "()V" } : MethodName)) ∈ lwg := mw 143 (by decide +kernel) rfl
theorem w_90 : (Cond.fieldLink "SnapStacks$Room" (9 : Nat) "SnapStacks$Room" "warmth" "I") ∈ lwg := mw 144 (by decide +kernel) rfl
theorem w_91 : (Cond.fieldLink "SnapStacks$State" (62 : Nat) "SnapStacks$Room" "warmth" "I") ∈ lwg := mw 145 (by decide +kernel) rfl
theorem w_92 : (Cond.fieldLink "SnapStacks" (125 : Nat) "SnapStacks$Room" "warmth" "I") ∈ lwg := mw 146 (by decide +kernel) rfl
theorem w_93 : (Cond.fieldLink "SnapStacks$Room" (24 : Nat) "SnapStacks$Room" "power" "I") ∈ lwg := mw 147 (by decide +kernel) rfl
theorem w_94 : (Cond.fieldLink "SnapStacks" (111 : Nat) "SnapStacks$Room" "power" "I") ∈ lwg := mw 148 (by decide +kernel) rfl
theorem w_95 : (Cond.fieldLink "SnapStacks$State" (102 : Nat) "SnapStacks$Room" "power" "I") ∈ lwg := mw 149 (by decide +kernel) rfl
theorem w_96 : (Cond.fieldLink "SnapStacks$Room" (15 : Nat) "SnapStacks$Room" "divisor" "I") ∈ lwg := mw 150 (by decide +kernel) rfl
theorem w_97 : (Cond.fieldLink "SnapStacks" (116 : Nat) "SnapStacks$Room" "divisor" "I") ∈ lwg := mw 151 (by decide +kernel) rfl
theorem w_98 : (Cond.fieldLink "SnapStacks$Room" (27 : Nat) "SnapStacks$Room" "isOpen" "Z") ∈ lwg := mw 152 (by decide +kernel) rfl
theorem w_99 : (Cond.fieldLink "SnapStacks$State" (69 : Nat) "SnapStacks$Room" "isOpen" "Z") ∈ lwg := mw 153 (by decide +kernel) rfl
theorem w_100 : (Cond.fieldLink "SnapStacks" (128 : Nat) "SnapStacks$Room" "isOpen" "Z") ∈ lwg := mw 154 (by decide +kernel) rfl
theorem w_101 : (Cond.fieldLink "SnapStacks$Room" (31 : Nat) "SnapStacks$Room" "closedTicks" "I") ∈ lwg := mw 155 (by decide +kernel) rfl
theorem w_102 : (Cond.fieldLink "SnapStacks$State" (84 : Nat) "SnapStacks$Room" "closedTicks" "I") ∈ lwg := mw 156 (by decide +kernel) rfl
theorem w_103 : (Cond.fieldLink "SnapStacks" (178 : Nat) "SnapStacks$Room" "closedTicks" "I") ∈ lwg := mw 157 (by decide +kernel) rfl
theorem w_104 : (Cond.fieldLink "SnapStacks$Room" (18 : Nat) "SnapStacks$Room" "greatest" "I") ∈ lwg := mw 158 (by decide +kernel) rfl
theorem w_105 : (Cond.fieldLink "SnapStacks" (184 : Nat) "SnapStacks$Room" "greatest" "I") ∈ lwg := mw 159 (by decide +kernel) rfl
theorem w_106 : (Cond.fieldLink "SnapStacks$Room" (21 : Nat) "SnapStacks$Room" "least" "I") ∈ lwg := mw 160 (by decide +kernel) rfl
theorem w_107 : (Cond.fieldLink "SnapStacks" (187 : Nat) "SnapStacks$Room" "least" "I") ∈ lwg := mw 161 (by decide +kernel) rfl
theorem w_123 : (Cond.fieldLink "SnapStacks$State" (9 : Nat) "SnapStacks$State" "numbers" "[I") ∈ lwg := mw 177 (by decide +kernel) rfl
theorem w_124 : (Cond.fieldLink "SnapStacks" (56 : Nat) "SnapStacks$State" "numbers" "[I") ∈ lwg := mw 178 (by decide +kernel) rfl
theorem w_125 : (Cond.fieldLink "SnapStacks$State" (15 : Nat) "SnapStacks$State" "settings" "[I") ∈ lwg := mw 179 (by decide +kernel) rfl
theorem w_126 : (Cond.fieldLink "SnapStacks$LoopFinder" (33 : Nat) "SnapStacks$State" "settings" "[I") ∈ lwg := mw 180 (by decide +kernel) rfl
theorem w_127 : (Cond.fieldLink "SnapStacks" (139 : Nat) "SnapStacks$State" "settings" "[I") ∈ lwg := mw 181 (by decide +kernel) rfl
theorem w_128 : (Cond.fieldLink "SnapStacks$State" (20 : Nat) "SnapStacks$State" "strips" "[LSnapStacks$Strip;") ∈ lwg := mw 182 (by decide +kernel) rfl
theorem w_129 : (Cond.fieldLink "SnapStacks" (64 : Nat) "SnapStacks$State" "strips" "[LSnapStacks$Strip;") ∈ lwg := mw 183 (by decide +kernel) rfl
theorem w_130 : (Cond.fieldLink "SnapStacks$State" (26 : Nat) "SnapStacks$State" "rooms" "[LSnapStacks$Room;") ∈ lwg := mw 184 (by decide +kernel) rfl
theorem w_131 : (Cond.fieldLink "SnapStacks" (107 : Nat) "SnapStacks$State" "rooms" "[LSnapStacks$Room;") ∈ lwg := mw 185 (by decide +kernel) rfl
theorem w_132 : (Cond.fieldLink "SnapStacks$State" (32 : Nat) "SnapStacks$State" "outside" "I") ∈ lwg := mw 186 (by decide +kernel) rfl
theorem w_133 : (Cond.fieldLink "SnapStacks" (122 : Nat) "SnapStacks$State" "outside" "I") ∈ lwg := mw 187 (by decide +kernel) rfl
theorem w_134 : (Cond.fieldLink "SnapStacks$State" (55 : Nat) "SnapStacks$State" "ticks" "I") ∈ lwg := mw 188 (by decide +kernel) rfl
theorem w_135 : (Cond.fieldLink "SnapStacks" (181 : Nat) "SnapStacks$State" "ticks" "I") ∈ lwg := mw 189 (by decide +kernel) rfl
theorem w_136 : (Cond.fieldLink "SnapStacks$State" (36 : Nat) "SnapStacks$State" "rates" "[I") ∈ lwg := mw 190 (by decide +kernel) rfl
theorem w_137 : (Cond.fieldLink "SnapStacks$State" (39 : Nat) "SnapStacks$State" "newWarmths" "[I") ∈ lwg := mw 191 (by decide +kernel) rfl
theorem w_155 : (Cond.classLink "SnapStacks" (16 : Nat) "SnapStacks$History") ∈ lwg := mw 209 (by decide +kernel) rfl
theorem w_156 : (Cond.instantiable "SnapStacks$History" (3 : Nat)) ∈ lwg := mw 210 (by decide +kernel) rfl
theorem w_157 : (Cond.methodLink "SnapStacks" (18 : Nat) ({ cls := "SnapStacks$History", name := "<init>", desc := "()V" } : MethodName)) ∈ lwg := mw 211 (by decide +kernel) rfl
theorem w_158 : (Cond.instanceMethod ({ cls := "SnapStacks$History", name := "<init>", desc := "()V" } : MethodName)) ∈ lwg := mw 212 (by decide +kernel) rfl
theorem w_159 : (Cond.code ({ cls := "SnapStacks$History", name := "<init>", desc := "()V" } : MethodName) prog_2_method_1_code (2 : Nat) (Option.none : Option ClassFile.FieldType)) ∈ lwg := mw 213 (by decide +kernel) rfl
theorem w_160 : (Cond.methodLink "SnapStacks$History" (1 : Nat) ({ cls := "java/lang/Object", name := "<init>", desc := "()V" } : MethodName)) ∈ lwg := mw 214 (by decide +kernel) rfl
theorem w_161 : (Cond.classLink "SnapStacks$History" (9 : Nat) "SnapStacks$State") ∈ lwg := mw 215 (by decide +kernel) rfl
theorem w_163 : (Cond.methodLink "SnapStacks$History" (15 : Nat) ({ cls := "SnapStacks$State", name := "<init>", desc := "()V" } : MethodName)) ∈ lwg := mw 217 (by decide +kernel) rfl
theorem w_164 : (Cond.fieldLink "SnapStacks$History" (11 : Nat) "SnapStacks$History" "states" "[LSnapStacks$State;") ∈ lwg := mw 218 (by decide +kernel) rfl
theorem w_165 : (Cond.fieldLink "SnapStacks$History" (16 : Nat) "SnapStacks$History" "oldest" "I") ∈ lwg := mw 219 (by decide +kernel) rfl
theorem w_166 : (Cond.fieldLink "SnapStacks$History" (20 : Nat) "SnapStacks$History" "size" "I") ∈ lwg := mw 220 (by decide +kernel) rfl
theorem w_167 : (Cond.fieldLink "SnapStacks" (192 : Nat) "SnapStacks$History" "size" "I") ∈ lwg := mw 221 (by decide +kernel) rfl
theorem w_175 : (Cond.classLink "SnapStacks" (23 : Nat) "SnapStacks$Text") ∈ lwg := mw 229 (by decide +kernel) rfl
theorem w_176 : (Cond.instantiable "SnapStacks$Text" (2 : Nat)) ∈ lwg := mw 230 (by decide +kernel) rfl
theorem w_177 : (Cond.methodLink "SnapStacks" (25 : Nat) ({ cls := "SnapStacks$Text", name := "<init>", desc := "()V" } : MethodName)) ∈ lwg := mw 231 (by decide +kernel) rfl
theorem w_178 : (Cond.instanceMethod ({ cls := "SnapStacks$Text", name := "<init>", desc := "()V" } : MethodName)) ∈ lwg := mw 232 (by decide +kernel) rfl
theorem w_179 : (Cond.code ({ cls := "SnapStacks$Text", name := "<init>", desc := "()V" } : MethodName) prog_8_method_1_code (1 : Nat) (Option.none : Option ClassFile.FieldType)) ∈ lwg := mw 233 (by decide +kernel) rfl
theorem w_180 : (Cond.methodLink "SnapStacks$Text" (5 : Nat) ({ cls := "java/lang/Object", name := "<init>", desc := "()V" } : MethodName)) ∈ lwg := mw 234 (by decide +kernel) rfl
theorem w_181 : (Cond.fieldLink "SnapStacks$Text" (11 : Nat) "SnapStacks$Text" "characters" "[C") ∈ lwg := mw 235 (by decide +kernel) rfl
theorem w_182 : (Cond.fieldLink "SnapStacks$Text" (15 : Nat) "SnapStacks$Text" "length" "I") ∈ lwg := mw 236 (by decide +kernel) rfl
theorem w_183 : (Cond.fieldLink "SnapStacks" (195 : Nat) "SnapStacks$Text" "length" "I") ∈ lwg := mw 237 (by decide +kernel) rfl
theorem w_189 : (Cond.arrayClass ClassFile.FieldType.char) ∈ lwg := mw 243 (by decide +kernel) rfl
theorem w_190 : (Cond.classLink "SnapStacks" (30 : Nat) "SnapStacks$LoopFinder") ∈ lwg := mw 244 (by decide +kernel) rfl
theorem w_191 : (Cond.instantiable "SnapStacks$LoopFinder" (8 : Nat)) ∈ lwg := mw 245 (by decide +kernel) rfl
theorem w_192 : (Cond.methodLink "SnapStacks" (32 : Nat) ({ cls := "SnapStacks$LoopFinder", name := "<init>", desc := "()V" } : MethodName)) ∈ lwg := mw 246 (by decide +kernel) rfl
theorem w_193 : (Cond.instanceMethod ({ cls := "SnapStacks$LoopFinder", name := "<init>", desc := "()V" } : MethodName)) ∈ lwg := mw 247 (by decide +kernel) rfl
theorem w_194 : (Cond.code ({ cls := "SnapStacks$LoopFinder", name := "<init>", desc := "()V" } : MethodName) prog_3_method_1_code (1 : Nat) (Option.none : Option ClassFile.FieldType)) ∈ lwg := mw 248 (by decide +kernel) rfl
theorem w_195 : (Cond.methodLink "SnapStacks$LoopFinder" (3 : Nat) ({ cls := "java/lang/Object", name := "<init>", desc := "()V" } : MethodName)) ∈ lwg := mw 249 (by decide +kernel) rfl
theorem w_196 : (Cond.classLink "SnapStacks$LoopFinder" (9 : Nat) "SnapStacks$State") ∈ lwg := mw 250 (by decide +kernel) rfl
theorem w_197 : (Cond.methodLink "SnapStacks$LoopFinder" (11 : Nat) ({ cls := "SnapStacks$State", name := "<init>", desc := "()V" } : MethodName)) ∈ lwg := mw 251 (by decide +kernel) rfl
theorem w_198 : (Cond.fieldLink "SnapStacks$LoopFinder" (12 : Nat) "SnapStacks$LoopFinder" "trial" "LSnapStacks$State;") ∈ lwg := mw 252 (by decide +kernel) rfl
theorem w_199 : (Cond.fieldLink "SnapStacks$LoopFinder" (18 : Nat) "SnapStacks$LoopFinder" "keys" "[J") ∈ lwg := mw 253 (by decide +kernel) rfl
theorem w_200 : (Cond.fieldLink "SnapStacks$LoopFinder" (22 : Nat) "SnapStacks$LoopFinder" "snapsUntil" "[I") ∈ lwg := mw 254 (by decide +kernel) rfl
theorem w_201 : (Cond.fieldLink "SnapStacks$LoopFinder" (26 : Nat) "SnapStacks$LoopFinder" "stepInSlot" "[I") ∈ lwg := mw 255 (by decide +kernel) rfl
theorem w_202 : (Cond.fieldLink "SnapStacks$LoopFinder" (45 : Nat) "SnapStacks$LoopFinder" "isFound" "Z") ∈ lwg := mw 256 (by decide +kernel) rfl
theorem w_203 : (Cond.fieldLink "SnapStacks" (215 : Nat) "SnapStacks$LoopFinder" "isFound" "Z") ∈ lwg := mw 257 (by decide +kernel) rfl
theorem w_204 : (Cond.fieldLink "SnapStacks$LoopFinder" (61 : Nat) "SnapStacks$LoopFinder" "lead" "I") ∈ lwg := mw 258 (by decide +kernel) rfl
theorem w_205 : (Cond.fieldLink "SnapStacks" (218 : Nat) "SnapStacks$LoopFinder" "lead" "I") ∈ lwg := mw 259 (by decide +kernel) rfl
theorem w_206 : (Cond.fieldLink "SnapStacks$LoopFinder" (65 : Nat) "SnapStacks$LoopFinder" "period" "I") ∈ lwg := mw 260 (by decide +kernel) rfl
theorem w_207 : (Cond.fieldLink "SnapStacks" (221 : Nat) "SnapStacks$LoopFinder" "period" "I") ∈ lwg := mw 261 (by decide +kernel) rfl
theorem w_208 : (Cond.fieldLink "SnapStacks$LoopFinder" (68 : Nat) "SnapStacks$LoopFinder" "snaps" "I") ∈ lwg := mw 262 (by decide +kernel) rfl
theorem w_209 : (Cond.fieldLink "SnapStacks" (224 : Nat) "SnapStacks$LoopFinder" "snaps" "I") ∈ lwg := mw 263 (by decide +kernel) rfl
theorem w_227 : (Cond.arrayClass ClassFile.FieldType.long) ∈ lwg := mw 281 (by decide +kernel) rfl
theorem w_228 : (Cond.classLink "SnapStacks" (37 : Nat) "SnapStacks$StackFinder") ∈ lwg := mw 282 (by decide +kernel) rfl
theorem w_229 : (Cond.instantiable "SnapStacks$StackFinder" (6 : Nat)) ∈ lwg := mw 283 (by decide +kernel) rfl
theorem w_230 : (Cond.methodLink "SnapStacks" (39 : Nat) ({ cls := "SnapStacks$StackFinder", name := "<init>", desc := "()V" } : MethodName)) ∈ lwg := mw 284 (by decide +kernel) rfl
theorem w_231 : (Cond.instanceMethod ({ cls := "SnapStacks$StackFinder", name := "<init>", desc := "()V" } : MethodName)) ∈ lwg := mw 285 (by decide +kernel) rfl
theorem w_232 : (Cond.code ({ cls := "SnapStacks$StackFinder", name := "<init>", desc := "()V" } : MethodName) prog_5_method_1_code (1 : Nat) (Option.none : Option ClassFile.FieldType)) ∈ lwg := mw 286 (by decide +kernel) rfl
theorem w_233 : (Cond.methodLink "SnapStacks$StackFinder" (5 : Nat) ({ cls := "java/lang/Object", name := "<init>", desc := "()V" } : MethodName)) ∈ lwg := mw 287 (by decide +kernel) rfl
theorem w_234 : (Cond.fieldLink "SnapStacks$StackFinder" (11 : Nat) "SnapStacks$StackFinder" "numbers" "[I") ∈ lwg := mw 288 (by decide +kernel) rfl
theorem w_235 : (Cond.fieldLink "SnapStacks$StackFinder" (24 : Nat) "SnapStacks$StackFinder" "areTablesMade" "Z") ∈ lwg := mw 289 (by decide +kernel) rfl
theorem w_236 : (Cond.fieldLink "SnapStacks$StackFinder" (15 : Nat) "SnapStacks$StackFinder" "pairs" "[I") ∈ lwg := mw 290 (by decide +kernel) rfl
theorem w_237 : (Cond.fieldLink "SnapStacks$StackFinder" (57 : Nat) "SnapStacks$StackFinder" "pairCount" "I") ∈ lwg := mw 291 (by decide +kernel) rfl
theorem w_238 : (Cond.fieldLink "SnapStacks$StackFinder" (18 : Nat) "SnapStacks$StackFinder" "byOne" "[I") ∈ lwg := mw 292 (by decide +kernel) rfl
theorem w_239 : (Cond.fieldLink "SnapStacks$StackFinder" (21 : Nat) "SnapStacks$StackFinder" "byTwo" "[I") ∈ lwg := mw 293 (by decide +kernel) rfl
theorem w_253 : (Cond.fieldLink "SnapStacks" (10 : Nat) "SnapStacks" "now" "LSnapStacks$State;") ∈ lwg := mw 307 (by decide +kernel) rfl
theorem w_254 : (Cond.fieldLink "SnapStacks" (19 : Nat) "SnapStacks" "history" "LSnapStacks$History;") ∈ lwg := mw 308 (by decide +kernel) rfl
theorem w_255 : (Cond.fieldLink "SnapStacks" (26 : Nat) "SnapStacks" "text" "LSnapStacks$Text;") ∈ lwg := mw 309 (by decide +kernel) rfl
theorem w_256 : (Cond.fieldLink "SnapStacks" (33 : Nat) "SnapStacks" "loops" "LSnapStacks$LoopFinder;") ∈ lwg := mw 310 (by decide +kernel) rfl
theorem w_257 : (Cond.fieldLink "SnapStacks" (40 : Nat) "SnapStacks" "stacks" "LSnapStacks$StackFinder;") ∈ lwg := mw 311 (by decide +kernel) rfl
theorem w_258 : (Cond.fieldLink "SnapStacks" (44 : Nat) "SnapStacks" "loopIsSought" "Z") ∈ lwg := mw 312 (by decide +kernel) rfl
theorem w_276 : (Cond.methodLink "SnapStacks" (48 : Nat) ({ cls := "SnapStacks", name := "isWithin", desc := "(III)Z" } : MethodName)) ∈ lwg := mw 330 (by decide +kernel) rfl
theorem w_277 : (Cond.static ({ cls := "SnapStacks", name := "isWithin", desc := "(III)Z" } : MethodName)) ∈ lwg := mw 331 (by decide +kernel) rfl
theorem w_278 : (Cond.code ({ cls := "SnapStacks", name := "isWithin", desc := "(III)Z" } : MethodName) prog_1_method_28_code (3 : Nat) (Option.some ClassFile.FieldType.boolean)) ∈ lwg := mw 332 (by decide +kernel) rfl
theorem w_279 : (Cond.constant "SnapStacks" (52 : Nat) (-10000001 : Int32)) ∈ lwg := mw 333 (by decide +kernel) rfl
theorem w_280 : (Cond.methodLink "SnapStacks" (53 : Nat) ({ cls := "SnapStacks", name := "recordChange", desc := "()V" } : MethodName)) ∈ lwg := mw 334 (by decide +kernel) rfl
theorem w_282 : (Cond.instanceMethod ({ cls := "SnapStacks", name := "recordChange", desc := "()V" } : MethodName)) ∈ lwg := mw 336 (by decide +kernel) rfl
theorem w_283 : (Cond.code ({ cls := "SnapStacks", name := "recordChange", desc := "()V" } : MethodName) prog_1_method_26_code (1 : Nat) (Option.none : Option ClassFile.FieldType)) ∈ lwg := mw 337 (by decide +kernel) rfl
theorem w_284 : (Cond.methodLink "SnapStacks" (260 : Nat) ({ cls := "SnapStacks$History", name := "take", desc := "(LSnapStacks$State;)V" } : MethodName)) ∈ lwg := mw 338 (by decide +kernel) rfl
theorem w_285 : (Cond.instanceMethod ({ cls := "SnapStacks$History", name := "take", desc := "(LSnapStacks$State;)V" } : MethodName)) ∈ lwg := mw 339 (by decide +kernel) rfl
theorem w_286 : (Cond.selects "SnapStacks$History" ({ cls := "SnapStacks$History", name := "take", desc := "(LSnapStacks$State;)V" } : MethodName) ({ cls := "SnapStacks$History", name := "take", desc := "(LSnapStacks$State;)V" } : MethodName)) ∈ lwg := mw 340 (by decide +kernel) rfl
theorem w_287 : (Cond.code ({ cls := "SnapStacks$History", name := "take", desc := "(LSnapStacks$State;)V" } : MethodName) prog_2_method_2_code (2 : Nat) (Option.none : Option ClassFile.FieldType)) ∈ lwg := mw 341 (by decide +kernel) rfl
theorem w_288 : (Cond.methodLink "SnapStacks$History" (23 : Nat) ({ cls := "SnapStacks$State", name := "copyFrom", desc := "(LSnapStacks$State;)V" } : MethodName)) ∈ lwg := mw 342 (by decide +kernel) rfl
theorem w_289 : (Cond.instanceMethod ({ cls := "SnapStacks$State", name := "copyFrom", desc := "(LSnapStacks$State;)V" } : MethodName)) ∈ lwg := mw 343 (by decide +kernel) rfl
theorem w_290 : (Cond.selects "SnapStacks$State" ({ cls := "SnapStacks$State", name := "copyFrom", desc := "(LSnapStacks$State;)V" } : MethodName) ({ cls := "SnapStacks$State", name := "copyFrom", desc := "(LSnapStacks$State;)V" } : MethodName)) ∈ lwg := mw 344 (by decide +kernel) rfl
theorem w_291 : (Cond.code ({ cls := "SnapStacks$State", name := "copyFrom", desc := "(LSnapStacks$State;)V" } : MethodName) prog_6_method_2_code (3 : Nat) (Option.none : Option ClassFile.FieldType)) ∈ lwg := mw 345 (by decide +kernel) rfl
theorem w_292 : (Cond.methodLink "SnapStacks$State" (42 : Nat) ({ cls := "java/lang/System", name := "arraycopy", desc := "(Ljava/lang/Object;ILjava/lang/Object;II)V" } : MethodName)) ∈ lwg := mw 346 (by decide +kernel) rfl
theorem w_293 : (Cond.static ({ cls := "java/lang/System", name := "arraycopy", desc := "(Ljava/lang/Object;ILjava/lang/Object;II)V" } : MethodName)) ∈ lwg := mw 347 (by decide +kernel) rfl
theorem w_294 : (Cond.native ({ cls := "java/lang/System", name := "arraycopy", desc := "(Ljava/lang/Object;ILjava/lang/Object;II)V" } : MethodName)) ∈ lwg := mw 348 (by decide +kernel) rfl
theorem w_295 : (Cond.methodLink "SnapStacks$State" (48 : Nat) ({ cls := "SnapStacks$Strip", name := "copyFrom", desc := "(LSnapStacks$Strip;)V" } : MethodName)) ∈ lwg := mw 349 (by decide +kernel) rfl
theorem w_296 : (Cond.instanceMethod ({ cls := "SnapStacks$Strip", name := "copyFrom", desc := "(LSnapStacks$Strip;)V" } : MethodName)) ∈ lwg := mw 350 (by decide +kernel) rfl
theorem w_297 : (Cond.selects "SnapStacks$Strip" ({ cls := "SnapStacks$Strip", name := "copyFrom", desc := "(LSnapStacks$Strip;)V" } : MethodName) ({ cls := "SnapStacks$Strip", name := "copyFrom", desc := "(LSnapStacks$Strip;)V" } : MethodName)) ∈ lwg := mw 351 (by decide +kernel) rfl
theorem w_298 : (Cond.code ({ cls := "SnapStacks$Strip", name := "copyFrom", desc := "(LSnapStacks$Strip;)V" } : MethodName) prog_7_method_2_code (2 : Nat) (Option.none : Option ClassFile.FieldType)) ∈ lwg := mw 352 (by decide +kernel) rfl
theorem w_299 : (Cond.methodLink "SnapStacks$Strip" (28 : Nat) ({ cls := "java/lang/System", name := "arraycopy", desc := "(Ljava/lang/Object;ILjava/lang/Object;II)V" } : MethodName)) ∈ lwg := mw 353 (by decide +kernel) rfl
theorem w_300 : (Cond.methodLink "SnapStacks$State" (52 : Nat) ({ cls := "SnapStacks$Room", name := "copyFrom", desc := "(LSnapStacks$Room;)V" } : MethodName)) ∈ lwg := mw 354 (by decide +kernel) rfl
theorem w_301 : (Cond.instanceMethod ({ cls := "SnapStacks$Room", name := "copyFrom", desc := "(LSnapStacks$Room;)V" } : MethodName)) ∈ lwg := mw 355 (by decide +kernel) rfl
theorem w_302 : (Cond.selects "SnapStacks$Room" ({ cls := "SnapStacks$Room", name := "copyFrom", desc := "(LSnapStacks$Room;)V" } : MethodName) ({ cls := "SnapStacks$Room", name := "copyFrom", desc := "(LSnapStacks$Room;)V" } : MethodName)) ∈ lwg := mw 356 (by decide +kernel) rfl
theorem w_303 : (Cond.code ({ cls := "SnapStacks$Room", name := "copyFrom", desc := "(LSnapStacks$Room;)V" } : MethodName) prog_4_method_2_code (2 : Nat) (Option.none : Option ClassFile.FieldType)) ∈ lwg := mw 357 (by decide +kernel) rfl
theorem w_308 : (Cond.methodLink "SnapStacks" (60 : Nat) ({ cls := "SnapStacks", name := "isRoom", desc := "(I)Z" } : MethodName)) ∈ lwg := mw 362 (by decide +kernel) rfl
theorem w_309 : (Cond.static ({ cls := "SnapStacks", name := "isRoom", desc := "(I)Z" } : MethodName)) ∈ lwg := mw 363 (by decide +kernel) rfl
theorem w_310 : (Cond.code ({ cls := "SnapStacks", name := "isRoom", desc := "(I)Z" } : MethodName) prog_1_method_29_code (1 : Nat) (Option.some ClassFile.FieldType.boolean)) ∈ lwg := mw 364 (by decide +kernel) rfl
theorem w_311 : (Cond.constant "SnapStacks" (74 : Nat) (-10000003 : Int32)) ∈ lwg := mw 365 (by decide +kernel) rfl
theorem w_312 : (Cond.methodLink "SnapStacks" (75 : Nat) ({ cls := "SnapStacks$Strip", name := "addPart", desc := "(III)V" } : MethodName)) ∈ lwg := mw 366 (by decide +kernel) rfl
theorem w_313 : (Cond.instanceMethod ({ cls := "SnapStacks$Strip", name := "addPart", desc := "(III)V" } : MethodName)) ∈ lwg := mw 367 (by decide +kernel) rfl
theorem w_314 : (Cond.selects "SnapStacks$Strip" ({ cls := "SnapStacks$Strip", name := "addPart", desc := "(III)V" } : MethodName) ({ cls := "SnapStacks$Strip", name := "addPart", desc := "(III)V" } : MethodName)) ∈ lwg := mw 368 (by decide +kernel) rfl
theorem w_315 : (Cond.code ({ cls := "SnapStacks$Strip", name := "addPart", desc := "(III)V" } : MethodName) prog_7_method_3_code (4 : Nat) (Option.none : Option ClassFile.FieldType)) ∈ lwg := mw 369 (by decide +kernel) rfl
theorem w_320 : (Cond.constant "SnapStacks" (79 : Nat) (-10000002 : Int32)) ∈ lwg := mw 374 (by decide +kernel) rfl
theorem w_325 : (Cond.constant "SnapStacks" (80 : Nat) (-90000 : Int32)) ∈ lwg := mw 379 (by decide +kernel) rfl
theorem w_326 : (Cond.constant "SnapStacks" (81 : Nat) (89999 : Int32)) ∈ lwg := mw 380 (by decide +kernel) rfl
theorem w_327 : (Cond.constant "SnapStacks" (82 : Nat) (90000 : Int32)) ∈ lwg := mw 381 (by decide +kernel) rfl
theorem w_328 : (Cond.methodLink "SnapStacks" (92 : Nat) ({ cls := "SnapStacks$State", name := "bendInRoom", desc := "(I)I" } : MethodName)) ∈ lwg := mw 382 (by decide +kernel) rfl
theorem w_329 : (Cond.instanceMethod ({ cls := "SnapStacks$State", name := "bendInRoom", desc := "(I)I" } : MethodName)) ∈ lwg := mw 383 (by decide +kernel) rfl
theorem w_330 : (Cond.selects "SnapStacks$State" ({ cls := "SnapStacks$State", name := "bendInRoom", desc := "(I)I" } : MethodName) ({ cls := "SnapStacks$State", name := "bendInRoom", desc := "(I)I" } : MethodName)) ∈ lwg := mw 384 (by decide +kernel) rfl
theorem w_331 : (Cond.code ({ cls := "SnapStacks$State", name := "bendInRoom", desc := "(I)I" } : MethodName) prog_6_method_3_code (2 : Nat) (Option.some ClassFile.FieldType.int)) ∈ lwg := mw 385 (by decide +kernel) rfl
theorem w_332 : (Cond.methodLink "SnapStacks$State" (58 : Nat) ({ cls := "SnapStacks$Strip", name := "rate", desc := "([I)I" } : MethodName)) ∈ lwg := mw 386 (by decide +kernel) rfl
theorem w_333 : (Cond.instanceMethod ({ cls := "SnapStacks$Strip", name := "rate", desc := "([I)I" } : MethodName)) ∈ lwg := mw 387 (by decide +kernel) rfl
theorem w_334 : (Cond.selects "SnapStacks$Strip" ({ cls := "SnapStacks$Strip", name := "rate", desc := "([I)I" } : MethodName) ({ cls := "SnapStacks$Strip", name := "rate", desc := "([I)I" } : MethodName)) ∈ lwg := mw 388 (by decide +kernel) rfl
theorem w_335 : (Cond.code ({ cls := "SnapStacks$Strip", name := "rate", desc := "([I)I" } : MethodName) prog_7_method_6_code (4 : Nat) (Option.some ClassFile.FieldType.int)) ∈ lwg := mw 389 (by decide +kernel) rfl
theorem w_336 : (Cond.methodLink "SnapStacks$Strip" (53 : Nat) ({ cls := "SnapStacks$Strip", name := "partRate", desc := "(I[I)I" } : MethodName)) ∈ lwg := mw 390 (by decide +kernel) rfl
theorem w_337 : (Cond.instanceMethod ({ cls := "SnapStacks$Strip", name := "partRate", desc := "(I[I)I" } : MethodName)) ∈ lwg := mw 391 (by decide +kernel) rfl
theorem w_338 : (Cond.selects "SnapStacks$Strip" ({ cls := "SnapStacks$Strip", name := "partRate", desc := "(I[I)I" } : MethodName) ({ cls := "SnapStacks$Strip", name := "partRate", desc := "(I[I)I" } : MethodName)) ∈ lwg := mw 392 (by decide +kernel) rfl
theorem w_339 : (Cond.code ({ cls := "SnapStacks$Strip", name := "partRate", desc := "(I[I)I" } : MethodName) prog_7_method_5_code (3 : Nat) (Option.some ClassFile.FieldType.int)) ∈ lwg := mw 393 (by decide +kernel) rfl
theorem w_341 : (Cond.static ({ cls := "SnapStacks", name := "bendAt", desc := "(II)I" } : MethodName)) ∈ lwg := mw 395 (by decide +kernel) rfl
theorem w_342 : (Cond.code ({ cls := "SnapStacks", name := "bendAt", desc := "(II)I" } : MethodName) prog_1_method_33_code (2 : Nat) (Option.some ClassFile.FieldType.int)) ∈ lwg := mw 396 (by decide +kernel) rfl
theorem w_347 : (Cond.methodLink "SnapStacks" (99 : Nat) ({ cls := "SnapStacks$Strip", name := "isClosed", desc := "()Z" } : MethodName)) ∈ lwg := mw 401 (by decide +kernel) rfl
theorem w_348 : (Cond.instanceMethod ({ cls := "SnapStacks$Strip", name := "isClosed", desc := "()Z" } : MethodName)) ∈ lwg := mw 402 (by decide +kernel) rfl
theorem w_349 : (Cond.selects "SnapStacks$Strip" ({ cls := "SnapStacks$Strip", name := "isClosed", desc := "()Z" } : MethodName) ({ cls := "SnapStacks$Strip", name := "isClosed", desc := "()Z" } : MethodName)) ∈ lwg := mw 403 (by decide +kernel) rfl
theorem w_350 : (Cond.code ({ cls := "SnapStacks$Strip", name := "isClosed", desc := "()Z" } : MethodName) prog_7_method_7_code (1 : Nat) (Option.some ClassFile.FieldType.boolean)) ∈ lwg := mw 404 (by decide +kernel) rfl
theorem w_351 : (Cond.methodLink "SnapStacks" (103 : Nat) ({ cls := "SnapStacks", name := "oneIf", desc := "(Z)I" } : MethodName)) ∈ lwg := mw 405 (by decide +kernel) rfl
theorem w_352 : (Cond.static ({ cls := "SnapStacks", name := "oneIf", desc := "(Z)I" } : MethodName)) ∈ lwg := mw 406 (by decide +kernel) rfl
theorem w_353 : (Cond.code ({ cls := "SnapStacks", name := "oneIf", desc := "(Z)I" } : MethodName) prog_1_method_32_code (1 : Nat) (Option.some ClassFile.FieldType.int)) ∈ lwg := mw 407 (by decide +kernel) rfl
theorem w_362 : (Cond.methodLink "SnapStacks" (119 : Nat) ({ cls := "SnapStacks", name := "isWarmth", desc := "(I)Z" } : MethodName)) ∈ lwg := mw 416 (by decide +kernel) rfl
theorem w_363 : (Cond.static ({ cls := "SnapStacks", name := "isWarmth", desc := "(I)Z" } : MethodName)) ∈ lwg := mw 417 (by decide +kernel) rfl
theorem w_364 : (Cond.code ({ cls := "SnapStacks", name := "isWarmth", desc := "(I)Z" } : MethodName) prog_1_method_30_code (1 : Nat) (Option.some ClassFile.FieldType.boolean)) ∈ lwg := mw 418 (by decide +kernel) rfl
theorem w_373 : (Cond.methodLink "SnapStacks" (131 : Nat) ({ cls := "SnapStacks$State", name := "openings", desc := "()I" } : MethodName)) ∈ lwg := mw 427 (by decide +kernel) rfl
theorem w_374 : (Cond.instanceMethod ({ cls := "SnapStacks$State", name := "openings", desc := "()I" } : MethodName)) ∈ lwg := mw 428 (by decide +kernel) rfl
theorem w_375 : (Cond.selects "SnapStacks$State" ({ cls := "SnapStacks$State", name := "openings", desc := "()I" } : MethodName) ({ cls := "SnapStacks$State", name := "openings", desc := "()I" } : MethodName)) ∈ lwg := mw 429 (by decide +kernel) rfl
theorem w_376 : (Cond.code ({ cls := "SnapStacks$State", name := "openings", desc := "()I" } : MethodName) prog_6_method_4_code (3 : Nat) (Option.some ClassFile.FieldType.int)) ∈ lwg := mw 430 (by decide +kernel) rfl
theorem w_382 : (Cond.methodLink "SnapStacks" (135 : Nat) ({ cls := "SnapStacks", name := "isSetting", desc := "(II)Z" } : MethodName)) ∈ lwg := mw 436 (by decide +kernel) rfl
theorem w_383 : (Cond.static ({ cls := "SnapStacks", name := "isSetting", desc := "(II)Z" } : MethodName)) ∈ lwg := mw 437 (by decide +kernel) rfl
theorem w_384 : (Cond.code ({ cls := "SnapStacks", name := "isSetting", desc := "(II)Z" } : MethodName) prog_1_method_31_code (2 : Nat) (Option.some ClassFile.FieldType.boolean)) ∈ lwg := mw 438 (by decide +kernel) rfl
theorem w_389 : (Cond.methodLink "SnapStacks" (142 : Nat) ({ cls := "SnapStacks$State", name := "sumRates", desc := "()V" } : MethodName)) ∈ lwg := mw 443 (by decide +kernel) rfl
theorem w_390 : (Cond.instanceMethod ({ cls := "SnapStacks$State", name := "sumRates", desc := "()V" } : MethodName)) ∈ lwg := mw 444 (by decide +kernel) rfl
theorem w_391 : (Cond.selects "SnapStacks$State" ({ cls := "SnapStacks$State", name := "sumRates", desc := "()V" } : MethodName) ({ cls := "SnapStacks$State", name := "sumRates", desc := "()V" } : MethodName)) ∈ lwg := mw 445 (by decide +kernel) rfl
theorem w_392 : (Cond.code ({ cls := "SnapStacks$State", name := "sumRates", desc := "()V" } : MethodName) prog_6_method_6_code (2 : Nat) (Option.none : Option ClassFile.FieldType)) ∈ lwg := mw 446 (by decide +kernel) rfl
theorem w_393 : (Cond.methodLink "SnapStacks" (145 : Nat) ({ cls := "SnapStacks$State", name := "passTick", desc := "()I" } : MethodName)) ∈ lwg := mw 447 (by decide +kernel) rfl
theorem w_394 : (Cond.instanceMethod ({ cls := "SnapStacks$State", name := "passTick", desc := "()I" } : MethodName)) ∈ lwg := mw 448 (by decide +kernel) rfl
theorem w_395 : (Cond.selects "SnapStacks$State" ({ cls := "SnapStacks$State", name := "passTick", desc := "()I" } : MethodName) ({ cls := "SnapStacks$State", name := "passTick", desc := "()I" } : MethodName)) ∈ lwg := mw 449 (by decide +kernel) rfl
theorem w_396 : (Cond.code ({ cls := "SnapStacks$State", name := "passTick", desc := "()I" } : MethodName) prog_6_method_7_code (3 : Nat) (Option.some ClassFile.FieldType.int)) ∈ lwg := mw 450 (by decide +kernel) rfl
theorem w_397 : (Cond.methodLink "SnapStacks$State" (80 : Nat) ({ cls := "SnapStacks$State", name := "warmthToCome", desc := "(I)I" } : MethodName)) ∈ lwg := mw 451 (by decide +kernel) rfl
theorem w_399 : (Cond.instanceMethod ({ cls := "SnapStacks$State", name := "warmthToCome", desc := "(I)I" } : MethodName)) ∈ lwg := mw 453 (by decide +kernel) rfl
theorem w_400 : (Cond.code ({ cls := "SnapStacks$State", name := "warmthToCome", desc := "(I)I" } : MethodName) prog_6_method_8_code (6 : Nat) (Option.some ClassFile.FieldType.int)) ∈ lwg := mw 454 (by decide +kernel) rfl
theorem w_401 : (Cond.methodLink "SnapStacks$State" (99 : Nat) ({ cls := "SnapStacks$Room", name := "lossTo", desc := "(I)I" } : MethodName)) ∈ lwg := mw 455 (by decide +kernel) rfl
theorem w_402 : (Cond.instanceMethod ({ cls := "SnapStacks$Room", name := "lossTo", desc := "(I)I" } : MethodName)) ∈ lwg := mw 456 (by decide +kernel) rfl
theorem w_403 : (Cond.selects "SnapStacks$Room" ({ cls := "SnapStacks$Room", name := "lossTo", desc := "(I)I" } : MethodName) ({ cls := "SnapStacks$Room", name := "lossTo", desc := "(I)I" } : MethodName)) ∈ lwg := mw 457 (by decide +kernel) rfl
theorem w_404 : (Cond.code ({ cls := "SnapStacks$Room", name := "lossTo", desc := "(I)I" } : MethodName) prog_4_method_3_code (2 : Nat) (Option.some ClassFile.FieldType.int)) ∈ lwg := mw 458 (by decide +kernel) rfl
theorem w_405 : (Cond.methodLink "SnapStacks$State" (87 : Nat) ({ cls := "SnapStacks$Strip", name := "isClosed", desc := "()Z" } : MethodName)) ∈ lwg := mw 459 (by decide +kernel) rfl
theorem w_406 : (Cond.methodLink "SnapStacks$State" (105 : Nat) ({ cls := "SnapStacks$Room", name := "lossTo", desc := "(LSnapStacks$Room;)I" } : MethodName)) ∈ lwg := mw 460 (by decide +kernel) rfl
theorem w_407 : (Cond.instanceMethod ({ cls := "SnapStacks$Room", name := "lossTo", desc := "(LSnapStacks$Room;)I" } : MethodName)) ∈ lwg := mw 461 (by decide +kernel) rfl
theorem w_408 : (Cond.selects "SnapStacks$Room" ({ cls := "SnapStacks$Room", name := "lossTo", desc := "(LSnapStacks$Room;)I" } : MethodName) ({ cls := "SnapStacks$Room", name := "lossTo", desc := "(LSnapStacks$Room;)I" } : MethodName)) ∈ lwg := mw 462 (by decide +kernel) rfl
theorem w_409 : (Cond.code ({ cls := "SnapStacks$Room", name := "lossTo", desc := "(LSnapStacks$Room;)I" } : MethodName) prog_4_method_4_code (2 : Nat) (Option.some ClassFile.FieldType.int)) ∈ lwg := mw 463 (by decide +kernel) rfl
theorem w_410 : (Cond.methodLink "SnapStacks$State" (108 : Nat) ({ cls := "java/lang/Math", name := "min", desc := "(II)I" } : MethodName)) ∈ lwg := mw 464 (by decide +kernel) rfl
theorem w_411 : (Cond.static ({ cls := "java/lang/Math", name := "min", desc := "(II)I" } : MethodName)) ∈ lwg := mw 465 (by decide +kernel) rfl
theorem w_412 : (Cond.code ({ cls := "java/lang/Math", name := "min", desc := "(II)I" } : MethodName) prog_11_method_69_code (2 : Nat) (Option.some ClassFile.FieldType.int)) ∈ lwg := mw 466 (by decide +kernel) rfl
theorem w_413 : (Cond.methodLink "SnapStacks$State" (113 : Nat) ({ cls := "java/lang/Math", name := "max", desc := "(II)I" } : MethodName)) ∈ lwg := mw 467 (by decide +kernel) rfl
theorem w_414 : (Cond.static ({ cls := "java/lang/Math", name := "max", desc := "(II)I" } : MethodName)) ∈ lwg := mw 468 (by decide +kernel) rfl
theorem w_415 : (Cond.code ({ cls := "java/lang/Math", name := "max", desc := "(II)I" } : MethodName) prog_11_method_65_code (2 : Nat) (Option.some ClassFile.FieldType.int)) ∈ lwg := mw 469 (by decide +kernel) rfl
theorem w_416 : (Cond.methodLink "SnapStacks$State" (91 : Nat) ({ cls := "SnapStacks$Room", name := "come", desc := "(I)V" } : MethodName)) ∈ lwg := mw 470 (by decide +kernel) rfl
theorem w_417 : (Cond.instanceMethod ({ cls := "SnapStacks$Room", name := "come", desc := "(I)V" } : MethodName)) ∈ lwg := mw 471 (by decide +kernel) rfl
theorem w_418 : (Cond.selects "SnapStacks$Room" ({ cls := "SnapStacks$Room", name := "come", desc := "(I)V" } : MethodName) ({ cls := "SnapStacks$Room", name := "come", desc := "(I)V" } : MethodName)) ∈ lwg := mw 472 (by decide +kernel) rfl
theorem w_419 : (Cond.code ({ cls := "SnapStacks$Room", name := "come", desc := "(I)V" } : MethodName) prog_4_method_5_code (2 : Nat) (Option.none : Option ClassFile.FieldType)) ∈ lwg := mw 473 (by decide +kernel) rfl
theorem w_420 : (Cond.methodLink "SnapStacks$Room" (34 : Nat) ({ cls := "java/lang/Math", name := "max", desc := "(II)I" } : MethodName)) ∈ lwg := mw 474 (by decide +kernel) rfl
theorem w_421 : (Cond.methodLink "SnapStacks$Room" (40 : Nat) ({ cls := "java/lang/Math", name := "min", desc := "(II)I" } : MethodName)) ∈ lwg := mw 475 (by decide +kernel) rfl
theorem w_422 : (Cond.methodLink "SnapStacks$State" (95 : Nat) ({ cls := "SnapStacks$State", name := "moveStrip", desc := "(I)Z" } : MethodName)) ∈ lwg := mw 476 (by decide +kernel) rfl
theorem w_424 : (Cond.instanceMethod ({ cls := "SnapStacks$State", name := "moveStrip", desc := "(I)Z" } : MethodName)) ∈ lwg := mw 478 (by decide +kernel) rfl
theorem w_425 : (Cond.code ({ cls := "SnapStacks$State", name := "moveStrip", desc := "(I)Z" } : MethodName) prog_6_method_9_code (3 : Nat) (Option.some ClassFile.FieldType.boolean)) ∈ lwg := mw 479 (by decide +kernel) rfl
theorem w_426 : (Cond.methodLink "SnapStacks$State" (116 : Nat) ({ cls := "SnapStacks$Strip", name := "changesBy", desc := "(I)Z" } : MethodName)) ∈ lwg := mw 480 (by decide +kernel) rfl
theorem w_427 : (Cond.instanceMethod ({ cls := "SnapStacks$Strip", name := "changesBy", desc := "(I)Z" } : MethodName)) ∈ lwg := mw 481 (by decide +kernel) rfl
theorem w_428 : (Cond.selects "SnapStacks$Strip" ({ cls := "SnapStacks$Strip", name := "changesBy", desc := "(I)Z" } : MethodName) ({ cls := "SnapStacks$Strip", name := "changesBy", desc := "(I)Z" } : MethodName)) ∈ lwg := mw 482 (by decide +kernel) rfl
theorem w_429 : (Cond.code ({ cls := "SnapStacks$Strip", name := "changesBy", desc := "(I)Z" } : MethodName) prog_7_method_9_code (2 : Nat) (Option.some ClassFile.FieldType.boolean)) ∈ lwg := mw 483 (by decide +kernel) rfl
theorem w_430 : (Cond.methodLink "SnapStacks$Strip" (57 : Nat) ({ cls := "SnapStacks$Strip", name := "isPulledBy", desc := "(I)Z" } : MethodName)) ∈ lwg := mw 484 (by decide +kernel) rfl
theorem w_431 : (Cond.instanceMethod ({ cls := "SnapStacks$Strip", name := "isPulledBy", desc := "(I)Z" } : MethodName)) ∈ lwg := mw 485 (by decide +kernel) rfl
theorem w_432 : (Cond.selects "SnapStacks$Strip" ({ cls := "SnapStacks$Strip", name := "isPulledBy", desc := "(I)Z" } : MethodName) ({ cls := "SnapStacks$Strip", name := "isPulledBy", desc := "(I)Z" } : MethodName)) ∈ lwg := mw 486 (by decide +kernel) rfl
theorem w_433 : (Cond.code ({ cls := "SnapStacks$Strip", name := "isPulledBy", desc := "(I)Z" } : MethodName) prog_7_method_8_code (2 : Nat) (Option.some ClassFile.FieldType.boolean)) ∈ lwg := mw 487 (by decide +kernel) rfl
theorem w_434 : (Cond.methodLink "SnapStacks$State" (122 : Nat) ({ cls := "SnapStacks$Strip", name := "getTired", desc := "(II)V" } : MethodName)) ∈ lwg := mw 488 (by decide +kernel) rfl
theorem w_435 : (Cond.instanceMethod ({ cls := "SnapStacks$Strip", name := "getTired", desc := "(II)V" } : MethodName)) ∈ lwg := mw 489 (by decide +kernel) rfl
theorem w_436 : (Cond.selects "SnapStacks$Strip" ({ cls := "SnapStacks$Strip", name := "getTired", desc := "(II)V" } : MethodName) ({ cls := "SnapStacks$Strip", name := "getTired", desc := "(II)V" } : MethodName)) ∈ lwg := mw 490 (by decide +kernel) rfl
theorem w_437 : (Cond.code ({ cls := "SnapStacks$Strip", name := "getTired", desc := "(II)V" } : MethodName) prog_7_method_10_code (3 : Nat) (Option.none : Option ClassFile.FieldType)) ∈ lwg := mw 491 (by decide +kernel) rfl
theorem w_442 : (Cond.methodLink "SnapStacks" (148 : Nat) ({ cls := "SnapStacks$Strip", name := "wholeLength", desc := "()I" } : MethodName)) ∈ lwg := mw 496 (by decide +kernel) rfl
theorem w_443 : (Cond.instanceMethod ({ cls := "SnapStacks$Strip", name := "wholeLength", desc := "()I" } : MethodName)) ∈ lwg := mw 497 (by decide +kernel) rfl
theorem w_444 : (Cond.selects "SnapStacks$Strip" ({ cls := "SnapStacks$Strip", name := "wholeLength", desc := "()I" } : MethodName) ({ cls := "SnapStacks$Strip", name := "wholeLength", desc := "()I" } : MethodName)) ∈ lwg := mw 498 (by decide +kernel) rfl
theorem w_445 : (Cond.code ({ cls := "SnapStacks$Strip", name := "wholeLength", desc := "()I" } : MethodName) prog_7_method_4_code (3 : Nat) (Option.some ClassFile.FieldType.int)) ∈ lwg := mw 499 (by decide +kernel) rfl
theorem w_446 : (Cond.methodLink "SnapStacks" (151 : Nat) ({ cls := "SnapStacks$Strip", name := "rate", desc := "([I)I" } : MethodName)) ∈ lwg := mw 500 (by decide +kernel) rfl
theorem w_451 : (Cond.constant "SnapStacks" (164 : Nat) (-10000004 : Int32)) ∈ lwg := mw 505 (by decide +kernel) rfl
theorem w_452 : (Cond.methodLink "SnapStacks" (174 : Nat) ({ cls := "SnapStacks$Strip", name := "partRate", desc := "(I[I)I" } : MethodName)) ∈ lwg := mw 506 (by decide +kernel) rfl
theorem w_461 : (Cond.methodLink "SnapStacks" (190 : Nat) ({ cls := "SnapStacks$State", name := "snaps", desc := "()I" } : MethodName)) ∈ lwg := mw 515 (by decide +kernel) rfl
theorem w_462 : (Cond.instanceMethod ({ cls := "SnapStacks$State", name := "snaps", desc := "()I" } : MethodName)) ∈ lwg := mw 516 (by decide +kernel) rfl
theorem w_463 : (Cond.selects "SnapStacks$State" ({ cls := "SnapStacks$State", name := "snaps", desc := "()I" } : MethodName) ({ cls := "SnapStacks$State", name := "snaps", desc := "()I" } : MethodName)) ∈ lwg := mw 517 (by decide +kernel) rfl
theorem w_464 : (Cond.code ({ cls := "SnapStacks$State", name := "snaps", desc := "()I" } : MethodName) prog_6_method_5_code (3 : Nat) (Option.some ClassFile.FieldType.int)) ∈ lwg := mw 518 (by decide +kernel) rfl
theorem w_465 : (Cond.methodLink "SnapStacks" (198 : Nat) ({ cls := "SnapStacks", name := "numberOfMetal", desc := "(I)I" } : MethodName)) ∈ lwg := mw 519 (by decide +kernel) rfl
theorem w_467 : (Cond.instanceMethod ({ cls := "SnapStacks", name := "numberOfMetal", desc := "(I)I" } : MethodName)) ∈ lwg := mw 521 (by decide +kernel) rfl
theorem w_468 : (Cond.code ({ cls := "SnapStacks", name := "numberOfMetal", desc := "(I)I" } : MethodName) prog_1_method_27_code (2 : Nat) (Option.some ClassFile.FieldType.int)) ∈ lwg := mw 522 (by decide +kernel) rfl
theorem w_473 : (Cond.methodLink "SnapStacks" (201 : Nat) ({ cls := "SnapStacks", name := "bendAt", desc := "(II)I" } : MethodName)) ∈ lwg := mw 527 (by decide +kernel) rfl
theorem w_478 : (Cond.methodLink "SnapStacks" (205 : Nat) ({ cls := "SnapStacks", name := "leastPulledUp", desc := "(II)I" } : MethodName)) ∈ lwg := mw 532 (by decide +kernel) rfl
theorem w_479 : (Cond.static ({ cls := "SnapStacks", name := "leastPulledUp", desc := "(II)I" } : MethodName)) ∈ lwg := mw 533 (by decide +kernel) rfl
theorem w_480 : (Cond.code ({ cls := "SnapStacks", name := "leastPulledUp", desc := "(II)I" } : MethodName) prog_1_method_34_code (3 : Nat) (Option.some ClassFile.FieldType.int)) ∈ lwg := mw 534 (by decide +kernel) rfl
theorem w_481 : (Cond.methodLink "SnapStacks" (263 : Nat) ({ cls := "java/lang/Math", name := "floorDiv", desc := "(II)I" } : MethodName)) ∈ lwg := mw 535 (by decide +kernel) rfl
theorem w_482 : (Cond.static ({ cls := "java/lang/Math", name := "floorDiv", desc := "(II)I" } : MethodName)) ∈ lwg := mw 536 (by decide +kernel) rfl
theorem w_483 : (Cond.code ({ cls := "java/lang/Math", name := "floorDiv", desc := "(II)I" } : MethodName) prog_11_method_47_code (3 : Nat) (Option.some ClassFile.FieldType.int)) ∈ lwg := mw 537 (by decide +kernel) rfl
theorem w_484 : (Cond.methodLink "SnapStacks" (268 : Nat) ({ cls := "java/lang/Math", name := "max", desc := "(II)I" } : MethodName)) ∈ lwg := mw 538 (by decide +kernel) rfl
theorem w_485 : (Cond.methodLink "SnapStacks" (208 : Nat) ({ cls := "SnapStacks", name := "greatestPulledBack", desc := "(II)I" } : MethodName)) ∈ lwg := mw 539 (by decide +kernel) rfl
theorem w_486 : (Cond.static ({ cls := "SnapStacks", name := "greatestPulledBack", desc := "(II)I" } : MethodName)) ∈ lwg := mw 540 (by decide +kernel) rfl
theorem w_487 : (Cond.code ({ cls := "SnapStacks", name := "greatestPulledBack", desc := "(II)I" } : MethodName) prog_1_method_35_code (3 : Nat) (Option.some ClassFile.FieldType.int)) ∈ lwg := mw 541 (by decide +kernel) rfl
theorem w_488 : (Cond.methodLink "SnapStacks" (271 : Nat) ({ cls := "java/lang/Math", name := "min", desc := "(II)I" } : MethodName)) ∈ lwg := mw 542 (by decide +kernel) rfl
theorem w_493 : (Cond.methodLink "SnapStacks" (211 : Nat) ({ cls := "SnapStacks$LoopFinder", name := "seek", desc := "(LSnapStacks$State;)V" } : MethodName)) ∈ lwg := mw 547 (by decide +kernel) rfl
theorem w_494 : (Cond.instanceMethod ({ cls := "SnapStacks$LoopFinder", name := "seek", desc := "(LSnapStacks$State;)V" } : MethodName)) ∈ lwg := mw 548 (by decide +kernel) rfl
theorem w_495 : (Cond.selects "SnapStacks$LoopFinder" ({ cls := "SnapStacks$LoopFinder", name := "seek", desc := "(LSnapStacks$State;)V" } : MethodName) ({ cls := "SnapStacks$LoopFinder", name := "seek", desc := "(LSnapStacks$State;)V" } : MethodName)) ∈ lwg := mw 549 (by decide +kernel) rfl
theorem w_496 : (Cond.code ({ cls := "SnapStacks$LoopFinder", name := "seek", desc := "(LSnapStacks$State;)V" } : MethodName) prog_3_method_2_code (4 : Nat) (Option.none : Option ClassFile.FieldType)) ∈ lwg := mw 550 (by decide +kernel) rfl
theorem w_497 : (Cond.methodLink "SnapStacks$LoopFinder" (29 : Nat) ({ cls := "SnapStacks$State", name := "copyFrom", desc := "(LSnapStacks$State;)V" } : MethodName)) ∈ lwg := mw 551 (by decide +kernel) rfl
theorem w_498 : (Cond.methodLink "SnapStacks$LoopFinder" (36 : Nat) ({ cls := "SnapStacks$State", name := "sumRates", desc := "()V" } : MethodName)) ∈ lwg := mw 552 (by decide +kernel) rfl
theorem w_499 : (Cond.methodLink "SnapStacks$LoopFinder" (39 : Nat) ({ cls := "java/util/Arrays", name := "fill", desc := "([II)V" } : MethodName)) ∈ lwg := mw 553 (by decide +kernel) rfl
theorem w_500 : (Cond.static ({ cls := "java/util/Arrays", name := "fill", desc := "([II)V" } : MethodName)) ∈ lwg := mw 554 (by decide +kernel) rfl
theorem w_501 : (Cond.code ({ cls := "java/util/Arrays", name := "fill", desc := "([II)V" } : MethodName) prog_13_method_103_code (4 : Nat) (Option.none : Option ClassFile.FieldType)) ∈ lwg := mw 555 (by decide +kernel) rfl
theorem w_502 : (Cond.methodLink "SnapStacks$LoopFinder" (49 : Nat) ({ cls := "SnapStacks$State", name := "loopKey", desc := "()J" } : MethodName)) ∈ lwg := mw 556 (by decide +kernel) rfl
theorem w_503 : (Cond.instanceMethod ({ cls := "SnapStacks$State", name := "loopKey", desc := "()J" } : MethodName)) ∈ lwg := mw 557 (by decide +kernel) rfl
theorem w_504 : (Cond.selects "SnapStacks$State" ({ cls := "SnapStacks$State", name := "loopKey", desc := "()J" } : MethodName) ({ cls := "SnapStacks$State", name := "loopKey", desc := "()J" } : MethodName)) ∈ lwg := mw 558 (by decide +kernel) rfl
theorem w_505 : (Cond.code ({ cls := "SnapStacks$State", name := "loopKey", desc := "()J" } : MethodName) prog_6_method_10_code (4 : Nat) (Option.some ClassFile.FieldType.long)) ∈ lwg := mw 559 (by decide +kernel) rfl
theorem w_506 : (Cond.methodLink "SnapStacks$LoopFinder" (53 : Nat) ({ cls := "SnapStacks$State", name := "snaps", desc := "()I" } : MethodName)) ∈ lwg := mw 560 (by decide +kernel) rfl
theorem w_507 : (Cond.methodLink "SnapStacks$LoopFinder" (57 : Nat) ({ cls := "SnapStacks$LoopFinder", name := "sameStepOrEnter", desc := "(I)I" } : MethodName)) ∈ lwg := mw 561 (by decide +kernel) rfl
theorem w_509 : (Cond.instanceMethod ({ cls := "SnapStacks$LoopFinder", name := "sameStepOrEnter", desc := "(I)I" } : MethodName)) ∈ lwg := mw 563 (by decide +kernel) rfl
theorem w_510 : (Cond.code ({ cls := "SnapStacks$LoopFinder", name := "sameStepOrEnter", desc := "(I)I" } : MethodName) prog_3_method_3_code (7 : Nat) (Option.some ClassFile.FieldType.int)) ∈ lwg := mw 564 (by decide +kernel) rfl
theorem w_511 : (Cond.constantLong "SnapStacks$LoopFinder" (73 : Nat) (-7046029254386353131 : Int64)) ∈ lwg := mw 565 (by decide +kernel) rfl
theorem w_512 : (Cond.methodLink "SnapStacks$LoopFinder" (70 : Nat) ({ cls := "SnapStacks$State", name := "passTick", desc := "()I" } : MethodName)) ∈ lwg := mw 566 (by decide +kernel) rfl
theorem w_517 : (Cond.methodLink "SnapStacks" (225 : Nat) ({ cls := "SnapStacks$StackFinder", name := "takeNumbers", desc := "([I)V" } : MethodName)) ∈ lwg := mw 571 (by decide +kernel) rfl
theorem w_518 : (Cond.instanceMethod ({ cls := "SnapStacks$StackFinder", name := "takeNumbers", desc := "([I)V" } : MethodName)) ∈ lwg := mw 572 (by decide +kernel) rfl
theorem w_519 : (Cond.selects "SnapStacks$StackFinder" ({ cls := "SnapStacks$StackFinder", name := "takeNumbers", desc := "([I)V" } : MethodName) ({ cls := "SnapStacks$StackFinder", name := "takeNumbers", desc := "([I)V" } : MethodName)) ∈ lwg := mw 573 (by decide +kernel) rfl
theorem w_520 : (Cond.code ({ cls := "SnapStacks$StackFinder", name := "takeNumbers", desc := "([I)V" } : MethodName) prog_5_method_2_code (4 : Nat) (Option.none : Option ClassFile.FieldType)) ∈ lwg := mw 574 (by decide +kernel) rfl
theorem w_521 : (Cond.methodLink "SnapStacks$StackFinder" (28 : Nat) ({ cls := "SnapStacks$StackFinder", name := "collectPairs", desc := "()V" } : MethodName)) ∈ lwg := mw 575 (by decide +kernel) rfl
theorem w_523 : (Cond.instanceMethod ({ cls := "SnapStacks$StackFinder", name := "collectPairs", desc := "()V" } : MethodName)) ∈ lwg := mw 577 (by decide +kernel) rfl
theorem w_524 : (Cond.code ({ cls := "SnapStacks$StackFinder", name := "collectPairs", desc := "()V" } : MethodName) prog_5_method_12_code (4 : Nat) (Option.none : Option ClassFile.FieldType)) ∈ lwg := mw 578 (by decide +kernel) rfl
theorem w_525 : (Cond.methodLink "SnapStacks$StackFinder" (49 : Nat) ({ cls := "SnapStacks$StackFinder", name := "difference", desc := "(I)I" } : MethodName)) ∈ lwg := mw 579 (by decide +kernel) rfl
theorem w_527 : (Cond.instanceMethod ({ cls := "SnapStacks$StackFinder", name := "difference", desc := "(I)I" } : MethodName)) ∈ lwg := mw 581 (by decide +kernel) rfl
theorem w_528 : (Cond.code ({ cls := "SnapStacks$StackFinder", name := "difference", desc := "(I)I" } : MethodName) prog_5_method_11_code (2 : Nat) (Option.some ClassFile.FieldType.int)) ∈ lwg := mw 582 (by decide +kernel) rfl
theorem w_529 : (Cond.methodLink "SnapStacks$StackFinder" (31 : Nat) ({ cls := "SnapStacks$StackFinder", name := "fillByOne", desc := "()V" } : MethodName)) ∈ lwg := mw 583 (by decide +kernel) rfl
theorem w_531 : (Cond.instanceMethod ({ cls := "SnapStacks$StackFinder", name := "fillByOne", desc := "()V" } : MethodName)) ∈ lwg := mw 585 (by decide +kernel) rfl
theorem w_532 : (Cond.code ({ cls := "SnapStacks$StackFinder", name := "fillByOne", desc := "()V" } : MethodName) prog_5_method_13_code (4 : Nat) (Option.none : Option ClassFile.FieldType)) ∈ lwg := mw 586 (by decide +kernel) rfl
theorem w_533 : (Cond.methodLink "SnapStacks$StackFinder" (73 : Nat) ({ cls := "java/util/Arrays", name := "fill", desc := "([II)V" } : MethodName)) ∈ lwg := mw 587 (by decide +kernel) rfl
theorem w_534 : (Cond.methodLink "SnapStacks$StackFinder" (70 : Nat) ({ cls := "java/lang/Math", name := "abs", desc := "(I)I" } : MethodName)) ∈ lwg := mw 588 (by decide +kernel) rfl
theorem w_535 : (Cond.static ({ cls := "java/lang/Math", name := "abs", desc := "(I)I" } : MethodName)) ∈ lwg := mw 589 (by decide +kernel) rfl
theorem w_536 : (Cond.code ({ cls := "java/lang/Math", name := "abs", desc := "(I)I" } : MethodName) prog_11_method_59_code (1 : Nat) (Option.some ClassFile.FieldType.int)) ∈ lwg := mw 590 (by decide +kernel) rfl
theorem w_537 : (Cond.methodLink "SnapStacks$StackFinder" (34 : Nat) ({ cls := "SnapStacks$StackFinder", name := "fillByTwo", desc := "()V" } : MethodName)) ∈ lwg := mw 591 (by decide +kernel) rfl
theorem w_539 : (Cond.instanceMethod ({ cls := "SnapStacks$StackFinder", name := "fillByTwo", desc := "()V" } : MethodName)) ∈ lwg := mw 593 (by decide +kernel) rfl
theorem w_540 : (Cond.code ({ cls := "SnapStacks$StackFinder", name := "fillByTwo", desc := "()V" } : MethodName) prog_5_method_14_code (2 : Nat) (Option.none : Option ClassFile.FieldType)) ∈ lwg := mw 594 (by decide +kernel) rfl
theorem w_541 : (Cond.methodLink "SnapStacks$StackFinder" (79 : Nat) ({ cls := "SnapStacks$StackFinder", name := "addToByTwo", desc := "(II)V" } : MethodName)) ∈ lwg := mw 595 (by decide +kernel) rfl
theorem w_543 : (Cond.instanceMethod ({ cls := "SnapStacks$StackFinder", name := "addToByTwo", desc := "(II)V" } : MethodName)) ∈ lwg := mw 597 (by decide +kernel) rfl
theorem w_544 : (Cond.code ({ cls := "SnapStacks$StackFinder", name := "addToByTwo", desc := "(II)V" } : MethodName) prog_5_method_15_code (6 : Nat) (Option.none : Option ClassFile.FieldType)) ∈ lwg := mw 598 (by decide +kernel) rfl
theorem w_545 : (Cond.methodLink "SnapStacks" (229 : Nat) ({ cls := "SnapStacks$StackFinder", name := "fewestParts", desc := "(I)I" } : MethodName)) ∈ lwg := mw 599 (by decide +kernel) rfl
theorem w_546 : (Cond.instanceMethod ({ cls := "SnapStacks$StackFinder", name := "fewestParts", desc := "(I)I" } : MethodName)) ∈ lwg := mw 600 (by decide +kernel) rfl
theorem w_547 : (Cond.selects "SnapStacks$StackFinder" ({ cls := "SnapStacks$StackFinder", name := "fewestParts", desc := "(I)I" } : MethodName) ({ cls := "SnapStacks$StackFinder", name := "fewestParts", desc := "(I)I" } : MethodName)) ∈ lwg := mw 601 (by decide +kernel) rfl
theorem w_548 : (Cond.code ({ cls := "SnapStacks$StackFinder", name := "fewestParts", desc := "(I)I" } : MethodName) prog_5_method_3_code (3 : Nat) (Option.some ClassFile.FieldType.int)) ∈ lwg := mw 602 (by decide +kernel) rfl
theorem w_549 : (Cond.methodLink "SnapStacks$StackFinder" (37 : Nat) ({ cls := "SnapStacks$StackFinder", name := "lengthsFor", desc := "(II)I" } : MethodName)) ∈ lwg := mw 603 (by decide +kernel) rfl
theorem w_551 : (Cond.instanceMethod ({ cls := "SnapStacks$StackFinder", name := "lengthsFor", desc := "(II)I" } : MethodName)) ∈ lwg := mw 605 (by decide +kernel) rfl
theorem w_552 : (Cond.code ({ cls := "SnapStacks$StackFinder", name := "lengthsFor", desc := "(II)I" } : MethodName) prog_5_method_6_code (3 : Nat) (Option.some ClassFile.FieldType.int)) ∈ lwg := mw 606 (by decide +kernel) rfl
theorem w_553 : (Cond.methodLink "SnapStacks$StackFinder" (61 : Nat) ({ cls := "SnapStacks$StackFinder", name := "lengthsByOne", desc := "(I)I" } : MethodName)) ∈ lwg := mw 607 (by decide +kernel) rfl
theorem w_555 : (Cond.instanceMethod ({ cls := "SnapStacks$StackFinder", name := "lengthsByOne", desc := "(I)I" } : MethodName)) ∈ lwg := mw 609 (by decide +kernel) rfl
theorem w_556 : (Cond.code ({ cls := "SnapStacks$StackFinder", name := "lengthsByOne", desc := "(I)I" } : MethodName) prog_5_method_7_code (3 : Nat) (Option.some ClassFile.FieldType.int)) ∈ lwg := mw 610 (by decide +kernel) rfl
theorem w_557 : (Cond.methodLink "SnapStacks$StackFinder" (64 : Nat) ({ cls := "SnapStacks$StackFinder", name := "lengthsByTwo", desc := "(I)I" } : MethodName)) ∈ lwg := mw 611 (by decide +kernel) rfl
theorem w_559 : (Cond.instanceMethod ({ cls := "SnapStacks$StackFinder", name := "lengthsByTwo", desc := "(I)I" } : MethodName)) ∈ lwg := mw 613 (by decide +kernel) rfl
theorem w_560 : (Cond.code ({ cls := "SnapStacks$StackFinder", name := "lengthsByTwo", desc := "(I)I" } : MethodName) prog_5_method_8_code (3 : Nat) (Option.some ClassFile.FieldType.int)) ∈ lwg := mw 614 (by decide +kernel) rfl
theorem w_561 : (Cond.methodLink "SnapStacks$StackFinder" (67 : Nat) ({ cls := "SnapStacks$StackFinder", name := "lengthsByThree", desc := "(I)I" } : MethodName)) ∈ lwg := mw 615 (by decide +kernel) rfl
theorem w_563 : (Cond.instanceMethod ({ cls := "SnapStacks$StackFinder", name := "lengthsByThree", desc := "(I)I" } : MethodName)) ∈ lwg := mw 617 (by decide +kernel) rfl
theorem w_564 : (Cond.code ({ cls := "SnapStacks$StackFinder", name := "lengthsByThree", desc := "(I)I" } : MethodName) prog_5_method_9_code (5 : Nat) (Option.some ClassFile.FieldType.int)) ∈ lwg := mw 618 (by decide +kernel) rfl
theorem w_565 : (Cond.methodLink "SnapStacks" (232 : Nat) ({ cls := "SnapStacks$StackFinder", name := "partOfLeastRow", desc := "(IIII)I" } : MethodName)) ∈ lwg := mw 619 (by decide +kernel) rfl
theorem w_566 : (Cond.instanceMethod ({ cls := "SnapStacks$StackFinder", name := "partOfLeastRow", desc := "(IIII)I" } : MethodName)) ∈ lwg := mw 620 (by decide +kernel) rfl
theorem w_567 : (Cond.selects "SnapStacks$StackFinder" ({ cls := "SnapStacks$StackFinder", name := "partOfLeastRow", desc := "(IIII)I" } : MethodName) ({ cls := "SnapStacks$StackFinder", name := "partOfLeastRow", desc := "(IIII)I" } : MethodName)) ∈ lwg := mw 621 (by decide +kernel) rfl
theorem w_568 : (Cond.code ({ cls := "SnapStacks$StackFinder", name := "partOfLeastRow", desc := "(IIII)I" } : MethodName) prog_5_method_4_code (9 : Nat) (Option.some ClassFile.FieldType.int)) ∈ lwg := mw 622 (by decide +kernel) rfl
theorem w_569 : (Cond.methodLink "SnapStacks$StackFinder" (41 : Nat) ({ cls := "SnapStacks$StackFinder", name := "leastLength", desc := "(I)I" } : MethodName)) ∈ lwg := mw 623 (by decide +kernel) rfl
theorem w_570 : (Cond.static ({ cls := "SnapStacks$StackFinder", name := "leastLength", desc := "(I)I" } : MethodName)) ∈ lwg := mw 624 (by decide +kernel) rfl
theorem w_571 : (Cond.code ({ cls := "SnapStacks$StackFinder", name := "leastLength", desc := "(I)I" } : MethodName) prog_5_method_10_code (2 : Nat) (Option.some ClassFile.FieldType.int)) ∈ lwg := mw 625 (by decide +kernel) rfl
theorem w_572 : (Cond.methodLink "SnapStacks$StackFinder" (45 : Nat) ({ cls := "SnapStacks$StackFinder", name := "leastFirstPart", desc := "(III)I" } : MethodName)) ∈ lwg := mw 626 (by decide +kernel) rfl
theorem w_574 : (Cond.instanceMethod ({ cls := "SnapStacks$StackFinder", name := "leastFirstPart", desc := "(III)I" } : MethodName)) ∈ lwg := mw 628 (by decide +kernel) rfl
theorem w_575 : (Cond.code ({ cls := "SnapStacks$StackFinder", name := "leastFirstPart", desc := "(III)I" } : MethodName) prog_5_method_5_code (9 : Nat) (Option.some ClassFile.FieldType.int)) ∈ lwg := mw 629 (by decide +kernel) rfl
theorem w_576 : (Cond.methodLink "SnapStacks$StackFinder" (52 : Nat) ({ cls := "java/lang/Math", name := "min", desc := "(II)I" } : MethodName)) ∈ lwg := mw 630 (by decide +kernel) rfl
theorem w_581 : (Cond.methodLink "SnapStacks" (236 : Nat) ({ cls := "SnapStacks$History", name := "giveBack", desc := "(LSnapStacks$State;)V" } : MethodName)) ∈ lwg := mw 635 (by decide +kernel) rfl
theorem w_582 : (Cond.instanceMethod ({ cls := "SnapStacks$History", name := "giveBack", desc := "(LSnapStacks$State;)V" } : MethodName)) ∈ lwg := mw 636 (by decide +kernel) rfl
theorem w_583 : (Cond.selects "SnapStacks$History" ({ cls := "SnapStacks$History", name := "giveBack", desc := "(LSnapStacks$State;)V" } : MethodName) ({ cls := "SnapStacks$History", name := "giveBack", desc := "(LSnapStacks$State;)V" } : MethodName)) ∈ lwg := mw 637 (by decide +kernel) rfl
theorem w_584 : (Cond.code ({ cls := "SnapStacks$History", name := "giveBack", desc := "(LSnapStacks$State;)V" } : MethodName) prog_2_method_3_code (2 : Nat) (Option.none : Option ClassFile.FieldType)) ∈ lwg := mw 638 (by decide +kernel) rfl
theorem w_589 : (Cond.methodLink "SnapStacks" (239 : Nat) ({ cls := "SnapStacks$Text", name := "append", desc := "(C)V" } : MethodName)) ∈ lwg := mw 643 (by decide +kernel) rfl
theorem w_590 : (Cond.instanceMethod ({ cls := "SnapStacks$Text", name := "append", desc := "(C)V" } : MethodName)) ∈ lwg := mw 644 (by decide +kernel) rfl
theorem w_591 : (Cond.selects "SnapStacks$Text" ({ cls := "SnapStacks$Text", name := "append", desc := "(C)V" } : MethodName) ({ cls := "SnapStacks$Text", name := "append", desc := "(C)V" } : MethodName)) ∈ lwg := mw 645 (by decide +kernel) rfl
theorem w_592 : (Cond.code ({ cls := "SnapStacks$Text", name := "append", desc := "(C)V" } : MethodName) prog_8_method_2_code (2 : Nat) (Option.none : Option ClassFile.FieldType)) ∈ lwg := mw 646 (by decide +kernel) rfl
theorem w_601 : (Cond.methodLink "SnapStacks" (243 : Nat) ({ cls := "SnapStacks$Text", name := "faultyPlace", desc := "()I" } : MethodName)) ∈ lwg := mw 655 (by decide +kernel) rfl
theorem w_602 : (Cond.instanceMethod ({ cls := "SnapStacks$Text", name := "faultyPlace", desc := "()I" } : MethodName)) ∈ lwg := mw 656 (by decide +kernel) rfl
theorem w_603 : (Cond.selects "SnapStacks$Text" ({ cls := "SnapStacks$Text", name := "faultyPlace", desc := "()I" } : MethodName) ({ cls := "SnapStacks$Text", name := "faultyPlace", desc := "()I" } : MethodName)) ∈ lwg := mw 657 (by decide +kernel) rfl
theorem w_604 : (Cond.code ({ cls := "SnapStacks$Text", name := "faultyPlace", desc := "()I" } : MethodName) prog_8_method_3_code (3 : Nat) (Option.some ClassFile.FieldType.int)) ∈ lwg := mw 658 (by decide +kernel) rfl
theorem w_605 : (Cond.methodLink "SnapStacks$Text" (19 : Nat) ({ cls := "java/lang/Math", name := "min", desc := "(II)I" } : MethodName)) ∈ lwg := mw 659 (by decide +kernel) rfl
theorem w_606 : (Cond.methodLink "SnapStacks$Text" (25 : Nat) ({ cls := "SnapStacks$Text", name := "canStandAt", desc := "(I)Z" } : MethodName)) ∈ lwg := mw 660 (by decide +kernel) rfl
theorem w_608 : (Cond.instanceMethod ({ cls := "SnapStacks$Text", name := "canStandAt", desc := "(I)Z" } : MethodName)) ∈ lwg := mw 662 (by decide +kernel) rfl
theorem w_609 : (Cond.code ({ cls := "SnapStacks$Text", name := "canStandAt", desc := "(I)Z" } : MethodName) prog_8_method_5_code (3 : Nat) (Option.some ClassFile.FieldType.boolean)) ∈ lwg := mw 663 (by decide +kernel) rfl
theorem w_611 : (Cond.methodLink "SnapStacks" (246 : Nat) ({ cls := "SnapStacks$Text", name := "reasonAt", desc := "(I)I" } : MethodName)) ∈ lwg := mw 665 (by decide +kernel) rfl
theorem w_612 : (Cond.instanceMethod ({ cls := "SnapStacks$Text", name := "reasonAt", desc := "(I)I" } : MethodName)) ∈ lwg := mw 666 (by decide +kernel) rfl
theorem w_613 : (Cond.selects "SnapStacks$Text" ({ cls := "SnapStacks$Text", name := "reasonAt", desc := "(I)I" } : MethodName) ({ cls := "SnapStacks$Text", name := "reasonAt", desc := "(I)I" } : MethodName)) ∈ lwg := mw 667 (by decide +kernel) rfl
theorem w_614 : (Cond.code ({ cls := "SnapStacks$Text", name := "reasonAt", desc := "(I)I" } : MethodName) prog_8_method_4_code (2 : Nat) (Option.some ClassFile.FieldType.int)) ∈ lwg := mw 668 (by decide +kernel) rfl
theorem w_619 : (Cond.methodLink "SnapStacks" (249 : Nat) ({ cls := "SnapStacks$Text", name := "parts", desc := "()I" } : MethodName)) ∈ lwg := mw 673 (by decide +kernel) rfl
theorem w_620 : (Cond.instanceMethod ({ cls := "SnapStacks$Text", name := "parts", desc := "()I" } : MethodName)) ∈ lwg := mw 674 (by decide +kernel) rfl
theorem w_621 : (Cond.selects "SnapStacks$Text" ({ cls := "SnapStacks$Text", name := "parts", desc := "()I" } : MethodName) ({ cls := "SnapStacks$Text", name := "parts", desc := "()I" } : MethodName)) ∈ lwg := mw 675 (by decide +kernel) rfl
theorem w_622 : (Cond.code ({ cls := "SnapStacks$Text", name := "parts", desc := "()I" } : MethodName) prog_8_method_6_code (1 : Nat) (Option.some ClassFile.FieldType.int)) ∈ lwg := mw 676 (by decide +kernel) rfl
theorem w_623 : (Cond.methodLink "SnapStacks" (251 : Nat) ({ cls := "SnapStacks$Text", name := "lengthOfPart", desc := "(I)I" } : MethodName)) ∈ lwg := mw 677 (by decide +kernel) rfl
theorem w_624 : (Cond.instanceMethod ({ cls := "SnapStacks$Text", name := "lengthOfPart", desc := "(I)I" } : MethodName)) ∈ lwg := mw 678 (by decide +kernel) rfl
theorem w_625 : (Cond.selects "SnapStacks$Text" ({ cls := "SnapStacks$Text", name := "lengthOfPart", desc := "(I)I" } : MethodName) ({ cls := "SnapStacks$Text", name := "lengthOfPart", desc := "(I)I" } : MethodName)) ∈ lwg := mw 679 (by decide +kernel) rfl
theorem w_626 : (Cond.code ({ cls := "SnapStacks$Text", name := "lengthOfPart", desc := "(I)I" } : MethodName) prog_8_method_7_code (2 : Nat) (Option.some ClassFile.FieldType.int)) ∈ lwg := mw 680 (by decide +kernel) rfl
theorem w_627 : (Cond.methodLink "SnapStacks" (254 : Nat) ({ cls := "SnapStacks$Text", name := "upperOfPart", desc := "(I)I" } : MethodName)) ∈ lwg := mw 681 (by decide +kernel) rfl
theorem w_628 : (Cond.instanceMethod ({ cls := "SnapStacks$Text", name := "upperOfPart", desc := "(I)I" } : MethodName)) ∈ lwg := mw 682 (by decide +kernel) rfl
theorem w_629 : (Cond.selects "SnapStacks$Text" ({ cls := "SnapStacks$Text", name := "upperOfPart", desc := "(I)I" } : MethodName) ({ cls := "SnapStacks$Text", name := "upperOfPart", desc := "(I)I" } : MethodName)) ∈ lwg := mw 683 (by decide +kernel) rfl
theorem w_630 : (Cond.code ({ cls := "SnapStacks$Text", name := "upperOfPart", desc := "(I)I" } : MethodName) prog_8_method_8_code (2 : Nat) (Option.some ClassFile.FieldType.int)) ∈ lwg := mw 684 (by decide +kernel) rfl
theorem w_631 : (Cond.methodLink "SnapStacks" (257 : Nat) ({ cls := "SnapStacks$Text", name := "lowerOfPart", desc := "(I)I" } : MethodName)) ∈ lwg := mw 685 (by decide +kernel) rfl
theorem w_632 : (Cond.instanceMethod ({ cls := "SnapStacks$Text", name := "lowerOfPart", desc := "(I)I" } : MethodName)) ∈ lwg := mw 686 (by decide +kernel) rfl
theorem w_633 : (Cond.selects "SnapStacks$Text" ({ cls := "SnapStacks$Text", name := "lowerOfPart", desc := "(I)I" } : MethodName) ({ cls := "SnapStacks$Text", name := "lowerOfPart", desc := "(I)I" } : MethodName)) ∈ lwg := mw 687 (by decide +kernel) rfl
theorem w_634 : (Cond.code ({ cls := "SnapStacks$Text", name := "lowerOfPart", desc := "(I)I" } : MethodName) prog_8_method_9_code (2 : Nat) (Option.some ClassFile.FieldType.int)) ∈ lwg := mw 688 (by decide +kernel) rfl
theorem w_640 : (Cond.methodLink "SnapStacksModel" (1 : Nat) ({ cls := "java/lang/Object", name := "<init>", desc := "()V" } : MethodName)) ∈ lwg := mw 694 (by decide +kernel) rfl
theorem w_641 : (Cond.methodLink "SnapStacksModel" (42 : Nat) ({ cls := "SnapStacksModel", name := "stripAt", desc := "(I)I" } : MethodName)) ∈ lwg := mw 695 (by decide +kernel) rfl
theorem w_642 : (Cond.static ({ cls := "SnapStacksModel", name := "stripAt", desc := "(I)I" } : MethodName)) ∈ lwg := mw 696 (by decide +kernel) rfl
theorem w_643 : (Cond.code ({ cls := "SnapStacksModel", name := "stripAt", desc := "(I)I" } : MethodName) prog_10_method_5_code (1 : Nat) (Option.some ClassFile.FieldType.int)) ∈ lwg := mw 697 (by decide +kernel) rfl
theorem w_644 : (Cond.methodLink "SnapStacksModel" (46 : Nat) ({ cls := "SnapStacksModel", name := "roomAt", desc := "(I)I" } : MethodName)) ∈ lwg := mw 698 (by decide +kernel) rfl
theorem w_645 : (Cond.static ({ cls := "SnapStacksModel", name := "roomAt", desc := "(I)I" } : MethodName)) ∈ lwg := mw 699 (by decide +kernel) rfl
theorem w_646 : (Cond.code ({ cls := "SnapStacksModel", name := "roomAt", desc := "(I)I" } : MethodName) prog_10_method_6_code (1 : Nat) (Option.some ClassFile.FieldType.int)) ∈ lwg := mw 700 (by decide +kernel) rfl
theorem w_647 : (Cond.fieldLink "SnapStacksModel" (7 : Nat) "SnapStacksModel" "s" "[I") ∈ lwg := mw 701 (by decide +kernel) rfl
theorem w_648 : (Cond.fieldLink "SnapStacksModel" (13 : Nat) "SnapStacksModel" "begun" "[I") ∈ lwg := mw 702 (by decide +kernel) rfl
theorem w_649 : (Cond.fieldLink "SnapStacksModel" (16 : Nat) "SnapStacksModel" "past" "[I") ∈ lwg := mw 703 (by decide +kernel) rfl
theorem w_650 : (Cond.fieldLink "SnapStacksModel" (57 : Nat) "SnapStacksModel" "states" "I") ∈ lwg := mw 704 (by decide +kernel) rfl
theorem w_651 : (Cond.fieldLink "SnapStacksModel" (19 : Nat) "SnapStacksModel" "text" "[I") ∈ lwg := mw 705 (by decide +kernel) rfl
theorem w_652 : (Cond.fieldLink "SnapStacksModel" (151 : Nat) "SnapStacksModel" "length" "I") ∈ lwg := mw 706 (by decide +kernel) rfl
theorem w_653 : (Cond.fieldLink "SnapStacksModel" (22 : Nat) "SnapStacksModel" "bends" "[I") ∈ lwg := mw 707 (by decide +kernel) rfl
theorem w_654 : (Cond.fieldLink "SnapStacksModel" (25 : Nat) "SnapStacksModel" "kept" "[J") ∈ lwg := mw 708 (by decide +kernel) rfl
theorem w_655 : (Cond.fieldLink "SnapStacksModel" (29 : Nat) "SnapStacksModel" "keptSnaps" "[I") ∈ lwg := mw 709 (by decide +kernel) rfl
theorem w_656 : (Cond.fieldLink "SnapStacksModel" (32 : Nat) "SnapStacksModel" "isWay" "[Z") ∈ lwg := mw 710 (by decide +kernel) rfl
theorem w_657 : (Cond.fieldLink "SnapStacksModel" (36 : Nat) "SnapStacksModel" "isPair" "[Z") ∈ lwg := mw 711 (by decide +kernel) rfl
theorem w_658 : (Cond.fieldLink "SnapStacksModel" (39 : Nat) "SnapStacksModel" "found" "[I") ∈ lwg := mw 712 (by decide +kernel) rfl
theorem w_659 : (Cond.fieldLink "SnapStacksModel" (183 : Nat) "SnapStacksModel" "foundMany" "I") ∈ lwg := mw 713 (by decide +kernel) rfl
theorem w_660 : (Cond.fieldLink "SnapStacksModel" (205 : Nat) "SnapStacksModel" "at" "I") ∈ lwg := mw 714 (by decide +kernel) rfl
theorem w_661 : (Cond.fieldLink "SnapStacksModel" (211 : Nat) "SnapStacksModel" "reason" "I") ∈ lwg := mw 715 (by decide +kernel) rfl
theorem w_693 : (Cond.arrayClass ClassFile.FieldType.boolean) ∈ lwg := mw 747 (by decide +kernel) rfl
theorem w_698 : (Cond.methodLink "SnapStacksModel" (109 : Nat) ({ cls := "SnapStacksModel", name := "begins", desc := "()V" } : MethodName)) ∈ lwg := mw 752 (by decide +kernel) rfl
theorem w_700 : (Cond.instanceMethod ({ cls := "SnapStacksModel", name := "begins", desc := "()V" } : MethodName)) ∈ lwg := mw 754 (by decide +kernel) rfl
theorem w_701 : (Cond.code ({ cls := "SnapStacksModel", name := "begins", desc := "()V" } : MethodName) prog_10_method_7_code (2 : Nat) (Option.none : Option ClassFile.FieldType)) ∈ lwg := mw 755 (by decide +kernel) rfl
theorem w_702 : (Cond.methodLink "SnapStacksModel" (49 : Nat) ({ cls := "SnapStacksModel", name := "in", desc := "(III)Z" } : MethodName)) ∈ lwg := mw 756 (by decide +kernel) rfl
theorem w_703 : (Cond.static ({ cls := "SnapStacksModel", name := "in", desc := "(III)Z" } : MethodName)) ∈ lwg := mw 757 (by decide +kernel) rfl
theorem w_704 : (Cond.code ({ cls := "SnapStacksModel", name := "in", desc := "(III)Z" } : MethodName) prog_10_method_3_code (3 : Nat) (Option.some ClassFile.FieldType.boolean)) ∈ lwg := mw 758 (by decide +kernel) rfl
theorem w_705 : (Cond.methodLink "SnapStacksModel" (112 : Nat) ({ cls := "SnapStacksModel", name := "puts", desc := "(II)I" } : MethodName)) ∈ lwg := mw 759 (by decide +kernel) rfl
theorem w_707 : (Cond.instanceMethod ({ cls := "SnapStacksModel", name := "puts", desc := "(II)I" } : MethodName)) ∈ lwg := mw 761 (by decide +kernel) rfl
theorem w_708 : (Cond.code ({ cls := "SnapStacksModel", name := "puts", desc := "(II)I" } : MethodName) prog_10_method_10_code (4 : Nat) (Option.some ClassFile.FieldType.int)) ∈ lwg := mw 762 (by decide +kernel) rfl
theorem w_709 : (Cond.constant "SnapStacksModel" (53 : Nat) (-10000001 : Int32)) ∈ lwg := mw 763 (by decide +kernel) rfl
theorem w_710 : (Cond.methodLink "SnapStacksModel" (115 : Nat) ({ cls := "SnapStacksModel", name := "acted", desc := "(I)I" } : MethodName)) ∈ lwg := mw 764 (by decide +kernel) rfl
theorem w_712 : (Cond.instanceMethod ({ cls := "SnapStacksModel", name := "acted", desc := "(I)I" } : MethodName)) ∈ lwg := mw 766 (by decide +kernel) rfl
theorem w_713 : (Cond.code ({ cls := "SnapStacksModel", name := "acted", desc := "(I)I" } : MethodName) prog_10_method_9_code (3 : Nat) (Option.some ClassFile.FieldType.int)) ∈ lwg := mw 767 (by decide +kernel) rfl
theorem w_714 : (Cond.methodLink "SnapStacksModel" (54 : Nat) ({ cls := "SnapStacksModel", name := "returns", desc := "()V" } : MethodName)) ∈ lwg := mw 768 (by decide +kernel) rfl
theorem w_716 : (Cond.instanceMethod ({ cls := "SnapStacksModel", name := "returns", desc := "()V" } : MethodName)) ∈ lwg := mw 770 (by decide +kernel) rfl
theorem w_717 : (Cond.code ({ cls := "SnapStacksModel", name := "returns", desc := "()V" } : MethodName) prog_10_method_8_code (2 : Nat) (Option.none : Option ClassFile.FieldType)) ∈ lwg := mw 771 (by decide +kernel) rfl
theorem w_722 : (Cond.methodLink "SnapStacksModel" (118 : Nat) ({ cls := "SnapStacksModel", name := "isOne", desc := "(I)Z" } : MethodName)) ∈ lwg := mw 776 (by decide +kernel) rfl
theorem w_723 : (Cond.static ({ cls := "SnapStacksModel", name := "isOne", desc := "(I)Z" } : MethodName)) ∈ lwg := mw 777 (by decide +kernel) rfl
theorem w_724 : (Cond.code ({ cls := "SnapStacksModel", name := "isOne", desc := "(I)Z" } : MethodName) prog_10_method_4_code (1 : Nat) (Option.some ClassFile.FieldType.boolean)) ∈ lwg := mw 778 (by decide +kernel) rfl
theorem w_725 : (Cond.methodLink "SnapStacksModel" (121 : Nat) ({ cls := "SnapStacksModel", name := "isMetal", desc := "(I)Z" } : MethodName)) ∈ lwg := mw 779 (by decide +kernel) rfl
theorem w_726 : (Cond.static ({ cls := "SnapStacksModel", name := "isMetal", desc := "(I)Z" } : MethodName)) ∈ lwg := mw 780 (by decide +kernel) rfl
theorem w_727 : (Cond.code ({ cls := "SnapStacksModel", name := "isMetal", desc := "(I)Z" } : MethodName) prog_10_method_30_code (1 : Nat) (Option.some ClassFile.FieldType.boolean)) ∈ lwg := mw 781 (by decide +kernel) rfl
theorem w_728 : (Cond.methodLink "SnapStacksModel" (124 : Nat) ({ cls := "SnapStacksModel", name := "adds", desc := "(IIII)I" } : MethodName)) ∈ lwg := mw 782 (by decide +kernel) rfl
theorem w_730 : (Cond.instanceMethod ({ cls := "SnapStacksModel", name := "adds", desc := "(IIII)I" } : MethodName)) ∈ lwg := mw 784 (by decide +kernel) rfl
theorem w_731 : (Cond.code ({ cls := "SnapStacksModel", name := "adds", desc := "(IIII)I" } : MethodName) prog_10_method_19_code (6 : Nat) (Option.some ClassFile.FieldType.int)) ∈ lwg := mw 785 (by decide +kernel) rfl
theorem w_732 : (Cond.methodLink "SnapStacksModel" (65 : Nat) ({ cls := "SnapStacksModel", name := "many", desc := "(I)I" } : MethodName)) ∈ lwg := mw 786 (by decide +kernel) rfl
theorem w_734 : (Cond.instanceMethod ({ cls := "SnapStacksModel", name := "many", desc := "(I)I" } : MethodName)) ∈ lwg := mw 788 (by decide +kernel) rfl
theorem w_735 : (Cond.code ({ cls := "SnapStacksModel", name := "many", desc := "(I)I" } : MethodName) prog_10_method_11_code (2 : Nat) (Option.some ClassFile.FieldType.int)) ∈ lwg := mw 789 (by decide +kernel) rfl
theorem w_736 : (Cond.constant "SnapStacksModel" (79 : Nat) (-10000003 : Int32)) ∈ lwg := mw 790 (by decide +kernel) rfl
theorem w_741 : (Cond.methodLink "SnapStacksModel" (128 : Nat) ({ cls := "SnapStacksModel", name := "shortens", desc := "(II)I" } : MethodName)) ∈ lwg := mw 795 (by decide +kernel) rfl
theorem w_743 : (Cond.instanceMethod ({ cls := "SnapStacksModel", name := "shortens", desc := "(II)I" } : MethodName)) ∈ lwg := mw 797 (by decide +kernel) rfl
theorem w_744 : (Cond.code ({ cls := "SnapStacksModel", name := "shortens", desc := "(II)I" } : MethodName) prog_10_method_20_code (5 : Nat) (Option.some ClassFile.FieldType.int)) ∈ lwg := mw 798 (by decide +kernel) rfl
theorem w_745 : (Cond.constant "SnapStacksModel" (80 : Nat) (-10000002 : Int32)) ∈ lwg := mw 799 (by decide +kernel) rfl
theorem w_750 : (Cond.constant "SnapStacksModel" (134 : Nat) (-90000 : Int32)) ∈ lwg := mw 804 (by decide +kernel) rfl
theorem w_751 : (Cond.constant "SnapStacksModel" (135 : Nat) (89999 : Int32)) ∈ lwg := mw 805 (by decide +kernel) rfl
theorem w_752 : (Cond.constant "SnapStacksModel" (136 : Nat) (-89999 : Int32)) ∈ lwg := mw 806 (by decide +kernel) rfl
theorem w_753 : (Cond.constant "SnapStacksModel" (137 : Nat) (90000 : Int32)) ∈ lwg := mw 807 (by decide +kernel) rfl
theorem w_754 : (Cond.methodLink "SnapStacksModel" (138 : Nat) ({ cls := "SnapStacksModel", name := "bounded", desc := "(IIII)I" } : MethodName)) ∈ lwg := mw 808 (by decide +kernel) rfl
theorem w_756 : (Cond.instanceMethod ({ cls := "SnapStacksModel", name := "bounded", desc := "(IIII)I" } : MethodName)) ∈ lwg := mw 810 (by decide +kernel) rfl
theorem w_757 : (Cond.code ({ cls := "SnapStacksModel", name := "bounded", desc := "(IIII)I" } : MethodName) prog_10_method_33_code (5 : Nat) (Option.some ClassFile.FieldType.int)) ∈ lwg := mw 811 (by decide +kernel) rfl
theorem w_758 : (Cond.methodLink "SnapStacksModel" (131 : Nat) ({ cls := "SnapStacksModel", name := "bendAt", desc := "(II)I" } : MethodName)) ∈ lwg := mw 812 (by decide +kernel) rfl
theorem w_760 : (Cond.instanceMethod ({ cls := "SnapStacksModel", name := "bendAt", desc := "(II)I" } : MethodName)) ∈ lwg := mw 814 (by decide +kernel) rfl
theorem w_761 : (Cond.code ({ cls := "SnapStacksModel", name := "bendAt", desc := "(II)I" } : MethodName) prog_10_method_16_code (3 : Nat) (Option.some ClassFile.FieldType.int)) ∈ lwg := mw 815 (by decide +kernel) rfl
theorem w_762 : (Cond.methodLink "SnapStacksModel" (72 : Nat) ({ cls := "SnapStacksModel", name := "bendOfStrip", desc := "(I)I" } : MethodName)) ∈ lwg := mw 816 (by decide +kernel) rfl
theorem w_764 : (Cond.instanceMethod ({ cls := "SnapStacksModel", name := "bendOfStrip", desc := "(I)I" } : MethodName)) ∈ lwg := mw 818 (by decide +kernel) rfl
theorem w_765 : (Cond.code ({ cls := "SnapStacksModel", name := "bendOfStrip", desc := "(I)I" } : MethodName) prog_10_method_14_code (4 : Nat) (Option.some ClassFile.FieldType.int)) ∈ lwg := mw 819 (by decide +kernel) rfl
theorem w_766 : (Cond.methodLink "SnapStacksModel" (68 : Nat) ({ cls := "SnapStacksModel", name := "bendOfPart", desc := "(II)I" } : MethodName)) ∈ lwg := mw 820 (by decide +kernel) rfl
theorem w_768 : (Cond.instanceMethod ({ cls := "SnapStacksModel", name := "bendOfPart", desc := "(II)I" } : MethodName)) ∈ lwg := mw 822 (by decide +kernel) rfl
theorem w_769 : (Cond.code ({ cls := "SnapStacksModel", name := "bendOfPart", desc := "(II)I" } : MethodName) prog_10_method_13_code (3 : Nat) (Option.some ClassFile.FieldType.int)) ∈ lwg := mw 823 (by decide +kernel) rfl
theorem w_770 : (Cond.methodLink "SnapStacksModel" (61 : Nat) ({ cls := "SnapStacksModel", name := "partOfStrip", desc := "(III)I" } : MethodName)) ∈ lwg := mw 824 (by decide +kernel) rfl
theorem w_772 : (Cond.instanceMethod ({ cls := "SnapStacksModel", name := "partOfStrip", desc := "(III)I" } : MethodName)) ∈ lwg := mw 826 (by decide +kernel) rfl
theorem w_773 : (Cond.code ({ cls := "SnapStacksModel", name := "partOfStrip", desc := "(III)I" } : MethodName) prog_10_method_12_code (4 : Nat) (Option.some ClassFile.FieldType.int)) ∈ lwg := mw 827 (by decide +kernel) rfl
theorem w_778 : (Cond.methodLink "SnapStacksModel" (89 : Nat) ({ cls := "SnapStacksModel", name := "isClosed", desc := "(I)Z" } : MethodName)) ∈ lwg := mw 832 (by decide +kernel) rfl
theorem w_780 : (Cond.instanceMethod ({ cls := "SnapStacksModel", name := "isClosed", desc := "(I)Z" } : MethodName)) ∈ lwg := mw 834 (by decide +kernel) rfl
theorem w_781 : (Cond.code ({ cls := "SnapStacksModel", name := "isClosed", desc := "(I)Z" } : MethodName) prog_10_method_18_code (2 : Nat) (Option.some ClassFile.FieldType.boolean)) ∈ lwg := mw 835 (by decide +kernel) rfl
theorem w_782 : (Cond.methodLink "SnapStacksModel" (75 : Nat) ({ cls := "SnapStacksModel", name := "isSnapped", desc := "(I)Z" } : MethodName)) ∈ lwg := mw 836 (by decide +kernel) rfl
theorem w_784 : (Cond.instanceMethod ({ cls := "SnapStacksModel", name := "isSnapped", desc := "(I)Z" } : MethodName)) ∈ lwg := mw 838 (by decide +kernel) rfl
theorem w_785 : (Cond.code ({ cls := "SnapStacksModel", name := "isSnapped", desc := "(I)Z" } : MethodName) prog_10_method_17_code (2 : Nat) (Option.some ClassFile.FieldType.boolean)) ∈ lwg := mw 839 (by decide +kernel) rfl
theorem w_794 : (Cond.methodLink "SnapStacksModel" (141 : Nat) ({ cls := "SnapStacksModel", name := "isWarmth", desc := "(I)Z" } : MethodName)) ∈ lwg := mw 848 (by decide +kernel) rfl
theorem w_795 : (Cond.static ({ cls := "SnapStacksModel", name := "isWarmth", desc := "(I)Z" } : MethodName)) ∈ lwg := mw 849 (by decide +kernel) rfl
theorem w_796 : (Cond.code ({ cls := "SnapStacksModel", name := "isWarmth", desc := "(I)Z" } : MethodName) prog_10_method_37_code (1 : Nat) (Option.some ClassFile.FieldType.boolean)) ∈ lwg := mw 850 (by decide +kernel) rfl
theorem w_813 : (Cond.methodLink "SnapStacksModel" (144 : Nat) ({ cls := "SnapStacksModel", name := "goes", desc := "(I)I" } : MethodName)) ∈ lwg := mw 867 (by decide +kernel) rfl
theorem w_815 : (Cond.instanceMethod ({ cls := "SnapStacksModel", name := "goes", desc := "(I)I" } : MethodName)) ∈ lwg := mw 869 (by decide +kernel) rfl
theorem w_816 : (Cond.code ({ cls := "SnapStacksModel", name := "goes", desc := "(I)I" } : MethodName) prog_10_method_28_code (4 : Nat) (Option.some ClassFile.FieldType.int)) ∈ lwg := mw 870 (by decide +kernel) rfl
theorem w_817 : (Cond.methodLink "SnapStacksModel" (102 : Nat) ({ cls := "SnapStacksModel", name := "laysBends", desc := "()V" } : MethodName)) ∈ lwg := mw 871 (by decide +kernel) rfl
theorem w_819 : (Cond.instanceMethod ({ cls := "SnapStacksModel", name := "laysBends", desc := "()V" } : MethodName)) ∈ lwg := mw 873 (by decide +kernel) rfl
theorem w_820 : (Cond.code ({ cls := "SnapStacksModel", name := "laysBends", desc := "()V" } : MethodName) prog_10_method_26_code (2 : Nat) (Option.none : Option ClassFile.FieldType)) ∈ lwg := mw 874 (by decide +kernel) rfl
theorem w_821 : (Cond.methodLink "SnapStacksModel" (105 : Nat) ({ cls := "SnapStacksModel", name := "ticks", desc := "(Z)I" } : MethodName)) ∈ lwg := mw 875 (by decide +kernel) rfl
theorem w_823 : (Cond.instanceMethod ({ cls := "SnapStacksModel", name := "ticks", desc := "(Z)I" } : MethodName)) ∈ lwg := mw 877 (by decide +kernel) rfl
theorem w_824 : (Cond.code ({ cls := "SnapStacksModel", name := "ticks", desc := "(Z)I" } : MethodName) prog_10_method_27_code (9 : Nat) (Option.some ClassFile.FieldType.int)) ∈ lwg := mw 878 (by decide +kernel) rfl
theorem w_825 : (Cond.methodLink "SnapStacksModel" (95 : Nat) ({ cls := "SnapStacksModel", name := "warmer", desc := "(I)I" } : MethodName)) ∈ lwg := mw 879 (by decide +kernel) rfl
theorem w_827 : (Cond.instanceMethod ({ cls := "SnapStacksModel", name := "warmer", desc := "(I)I" } : MethodName)) ∈ lwg := mw 881 (by decide +kernel) rfl
theorem w_828 : (Cond.code ({ cls := "SnapStacksModel", name := "warmer", desc := "(I)I" } : MethodName) prog_10_method_25_code (6 : Nat) (Option.some ClassFile.FieldType.int)) ∈ lwg := mw 882 (by decide +kernel) rfl
theorem w_829 : (Cond.methodLink "SnapStacksModel" (92 : Nat) ({ cls := "SnapStacksModel", name := "isOpen", desc := "(I)Z" } : MethodName)) ∈ lwg := mw 883 (by decide +kernel) rfl
theorem w_831 : (Cond.instanceMethod ({ cls := "SnapStacksModel", name := "isOpen", desc := "(I)Z" } : MethodName)) ∈ lwg := mw 885 (by decide +kernel) rfl
theorem w_832 : (Cond.code ({ cls := "SnapStacksModel", name := "isOpen", desc := "(I)Z" } : MethodName) prog_10_method_24_code (2 : Nat) (Option.some ClassFile.FieldType.boolean)) ∈ lwg := mw 886 (by decide +kernel) rfl
theorem w_833 : (Cond.methodLink "SnapStacksModel" (98 : Nat) ({ cls := "SnapStacksModel", name := "pulls", desc := "(IIZ)I" } : MethodName)) ∈ lwg := mw 887 (by decide +kernel) rfl
theorem w_835 : (Cond.instanceMethod ({ cls := "SnapStacksModel", name := "pulls", desc := "(IIZ)I" } : MethodName)) ∈ lwg := mw 889 (by decide +kernel) rfl
theorem w_836 : (Cond.code ({ cls := "SnapStacksModel", name := "pulls", desc := "(IIZ)I" } : MethodName) prog_10_method_23_code (5 : Nat) (Option.some ClassFile.FieldType.int)) ∈ lwg := mw 890 (by decide +kernel) rfl
theorem w_837 : (Cond.methodLink "SnapStacksModel" (81 : Nat) ({ cls := "SnapStacksModel", name := "isPulled", desc := "(II)Z" } : MethodName)) ∈ lwg := mw 891 (by decide +kernel) rfl
theorem w_839 : (Cond.instanceMethod ({ cls := "SnapStacksModel", name := "isPulled", desc := "(II)Z" } : MethodName)) ∈ lwg := mw 893 (by decide +kernel) rfl
theorem w_840 : (Cond.code ({ cls := "SnapStacksModel", name := "isPulled", desc := "(II)Z" } : MethodName) prog_10_method_21_code (3 : Nat) (Option.some ClassFile.FieldType.boolean)) ∈ lwg := mw 894 (by decide +kernel) rfl
theorem w_841 : (Cond.methodLink "SnapStacksModel" (85 : Nat) ({ cls := "SnapStacksModel", name := "tires", desc := "(I)V" } : MethodName)) ∈ lwg := mw 895 (by decide +kernel) rfl
theorem w_843 : (Cond.instanceMethod ({ cls := "SnapStacksModel", name := "tires", desc := "(I)V" } : MethodName)) ∈ lwg := mw 897 (by decide +kernel) rfl
theorem w_844 : (Cond.code ({ cls := "SnapStacksModel", name := "tires", desc := "(I)V" } : MethodName) prog_10_method_22_code (5 : Nat) (Option.none : Option ClassFile.FieldType)) ∈ lwg := mw 898 (by decide +kernel) rfl
theorem w_849 : (Cond.methodLink "SnapStacksModel" (147 : Nat) ({ cls := "SnapStacksModel", name := "lengthOfStrip", desc := "(I)I" } : MethodName)) ∈ lwg := mw 903 (by decide +kernel) rfl
theorem w_851 : (Cond.instanceMethod ({ cls := "SnapStacksModel", name := "lengthOfStrip", desc := "(I)I" } : MethodName)) ∈ lwg := mw 905 (by decide +kernel) rfl
theorem w_852 : (Cond.code ({ cls := "SnapStacksModel", name := "lengthOfStrip", desc := "(I)I" } : MethodName) prog_10_method_15_code (4 : Nat) (Option.some ClassFile.FieldType.int)) ∈ lwg := mw 906 (by decide +kernel) rfl
theorem w_857 : (Cond.constant "SnapStacksModel" (150 : Nat) (-10000004 : Int32)) ∈ lwg := mw 911 (by decide +kernel) rfl
theorem w_878 : (Cond.methodLink "SnapStacksModel" (170 : Nat) ({ cls := "SnapStacksModel", name := "keeps", desc := "()V" } : MethodName)) ∈ lwg := mw 932 (by decide +kernel) rfl
theorem w_880 : (Cond.instanceMethod ({ cls := "SnapStacksModel", name := "keeps", desc := "()V" } : MethodName)) ∈ lwg := mw 934 (by decide +kernel) rfl
theorem w_881 : (Cond.code ({ cls := "SnapStacksModel", name := "keeps", desc := "()V" } : MethodName) prog_10_method_51_code (3 : Nat) (Option.none : Option ClassFile.FieldType)) ∈ lwg := mw 935 (by decide +kernel) rfl
theorem w_882 : (Cond.methodLink "SnapStacksModel" (162 : Nat) ({ cls := "SnapStacksModel", name := "sign", desc := "()J" } : MethodName)) ∈ lwg := mw 936 (by decide +kernel) rfl
theorem w_884 : (Cond.instanceMethod ({ cls := "SnapStacksModel", name := "sign", desc := "()J" } : MethodName)) ∈ lwg := mw 938 (by decide +kernel) rfl
theorem w_885 : (Cond.code ({ cls := "SnapStacksModel", name := "sign", desc := "()J" } : MethodName) prog_10_method_49_code (4 : Nat) (Option.some ClassFile.FieldType.long)) ∈ lwg := mw 939 (by decide +kernel) rfl
theorem w_886 : (Cond.constantLong "SnapStacksModel" (154 : Nat) (2001 : Int64)) ∈ lwg := mw 940 (by decide +kernel) rfl
theorem w_887 : (Cond.constantLong "SnapStacksModel" (156 : Nat) (-500 : Int64)) ∈ lwg := mw 941 (by decide +kernel) rfl
theorem w_888 : (Cond.constantLong "SnapStacksModel" (158 : Nat) (2 : Int64)) ∈ lwg := mw 942 (by decide +kernel) rfl
theorem w_889 : (Cond.constantLong "SnapStacksModel" (160 : Nat) (6 : Int64)) ∈ lwg := mw 943 (by decide +kernel) rfl
theorem w_890 : (Cond.methodLink "SnapStacksModel" (166 : Nat) ({ cls := "SnapStacksModel", name := "snapsOfAll", desc := "()I" } : MethodName)) ∈ lwg := mw 944 (by decide +kernel) rfl
theorem w_892 : (Cond.instanceMethod ({ cls := "SnapStacksModel", name := "snapsOfAll", desc := "()I" } : MethodName)) ∈ lwg := mw 946 (by decide +kernel) rfl
theorem w_893 : (Cond.code ({ cls := "SnapStacksModel", name := "snapsOfAll", desc := "()I" } : MethodName) prog_10_method_50_code (1 : Nat) (Option.some ClassFile.FieldType.int)) ∈ lwg := mw 947 (by decide +kernel) rfl
theorem w_898 : (Cond.methodLink "SnapStacksModel" (202 : Nat) ({ cls := "SnapStacksModel", name := "finds", desc := "(I)Z" } : MethodName)) ∈ lwg := mw 952 (by decide +kernel) rfl
theorem w_900 : (Cond.instanceMethod ({ cls := "SnapStacksModel", name := "finds", desc := "(I)Z" } : MethodName)) ∈ lwg := mw 954 (by decide +kernel) rfl
theorem w_901 : (Cond.code ({ cls := "SnapStacksModel", name := "finds", desc := "(I)Z" } : MethodName) prog_10_method_61_code (4 : Nat) (Option.some ClassFile.FieldType.boolean)) ∈ lwg := mw 955 (by decide +kernel) rfl
theorem w_902 : (Cond.methodLink "SnapStacksModel" (195 : Nat) ({ cls := "SnapStacksModel", name := "laysPairs", desc := "()V" } : MethodName)) ∈ lwg := mw 956 (by decide +kernel) rfl
theorem w_904 : (Cond.instanceMethod ({ cls := "SnapStacksModel", name := "laysPairs", desc := "()V" } : MethodName)) ∈ lwg := mw 958 (by decide +kernel) rfl
theorem w_905 : (Cond.code ({ cls := "SnapStacksModel", name := "laysPairs", desc := "()V" } : MethodName) prog_10_method_55_code (3 : Nat) (Option.none : Option ClassFile.FieldType)) ∈ lwg := mw 959 (by decide +kernel) rfl
theorem w_906 : (Cond.methodLink "SnapStacksModel" (173 : Nat) ({ cls := "SnapStacksModel", name := "laysPair", desc := "(IIII)V" } : MethodName)) ∈ lwg := mw 960 (by decide +kernel) rfl
theorem w_908 : (Cond.instanceMethod ({ cls := "SnapStacksModel", name := "laysPair", desc := "(IIII)V" } : MethodName)) ∈ lwg := mw 962 (by decide +kernel) rfl
theorem w_909 : (Cond.code ({ cls := "SnapStacksModel", name := "laysPair", desc := "(IIII)V" } : MethodName) prog_10_method_56_code (5 : Nat) (Option.none : Option ClassFile.FieldType)) ∈ lwg := mw 963 (by decide +kernel) rfl
theorem w_910 : (Cond.methodLink "SnapStacksModel" (192 : Nat) ({ cls := "SnapStacksModel", name := "canBend", desc := "(III)Z" } : MethodName)) ∈ lwg := mw 964 (by decide +kernel) rfl
theorem w_912 : (Cond.instanceMethod ({ cls := "SnapStacksModel", name := "canBend", desc := "(III)Z" } : MethodName)) ∈ lwg := mw 966 (by decide +kernel) rfl
theorem w_913 : (Cond.code ({ cls := "SnapStacksModel", name := "canBend", desc := "(III)Z" } : MethodName) prog_10_method_57_code (6 : Nat) (Option.some ClassFile.FieldType.boolean)) ∈ lwg := mw 967 (by decide +kernel) rfl
theorem w_914 : (Cond.methodLink "SnapStacksModel" (177 : Nat) ({ cls := "SnapStacksModel", name := "isSingle", desc := "(II)Z" } : MethodName)) ∈ lwg := mw 968 (by decide +kernel) rfl
theorem w_916 : (Cond.instanceMethod ({ cls := "SnapStacksModel", name := "isSingle", desc := "(II)Z" } : MethodName)) ∈ lwg := mw 970 (by decide +kernel) rfl
theorem w_917 : (Cond.code ({ cls := "SnapStacksModel", name := "isSingle", desc := "(II)Z" } : MethodName) prog_10_method_53_code (3 : Nat) (Option.some ClassFile.FieldType.boolean)) ∈ lwg := mw 971 (by decide +kernel) rfl
theorem w_918 : (Cond.methodLink "SnapStacksModel" (180 : Nat) ({ cls := "SnapStacksModel", name := "isDouble", desc := "(II)Z" } : MethodName)) ∈ lwg := mw 972 (by decide +kernel) rfl
theorem w_920 : (Cond.instanceMethod ({ cls := "SnapStacksModel", name := "isDouble", desc := "(II)Z" } : MethodName)) ∈ lwg := mw 974 (by decide +kernel) rfl
theorem w_921 : (Cond.code ({ cls := "SnapStacksModel", name := "isDouble", desc := "(II)Z" } : MethodName) prog_10_method_54_code (3 : Nat) (Option.some ClassFile.FieldType.boolean)) ∈ lwg := mw 975 (by decide +kernel) rfl
theorem w_922 : (Cond.methodLink "SnapStacksModel" (198 : Nat) ({ cls := "SnapStacksModel", name := "lays", desc := "(III)V" } : MethodName)) ∈ lwg := mw 976 (by decide +kernel) rfl
theorem w_924 : (Cond.instanceMethod ({ cls := "SnapStacksModel", name := "lays", desc := "(III)V" } : MethodName)) ∈ lwg := mw 978 (by decide +kernel) rfl
theorem w_925 : (Cond.code ({ cls := "SnapStacksModel", name := "lays", desc := "(III)V" } : MethodName) prog_10_method_58_code (8 : Nat) (Option.none : Option ClassFile.FieldType)) ∈ lwg := mw 979 (by decide +kernel) rfl
theorem w_926 : (Cond.methodLink "SnapStacksModel" (186 : Nat) ({ cls := "SnapStacksModel", name := "lengthOf", desc := "(I)I" } : MethodName)) ∈ lwg := mw 980 (by decide +kernel) rfl
theorem w_927 : (Cond.static ({ cls := "SnapStacksModel", name := "lengthOf", desc := "(I)I" } : MethodName)) ∈ lwg := mw 981 (by decide +kernel) rfl
theorem w_928 : (Cond.code ({ cls := "SnapStacksModel", name := "lengthOf", desc := "(I)I" } : MethodName) prog_10_method_59_code (1 : Nat) (Option.some ClassFile.FieldType.int)) ∈ lwg := mw 982 (by decide +kernel) rfl
theorem w_929 : (Cond.methodLink "SnapStacksModel" (189 : Nat) ({ cls := "SnapStacksModel", name := "bendOf", desc := "(I)I" } : MethodName)) ∈ lwg := mw 983 (by decide +kernel) rfl
theorem w_931 : (Cond.instanceMethod ({ cls := "SnapStacksModel", name := "bendOf", desc := "(I)I" } : MethodName)) ∈ lwg := mw 985 (by decide +kernel) rfl
theorem w_932 : (Cond.code ({ cls := "SnapStacksModel", name := "bendOf", desc := "(I)I" } : MethodName) prog_10_method_60_code (2 : Nat) (Option.some ClassFile.FieldType.int)) ∈ lwg := mw 986 (by decide +kernel) rfl
theorem w_949 : (Cond.methodLink "SnapStacksModel" (218 : Nat) ({ cls := "SnapStacksModel", name := "reads", desc := "()I" } : MethodName)) ∈ lwg := mw 1003 (by decide +kernel) rfl
theorem w_951 : (Cond.instanceMethod ({ cls := "SnapStacksModel", name := "reads", desc := "()I" } : MethodName)) ∈ lwg := mw 1005 (by decide +kernel) rfl
theorem w_952 : (Cond.code ({ cls := "SnapStacksModel", name := "reads", desc := "()I" } : MethodName) prog_10_method_68_code (3 : Nat) (Option.some ClassFile.FieldType.int)) ∈ lwg := mw 1006 (by decide +kernel) rfl
theorem w_953 : (Cond.methodLink "SnapStacksModel" (214 : Nat) ({ cls := "SnapStacksModel", name := "isPart", desc := "()Z" } : MethodName)) ∈ lwg := mw 1007 (by decide +kernel) rfl
theorem w_955 : (Cond.instanceMethod ({ cls := "SnapStacksModel", name := "isPart", desc := "()Z" } : MethodName)) ∈ lwg := mw 1009 (by decide +kernel) rfl
theorem w_956 : (Cond.code ({ cls := "SnapStacksModel", name := "isPart", desc := "()Z" } : MethodName) prog_10_method_67_code (1 : Nat) (Option.some ClassFile.FieldType.boolean)) ∈ lwg := mw 1010 (by decide +kernel) rfl
theorem w_957 : (Cond.methodLink "SnapStacksModel" (208 : Nat) ({ cls := "SnapStacksModel", name := "takes", desc := "(II)Z" } : MethodName)) ∈ lwg := mw 1011 (by decide +kernel) rfl
theorem w_959 : (Cond.instanceMethod ({ cls := "SnapStacksModel", name := "takes", desc := "(II)Z" } : MethodName)) ∈ lwg := mw 1013 (by decide +kernel) rfl
theorem w_960 : (Cond.code ({ cls := "SnapStacksModel", name := "takes", desc := "(II)Z" } : MethodName) prog_10_method_66_code (4 : Nat) (Option.some ClassFile.FieldType.boolean)) ∈ lwg := mw 1014 (by decide +kernel) rfl
theorem w_965 : (Cond.methodLink "SnapStacksModel" (221 : Nat) ({ cls := "SnapStacksModel", name := "replaces", desc := "(II)I" } : MethodName)) ∈ lwg := mw 1019 (by decide +kernel) rfl
theorem w_967 : (Cond.instanceMethod ({ cls := "SnapStacksModel", name := "replaces", desc := "(II)I" } : MethodName)) ∈ lwg := mw 1021 (by decide +kernel) rfl
theorem w_968 : (Cond.code ({ cls := "SnapStacksModel", name := "replaces", desc := "(II)I" } : MethodName) prog_10_method_70_code (5 : Nat) (Option.some ClassFile.FieldType.int)) ∈ lwg := mw 1022 (by decide +kernel) rfl
theorem wp_0 : Cond.selects "SnapStacks" ⟨"SnapStacks", "recordChange", "()V"⟩ ⟨"SnapStacks", "recordChange", "()V"⟩ ∈ lwg := mw 0 (by decide +kernel) rfl
theorem wp_1 : Cond.selects "SnapStacks$State" ⟨"SnapStacks$State", "warmthToCome", "(I)I"⟩ ⟨"SnapStacks$State", "warmthToCome", "(I)I"⟩ ∈ lwg := mw 1 (by decide +kernel) rfl
theorem wp_2 : Cond.selects "SnapStacks$State" ⟨"SnapStacks$State", "moveStrip", "(I)Z"⟩ ⟨"SnapStacks$State", "moveStrip", "(I)Z"⟩ ∈ lwg := mw 2 (by decide +kernel) rfl
theorem wp_3 : Cond.selects "SnapStacks" ⟨"SnapStacks", "numberOfMetal", "(I)I"⟩ ⟨"SnapStacks", "numberOfMetal", "(I)I"⟩ ∈ lwg := mw 3 (by decide +kernel) rfl
theorem wp_4 : Cond.selects "SnapStacks$LoopFinder" ⟨"SnapStacks$LoopFinder", "sameStepOrEnter", "(I)I"⟩ ⟨"SnapStacks$LoopFinder", "sameStepOrEnter", "(I)I"⟩ ∈ lwg := mw 4 (by decide +kernel) rfl
theorem wp_5 : Cond.selects "SnapStacks$StackFinder" ⟨"SnapStacks$StackFinder", "collectPairs", "()V"⟩ ⟨"SnapStacks$StackFinder", "collectPairs", "()V"⟩ ∈ lwg := mw 5 (by decide +kernel) rfl
theorem wp_6 : Cond.selects "SnapStacks$StackFinder" ⟨"SnapStacks$StackFinder", "difference", "(I)I"⟩ ⟨"SnapStacks$StackFinder", "difference", "(I)I"⟩ ∈ lwg := mw 6 (by decide +kernel) rfl
theorem wp_7 : Cond.selects "SnapStacks$StackFinder" ⟨"SnapStacks$StackFinder", "fillByOne", "()V"⟩ ⟨"SnapStacks$StackFinder", "fillByOne", "()V"⟩ ∈ lwg := mw 7 (by decide +kernel) rfl
theorem wp_8 : Cond.selects "SnapStacks$StackFinder" ⟨"SnapStacks$StackFinder", "fillByTwo", "()V"⟩ ⟨"SnapStacks$StackFinder", "fillByTwo", "()V"⟩ ∈ lwg := mw 8 (by decide +kernel) rfl
theorem wp_9 : Cond.selects "SnapStacks$StackFinder" ⟨"SnapStacks$StackFinder", "addToByTwo", "(II)V"⟩ ⟨"SnapStacks$StackFinder", "addToByTwo", "(II)V"⟩ ∈ lwg := mw 9 (by decide +kernel) rfl
theorem wp_10 : Cond.selects "SnapStacks$StackFinder" ⟨"SnapStacks$StackFinder", "lengthsFor", "(II)I"⟩ ⟨"SnapStacks$StackFinder", "lengthsFor", "(II)I"⟩ ∈ lwg := mw 10 (by decide +kernel) rfl
theorem wp_11 : Cond.selects "SnapStacks$StackFinder" ⟨"SnapStacks$StackFinder", "lengthsByOne", "(I)I"⟩ ⟨"SnapStacks$StackFinder", "lengthsByOne", "(I)I"⟩ ∈ lwg := mw 11 (by decide +kernel) rfl
theorem wp_12 : Cond.selects "SnapStacks$StackFinder" ⟨"SnapStacks$StackFinder", "lengthsByTwo", "(I)I"⟩ ⟨"SnapStacks$StackFinder", "lengthsByTwo", "(I)I"⟩ ∈ lwg := mw 12 (by decide +kernel) rfl
theorem wp_13 : Cond.selects "SnapStacks$StackFinder" ⟨"SnapStacks$StackFinder", "lengthsByThree", "(I)I"⟩ ⟨"SnapStacks$StackFinder", "lengthsByThree", "(I)I"⟩ ∈ lwg := mw 13 (by decide +kernel) rfl
theorem wp_14 : Cond.selects "SnapStacks$StackFinder" ⟨"SnapStacks$StackFinder", "leastFirstPart", "(III)I"⟩ ⟨"SnapStacks$StackFinder", "leastFirstPart", "(III)I"⟩ ∈ lwg := mw 14 (by decide +kernel) rfl
theorem wp_15 : Cond.selects "SnapStacks$Text" ⟨"SnapStacks$Text", "canStandAt", "(I)Z"⟩ ⟨"SnapStacks$Text", "canStandAt", "(I)Z"⟩ ∈ lwg := mw 15 (by decide +kernel) rfl
theorem wp_16 : Cond.selects "SnapStacksModel" ⟨"SnapStacksModel", "begins", "()V"⟩ ⟨"SnapStacksModel", "begins", "()V"⟩ ∈ lwg := mw 16 (by decide +kernel) rfl
theorem wp_17 : Cond.selects "SnapStacksModel" ⟨"SnapStacksModel", "puts", "(II)I"⟩ ⟨"SnapStacksModel", "puts", "(II)I"⟩ ∈ lwg := mw 17 (by decide +kernel) rfl
theorem wp_18 : Cond.selects "SnapStacksModel" ⟨"SnapStacksModel", "acted", "(I)I"⟩ ⟨"SnapStacksModel", "acted", "(I)I"⟩ ∈ lwg := mw 18 (by decide +kernel) rfl
theorem wp_19 : Cond.selects "SnapStacksModel" ⟨"SnapStacksModel", "returns", "()V"⟩ ⟨"SnapStacksModel", "returns", "()V"⟩ ∈ lwg := mw 19 (by decide +kernel) rfl
theorem wp_20 : Cond.selects "SnapStacksModel" ⟨"SnapStacksModel", "adds", "(IIII)I"⟩ ⟨"SnapStacksModel", "adds", "(IIII)I"⟩ ∈ lwg := mw 20 (by decide +kernel) rfl
theorem wp_21 : Cond.selects "SnapStacksModel" ⟨"SnapStacksModel", "many", "(I)I"⟩ ⟨"SnapStacksModel", "many", "(I)I"⟩ ∈ lwg := mw 21 (by decide +kernel) rfl
theorem wp_22 : Cond.selects "SnapStacksModel" ⟨"SnapStacksModel", "shortens", "(II)I"⟩ ⟨"SnapStacksModel", "shortens", "(II)I"⟩ ∈ lwg := mw 22 (by decide +kernel) rfl
theorem wp_23 : Cond.selects "SnapStacksModel" ⟨"SnapStacksModel", "bounded", "(IIII)I"⟩ ⟨"SnapStacksModel", "bounded", "(IIII)I"⟩ ∈ lwg := mw 23 (by decide +kernel) rfl
theorem wp_24 : Cond.selects "SnapStacksModel" ⟨"SnapStacksModel", "bendAt", "(II)I"⟩ ⟨"SnapStacksModel", "bendAt", "(II)I"⟩ ∈ lwg := mw 24 (by decide +kernel) rfl
theorem wp_25 : Cond.selects "SnapStacksModel" ⟨"SnapStacksModel", "bendOfStrip", "(I)I"⟩ ⟨"SnapStacksModel", "bendOfStrip", "(I)I"⟩ ∈ lwg := mw 25 (by decide +kernel) rfl
theorem wp_26 : Cond.selects "SnapStacksModel" ⟨"SnapStacksModel", "bendOfPart", "(II)I"⟩ ⟨"SnapStacksModel", "bendOfPart", "(II)I"⟩ ∈ lwg := mw 26 (by decide +kernel) rfl
theorem wp_27 : Cond.selects "SnapStacksModel" ⟨"SnapStacksModel", "partOfStrip", "(III)I"⟩ ⟨"SnapStacksModel", "partOfStrip", "(III)I"⟩ ∈ lwg := mw 27 (by decide +kernel) rfl
theorem wp_28 : Cond.selects "SnapStacksModel" ⟨"SnapStacksModel", "isClosed", "(I)Z"⟩ ⟨"SnapStacksModel", "isClosed", "(I)Z"⟩ ∈ lwg := mw 28 (by decide +kernel) rfl
theorem wp_29 : Cond.selects "SnapStacksModel" ⟨"SnapStacksModel", "isSnapped", "(I)Z"⟩ ⟨"SnapStacksModel", "isSnapped", "(I)Z"⟩ ∈ lwg := mw 29 (by decide +kernel) rfl
theorem wp_30 : Cond.selects "SnapStacksModel" ⟨"SnapStacksModel", "goes", "(I)I"⟩ ⟨"SnapStacksModel", "goes", "(I)I"⟩ ∈ lwg := mw 30 (by decide +kernel) rfl
theorem wp_31 : Cond.selects "SnapStacksModel" ⟨"SnapStacksModel", "laysBends", "()V"⟩ ⟨"SnapStacksModel", "laysBends", "()V"⟩ ∈ lwg := mw 31 (by decide +kernel) rfl
theorem wp_32 : Cond.selects "SnapStacksModel" ⟨"SnapStacksModel", "ticks", "(Z)I"⟩ ⟨"SnapStacksModel", "ticks", "(Z)I"⟩ ∈ lwg := mw 32 (by decide +kernel) rfl
theorem wp_33 : Cond.selects "SnapStacksModel" ⟨"SnapStacksModel", "warmer", "(I)I"⟩ ⟨"SnapStacksModel", "warmer", "(I)I"⟩ ∈ lwg := mw 33 (by decide +kernel) rfl
theorem wp_34 : Cond.selects "SnapStacksModel" ⟨"SnapStacksModel", "isOpen", "(I)Z"⟩ ⟨"SnapStacksModel", "isOpen", "(I)Z"⟩ ∈ lwg := mw 34 (by decide +kernel) rfl
theorem wp_35 : Cond.selects "SnapStacksModel" ⟨"SnapStacksModel", "pulls", "(IIZ)I"⟩ ⟨"SnapStacksModel", "pulls", "(IIZ)I"⟩ ∈ lwg := mw 35 (by decide +kernel) rfl
theorem wp_36 : Cond.selects "SnapStacksModel" ⟨"SnapStacksModel", "isPulled", "(II)Z"⟩ ⟨"SnapStacksModel", "isPulled", "(II)Z"⟩ ∈ lwg := mw 36 (by decide +kernel) rfl
theorem wp_37 : Cond.selects "SnapStacksModel" ⟨"SnapStacksModel", "tires", "(I)V"⟩ ⟨"SnapStacksModel", "tires", "(I)V"⟩ ∈ lwg := mw 37 (by decide +kernel) rfl
theorem wp_38 : Cond.selects "SnapStacksModel" ⟨"SnapStacksModel", "lengthOfStrip", "(I)I"⟩ ⟨"SnapStacksModel", "lengthOfStrip", "(I)I"⟩ ∈ lwg := mw 38 (by decide +kernel) rfl
theorem wp_39 : Cond.selects "SnapStacksModel" ⟨"SnapStacksModel", "keeps", "()V"⟩ ⟨"SnapStacksModel", "keeps", "()V"⟩ ∈ lwg := mw 39 (by decide +kernel) rfl
theorem wp_40 : Cond.selects "SnapStacksModel" ⟨"SnapStacksModel", "sign", "()J"⟩ ⟨"SnapStacksModel", "sign", "()J"⟩ ∈ lwg := mw 40 (by decide +kernel) rfl
theorem wp_41 : Cond.selects "SnapStacksModel" ⟨"SnapStacksModel", "snapsOfAll", "()I"⟩ ⟨"SnapStacksModel", "snapsOfAll", "()I"⟩ ∈ lwg := mw 41 (by decide +kernel) rfl
theorem wp_42 : Cond.selects "SnapStacksModel" ⟨"SnapStacksModel", "finds", "(I)Z"⟩ ⟨"SnapStacksModel", "finds", "(I)Z"⟩ ∈ lwg := mw 42 (by decide +kernel) rfl
theorem wp_43 : Cond.selects "SnapStacksModel" ⟨"SnapStacksModel", "laysPairs", "()V"⟩ ⟨"SnapStacksModel", "laysPairs", "()V"⟩ ∈ lwg := mw 43 (by decide +kernel) rfl
theorem wp_44 : Cond.selects "SnapStacksModel" ⟨"SnapStacksModel", "laysPair", "(IIII)V"⟩ ⟨"SnapStacksModel", "laysPair", "(IIII)V"⟩ ∈ lwg := mw 44 (by decide +kernel) rfl
theorem wp_45 : Cond.selects "SnapStacksModel" ⟨"SnapStacksModel", "canBend", "(III)Z"⟩ ⟨"SnapStacksModel", "canBend", "(III)Z"⟩ ∈ lwg := mw 45 (by decide +kernel) rfl
theorem wp_46 : Cond.selects "SnapStacksModel" ⟨"SnapStacksModel", "isSingle", "(II)Z"⟩ ⟨"SnapStacksModel", "isSingle", "(II)Z"⟩ ∈ lwg := mw 46 (by decide +kernel) rfl
theorem wp_47 : Cond.selects "SnapStacksModel" ⟨"SnapStacksModel", "isDouble", "(II)Z"⟩ ⟨"SnapStacksModel", "isDouble", "(II)Z"⟩ ∈ lwg := mw 47 (by decide +kernel) rfl
theorem wp_48 : Cond.selects "SnapStacksModel" ⟨"SnapStacksModel", "lays", "(III)V"⟩ ⟨"SnapStacksModel", "lays", "(III)V"⟩ ∈ lwg := mw 48 (by decide +kernel) rfl
theorem wp_49 : Cond.selects "SnapStacksModel" ⟨"SnapStacksModel", "bendOf", "(I)I"⟩ ⟨"SnapStacksModel", "bendOf", "(I)I"⟩ ∈ lwg := mw 49 (by decide +kernel) rfl
theorem wp_50 : Cond.selects "SnapStacksModel" ⟨"SnapStacksModel", "reads", "()I"⟩ ⟨"SnapStacksModel", "reads", "()I"⟩ ∈ lwg := mw 50 (by decide +kernel) rfl
theorem wp_51 : Cond.selects "SnapStacksModel" ⟨"SnapStacksModel", "isPart", "()Z"⟩ ⟨"SnapStacksModel", "isPart", "()Z"⟩ ∈ lwg := mw 51 (by decide +kernel) rfl
theorem wp_52 : Cond.selects "SnapStacksModel" ⟨"SnapStacksModel", "takes", "(II)Z"⟩ ⟨"SnapStacksModel", "takes", "(II)Z"⟩ ∈ lwg := mw 52 (by decide +kernel) rfl
theorem wp_53 : Cond.selects "SnapStacksModel" ⟨"SnapStacksModel", "replaces", "(II)I"⟩ ⟨"SnapStacksModel", "replaces", "(II)I"⟩ ∈ lwg := mw 53 (by decide +kernel) rfl
