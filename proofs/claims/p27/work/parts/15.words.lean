/-! words of the tables, by their places -/
theorem w_0 : (Cond.initialized "SnapStacksLaw") ∈ lwg := mw 6 (by decide +kernel) rfl
theorem w_1 : (Cond.initialized "SnapStacks") ∈ lwg := mw 7 (by decide +kernel) rfl
theorem w_2 : (Cond.initialized "SnapStacks$State") ∈ lwg := mw 8 (by decide +kernel) rfl
theorem w_3 : (Cond.initialized "SnapStacks$Strip") ∈ lwg := mw 9 (by decide +kernel) rfl
theorem w_4 : (Cond.initialized "SnapStacks$Room") ∈ lwg := mw 10 (by decide +kernel) rfl
theorem w_5 : (Cond.initialized "SnapStacks$History") ∈ lwg := mw 11 (by decide +kernel) rfl
theorem w_6 : (Cond.initialized "SnapStacks$Text") ∈ lwg := mw 12 (by decide +kernel) rfl
theorem w_7 : (Cond.initialized "SnapStacks$LoopFinder") ∈ lwg := mw 13 (by decide +kernel) rfl
theorem w_8 : (Cond.initialized "SnapStacks$StackFinder") ∈ lwg := mw 14 (by decide +kernel) rfl
theorem w_9 : (Cond.initialized "java/lang/Math") ∈ lwg := mw 15 (by decide +kernel) rfl
theorem w_10 : (Cond.initialized "java/lang/System") ∈ lwg := mw 16 (by decide +kernel) rfl
theorem w_11 : (Cond.initialized "java/util/Arrays") ∈ lwg := mw 17 (by decide +kernel) rfl
theorem w_12 : (Cond.classLink "SnapStacksLaw" (14 : Nat) "SnapStacks") ∈ lwg := mw 18 (by decide +kernel) rfl
theorem w_13 : (Cond.instantiable "SnapStacks" (6 : Nat)) ∈ lwg := mw 19 (by decide +kernel) rfl
theorem w_14 : (Cond.methodLink "SnapStacksLaw" (102 : Nat) ({ cls := "SnapStacks", name := "<init>", desc := "()V" } : MethodName)) ∈ lwg := mw 20 (by decide +kernel) rfl
theorem w_15 : (Cond.instanceMethod ({ cls := "SnapStacks", name := "<init>", desc := "()V" } : MethodName)) ∈ lwg := mw 21 (by decide +kernel) rfl
theorem w_16 : (Cond.code ({ cls := "SnapStacks", name := "<init>", desc := "()V" } : MethodName) prog_1_method_1_code (1 : Nat) (Option.none : Option ClassFile.FieldType)) ∈ lwg := mw 22 (by decide +kernel) rfl
theorem w_17 : (Cond.methodLink "SnapStacks" (1 : Nat) ({ cls := "java/lang/Object", name := "<init>", desc := "()V" } : MethodName)) ∈ lwg := mw 23 (by decide +kernel) rfl
theorem w_18 : (Cond.instanceMethod ({ cls := "java/lang/Object", name := "<init>", desc := "()V" } : MethodName)) ∈ lwg := mw 24 (by decide +kernel) rfl
theorem w_19 : (Cond.code ({ cls := "java/lang/Object", name := "<init>", desc := "()V" } : MethodName) object_method_1_code (1 : Nat) (Option.none : Option ClassFile.FieldType)) ∈ lwg := mw 25 (by decide +kernel) rfl
theorem w_20 : (Cond.classLink "SnapStacks" (7 : Nat) "SnapStacks$State") ∈ lwg := mw 26 (by decide +kernel) rfl
theorem w_21 : (Cond.instantiable "SnapStacks$State" (8 : Nat)) ∈ lwg := mw 27 (by decide +kernel) rfl
theorem w_22 : (Cond.methodLink "SnapStacks" (9 : Nat) ({ cls := "SnapStacks$State", name := "<init>", desc := "()V" } : MethodName)) ∈ lwg := mw 28 (by decide +kernel) rfl
theorem w_23 : (Cond.instanceMethod ({ cls := "SnapStacks$State", name := "<init>", desc := "()V" } : MethodName)) ∈ lwg := mw 29 (by decide +kernel) rfl
theorem w_24 : (Cond.code ({ cls := "SnapStacks$State", name := "<init>", desc := "()V" } : MethodName) prog_6_method_1_code (2 : Nat) (Option.none : Option ClassFile.FieldType)) ∈ lwg := mw 30 (by decide +kernel) rfl
theorem w_25 : (Cond.methodLink "SnapStacks$State" (3 : Nat) ({ cls := "java/lang/Object", name := "<init>", desc := "()V" } : MethodName)) ∈ lwg := mw 31 (by decide +kernel) rfl
theorem w_26 : (Cond.classLink "SnapStacks$State" (18 : Nat) "SnapStacks$Strip") ∈ lwg := mw 32 (by decide +kernel) rfl
theorem w_28 : (Cond.classLink "SnapStacks$State" (24 : Nat) "SnapStacks$Room") ∈ lwg := mw 34 (by decide +kernel) rfl
theorem w_30 : (Cond.instantiable "SnapStacks$Strip" (11 : Nat)) ∈ lwg := mw 36 (by decide +kernel) rfl
theorem w_31 : (Cond.methodLink "SnapStacks$State" (30 : Nat) ({ cls := "SnapStacks$Strip", name := "<init>", desc := "()V" } : MethodName)) ∈ lwg := mw 37 (by decide +kernel) rfl
theorem w_32 : (Cond.instanceMethod ({ cls := "SnapStacks$Strip", name := "<init>", desc := "()V" } : MethodName)) ∈ lwg := mw 38 (by decide +kernel) rfl
theorem w_33 : (Cond.code ({ cls := "SnapStacks$Strip", name := "<init>", desc := "()V" } : MethodName) prog_7_method_1_code (1 : Nat) (Option.none : Option ClassFile.FieldType)) ∈ lwg := mw 39 (by decide +kernel) rfl
theorem w_34 : (Cond.methodLink "SnapStacks$Strip" (3 : Nat) ({ cls := "java/lang/Object", name := "<init>", desc := "()V" } : MethodName)) ∈ lwg := mw 40 (by decide +kernel) rfl
theorem w_35 : (Cond.fieldLink "SnapStacks$Strip" (9 : Nat) "SnapStacks$Strip" "lengths" "[I") ∈ lwg := mw 41 (by decide +kernel) rfl
theorem w_36 : (Cond.fieldLink "SnapStacks" (165 : Nat) "SnapStacks$Strip" "lengths" "[I") ∈ lwg := mw 42 (by decide +kernel) rfl
theorem w_37 : (Cond.fieldLink "SnapStacks$Strip" (15 : Nat) "SnapStacks$Strip" "uppers" "[I") ∈ lwg := mw 43 (by decide +kernel) rfl
theorem w_38 : (Cond.fieldLink "SnapStacks" (168 : Nat) "SnapStacks$Strip" "uppers" "[I") ∈ lwg := mw 44 (by decide +kernel) rfl
theorem w_39 : (Cond.fieldLink "SnapStacks$Strip" (18 : Nat) "SnapStacks$Strip" "lowers" "[I") ∈ lwg := mw 45 (by decide +kernel) rfl
theorem w_40 : (Cond.fieldLink "SnapStacks" (171 : Nat) "SnapStacks$Strip" "lowers" "[I") ∈ lwg := mw 46 (by decide +kernel) rfl
theorem w_41 : (Cond.fieldLink "SnapStacks$Strip" (34 : Nat) "SnapStacks$Strip" "parts" "I") ∈ lwg := mw 47 (by decide +kernel) rfl
theorem w_42 : (Cond.fieldLink "SnapStacks" (68 : Nat) "SnapStacks$Strip" "parts" "I") ∈ lwg := mw 48 (by decide +kernel) rfl
theorem w_43 : (Cond.fieldLink "SnapStacks$Strip" (21 : Nat) "SnapStacks$Strip" "low" "I") ∈ lwg := mw 49 (by decide +kernel) rfl
theorem w_44 : (Cond.fieldLink "SnapStacks" (83 : Nat) "SnapStacks$Strip" "low" "I") ∈ lwg := mw 50 (by decide +kernel) rfl
theorem w_45 : (Cond.fieldLink "SnapStacks$Strip" (25 : Nat) "SnapStacks$Strip" "high" "I") ∈ lwg := mw 51 (by decide +kernel) rfl
theorem w_46 : (Cond.fieldLink "SnapStacks" (86 : Nat) "SnapStacks$Strip" "high" "I") ∈ lwg := mw 52 (by decide +kernel) rfl
theorem w_47 : (Cond.fieldLink "SnapStacks$Strip" (37 : Nat) "SnapStacks$Strip" "late" "I") ∈ lwg := mw 53 (by decide +kernel) rfl
theorem w_48 : (Cond.fieldLink "SnapStacks" (89 : Nat) "SnapStacks$Strip" "late" "I") ∈ lwg := mw 54 (by decide +kernel) rfl
theorem w_49 : (Cond.fieldLink "SnapStacks$Strip" (40 : Nat) "SnapStacks$Strip" "pulls" "I") ∈ lwg := mw 55 (by decide +kernel) rfl
theorem w_50 : (Cond.fieldLink "SnapStacks$State" (126 : Nat) "SnapStacks$Strip" "pulls" "I") ∈ lwg := mw 56 (by decide +kernel) rfl
theorem w_51 : (Cond.fieldLink "SnapStacks" (158 : Nat) "SnapStacks$Strip" "pulls" "I") ∈ lwg := mw 57 (by decide +kernel) rfl
theorem w_52 : (Cond.fieldLink "SnapStacks$Strip" (43 : Nat) "SnapStacks$Strip" "snaps" "I") ∈ lwg := mw 58 (by decide +kernel) rfl
theorem w_53 : (Cond.fieldLink "SnapStacks$State" (77 : Nat) "SnapStacks$Strip" "snaps" "I") ∈ lwg := mw 59 (by decide +kernel) rfl
theorem w_54 : (Cond.fieldLink "SnapStacks" (161 : Nat) "SnapStacks$Strip" "snaps" "I") ∈ lwg := mw 60 (by decide +kernel) rfl
theorem w_55 : (Cond.fieldLink "SnapStacks$Strip" (46 : Nat) "SnapStacks$Strip" "kind" "I") ∈ lwg := mw 61 (by decide +kernel) rfl
theorem w_56 : (Cond.fieldLink "SnapStacks" (96 : Nat) "SnapStacks$Strip" "kind" "I") ∈ lwg := mw 62 (by decide +kernel) rfl
theorem w_57 : (Cond.fieldLink "SnapStacks$Strip" (49 : Nat) "SnapStacks$Strip" "isSnapped" "Z") ∈ lwg := mw 63 (by decide +kernel) rfl
theorem w_58 : (Cond.fieldLink "SnapStacks$State" (119 : Nat) "SnapStacks$Strip" "isSnapped" "Z") ∈ lwg := mw 64 (by decide +kernel) rfl
theorem w_59 : (Cond.fieldLink "SnapStacks" (155 : Nat) "SnapStacks$Strip" "isSnapped" "Z") ∈ lwg := mw 65 (by decide +kernel) rfl
theorem w_83 : (Cond.arrayClass ClassFile.FieldType.int) ∈ lwg := mw 89 (by decide +kernel) rfl
theorem w_84 : (Cond.instantiable "SnapStacks$Room" (7 : Nat)) ∈ lwg := mw 90 (by decide +kernel) rfl
theorem w_85 : (Cond.methodLink "SnapStacks$State" (31 : Nat) ({ cls := "SnapStacks$Room", name := "<init>", desc := "()V" } : MethodName)) ∈ lwg := mw 91 (by decide +kernel) rfl
theorem w_86 : (Cond.instanceMethod ({ cls := "SnapStacks$Room", name := "<init>", desc := "()V" } : MethodName)) ∈ lwg := mw 92 (by decide +kernel) rfl
theorem w_87 : (Cond.code ({ cls := "SnapStacks$Room", name := "<init>", desc := "()V" } : MethodName) prog_4_method_1_code (1 : Nat) (Option.none : Option ClassFile.FieldType)) ∈ lwg := mw 93 (by decide +kernel) rfl
theorem w_88 : (Cond.methodLink "SnapStacks$Room" (3 : Nat) ({ cls := "java/lang/Object", name := "<init>", desc := "()V" } : MethodName)) ∈ lwg := mw 94 (by decide +kernel) rfl
theorem w_89 : (Cond.fieldLink "SnapStacks$Room" (9 : Nat) "SnapStacks$Room" "warmth" "I") ∈ lwg := mw 95 (by decide +kernel) rfl
theorem w_90 : (Cond.fieldLink "SnapStacks$State" (62 : Nat) "SnapStacks$Room" "warmth" "I") ∈ lwg := mw 96 (by decide +kernel) rfl
theorem w_91 : (Cond.fieldLink "SnapStacks" (125 : Nat) "SnapStacks$Room" "warmth" "I") ∈ lwg := mw 97 (by decide +kernel) rfl
theorem w_92 : (Cond.fieldLink "SnapStacks$Room" (24 : Nat) "SnapStacks$Room" "power" "I") ∈ lwg := mw 98 (by decide +kernel) rfl
theorem w_93 : (Cond.fieldLink "SnapStacks" (111 : Nat) "SnapStacks$Room" "power" "I") ∈ lwg := mw 99 (by decide +kernel) rfl
theorem w_94 : (Cond.fieldLink "SnapStacks$State" (102 : Nat) "SnapStacks$Room" "power" "I") ∈ lwg := mw 100 (by decide +kernel) rfl
theorem w_95 : (Cond.fieldLink "SnapStacks$Room" (15 : Nat) "SnapStacks$Room" "divisor" "I") ∈ lwg := mw 101 (by decide +kernel) rfl
theorem w_96 : (Cond.fieldLink "SnapStacks" (116 : Nat) "SnapStacks$Room" "divisor" "I") ∈ lwg := mw 102 (by decide +kernel) rfl
theorem w_97 : (Cond.fieldLink "SnapStacks$Room" (27 : Nat) "SnapStacks$Room" "isOpen" "Z") ∈ lwg := mw 103 (by decide +kernel) rfl
theorem w_98 : (Cond.fieldLink "SnapStacks$State" (69 : Nat) "SnapStacks$Room" "isOpen" "Z") ∈ lwg := mw 104 (by decide +kernel) rfl
theorem w_99 : (Cond.fieldLink "SnapStacks" (128 : Nat) "SnapStacks$Room" "isOpen" "Z") ∈ lwg := mw 105 (by decide +kernel) rfl
theorem w_100 : (Cond.fieldLink "SnapStacks$Room" (31 : Nat) "SnapStacks$Room" "closedTicks" "I") ∈ lwg := mw 106 (by decide +kernel) rfl
theorem w_101 : (Cond.fieldLink "SnapStacks$State" (84 : Nat) "SnapStacks$Room" "closedTicks" "I") ∈ lwg := mw 107 (by decide +kernel) rfl
theorem w_102 : (Cond.fieldLink "SnapStacks" (178 : Nat) "SnapStacks$Room" "closedTicks" "I") ∈ lwg := mw 108 (by decide +kernel) rfl
theorem w_103 : (Cond.fieldLink "SnapStacks$Room" (18 : Nat) "SnapStacks$Room" "greatest" "I") ∈ lwg := mw 109 (by decide +kernel) rfl
theorem w_104 : (Cond.fieldLink "SnapStacks" (184 : Nat) "SnapStacks$Room" "greatest" "I") ∈ lwg := mw 110 (by decide +kernel) rfl
theorem w_105 : (Cond.fieldLink "SnapStacks$Room" (21 : Nat) "SnapStacks$Room" "least" "I") ∈ lwg := mw 111 (by decide +kernel) rfl
theorem w_106 : (Cond.fieldLink "SnapStacks" (187 : Nat) "SnapStacks$Room" "least" "I") ∈ lwg := mw 112 (by decide +kernel) rfl
theorem w_122 : (Cond.fieldLink "SnapStacks$State" (9 : Nat) "SnapStacks$State" "numbers" "[I") ∈ lwg := mw 128 (by decide +kernel) rfl
theorem w_123 : (Cond.fieldLink "SnapStacks" (56 : Nat) "SnapStacks$State" "numbers" "[I") ∈ lwg := mw 129 (by decide +kernel) rfl
theorem w_124 : (Cond.fieldLink "SnapStacks$State" (15 : Nat) "SnapStacks$State" "settings" "[I") ∈ lwg := mw 130 (by decide +kernel) rfl
theorem w_125 : (Cond.fieldLink "SnapStacks$LoopFinder" (33 : Nat) "SnapStacks$State" "settings" "[I") ∈ lwg := mw 131 (by decide +kernel) rfl
theorem w_126 : (Cond.fieldLink "SnapStacks" (139 : Nat) "SnapStacks$State" "settings" "[I") ∈ lwg := mw 132 (by decide +kernel) rfl
theorem w_127 : (Cond.fieldLink "SnapStacks$State" (20 : Nat) "SnapStacks$State" "strips" "[LSnapStacks$Strip;") ∈ lwg := mw 133 (by decide +kernel) rfl
theorem w_128 : (Cond.fieldLink "SnapStacks" (64 : Nat) "SnapStacks$State" "strips" "[LSnapStacks$Strip;") ∈ lwg := mw 134 (by decide +kernel) rfl
theorem w_129 : (Cond.fieldLink "SnapStacks$State" (26 : Nat) "SnapStacks$State" "rooms" "[LSnapStacks$Room;") ∈ lwg := mw 135 (by decide +kernel) rfl
theorem w_130 : (Cond.fieldLink "SnapStacks" (107 : Nat) "SnapStacks$State" "rooms" "[LSnapStacks$Room;") ∈ lwg := mw 136 (by decide +kernel) rfl
theorem w_131 : (Cond.fieldLink "SnapStacks$State" (32 : Nat) "SnapStacks$State" "outside" "I") ∈ lwg := mw 137 (by decide +kernel) rfl
theorem w_132 : (Cond.fieldLink "SnapStacks" (122 : Nat) "SnapStacks$State" "outside" "I") ∈ lwg := mw 138 (by decide +kernel) rfl
theorem w_133 : (Cond.fieldLink "SnapStacks$State" (55 : Nat) "SnapStacks$State" "ticks" "I") ∈ lwg := mw 139 (by decide +kernel) rfl
theorem w_134 : (Cond.fieldLink "SnapStacks" (181 : Nat) "SnapStacks$State" "ticks" "I") ∈ lwg := mw 140 (by decide +kernel) rfl
theorem w_135 : (Cond.fieldLink "SnapStacks$State" (36 : Nat) "SnapStacks$State" "rates" "[I") ∈ lwg := mw 141 (by decide +kernel) rfl
theorem w_136 : (Cond.fieldLink "SnapStacks$State" (39 : Nat) "SnapStacks$State" "newWarmths" "[I") ∈ lwg := mw 142 (by decide +kernel) rfl
theorem w_154 : (Cond.classLink "SnapStacks" (16 : Nat) "SnapStacks$History") ∈ lwg := mw 160 (by decide +kernel) rfl
theorem w_155 : (Cond.instantiable "SnapStacks$History" (3 : Nat)) ∈ lwg := mw 161 (by decide +kernel) rfl
theorem w_156 : (Cond.methodLink "SnapStacks" (18 : Nat) ({ cls := "SnapStacks$History", name := "<init>", desc := "()V" } : MethodName)) ∈ lwg := mw 162 (by decide +kernel) rfl
theorem w_157 : (Cond.instanceMethod ({ cls := "SnapStacks$History", name := "<init>", desc := "()V" } : MethodName)) ∈ lwg := mw 163 (by decide +kernel) rfl
theorem w_158 : (Cond.code ({ cls := "SnapStacks$History", name := "<init>", desc := "()V" } : MethodName) prog_2_method_1_code (2 : Nat) (Option.none : Option ClassFile.FieldType)) ∈ lwg := mw 164 (by decide +kernel) rfl
theorem w_159 : (Cond.methodLink "SnapStacks$History" (1 : Nat) ({ cls := "java/lang/Object", name := "<init>", desc := "()V" } : MethodName)) ∈ lwg := mw 165 (by decide +kernel) rfl
theorem w_160 : (Cond.classLink "SnapStacks$History" (9 : Nat) "SnapStacks$State") ∈ lwg := mw 166 (by decide +kernel) rfl
theorem w_162 : (Cond.methodLink "SnapStacks$History" (15 : Nat) ({ cls := "SnapStacks$State", name := "<init>", desc := "()V" } : MethodName)) ∈ lwg := mw 168 (by decide +kernel) rfl
theorem w_163 : (Cond.fieldLink "SnapStacks$History" (11 : Nat) "SnapStacks$History" "states" "[LSnapStacks$State;") ∈ lwg := mw 169 (by decide +kernel) rfl
theorem w_164 : (Cond.fieldLink "SnapStacks$History" (16 : Nat) "SnapStacks$History" "oldest" "I") ∈ lwg := mw 170 (by decide +kernel) rfl
theorem w_165 : (Cond.fieldLink "SnapStacks$History" (20 : Nat) "SnapStacks$History" "size" "I") ∈ lwg := mw 171 (by decide +kernel) rfl
theorem w_166 : (Cond.fieldLink "SnapStacks" (192 : Nat) "SnapStacks$History" "size" "I") ∈ lwg := mw 172 (by decide +kernel) rfl
theorem w_174 : (Cond.classLink "SnapStacks" (23 : Nat) "SnapStacks$Text") ∈ lwg := mw 180 (by decide +kernel) rfl
theorem w_175 : (Cond.instantiable "SnapStacks$Text" (2 : Nat)) ∈ lwg := mw 181 (by decide +kernel) rfl
theorem w_176 : (Cond.methodLink "SnapStacks" (25 : Nat) ({ cls := "SnapStacks$Text", name := "<init>", desc := "()V" } : MethodName)) ∈ lwg := mw 182 (by decide +kernel) rfl
theorem w_177 : (Cond.instanceMethod ({ cls := "SnapStacks$Text", name := "<init>", desc := "()V" } : MethodName)) ∈ lwg := mw 183 (by decide +kernel) rfl
theorem w_178 : (Cond.code ({ cls := "SnapStacks$Text", name := "<init>", desc := "()V" } : MethodName) prog_8_method_1_code (1 : Nat) (Option.none : Option ClassFile.FieldType)) ∈ lwg := mw 184 (by decide +kernel) rfl
theorem w_179 : (Cond.methodLink "SnapStacks$Text" (5 : Nat) ({ cls := "java/lang/Object", name := "<init>", desc := "()V" } : MethodName)) ∈ lwg := mw 185 (by decide +kernel) rfl
theorem w_180 : (Cond.fieldLink "SnapStacks$Text" (11 : Nat) "SnapStacks$Text" "characters" "[C") ∈ lwg := mw 186 (by decide +kernel) rfl
theorem w_181 : (Cond.fieldLink "SnapStacks$Text" (15 : Nat) "SnapStacks$Text" "length" "I") ∈ lwg := mw 187 (by decide +kernel) rfl
theorem w_182 : (Cond.fieldLink "SnapStacks" (195 : Nat) "SnapStacks$Text" "length" "I") ∈ lwg := mw 188 (by decide +kernel) rfl
theorem w_188 : (Cond.arrayClass ClassFile.FieldType.char) ∈ lwg := mw 194 (by decide +kernel) rfl
theorem w_189 : (Cond.classLink "SnapStacks" (30 : Nat) "SnapStacks$LoopFinder") ∈ lwg := mw 195 (by decide +kernel) rfl
theorem w_190 : (Cond.instantiable "SnapStacks$LoopFinder" (8 : Nat)) ∈ lwg := mw 196 (by decide +kernel) rfl
theorem w_191 : (Cond.methodLink "SnapStacks" (32 : Nat) ({ cls := "SnapStacks$LoopFinder", name := "<init>", desc := "()V" } : MethodName)) ∈ lwg := mw 197 (by decide +kernel) rfl
theorem w_192 : (Cond.instanceMethod ({ cls := "SnapStacks$LoopFinder", name := "<init>", desc := "()V" } : MethodName)) ∈ lwg := mw 198 (by decide +kernel) rfl
theorem w_193 : (Cond.code ({ cls := "SnapStacks$LoopFinder", name := "<init>", desc := "()V" } : MethodName) prog_3_method_1_code (1 : Nat) (Option.none : Option ClassFile.FieldType)) ∈ lwg := mw 199 (by decide +kernel) rfl
theorem w_194 : (Cond.methodLink "SnapStacks$LoopFinder" (3 : Nat) ({ cls := "java/lang/Object", name := "<init>", desc := "()V" } : MethodName)) ∈ lwg := mw 200 (by decide +kernel) rfl
theorem w_195 : (Cond.classLink "SnapStacks$LoopFinder" (9 : Nat) "SnapStacks$State") ∈ lwg := mw 201 (by decide +kernel) rfl
theorem w_196 : (Cond.methodLink "SnapStacks$LoopFinder" (11 : Nat) ({ cls := "SnapStacks$State", name := "<init>", desc := "()V" } : MethodName)) ∈ lwg := mw 202 (by decide +kernel) rfl
theorem w_197 : (Cond.fieldLink "SnapStacks$LoopFinder" (12 : Nat) "SnapStacks$LoopFinder" "trial" "LSnapStacks$State;") ∈ lwg := mw 203 (by decide +kernel) rfl
theorem w_198 : (Cond.fieldLink "SnapStacks$LoopFinder" (18 : Nat) "SnapStacks$LoopFinder" "keys" "[J") ∈ lwg := mw 204 (by decide +kernel) rfl
theorem w_199 : (Cond.fieldLink "SnapStacks$LoopFinder" (22 : Nat) "SnapStacks$LoopFinder" "snapsUntil" "[I") ∈ lwg := mw 205 (by decide +kernel) rfl
theorem w_200 : (Cond.fieldLink "SnapStacks$LoopFinder" (26 : Nat) "SnapStacks$LoopFinder" "stepInSlot" "[I") ∈ lwg := mw 206 (by decide +kernel) rfl
theorem w_201 : (Cond.fieldLink "SnapStacks$LoopFinder" (45 : Nat) "SnapStacks$LoopFinder" "isFound" "Z") ∈ lwg := mw 207 (by decide +kernel) rfl
theorem w_202 : (Cond.fieldLink "SnapStacks" (215 : Nat) "SnapStacks$LoopFinder" "isFound" "Z") ∈ lwg := mw 208 (by decide +kernel) rfl
theorem w_203 : (Cond.fieldLink "SnapStacks$LoopFinder" (61 : Nat) "SnapStacks$LoopFinder" "lead" "I") ∈ lwg := mw 209 (by decide +kernel) rfl
theorem w_204 : (Cond.fieldLink "SnapStacks" (218 : Nat) "SnapStacks$LoopFinder" "lead" "I") ∈ lwg := mw 210 (by decide +kernel) rfl
theorem w_205 : (Cond.fieldLink "SnapStacks$LoopFinder" (65 : Nat) "SnapStacks$LoopFinder" "period" "I") ∈ lwg := mw 211 (by decide +kernel) rfl
theorem w_206 : (Cond.fieldLink "SnapStacks" (221 : Nat) "SnapStacks$LoopFinder" "period" "I") ∈ lwg := mw 212 (by decide +kernel) rfl
theorem w_207 : (Cond.fieldLink "SnapStacks$LoopFinder" (68 : Nat) "SnapStacks$LoopFinder" "snaps" "I") ∈ lwg := mw 213 (by decide +kernel) rfl
theorem w_208 : (Cond.fieldLink "SnapStacks" (224 : Nat) "SnapStacks$LoopFinder" "snaps" "I") ∈ lwg := mw 214 (by decide +kernel) rfl
theorem w_226 : (Cond.arrayClass ClassFile.FieldType.long) ∈ lwg := mw 232 (by decide +kernel) rfl
theorem w_227 : (Cond.classLink "SnapStacks" (37 : Nat) "SnapStacks$StackFinder") ∈ lwg := mw 233 (by decide +kernel) rfl
theorem w_228 : (Cond.instantiable "SnapStacks$StackFinder" (6 : Nat)) ∈ lwg := mw 234 (by decide +kernel) rfl
theorem w_229 : (Cond.methodLink "SnapStacks" (39 : Nat) ({ cls := "SnapStacks$StackFinder", name := "<init>", desc := "()V" } : MethodName)) ∈ lwg := mw 235 (by decide +kernel) rfl
theorem w_230 : (Cond.instanceMethod ({ cls := "SnapStacks$StackFinder", name := "<init>", desc := "()V" } : MethodName)) ∈ lwg := mw 236 (by decide +kernel) rfl
theorem w_231 : (Cond.code ({ cls := "SnapStacks$StackFinder", name := "<init>", desc := "()V" } : MethodName) prog_5_method_1_code (1 : Nat) (Option.none : Option ClassFile.FieldType)) ∈ lwg := mw 237 (by decide +kernel) rfl
theorem w_232 : (Cond.methodLink "SnapStacks$StackFinder" (5 : Nat) ({ cls := "java/lang/Object", name := "<init>", desc := "()V" } : MethodName)) ∈ lwg := mw 238 (by decide +kernel) rfl
theorem w_233 : (Cond.fieldLink "SnapStacks$StackFinder" (11 : Nat) "SnapStacks$StackFinder" "numbers" "[I") ∈ lwg := mw 239 (by decide +kernel) rfl
theorem w_234 : (Cond.fieldLink "SnapStacks$StackFinder" (15 : Nat) "SnapStacks$StackFinder" "pairs" "[I") ∈ lwg := mw 240 (by decide +kernel) rfl
theorem w_235 : (Cond.fieldLink "SnapStacks$StackFinder" (18 : Nat) "SnapStacks$StackFinder" "byOne" "[I") ∈ lwg := mw 241 (by decide +kernel) rfl
theorem w_236 : (Cond.fieldLink "SnapStacks$StackFinder" (21 : Nat) "SnapStacks$StackFinder" "byTwo" "[I") ∈ lwg := mw 242 (by decide +kernel) rfl
theorem w_250 : (Cond.fieldLink "SnapStacks" (10 : Nat) "SnapStacks" "now" "LSnapStacks$State;") ∈ lwg := mw 256 (by decide +kernel) rfl
theorem w_251 : (Cond.fieldLink "SnapStacks" (19 : Nat) "SnapStacks" "history" "LSnapStacks$History;") ∈ lwg := mw 257 (by decide +kernel) rfl
theorem w_252 : (Cond.fieldLink "SnapStacks" (26 : Nat) "SnapStacks" "text" "LSnapStacks$Text;") ∈ lwg := mw 258 (by decide +kernel) rfl
theorem w_253 : (Cond.fieldLink "SnapStacks" (33 : Nat) "SnapStacks" "loops" "LSnapStacks$LoopFinder;") ∈ lwg := mw 259 (by decide +kernel) rfl
theorem w_254 : (Cond.fieldLink "SnapStacks" (40 : Nat) "SnapStacks" "stacks" "LSnapStacks$StackFinder;") ∈ lwg := mw 260 (by decide +kernel) rfl
theorem w_255 : (Cond.fieldLink "SnapStacks" (44 : Nat) "SnapStacks" "loopIsSought" "Z") ∈ lwg := mw 261 (by decide +kernel) rfl
theorem w_269 : (Cond.methodLink "SnapStacksLaw" (13 : Nat) ({ cls := "SnapStacks", name := "count", desc := "(I)I" } : MethodName)) ∈ lwg := mw 275 (by decide +kernel) rfl
theorem w_270 : (Cond.instanceMethod ({ cls := "SnapStacks", name := "count", desc := "(I)I" } : MethodName)) ∈ lwg := mw 276 (by decide +kernel) rfl
theorem w_271 : (Cond.selects "SnapStacks" ({ cls := "SnapStacks", name := "count", desc := "(I)I" } : MethodName) ({ cls := "SnapStacks", name := "count", desc := "(I)I" } : MethodName)) ∈ lwg := mw 277 (by decide +kernel) rfl
theorem w_272 : (Cond.code ({ cls := "SnapStacks", name := "count", desc := "(I)I" } : MethodName) prog_1_method_16_code (2 : Nat) (Option.some ClassFile.FieldType.int)) ∈ lwg := mw 278 (by decide +kernel) rfl
theorem w_273 : (Cond.methodLink "SnapStacks" (190 : Nat) ({ cls := "SnapStacks$State", name := "snaps", desc := "()I" } : MethodName)) ∈ lwg := mw 279 (by decide +kernel) rfl
theorem w_274 : (Cond.instanceMethod ({ cls := "SnapStacks$State", name := "snaps", desc := "()I" } : MethodName)) ∈ lwg := mw 280 (by decide +kernel) rfl
theorem w_275 : (Cond.selects "SnapStacks$State" ({ cls := "SnapStacks$State", name := "snaps", desc := "()I" } : MethodName) ({ cls := "SnapStacks$State", name := "snaps", desc := "()I" } : MethodName)) ∈ lwg := mw 281 (by decide +kernel) rfl
theorem w_276 : (Cond.code ({ cls := "SnapStacks$State", name := "snaps", desc := "()I" } : MethodName) prog_6_method_5_code (3 : Nat) (Option.some ClassFile.FieldType.int)) ∈ lwg := mw 282 (by decide +kernel) rfl
theorem w_277 : (Cond.methodLink "SnapStacks" (198 : Nat) ({ cls := "SnapStacks", name := "numberOfMetal", desc := "(I)I" } : MethodName)) ∈ lwg := mw 283 (by decide +kernel) rfl
theorem w_279 : (Cond.instanceMethod ({ cls := "SnapStacks", name := "numberOfMetal", desc := "(I)I" } : MethodName)) ∈ lwg := mw 285 (by decide +kernel) rfl
theorem w_280 : (Cond.code ({ cls := "SnapStacks", name := "numberOfMetal", desc := "(I)I" } : MethodName) prog_1_method_27_code (2 : Nat) (Option.some ClassFile.FieldType.int)) ∈ lwg := mw 286 (by decide +kernel) rfl
theorem w_281 : (Cond.methodLink "SnapStacks" (48 : Nat) ({ cls := "SnapStacks", name := "isWithin", desc := "(III)Z" } : MethodName)) ∈ lwg := mw 287 (by decide +kernel) rfl
theorem w_282 : (Cond.static ({ cls := "SnapStacks", name := "isWithin", desc := "(III)Z" } : MethodName)) ∈ lwg := mw 288 (by decide +kernel) rfl
theorem w_283 : (Cond.code ({ cls := "SnapStacks", name := "isWithin", desc := "(III)Z" } : MethodName) prog_1_method_28_code (3 : Nat) (Option.some ClassFile.FieldType.boolean)) ∈ lwg := mw 289 (by decide +kernel) rfl
theorem w_284 : (Cond.constant "SnapStacks" (52 : Nat) (-10000001 : Int32)) ∈ lwg := mw 290 (by decide +kernel) rfl
theorem w_285 : (Cond.methodLink "SnapStacksLaw" (106 : Nat) ({ cls := "SnapStacks", name := "undo", desc := "()I" } : MethodName)) ∈ lwg := mw 291 (by decide +kernel) rfl
theorem w_286 : (Cond.instanceMethod ({ cls := "SnapStacks", name := "undo", desc := "()I" } : MethodName)) ∈ lwg := mw 292 (by decide +kernel) rfl
theorem w_287 : (Cond.selects "SnapStacks" ({ cls := "SnapStacks", name := "undo", desc := "()I" } : MethodName) ({ cls := "SnapStacks", name := "undo", desc := "()I" } : MethodName)) ∈ lwg := mw 293 (by decide +kernel) rfl
theorem w_288 : (Cond.code ({ cls := "SnapStacks", name := "undo", desc := "()I" } : MethodName) prog_1_method_21_code (1 : Nat) (Option.some ClassFile.FieldType.int)) ∈ lwg := mw 294 (by decide +kernel) rfl
theorem w_289 : (Cond.constant "SnapStacks" (79 : Nat) (-10000002 : Int32)) ∈ lwg := mw 295 (by decide +kernel) rfl
theorem w_290 : (Cond.methodLink "SnapStacks" (236 : Nat) ({ cls := "SnapStacks$History", name := "giveBack", desc := "(LSnapStacks$State;)V" } : MethodName)) ∈ lwg := mw 296 (by decide +kernel) rfl
theorem w_291 : (Cond.instanceMethod ({ cls := "SnapStacks$History", name := "giveBack", desc := "(LSnapStacks$State;)V" } : MethodName)) ∈ lwg := mw 297 (by decide +kernel) rfl
theorem w_292 : (Cond.selects "SnapStacks$History" ({ cls := "SnapStacks$History", name := "giveBack", desc := "(LSnapStacks$State;)V" } : MethodName) ({ cls := "SnapStacks$History", name := "giveBack", desc := "(LSnapStacks$State;)V" } : MethodName)) ∈ lwg := mw 298 (by decide +kernel) rfl
theorem w_293 : (Cond.code ({ cls := "SnapStacks$History", name := "giveBack", desc := "(LSnapStacks$State;)V" } : MethodName) prog_2_method_3_code (2 : Nat) (Option.none : Option ClassFile.FieldType)) ∈ lwg := mw 299 (by decide +kernel) rfl
theorem w_294 : (Cond.methodLink "SnapStacks$History" (23 : Nat) ({ cls := "SnapStacks$State", name := "copyFrom", desc := "(LSnapStacks$State;)V" } : MethodName)) ∈ lwg := mw 300 (by decide +kernel) rfl
theorem w_295 : (Cond.instanceMethod ({ cls := "SnapStacks$State", name := "copyFrom", desc := "(LSnapStacks$State;)V" } : MethodName)) ∈ lwg := mw 301 (by decide +kernel) rfl
theorem w_296 : (Cond.selects "SnapStacks$State" ({ cls := "SnapStacks$State", name := "copyFrom", desc := "(LSnapStacks$State;)V" } : MethodName) ({ cls := "SnapStacks$State", name := "copyFrom", desc := "(LSnapStacks$State;)V" } : MethodName)) ∈ lwg := mw 302 (by decide +kernel) rfl
theorem w_297 : (Cond.code ({ cls := "SnapStacks$State", name := "copyFrom", desc := "(LSnapStacks$State;)V" } : MethodName) prog_6_method_2_code (3 : Nat) (Option.none : Option ClassFile.FieldType)) ∈ lwg := mw 303 (by decide +kernel) rfl
theorem w_298 : (Cond.methodLink "SnapStacks$State" (42 : Nat) ({ cls := "java/lang/System", name := "arraycopy", desc := "(Ljava/lang/Object;ILjava/lang/Object;II)V" } : MethodName)) ∈ lwg := mw 304 (by decide +kernel) rfl
theorem w_299 : (Cond.static ({ cls := "java/lang/System", name := "arraycopy", desc := "(Ljava/lang/Object;ILjava/lang/Object;II)V" } : MethodName)) ∈ lwg := mw 305 (by decide +kernel) rfl
theorem w_300 : (Cond.native ({ cls := "java/lang/System", name := "arraycopy", desc := "(Ljava/lang/Object;ILjava/lang/Object;II)V" } : MethodName)) ∈ lwg := mw 306 (by decide +kernel) rfl
theorem w_301 : (Cond.methodLink "SnapStacks$State" (48 : Nat) ({ cls := "SnapStacks$Strip", name := "copyFrom", desc := "(LSnapStacks$Strip;)V" } : MethodName)) ∈ lwg := mw 307 (by decide +kernel) rfl
theorem w_302 : (Cond.instanceMethod ({ cls := "SnapStacks$Strip", name := "copyFrom", desc := "(LSnapStacks$Strip;)V" } : MethodName)) ∈ lwg := mw 308 (by decide +kernel) rfl
theorem w_303 : (Cond.selects "SnapStacks$Strip" ({ cls := "SnapStacks$Strip", name := "copyFrom", desc := "(LSnapStacks$Strip;)V" } : MethodName) ({ cls := "SnapStacks$Strip", name := "copyFrom", desc := "(LSnapStacks$Strip;)V" } : MethodName)) ∈ lwg := mw 309 (by decide +kernel) rfl
theorem w_304 : (Cond.code ({ cls := "SnapStacks$Strip", name := "copyFrom", desc := "(LSnapStacks$Strip;)V" } : MethodName) prog_7_method_2_code (2 : Nat) (Option.none : Option ClassFile.FieldType)) ∈ lwg := mw 310 (by decide +kernel) rfl
theorem w_305 : (Cond.methodLink "SnapStacks$Strip" (28 : Nat) ({ cls := "java/lang/System", name := "arraycopy", desc := "(Ljava/lang/Object;ILjava/lang/Object;II)V" } : MethodName)) ∈ lwg := mw 311 (by decide +kernel) rfl
theorem w_306 : (Cond.methodLink "SnapStacks$State" (52 : Nat) ({ cls := "SnapStacks$Room", name := "copyFrom", desc := "(LSnapStacks$Room;)V" } : MethodName)) ∈ lwg := mw 312 (by decide +kernel) rfl
theorem w_307 : (Cond.instanceMethod ({ cls := "SnapStacks$Room", name := "copyFrom", desc := "(LSnapStacks$Room;)V" } : MethodName)) ∈ lwg := mw 313 (by decide +kernel) rfl
theorem w_308 : (Cond.selects "SnapStacks$Room" ({ cls := "SnapStacks$Room", name := "copyFrom", desc := "(LSnapStacks$Room;)V" } : MethodName) ({ cls := "SnapStacks$Room", name := "copyFrom", desc := "(LSnapStacks$Room;)V" } : MethodName)) ∈ lwg := mw 314 (by decide +kernel) rfl
theorem w_309 : (Cond.code ({ cls := "SnapStacks$Room", name := "copyFrom", desc := "(LSnapStacks$Room;)V" } : MethodName) prog_4_method_2_code (2 : Nat) (Option.none : Option ClassFile.FieldType)) ∈ lwg := mw 315 (by decide +kernel) rfl
theorem w_310 : (Cond.methodLink "SnapStacksLaw" (109 : Nat) ({ cls := "SnapStacksLaw", name := "lot", desc := "([II)I" } : MethodName)) ∈ lwg := mw 316 (by decide +kernel) rfl
theorem w_311 : (Cond.static ({ cls := "SnapStacksLaw", name := "lot", desc := "([II)I" } : MethodName)) ∈ lwg := mw 317 (by decide +kernel) rfl
theorem w_313 : (Cond.constant "SnapStacksLaw" (7 : Nat) (-976231063 : Int32)) ∈ lwg := mw 319 (by decide +kernel) rfl
theorem w_314 : (Cond.methodLink "SnapStacksLaw" (30 : Nat) ({ cls := "SnapStacksLaw", name := "low", desc := "(II)I" } : MethodName)) ∈ lwg := mw 320 (by decide +kernel) rfl
theorem w_315 : (Cond.static ({ cls := "SnapStacksLaw", name := "low", desc := "(II)I" } : MethodName)) ∈ lwg := mw 321 (by decide +kernel) rfl
theorem w_317 : (Cond.constant "SnapStacksLaw" (8 : Nat) (2147483647 : Int32)) ∈ lwg := mw 323 (by decide +kernel) rfl
theorem w_318 : (Cond.methodLink "SnapStacksLaw" (113 : Nat) ({ cls := "SnapStacksLaw", name := "digest", desc := "(LSnapStacks;)J" } : MethodName)) ∈ lwg := mw 324 (by decide +kernel) rfl
theorem w_319 : (Cond.static ({ cls := "SnapStacksLaw", name := "digest", desc := "(LSnapStacks;)J" } : MethodName)) ∈ lwg := mw 325 (by decide +kernel) rfl
theorem w_321 : (Cond.constantLong "SnapStacksLaw" (9 : Nat) (53 : Int64)) ∈ lwg := mw 327 (by decide +kernel) rfl
theorem w_322 : (Cond.constantLong "SnapStacksLaw" (11 : Nat) (31 : Int64)) ∈ lwg := mw 328 (by decide +kernel) rfl
theorem w_323 : (Cond.methodLink "SnapStacksLaw" (19 : Nat) ({ cls := "SnapStacks", name := "stripOf", desc := "(II)I" } : MethodName)) ∈ lwg := mw 329 (by decide +kernel) rfl
theorem w_324 : (Cond.instanceMethod ({ cls := "SnapStacks", name := "stripOf", desc := "(II)I" } : MethodName)) ∈ lwg := mw 330 (by decide +kernel) rfl
theorem w_325 : (Cond.selects "SnapStacks" ({ cls := "SnapStacks", name := "stripOf", desc := "(II)I" } : MethodName) ({ cls := "SnapStacks", name := "stripOf", desc := "(II)I" } : MethodName)) ∈ lwg := mw 331 (by decide +kernel) rfl
theorem w_326 : (Cond.code ({ cls := "SnapStacks", name := "stripOf", desc := "(II)I" } : MethodName) prog_1_method_13_code (4 : Nat) (Option.some ClassFile.FieldType.int)) ∈ lwg := mw 332 (by decide +kernel) rfl
theorem w_327 : (Cond.methodLink "SnapStacks" (60 : Nat) ({ cls := "SnapStacks", name := "isRoom", desc := "(I)Z" } : MethodName)) ∈ lwg := mw 333 (by decide +kernel) rfl
theorem w_328 : (Cond.static ({ cls := "SnapStacks", name := "isRoom", desc := "(I)Z" } : MethodName)) ∈ lwg := mw 334 (by decide +kernel) rfl
theorem w_329 : (Cond.code ({ cls := "SnapStacks", name := "isRoom", desc := "(I)Z" } : MethodName) prog_1_method_29_code (1 : Nat) (Option.some ClassFile.FieldType.boolean)) ∈ lwg := mw 335 (by decide +kernel) rfl
theorem w_330 : (Cond.methodLink "SnapStacks" (148 : Nat) ({ cls := "SnapStacks$Strip", name := "wholeLength", desc := "()I" } : MethodName)) ∈ lwg := mw 336 (by decide +kernel) rfl
theorem w_331 : (Cond.instanceMethod ({ cls := "SnapStacks$Strip", name := "wholeLength", desc := "()I" } : MethodName)) ∈ lwg := mw 337 (by decide +kernel) rfl
theorem w_332 : (Cond.selects "SnapStacks$Strip" ({ cls := "SnapStacks$Strip", name := "wholeLength", desc := "()I" } : MethodName) ({ cls := "SnapStacks$Strip", name := "wholeLength", desc := "()I" } : MethodName)) ∈ lwg := mw 338 (by decide +kernel) rfl
theorem w_333 : (Cond.code ({ cls := "SnapStacks$Strip", name := "wholeLength", desc := "()I" } : MethodName) prog_7_method_4_code (3 : Nat) (Option.some ClassFile.FieldType.int)) ∈ lwg := mw 339 (by decide +kernel) rfl
theorem w_334 : (Cond.methodLink "SnapStacks" (151 : Nat) ({ cls := "SnapStacks$Strip", name := "rate", desc := "([I)I" } : MethodName)) ∈ lwg := mw 340 (by decide +kernel) rfl
theorem w_335 : (Cond.instanceMethod ({ cls := "SnapStacks$Strip", name := "rate", desc := "([I)I" } : MethodName)) ∈ lwg := mw 341 (by decide +kernel) rfl
theorem w_336 : (Cond.selects "SnapStacks$Strip" ({ cls := "SnapStacks$Strip", name := "rate", desc := "([I)I" } : MethodName) ({ cls := "SnapStacks$Strip", name := "rate", desc := "([I)I" } : MethodName)) ∈ lwg := mw 342 (by decide +kernel) rfl
theorem w_337 : (Cond.code ({ cls := "SnapStacks$Strip", name := "rate", desc := "([I)I" } : MethodName) prog_7_method_6_code (4 : Nat) (Option.some ClassFile.FieldType.int)) ∈ lwg := mw 343 (by decide +kernel) rfl
theorem w_338 : (Cond.methodLink "SnapStacks$Strip" (53 : Nat) ({ cls := "SnapStacks$Strip", name := "partRate", desc := "(I[I)I" } : MethodName)) ∈ lwg := mw 344 (by decide +kernel) rfl
theorem w_339 : (Cond.instanceMethod ({ cls := "SnapStacks$Strip", name := "partRate", desc := "(I[I)I" } : MethodName)) ∈ lwg := mw 345 (by decide +kernel) rfl
theorem w_340 : (Cond.selects "SnapStacks$Strip" ({ cls := "SnapStacks$Strip", name := "partRate", desc := "(I[I)I" } : MethodName) ({ cls := "SnapStacks$Strip", name := "partRate", desc := "(I[I)I" } : MethodName)) ∈ lwg := mw 346 (by decide +kernel) rfl
theorem w_341 : (Cond.code ({ cls := "SnapStacks$Strip", name := "partRate", desc := "(I[I)I" } : MethodName) prog_7_method_5_code (3 : Nat) (Option.some ClassFile.FieldType.int)) ∈ lwg := mw 347 (by decide +kernel) rfl
theorem w_342 : (Cond.methodLink "SnapStacks" (92 : Nat) ({ cls := "SnapStacks$State", name := "bendInRoom", desc := "(I)I" } : MethodName)) ∈ lwg := mw 348 (by decide +kernel) rfl
theorem w_343 : (Cond.instanceMethod ({ cls := "SnapStacks$State", name := "bendInRoom", desc := "(I)I" } : MethodName)) ∈ lwg := mw 349 (by decide +kernel) rfl
theorem w_344 : (Cond.selects "SnapStacks$State" ({ cls := "SnapStacks$State", name := "bendInRoom", desc := "(I)I" } : MethodName) ({ cls := "SnapStacks$State", name := "bendInRoom", desc := "(I)I" } : MethodName)) ∈ lwg := mw 350 (by decide +kernel) rfl
theorem w_345 : (Cond.code ({ cls := "SnapStacks$State", name := "bendInRoom", desc := "(I)I" } : MethodName) prog_6_method_3_code (2 : Nat) (Option.some ClassFile.FieldType.int)) ∈ lwg := mw 351 (by decide +kernel) rfl
theorem w_346 : (Cond.methodLink "SnapStacks$State" (58 : Nat) ({ cls := "SnapStacks$Strip", name := "rate", desc := "([I)I" } : MethodName)) ∈ lwg := mw 352 (by decide +kernel) rfl
theorem w_348 : (Cond.static ({ cls := "SnapStacks", name := "bendAt", desc := "(II)I" } : MethodName)) ∈ lwg := mw 354 (by decide +kernel) rfl
theorem w_349 : (Cond.code ({ cls := "SnapStacks", name := "bendAt", desc := "(II)I" } : MethodName) prog_1_method_33_code (2 : Nat) (Option.some ClassFile.FieldType.int)) ∈ lwg := mw 355 (by decide +kernel) rfl
theorem w_350 : (Cond.methodLink "SnapStacks" (103 : Nat) ({ cls := "SnapStacks", name := "oneIf", desc := "(Z)I" } : MethodName)) ∈ lwg := mw 356 (by decide +kernel) rfl
theorem w_351 : (Cond.static ({ cls := "SnapStacks", name := "oneIf", desc := "(Z)I" } : MethodName)) ∈ lwg := mw 357 (by decide +kernel) rfl
theorem w_352 : (Cond.code ({ cls := "SnapStacks", name := "oneIf", desc := "(Z)I" } : MethodName) prog_1_method_32_code (1 : Nat) (Option.some ClassFile.FieldType.int)) ∈ lwg := mw 358 (by decide +kernel) rfl
theorem w_353 : (Cond.methodLink "SnapStacks" (99 : Nat) ({ cls := "SnapStacks$Strip", name := "isClosed", desc := "()Z" } : MethodName)) ∈ lwg := mw 359 (by decide +kernel) rfl
theorem w_354 : (Cond.instanceMethod ({ cls := "SnapStacks$Strip", name := "isClosed", desc := "()Z" } : MethodName)) ∈ lwg := mw 360 (by decide +kernel) rfl
theorem w_355 : (Cond.selects "SnapStacks$Strip" ({ cls := "SnapStacks$Strip", name := "isClosed", desc := "()Z" } : MethodName) ({ cls := "SnapStacks$Strip", name := "isClosed", desc := "()Z" } : MethodName)) ∈ lwg := mw 361 (by decide +kernel) rfl
theorem w_356 : (Cond.code ({ cls := "SnapStacks$Strip", name := "isClosed", desc := "()Z" } : MethodName) prog_7_method_7_code (1 : Nat) (Option.some ClassFile.FieldType.boolean)) ∈ lwg := mw 362 (by decide +kernel) rfl
theorem w_357 : (Cond.methodLink "SnapStacksLaw" (23 : Nat) ({ cls := "SnapStacks", name := "roomOf", desc := "(II)I" } : MethodName)) ∈ lwg := mw 363 (by decide +kernel) rfl
theorem w_358 : (Cond.instanceMethod ({ cls := "SnapStacks", name := "roomOf", desc := "(II)I" } : MethodName)) ∈ lwg := mw 364 (by decide +kernel) rfl
theorem w_359 : (Cond.selects "SnapStacks" ({ cls := "SnapStacks", name := "roomOf", desc := "(II)I" } : MethodName) ({ cls := "SnapStacks", name := "roomOf", desc := "(II)I" } : MethodName)) ∈ lwg := mw 365 (by decide +kernel) rfl
theorem w_360 : (Cond.code ({ cls := "SnapStacks", name := "roomOf", desc := "(II)I" } : MethodName) prog_1_method_15_code (4 : Nat) (Option.some ClassFile.FieldType.int)) ∈ lwg := mw 366 (by decide +kernel) rfl
theorem w_361 : (Cond.constant "SnapStacks" (164 : Nat) (-10000004 : Int32)) ∈ lwg := mw 367 (by decide +kernel) rfl
theorem w_362 : (Cond.methodLink "SnapStacksLaw" (26 : Nat) ({ cls := "SnapStacks", name := "partOf", desc := "(III)I" } : MethodName)) ∈ lwg := mw 368 (by decide +kernel) rfl
theorem w_363 : (Cond.instanceMethod ({ cls := "SnapStacks", name := "partOf", desc := "(III)I" } : MethodName)) ∈ lwg := mw 369 (by decide +kernel) rfl
theorem w_364 : (Cond.selects "SnapStacks" ({ cls := "SnapStacks", name := "partOf", desc := "(III)I" } : MethodName) ({ cls := "SnapStacks", name := "partOf", desc := "(III)I" } : MethodName)) ∈ lwg := mw 370 (by decide +kernel) rfl
theorem w_365 : (Cond.code ({ cls := "SnapStacks", name := "partOf", desc := "(III)I" } : MethodName) prog_1_method_14_code (5 : Nat) (Option.some ClassFile.FieldType.int)) ∈ lwg := mw 371 (by decide +kernel) rfl
theorem w_366 : (Cond.methodLink "SnapStacks" (174 : Nat) ({ cls := "SnapStacks$Strip", name := "partRate", desc := "(I[I)I" } : MethodName)) ∈ lwg := mw 372 (by decide +kernel) rfl
theorem w_367 : (Cond.methodLink "SnapStacksLaw" (103 : Nat) ({ cls := "SnapStacksLaw", name := "holds", desc := "(LSnapStacks;I)Z" } : MethodName)) ∈ lwg := mw 373 (by decide +kernel) rfl
theorem w_368 : (Cond.static ({ cls := "SnapStacksLaw", name := "holds", desc := "(LSnapStacks;I)Z" } : MethodName)) ∈ lwg := mw 374 (by decide +kernel) rfl
theorem w_370 : (Cond.methodLink "SnapStacksLaw" (35 : Nat) ({ cls := "SnapStacks", name := "tripsAt", desc := "(II)I" } : MethodName)) ∈ lwg := mw 376 (by decide +kernel) rfl
theorem w_371 : (Cond.instanceMethod ({ cls := "SnapStacks", name := "tripsAt", desc := "(II)I" } : MethodName)) ∈ lwg := mw 377 (by decide +kernel) rfl
theorem w_372 : (Cond.selects "SnapStacks" ({ cls := "SnapStacks", name := "tripsAt", desc := "(II)I" } : MethodName) ({ cls := "SnapStacks", name := "tripsAt", desc := "(II)I" } : MethodName)) ∈ lwg := mw 378 (by decide +kernel) rfl
theorem w_373 : (Cond.code ({ cls := "SnapStacks", name := "tripsAt", desc := "(II)I" } : MethodName) prog_1_method_18_code (5 : Nat) (Option.some ClassFile.FieldType.int)) ∈ lwg := mw 379 (by decide +kernel) rfl
theorem w_374 : (Cond.methodLink "SnapStacks" (205 : Nat) ({ cls := "SnapStacks", name := "leastPulledUp", desc := "(II)I" } : MethodName)) ∈ lwg := mw 380 (by decide +kernel) rfl
theorem w_375 : (Cond.static ({ cls := "SnapStacks", name := "leastPulledUp", desc := "(II)I" } : MethodName)) ∈ lwg := mw 381 (by decide +kernel) rfl
theorem w_376 : (Cond.code ({ cls := "SnapStacks", name := "leastPulledUp", desc := "(II)I" } : MethodName) prog_1_method_34_code (3 : Nat) (Option.some ClassFile.FieldType.int)) ∈ lwg := mw 382 (by decide +kernel) rfl
theorem w_377 : (Cond.methodLink "SnapStacks" (201 : Nat) ({ cls := "SnapStacks", name := "bendAt", desc := "(II)I" } : MethodName)) ∈ lwg := mw 383 (by decide +kernel) rfl
theorem w_378 : (Cond.methodLink "SnapStacks" (263 : Nat) ({ cls := "java/lang/Math", name := "floorDiv", desc := "(II)I" } : MethodName)) ∈ lwg := mw 384 (by decide +kernel) rfl
theorem w_379 : (Cond.static ({ cls := "java/lang/Math", name := "floorDiv", desc := "(II)I" } : MethodName)) ∈ lwg := mw 385 (by decide +kernel) rfl
theorem w_380 : (Cond.code ({ cls := "java/lang/Math", name := "floorDiv", desc := "(II)I" } : MethodName) prog_11_method_47_code (3 : Nat) (Option.some ClassFile.FieldType.int)) ∈ lwg := mw 386 (by decide +kernel) rfl
theorem w_381 : (Cond.methodLink "SnapStacks" (268 : Nat) ({ cls := "java/lang/Math", name := "max", desc := "(II)I" } : MethodName)) ∈ lwg := mw 387 (by decide +kernel) rfl
theorem w_382 : (Cond.static ({ cls := "java/lang/Math", name := "max", desc := "(II)I" } : MethodName)) ∈ lwg := mw 388 (by decide +kernel) rfl
theorem w_383 : (Cond.code ({ cls := "java/lang/Math", name := "max", desc := "(II)I" } : MethodName) prog_11_method_65_code (2 : Nat) (Option.some ClassFile.FieldType.int)) ∈ lwg := mw 389 (by decide +kernel) rfl
theorem w_384 : (Cond.methodLink "SnapStacks" (208 : Nat) ({ cls := "SnapStacks", name := "greatestPulledBack", desc := "(II)I" } : MethodName)) ∈ lwg := mw 390 (by decide +kernel) rfl
theorem w_385 : (Cond.static ({ cls := "SnapStacks", name := "greatestPulledBack", desc := "(II)I" } : MethodName)) ∈ lwg := mw 391 (by decide +kernel) rfl
theorem w_386 : (Cond.code ({ cls := "SnapStacks", name := "greatestPulledBack", desc := "(II)I" } : MethodName) prog_1_method_35_code (3 : Nat) (Option.some ClassFile.FieldType.int)) ∈ lwg := mw 392 (by decide +kernel) rfl
theorem w_387 : (Cond.methodLink "SnapStacks" (271 : Nat) ({ cls := "java/lang/Math", name := "min", desc := "(II)I" } : MethodName)) ∈ lwg := mw 393 (by decide +kernel) rfl
theorem w_388 : (Cond.static ({ cls := "java/lang/Math", name := "min", desc := "(II)I" } : MethodName)) ∈ lwg := mw 394 (by decide +kernel) rfl
theorem w_389 : (Cond.code ({ cls := "java/lang/Math", name := "min", desc := "(II)I" } : MethodName) prog_11_method_69_code (2 : Nat) (Option.some ClassFile.FieldType.int)) ∈ lwg := mw 395 (by decide +kernel) rfl
theorem w_390 : (Cond.constant "SnapStacksLaw" (38 : Nat) (-10000004 : Int32)) ∈ lwg := mw 396 (by decide +kernel) rfl
theorem w_391 : (Cond.methodLink "SnapStacksLaw" (39 : Nat) ({ cls := "SnapStacks", name := "bend", desc := "(II)I" } : MethodName)) ∈ lwg := mw 397 (by decide +kernel) rfl
theorem w_392 : (Cond.instanceMethod ({ cls := "SnapStacks", name := "bend", desc := "(II)I" } : MethodName)) ∈ lwg := mw 398 (by decide +kernel) rfl
theorem w_393 : (Cond.selects "SnapStacks" ({ cls := "SnapStacks", name := "bend", desc := "(II)I" } : MethodName) ({ cls := "SnapStacks", name := "bend", desc := "(II)I" } : MethodName)) ∈ lwg := mw 399 (by decide +kernel) rfl
theorem w_394 : (Cond.code ({ cls := "SnapStacks", name := "bend", desc := "(II)I" } : MethodName) prog_1_method_17_code (3 : Nat) (Option.some ClassFile.FieldType.int)) ∈ lwg := mw 400 (by decide +kernel) rfl
theorem w_395 : (Cond.methodLink "SnapStacks" (119 : Nat) ({ cls := "SnapStacks", name := "isWarmth", desc := "(I)Z" } : MethodName)) ∈ lwg := mw 401 (by decide +kernel) rfl
theorem w_396 : (Cond.static ({ cls := "SnapStacks", name := "isWarmth", desc := "(I)Z" } : MethodName)) ∈ lwg := mw 402 (by decide +kernel) rfl
theorem w_397 : (Cond.code ({ cls := "SnapStacks", name := "isWarmth", desc := "(I)Z" } : MethodName) prog_1_method_30_code (1 : Nat) (Option.some ClassFile.FieldType.boolean)) ∈ lwg := mw 403 (by decide +kernel) rfl
theorem w_398 : (Cond.methodLink "SnapStacksLaw" (42 : Nat) ({ cls := "SnapStacks", name := "loop", desc := "(I)I" } : MethodName)) ∈ lwg := mw 404 (by decide +kernel) rfl
theorem w_399 : (Cond.instanceMethod ({ cls := "SnapStacks", name := "loop", desc := "(I)I" } : MethodName)) ∈ lwg := mw 405 (by decide +kernel) rfl
theorem w_400 : (Cond.selects "SnapStacks" ({ cls := "SnapStacks", name := "loop", desc := "(I)I" } : MethodName) ({ cls := "SnapStacks", name := "loop", desc := "(I)I" } : MethodName)) ∈ lwg := mw 406 (by decide +kernel) rfl
theorem w_401 : (Cond.code ({ cls := "SnapStacks", name := "loop", desc := "(I)I" } : MethodName) prog_1_method_19_code (2 : Nat) (Option.some ClassFile.FieldType.int)) ∈ lwg := mw 407 (by decide +kernel) rfl
theorem w_402 : (Cond.methodLink "SnapStacks" (211 : Nat) ({ cls := "SnapStacks$LoopFinder", name := "seek", desc := "(LSnapStacks$State;)V" } : MethodName)) ∈ lwg := mw 408 (by decide +kernel) rfl
theorem w_403 : (Cond.instanceMethod ({ cls := "SnapStacks$LoopFinder", name := "seek", desc := "(LSnapStacks$State;)V" } : MethodName)) ∈ lwg := mw 409 (by decide +kernel) rfl
theorem w_404 : (Cond.selects "SnapStacks$LoopFinder" ({ cls := "SnapStacks$LoopFinder", name := "seek", desc := "(LSnapStacks$State;)V" } : MethodName) ({ cls := "SnapStacks$LoopFinder", name := "seek", desc := "(LSnapStacks$State;)V" } : MethodName)) ∈ lwg := mw 410 (by decide +kernel) rfl
theorem w_405 : (Cond.code ({ cls := "SnapStacks$LoopFinder", name := "seek", desc := "(LSnapStacks$State;)V" } : MethodName) prog_3_method_2_code (4 : Nat) (Option.none : Option ClassFile.FieldType)) ∈ lwg := mw 411 (by decide +kernel) rfl
theorem w_406 : (Cond.methodLink "SnapStacks$LoopFinder" (29 : Nat) ({ cls := "SnapStacks$State", name := "copyFrom", desc := "(LSnapStacks$State;)V" } : MethodName)) ∈ lwg := mw 412 (by decide +kernel) rfl
theorem w_407 : (Cond.methodLink "SnapStacks$LoopFinder" (36 : Nat) ({ cls := "SnapStacks$State", name := "sumRates", desc := "()V" } : MethodName)) ∈ lwg := mw 413 (by decide +kernel) rfl
theorem w_408 : (Cond.instanceMethod ({ cls := "SnapStacks$State", name := "sumRates", desc := "()V" } : MethodName)) ∈ lwg := mw 414 (by decide +kernel) rfl
theorem w_409 : (Cond.selects "SnapStacks$State" ({ cls := "SnapStacks$State", name := "sumRates", desc := "()V" } : MethodName) ({ cls := "SnapStacks$State", name := "sumRates", desc := "()V" } : MethodName)) ∈ lwg := mw 415 (by decide +kernel) rfl
theorem w_410 : (Cond.code ({ cls := "SnapStacks$State", name := "sumRates", desc := "()V" } : MethodName) prog_6_method_6_code (2 : Nat) (Option.none : Option ClassFile.FieldType)) ∈ lwg := mw 416 (by decide +kernel) rfl
theorem w_411 : (Cond.methodLink "SnapStacks$LoopFinder" (39 : Nat) ({ cls := "java/util/Arrays", name := "fill", desc := "([II)V" } : MethodName)) ∈ lwg := mw 417 (by decide +kernel) rfl
theorem w_412 : (Cond.static ({ cls := "java/util/Arrays", name := "fill", desc := "([II)V" } : MethodName)) ∈ lwg := mw 418 (by decide +kernel) rfl
theorem w_413 : (Cond.code ({ cls := "java/util/Arrays", name := "fill", desc := "([II)V" } : MethodName) prog_13_method_103_code (4 : Nat) (Option.none : Option ClassFile.FieldType)) ∈ lwg := mw 419 (by decide +kernel) rfl
theorem w_414 : (Cond.methodLink "SnapStacks$LoopFinder" (49 : Nat) ({ cls := "SnapStacks$State", name := "loopKey", desc := "()J" } : MethodName)) ∈ lwg := mw 420 (by decide +kernel) rfl
theorem w_415 : (Cond.instanceMethod ({ cls := "SnapStacks$State", name := "loopKey", desc := "()J" } : MethodName)) ∈ lwg := mw 421 (by decide +kernel) rfl
theorem w_416 : (Cond.selects "SnapStacks$State" ({ cls := "SnapStacks$State", name := "loopKey", desc := "()J" } : MethodName) ({ cls := "SnapStacks$State", name := "loopKey", desc := "()J" } : MethodName)) ∈ lwg := mw 422 (by decide +kernel) rfl
theorem w_417 : (Cond.code ({ cls := "SnapStacks$State", name := "loopKey", desc := "()J" } : MethodName) prog_6_method_10_code (4 : Nat) (Option.some ClassFile.FieldType.long)) ∈ lwg := mw 423 (by decide +kernel) rfl
theorem w_419 : (Cond.methodLink "SnapStacks$LoopFinder" (53 : Nat) ({ cls := "SnapStacks$State", name := "snaps", desc := "()I" } : MethodName)) ∈ lwg := mw 425 (by decide +kernel) rfl
theorem w_420 : (Cond.methodLink "SnapStacks$LoopFinder" (57 : Nat) ({ cls := "SnapStacks$LoopFinder", name := "sameStepOrEnter", desc := "(I)I" } : MethodName)) ∈ lwg := mw 426 (by decide +kernel) rfl
theorem w_422 : (Cond.instanceMethod ({ cls := "SnapStacks$LoopFinder", name := "sameStepOrEnter", desc := "(I)I" } : MethodName)) ∈ lwg := mw 428 (by decide +kernel) rfl
theorem w_423 : (Cond.code ({ cls := "SnapStacks$LoopFinder", name := "sameStepOrEnter", desc := "(I)I" } : MethodName) prog_3_method_3_code (7 : Nat) (Option.some ClassFile.FieldType.int)) ∈ lwg := mw 429 (by decide +kernel) rfl
theorem w_424 : (Cond.constantLong "SnapStacks$LoopFinder" (73 : Nat) (-7046029254386353131 : Int64)) ∈ lwg := mw 430 (by decide +kernel) rfl
theorem w_425 : (Cond.methodLink "SnapStacks$LoopFinder" (70 : Nat) ({ cls := "SnapStacks$State", name := "passTick", desc := "()I" } : MethodName)) ∈ lwg := mw 431 (by decide +kernel) rfl
theorem w_426 : (Cond.instanceMethod ({ cls := "SnapStacks$State", name := "passTick", desc := "()I" } : MethodName)) ∈ lwg := mw 432 (by decide +kernel) rfl
theorem w_427 : (Cond.selects "SnapStacks$State" ({ cls := "SnapStacks$State", name := "passTick", desc := "()I" } : MethodName) ({ cls := "SnapStacks$State", name := "passTick", desc := "()I" } : MethodName)) ∈ lwg := mw 433 (by decide +kernel) rfl
theorem w_428 : (Cond.code ({ cls := "SnapStacks$State", name := "passTick", desc := "()I" } : MethodName) prog_6_method_7_code (3 : Nat) (Option.some ClassFile.FieldType.int)) ∈ lwg := mw 434 (by decide +kernel) rfl
theorem w_429 : (Cond.methodLink "SnapStacks$State" (80 : Nat) ({ cls := "SnapStacks$State", name := "warmthToCome", desc := "(I)I" } : MethodName)) ∈ lwg := mw 435 (by decide +kernel) rfl
theorem w_431 : (Cond.instanceMethod ({ cls := "SnapStacks$State", name := "warmthToCome", desc := "(I)I" } : MethodName)) ∈ lwg := mw 437 (by decide +kernel) rfl
theorem w_432 : (Cond.code ({ cls := "SnapStacks$State", name := "warmthToCome", desc := "(I)I" } : MethodName) prog_6_method_8_code (6 : Nat) (Option.some ClassFile.FieldType.int)) ∈ lwg := mw 438 (by decide +kernel) rfl
theorem w_433 : (Cond.methodLink "SnapStacks$State" (99 : Nat) ({ cls := "SnapStacks$Room", name := "lossTo", desc := "(I)I" } : MethodName)) ∈ lwg := mw 439 (by decide +kernel) rfl
theorem w_434 : (Cond.instanceMethod ({ cls := "SnapStacks$Room", name := "lossTo", desc := "(I)I" } : MethodName)) ∈ lwg := mw 440 (by decide +kernel) rfl
theorem w_435 : (Cond.selects "SnapStacks$Room" ({ cls := "SnapStacks$Room", name := "lossTo", desc := "(I)I" } : MethodName) ({ cls := "SnapStacks$Room", name := "lossTo", desc := "(I)I" } : MethodName)) ∈ lwg := mw 441 (by decide +kernel) rfl
theorem w_436 : (Cond.code ({ cls := "SnapStacks$Room", name := "lossTo", desc := "(I)I" } : MethodName) prog_4_method_3_code (2 : Nat) (Option.some ClassFile.FieldType.int)) ∈ lwg := mw 442 (by decide +kernel) rfl
theorem w_437 : (Cond.methodLink "SnapStacks$State" (87 : Nat) ({ cls := "SnapStacks$Strip", name := "isClosed", desc := "()Z" } : MethodName)) ∈ lwg := mw 443 (by decide +kernel) rfl
theorem w_438 : (Cond.methodLink "SnapStacks$State" (105 : Nat) ({ cls := "SnapStacks$Room", name := "lossTo", desc := "(LSnapStacks$Room;)I" } : MethodName)) ∈ lwg := mw 444 (by decide +kernel) rfl
theorem w_439 : (Cond.instanceMethod ({ cls := "SnapStacks$Room", name := "lossTo", desc := "(LSnapStacks$Room;)I" } : MethodName)) ∈ lwg := mw 445 (by decide +kernel) rfl
theorem w_440 : (Cond.selects "SnapStacks$Room" ({ cls := "SnapStacks$Room", name := "lossTo", desc := "(LSnapStacks$Room;)I" } : MethodName) ({ cls := "SnapStacks$Room", name := "lossTo", desc := "(LSnapStacks$Room;)I" } : MethodName)) ∈ lwg := mw 446 (by decide +kernel) rfl
theorem w_441 : (Cond.code ({ cls := "SnapStacks$Room", name := "lossTo", desc := "(LSnapStacks$Room;)I" } : MethodName) prog_4_method_4_code (2 : Nat) (Option.some ClassFile.FieldType.int)) ∈ lwg := mw 447 (by decide +kernel) rfl
theorem w_442 : (Cond.methodLink "SnapStacks$State" (108 : Nat) ({ cls := "java/lang/Math", name := "min", desc := "(II)I" } : MethodName)) ∈ lwg := mw 448 (by decide +kernel) rfl
theorem w_443 : (Cond.methodLink "SnapStacks$State" (113 : Nat) ({ cls := "java/lang/Math", name := "max", desc := "(II)I" } : MethodName)) ∈ lwg := mw 449 (by decide +kernel) rfl
theorem w_444 : (Cond.methodLink "SnapStacks$State" (91 : Nat) ({ cls := "SnapStacks$Room", name := "come", desc := "(I)V" } : MethodName)) ∈ lwg := mw 450 (by decide +kernel) rfl
theorem w_445 : (Cond.instanceMethod ({ cls := "SnapStacks$Room", name := "come", desc := "(I)V" } : MethodName)) ∈ lwg := mw 451 (by decide +kernel) rfl
theorem w_446 : (Cond.selects "SnapStacks$Room" ({ cls := "SnapStacks$Room", name := "come", desc := "(I)V" } : MethodName) ({ cls := "SnapStacks$Room", name := "come", desc := "(I)V" } : MethodName)) ∈ lwg := mw 452 (by decide +kernel) rfl
theorem w_447 : (Cond.code ({ cls := "SnapStacks$Room", name := "come", desc := "(I)V" } : MethodName) prog_4_method_5_code (2 : Nat) (Option.none : Option ClassFile.FieldType)) ∈ lwg := mw 453 (by decide +kernel) rfl
theorem w_448 : (Cond.methodLink "SnapStacks$Room" (34 : Nat) ({ cls := "java/lang/Math", name := "max", desc := "(II)I" } : MethodName)) ∈ lwg := mw 454 (by decide +kernel) rfl
theorem w_449 : (Cond.methodLink "SnapStacks$Room" (40 : Nat) ({ cls := "java/lang/Math", name := "min", desc := "(II)I" } : MethodName)) ∈ lwg := mw 455 (by decide +kernel) rfl
theorem w_450 : (Cond.methodLink "SnapStacks$State" (95 : Nat) ({ cls := "SnapStacks$State", name := "moveStrip", desc := "(I)Z" } : MethodName)) ∈ lwg := mw 456 (by decide +kernel) rfl
theorem w_452 : (Cond.instanceMethod ({ cls := "SnapStacks$State", name := "moveStrip", desc := "(I)Z" } : MethodName)) ∈ lwg := mw 458 (by decide +kernel) rfl
theorem w_453 : (Cond.code ({ cls := "SnapStacks$State", name := "moveStrip", desc := "(I)Z" } : MethodName) prog_6_method_9_code (3 : Nat) (Option.some ClassFile.FieldType.boolean)) ∈ lwg := mw 459 (by decide +kernel) rfl
theorem w_454 : (Cond.methodLink "SnapStacks$State" (116 : Nat) ({ cls := "SnapStacks$Strip", name := "changesBy", desc := "(I)Z" } : MethodName)) ∈ lwg := mw 460 (by decide +kernel) rfl
theorem w_455 : (Cond.instanceMethod ({ cls := "SnapStacks$Strip", name := "changesBy", desc := "(I)Z" } : MethodName)) ∈ lwg := mw 461 (by decide +kernel) rfl
theorem w_456 : (Cond.selects "SnapStacks$Strip" ({ cls := "SnapStacks$Strip", name := "changesBy", desc := "(I)Z" } : MethodName) ({ cls := "SnapStacks$Strip", name := "changesBy", desc := "(I)Z" } : MethodName)) ∈ lwg := mw 462 (by decide +kernel) rfl
theorem w_457 : (Cond.code ({ cls := "SnapStacks$Strip", name := "changesBy", desc := "(I)Z" } : MethodName) prog_7_method_9_code (2 : Nat) (Option.some ClassFile.FieldType.boolean)) ∈ lwg := mw 463 (by decide +kernel) rfl
theorem w_458 : (Cond.methodLink "SnapStacks$Strip" (57 : Nat) ({ cls := "SnapStacks$Strip", name := "isPulledBy", desc := "(I)Z" } : MethodName)) ∈ lwg := mw 464 (by decide +kernel) rfl
theorem w_459 : (Cond.instanceMethod ({ cls := "SnapStacks$Strip", name := "isPulledBy", desc := "(I)Z" } : MethodName)) ∈ lwg := mw 465 (by decide +kernel) rfl
theorem w_460 : (Cond.selects "SnapStacks$Strip" ({ cls := "SnapStacks$Strip", name := "isPulledBy", desc := "(I)Z" } : MethodName) ({ cls := "SnapStacks$Strip", name := "isPulledBy", desc := "(I)Z" } : MethodName)) ∈ lwg := mw 466 (by decide +kernel) rfl
theorem w_461 : (Cond.code ({ cls := "SnapStacks$Strip", name := "isPulledBy", desc := "(I)Z" } : MethodName) prog_7_method_8_code (2 : Nat) (Option.some ClassFile.FieldType.boolean)) ∈ lwg := mw 467 (by decide +kernel) rfl
theorem w_462 : (Cond.methodLink "SnapStacks$State" (122 : Nat) ({ cls := "SnapStacks$Strip", name := "getTired", desc := "(II)V" } : MethodName)) ∈ lwg := mw 468 (by decide +kernel) rfl
theorem w_463 : (Cond.instanceMethod ({ cls := "SnapStacks$Strip", name := "getTired", desc := "(II)V" } : MethodName)) ∈ lwg := mw 469 (by decide +kernel) rfl
theorem w_464 : (Cond.selects "SnapStacks$Strip" ({ cls := "SnapStacks$Strip", name := "getTired", desc := "(II)V" } : MethodName) ({ cls := "SnapStacks$Strip", name := "getTired", desc := "(II)V" } : MethodName)) ∈ lwg := mw 470 (by decide +kernel) rfl
theorem w_465 : (Cond.code ({ cls := "SnapStacks$Strip", name := "getTired", desc := "(II)V" } : MethodName) prog_7_method_10_code (3 : Nat) (Option.none : Option ClassFile.FieldType)) ∈ lwg := mw 471 (by decide +kernel) rfl
theorem w_466 : (Cond.methodLink "SnapStacksLaw" (117 : Nat) ({ cls := "SnapStacksLaw", name := "acts", desc := "(LSnapStacks;II)Z" } : MethodName)) ∈ lwg := mw 472 (by decide +kernel) rfl
theorem w_467 : (Cond.static ({ cls := "SnapStacksLaw", name := "acts", desc := "(LSnapStacks;II)Z" } : MethodName)) ∈ lwg := mw 473 (by decide +kernel) rfl
theorem w_469 : (Cond.methodLink "SnapStacksLaw" (59 : Nat) ({ cls := "SnapStacks", name := "part", desc := "(IIII)I" } : MethodName)) ∈ lwg := mw 475 (by decide +kernel) rfl
theorem w_470 : (Cond.instanceMethod ({ cls := "SnapStacks", name := "part", desc := "(IIII)I" } : MethodName)) ∈ lwg := mw 476 (by decide +kernel) rfl
theorem w_471 : (Cond.selects "SnapStacks" ({ cls := "SnapStacks", name := "part", desc := "(IIII)I" } : MethodName) ({ cls := "SnapStacks", name := "part", desc := "(IIII)I" } : MethodName)) ∈ lwg := mw 477 (by decide +kernel) rfl
theorem w_472 : (Cond.code ({ cls := "SnapStacks", name := "part", desc := "(IIII)I" } : MethodName) prog_1_method_3_code (6 : Nat) (Option.some ClassFile.FieldType.int)) ∈ lwg := mw 478 (by decide +kernel) rfl
theorem w_473 : (Cond.constant "SnapStacks" (74 : Nat) (-10000003 : Int32)) ∈ lwg := mw 479 (by decide +kernel) rfl
theorem w_474 : (Cond.methodLink "SnapStacks" (53 : Nat) ({ cls := "SnapStacks", name := "recordChange", desc := "()V" } : MethodName)) ∈ lwg := mw 480 (by decide +kernel) rfl
theorem w_476 : (Cond.instanceMethod ({ cls := "SnapStacks", name := "recordChange", desc := "()V" } : MethodName)) ∈ lwg := mw 482 (by decide +kernel) rfl
theorem w_477 : (Cond.code ({ cls := "SnapStacks", name := "recordChange", desc := "()V" } : MethodName) prog_1_method_26_code (1 : Nat) (Option.none : Option ClassFile.FieldType)) ∈ lwg := mw 483 (by decide +kernel) rfl
theorem w_478 : (Cond.methodLink "SnapStacks" (260 : Nat) ({ cls := "SnapStacks$History", name := "take", desc := "(LSnapStacks$State;)V" } : MethodName)) ∈ lwg := mw 484 (by decide +kernel) rfl
theorem w_479 : (Cond.instanceMethod ({ cls := "SnapStacks$History", name := "take", desc := "(LSnapStacks$State;)V" } : MethodName)) ∈ lwg := mw 485 (by decide +kernel) rfl
theorem w_480 : (Cond.selects "SnapStacks$History" ({ cls := "SnapStacks$History", name := "take", desc := "(LSnapStacks$State;)V" } : MethodName) ({ cls := "SnapStacks$History", name := "take", desc := "(LSnapStacks$State;)V" } : MethodName)) ∈ lwg := mw 486 (by decide +kernel) rfl
theorem w_481 : (Cond.code ({ cls := "SnapStacks$History", name := "take", desc := "(LSnapStacks$State;)V" } : MethodName) prog_2_method_2_code (2 : Nat) (Option.none : Option ClassFile.FieldType)) ∈ lwg := mw 487 (by decide +kernel) rfl
theorem w_482 : (Cond.methodLink "SnapStacks" (75 : Nat) ({ cls := "SnapStacks$Strip", name := "addPart", desc := "(III)V" } : MethodName)) ∈ lwg := mw 488 (by decide +kernel) rfl
theorem w_483 : (Cond.instanceMethod ({ cls := "SnapStacks$Strip", name := "addPart", desc := "(III)V" } : MethodName)) ∈ lwg := mw 489 (by decide +kernel) rfl
theorem w_484 : (Cond.selects "SnapStacks$Strip" ({ cls := "SnapStacks$Strip", name := "addPart", desc := "(III)V" } : MethodName) ({ cls := "SnapStacks$Strip", name := "addPart", desc := "(III)V" } : MethodName)) ∈ lwg := mw 490 (by decide +kernel) rfl
theorem w_485 : (Cond.code ({ cls := "SnapStacks$Strip", name := "addPart", desc := "(III)V" } : MethodName) prog_7_method_3_code (4 : Nat) (Option.none : Option ClassFile.FieldType)) ∈ lwg := mw 491 (by decide +kernel) rfl
theorem w_486 : (Cond.constant "SnapStacksLaw" (63 : Nat) (-10000001 : Int32)) ∈ lwg := mw 492 (by decide +kernel) rfl
theorem w_487 : (Cond.constant "SnapStacksLaw" (64 : Nat) (-10000003 : Int32)) ∈ lwg := mw 493 (by decide +kernel) rfl
theorem w_488 : (Cond.methodLink "SnapStacksLaw" (65 : Nat) ({ cls := "SnapStacks", name := "cut", desc := "(II)I" } : MethodName)) ∈ lwg := mw 494 (by decide +kernel) rfl
theorem w_489 : (Cond.instanceMethod ({ cls := "SnapStacks", name := "cut", desc := "(II)I" } : MethodName)) ∈ lwg := mw 495 (by decide +kernel) rfl
theorem w_490 : (Cond.selects "SnapStacks" ({ cls := "SnapStacks", name := "cut", desc := "(II)I" } : MethodName) ({ cls := "SnapStacks", name := "cut", desc := "(II)I" } : MethodName)) ∈ lwg := mw 496 (by decide +kernel) rfl
theorem w_491 : (Cond.code ({ cls := "SnapStacks", name := "cut", desc := "(II)I" } : MethodName) prog_1_method_4_code (4 : Nat) (Option.some ClassFile.FieldType.int)) ∈ lwg := mw 497 (by decide +kernel) rfl
theorem w_492 : (Cond.constant "SnapStacksLaw" (58 : Nat) (-10000002 : Int32)) ∈ lwg := mw 498 (by decide +kernel) rfl
theorem w_493 : (Cond.methodLink "SnapStacksLaw" (68 : Nat) ({ cls := "SnapStacks", name := "metal", desc := "(II)I" } : MethodName)) ∈ lwg := mw 499 (by decide +kernel) rfl
theorem w_494 : (Cond.instanceMethod ({ cls := "SnapStacks", name := "metal", desc := "(II)I" } : MethodName)) ∈ lwg := mw 500 (by decide +kernel) rfl
theorem w_495 : (Cond.selects "SnapStacks" ({ cls := "SnapStacks", name := "metal", desc := "(II)I" } : MethodName) ({ cls := "SnapStacks", name := "metal", desc := "(II)I" } : MethodName)) ∈ lwg := mw 501 (by decide +kernel) rfl
theorem w_496 : (Cond.code ({ cls := "SnapStacks", name := "metal", desc := "(II)I" } : MethodName) prog_1_method_2_code (4 : Nat) (Option.some ClassFile.FieldType.int)) ∈ lwg := mw 502 (by decide +kernel) rfl
theorem w_497 : (Cond.methodLink "SnapStacksLaw" (71 : Nat) ({ cls := "SnapStacks", name := "bounds", desc := "(IIII)I" } : MethodName)) ∈ lwg := mw 503 (by decide +kernel) rfl
theorem w_498 : (Cond.instanceMethod ({ cls := "SnapStacks", name := "bounds", desc := "(IIII)I" } : MethodName)) ∈ lwg := mw 504 (by decide +kernel) rfl
theorem w_499 : (Cond.selects "SnapStacks" ({ cls := "SnapStacks", name := "bounds", desc := "(IIII)I" } : MethodName) ({ cls := "SnapStacks", name := "bounds", desc := "(IIII)I" } : MethodName)) ∈ lwg := mw 505 (by decide +kernel) rfl
theorem w_500 : (Cond.code ({ cls := "SnapStacks", name := "bounds", desc := "(IIII)I" } : MethodName) prog_1_method_5_code (6 : Nat) (Option.some ClassFile.FieldType.int)) ∈ lwg := mw 506 (by decide +kernel) rfl
theorem w_501 : (Cond.constant "SnapStacks" (80 : Nat) (-90000 : Int32)) ∈ lwg := mw 507 (by decide +kernel) rfl
theorem w_502 : (Cond.constant "SnapStacks" (81 : Nat) (89999 : Int32)) ∈ lwg := mw 508 (by decide +kernel) rfl
theorem w_503 : (Cond.constant "SnapStacks" (82 : Nat) (90000 : Int32)) ∈ lwg := mw 509 (by decide +kernel) rfl
theorem w_504 : (Cond.methodLink "SnapStacksLaw" (74 : Nat) ({ cls := "SnapStacks", name := "contact", desc := "(II)I" } : MethodName)) ∈ lwg := mw 510 (by decide +kernel) rfl
theorem w_505 : (Cond.instanceMethod ({ cls := "SnapStacks", name := "contact", desc := "(II)I" } : MethodName)) ∈ lwg := mw 511 (by decide +kernel) rfl
theorem w_506 : (Cond.selects "SnapStacks" ({ cls := "SnapStacks", name := "contact", desc := "(II)I" } : MethodName) ({ cls := "SnapStacks", name := "contact", desc := "(II)I" } : MethodName)) ∈ lwg := mw 512 (by decide +kernel) rfl
theorem w_507 : (Cond.code ({ cls := "SnapStacks", name := "contact", desc := "(II)I" } : MethodName) prog_1_method_6_code (4 : Nat) (Option.some ClassFile.FieldType.int)) ∈ lwg := mw 513 (by decide +kernel) rfl
theorem w_508 : (Cond.methodLink "SnapStacksLaw" (77 : Nat) ({ cls := "SnapStacks", name := "heat", desc := "(III)I" } : MethodName)) ∈ lwg := mw 514 (by decide +kernel) rfl
theorem w_509 : (Cond.instanceMethod ({ cls := "SnapStacks", name := "heat", desc := "(III)I" } : MethodName)) ∈ lwg := mw 515 (by decide +kernel) rfl
theorem w_510 : (Cond.selects "SnapStacks" ({ cls := "SnapStacks", name := "heat", desc := "(III)I" } : MethodName) ({ cls := "SnapStacks", name := "heat", desc := "(III)I" } : MethodName)) ∈ lwg := mw 516 (by decide +kernel) rfl
theorem w_511 : (Cond.code ({ cls := "SnapStacks", name := "heat", desc := "(III)I" } : MethodName) prog_1_method_7_code (6 : Nat) (Option.some ClassFile.FieldType.int)) ∈ lwg := mw 517 (by decide +kernel) rfl
theorem w_512 : (Cond.methodLink "SnapStacksLaw" (80 : Nat) ({ cls := "SnapStacks", name := "warm", desc := "(II)I" } : MethodName)) ∈ lwg := mw 518 (by decide +kernel) rfl
theorem w_513 : (Cond.instanceMethod ({ cls := "SnapStacks", name := "warm", desc := "(II)I" } : MethodName)) ∈ lwg := mw 519 (by decide +kernel) rfl
theorem w_514 : (Cond.selects "SnapStacks" ({ cls := "SnapStacks", name := "warm", desc := "(II)I" } : MethodName) ({ cls := "SnapStacks", name := "warm", desc := "(II)I" } : MethodName)) ∈ lwg := mw 520 (by decide +kernel) rfl
theorem w_515 : (Cond.code ({ cls := "SnapStacks", name := "warm", desc := "(II)I" } : MethodName) prog_1_method_9_code (5 : Nat) (Option.some ClassFile.FieldType.int)) ∈ lwg := mw 521 (by decide +kernel) rfl
theorem w_516 : (Cond.methodLink "SnapStacksLaw" (83 : Nat) ({ cls := "SnapStacks", name := "outside", desc := "(I)I" } : MethodName)) ∈ lwg := mw 522 (by decide +kernel) rfl
theorem w_517 : (Cond.instanceMethod ({ cls := "SnapStacks", name := "outside", desc := "(I)I" } : MethodName)) ∈ lwg := mw 523 (by decide +kernel) rfl
theorem w_518 : (Cond.selects "SnapStacks" ({ cls := "SnapStacks", name := "outside", desc := "(I)I" } : MethodName) ({ cls := "SnapStacks", name := "outside", desc := "(I)I" } : MethodName)) ∈ lwg := mw 524 (by decide +kernel) rfl
theorem w_519 : (Cond.code ({ cls := "SnapStacks", name := "outside", desc := "(I)I" } : MethodName) prog_1_method_8_code (3 : Nat) (Option.some ClassFile.FieldType.int)) ∈ lwg := mw 525 (by decide +kernel) rfl
theorem w_520 : (Cond.methodLink "SnapStacksLaw" (86 : Nat) ({ cls := "SnapStacks", name := "opening", desc := "(II)I" } : MethodName)) ∈ lwg := mw 526 (by decide +kernel) rfl
theorem w_521 : (Cond.instanceMethod ({ cls := "SnapStacks", name := "opening", desc := "(II)I" } : MethodName)) ∈ lwg := mw 527 (by decide +kernel) rfl
theorem w_522 : (Cond.selects "SnapStacks" ({ cls := "SnapStacks", name := "opening", desc := "(II)I" } : MethodName) ({ cls := "SnapStacks", name := "opening", desc := "(II)I" } : MethodName)) ∈ lwg := mw 528 (by decide +kernel) rfl
theorem w_523 : (Cond.code ({ cls := "SnapStacks", name := "opening", desc := "(II)I" } : MethodName) prog_1_method_10_code (3 : Nat) (Option.some ClassFile.FieldType.int)) ∈ lwg := mw 529 (by decide +kernel) rfl
theorem w_524 : (Cond.methodLink "SnapStacks" (131 : Nat) ({ cls := "SnapStacks$State", name := "openings", desc := "()I" } : MethodName)) ∈ lwg := mw 530 (by decide +kernel) rfl
theorem w_525 : (Cond.instanceMethod ({ cls := "SnapStacks$State", name := "openings", desc := "()I" } : MethodName)) ∈ lwg := mw 531 (by decide +kernel) rfl
theorem w_526 : (Cond.selects "SnapStacks$State" ({ cls := "SnapStacks$State", name := "openings", desc := "()I" } : MethodName) ({ cls := "SnapStacks$State", name := "openings", desc := "()I" } : MethodName)) ∈ lwg := mw 532 (by decide +kernel) rfl
theorem w_527 : (Cond.code ({ cls := "SnapStacks$State", name := "openings", desc := "()I" } : MethodName) prog_6_method_4_code (3 : Nat) (Option.some ClassFile.FieldType.int)) ∈ lwg := mw 533 (by decide +kernel) rfl
theorem w_528 : (Cond.methodLink "SnapStacksLaw" (89 : Nat) ({ cls := "SnapStacks", name := "set", desc := "(II)I" } : MethodName)) ∈ lwg := mw 534 (by decide +kernel) rfl
theorem w_529 : (Cond.instanceMethod ({ cls := "SnapStacks", name := "set", desc := "(II)I" } : MethodName)) ∈ lwg := mw 535 (by decide +kernel) rfl
theorem w_530 : (Cond.selects "SnapStacks" ({ cls := "SnapStacks", name := "set", desc := "(II)I" } : MethodName) ({ cls := "SnapStacks", name := "set", desc := "(II)I" } : MethodName)) ∈ lwg := mw 536 (by decide +kernel) rfl
theorem w_531 : (Cond.code ({ cls := "SnapStacks", name := "set", desc := "(II)I" } : MethodName) prog_1_method_11_code (4 : Nat) (Option.some ClassFile.FieldType.int)) ∈ lwg := mw 537 (by decide +kernel) rfl
theorem w_532 : (Cond.methodLink "SnapStacks" (135 : Nat) ({ cls := "SnapStacks", name := "isSetting", desc := "(II)Z" } : MethodName)) ∈ lwg := mw 538 (by decide +kernel) rfl
theorem w_533 : (Cond.static ({ cls := "SnapStacks", name := "isSetting", desc := "(II)Z" } : MethodName)) ∈ lwg := mw 539 (by decide +kernel) rfl
theorem w_534 : (Cond.code ({ cls := "SnapStacks", name := "isSetting", desc := "(II)Z" } : MethodName) prog_1_method_31_code (2 : Nat) (Option.some ClassFile.FieldType.boolean)) ∈ lwg := mw 540 (by decide +kernel) rfl
theorem w_535 : (Cond.methodLink "SnapStacksLaw" (92 : Nat) ({ cls := "SnapStacks", name := "tick", desc := "(I)I" } : MethodName)) ∈ lwg := mw 541 (by decide +kernel) rfl
theorem w_536 : (Cond.instanceMethod ({ cls := "SnapStacks", name := "tick", desc := "(I)I" } : MethodName)) ∈ lwg := mw 542 (by decide +kernel) rfl
theorem w_537 : (Cond.selects "SnapStacks" ({ cls := "SnapStacks", name := "tick", desc := "(I)I" } : MethodName) ({ cls := "SnapStacks", name := "tick", desc := "(I)I" } : MethodName)) ∈ lwg := mw 543 (by decide +kernel) rfl
theorem w_538 : (Cond.code ({ cls := "SnapStacks", name := "tick", desc := "(I)I" } : MethodName) prog_1_method_12_code (4 : Nat) (Option.some ClassFile.FieldType.int)) ∈ lwg := mw 544 (by decide +kernel) rfl
theorem w_539 : (Cond.methodLink "SnapStacks" (142 : Nat) ({ cls := "SnapStacks$State", name := "sumRates", desc := "()V" } : MethodName)) ∈ lwg := mw 545 (by decide +kernel) rfl
theorem w_540 : (Cond.methodLink "SnapStacks" (145 : Nat) ({ cls := "SnapStacks$State", name := "passTick", desc := "()I" } : MethodName)) ∈ lwg := mw 546 (by decide +kernel) rfl
theorem w_541 : (Cond.methodLink "SnapStacksLaw" (95 : Nat) ({ cls := "SnapStacksLaw", name := "types", desc := "(LSnapStacks;I)Z" } : MethodName)) ∈ lwg := mw 547 (by decide +kernel) rfl
theorem w_542 : (Cond.static ({ cls := "SnapStacksLaw", name := "types", desc := "(LSnapStacks;I)Z" } : MethodName)) ∈ lwg := mw 548 (by decide +kernel) rfl
theorem w_544 : (Cond.methodLink "SnapStacksLaw" (45 : Nat) ({ cls := "SnapStacks", name := "clearText", desc := "()I" } : MethodName)) ∈ lwg := mw 550 (by decide +kernel) rfl
theorem w_545 : (Cond.instanceMethod ({ cls := "SnapStacks", name := "clearText", desc := "()I" } : MethodName)) ∈ lwg := mw 551 (by decide +kernel) rfl
theorem w_546 : (Cond.selects "SnapStacks" ({ cls := "SnapStacks", name := "clearText", desc := "()I" } : MethodName) ({ cls := "SnapStacks", name := "clearText", desc := "()I" } : MethodName)) ∈ lwg := mw 552 (by decide +kernel) rfl
theorem w_547 : (Cond.code ({ cls := "SnapStacks", name := "clearText", desc := "()I" } : MethodName) prog_1_method_23_code (2 : Nat) (Option.some ClassFile.FieldType.int)) ∈ lwg := mw 553 (by decide +kernel) rfl
theorem w_548 : (Cond.methodLink "SnapStacksLaw" (49 : Nat) ({ cls := "SnapStacks", name := "type", desc := "(I)I" } : MethodName)) ∈ lwg := mw 554 (by decide +kernel) rfl
theorem w_549 : (Cond.instanceMethod ({ cls := "SnapStacks", name := "type", desc := "(I)I" } : MethodName)) ∈ lwg := mw 555 (by decide +kernel) rfl
theorem w_550 : (Cond.selects "SnapStacks" ({ cls := "SnapStacks", name := "type", desc := "(I)I" } : MethodName) ({ cls := "SnapStacks", name := "type", desc := "(I)I" } : MethodName)) ∈ lwg := mw 556 (by decide +kernel) rfl
theorem w_551 : (Cond.code ({ cls := "SnapStacks", name := "type", desc := "(I)I" } : MethodName) prog_1_method_22_code (2 : Nat) (Option.some ClassFile.FieldType.int)) ∈ lwg := mw 557 (by decide +kernel) rfl
theorem w_552 : (Cond.methodLink "SnapStacks" (239 : Nat) ({ cls := "SnapStacks$Text", name := "append", desc := "(C)V" } : MethodName)) ∈ lwg := mw 558 (by decide +kernel) rfl
theorem w_553 : (Cond.instanceMethod ({ cls := "SnapStacks$Text", name := "append", desc := "(C)V" } : MethodName)) ∈ lwg := mw 559 (by decide +kernel) rfl
theorem w_554 : (Cond.selects "SnapStacks$Text" ({ cls := "SnapStacks$Text", name := "append", desc := "(C)V" } : MethodName) ({ cls := "SnapStacks$Text", name := "append", desc := "(C)V" } : MethodName)) ∈ lwg := mw 560 (by decide +kernel) rfl
theorem w_555 : (Cond.code ({ cls := "SnapStacks$Text", name := "append", desc := "(C)V" } : MethodName) prog_8_method_2_code (2 : Nat) (Option.none : Option ClassFile.FieldType)) ∈ lwg := mw 561 (by decide +kernel) rfl
theorem w_556 : (Cond.methodLink "SnapStacksLaw" (99 : Nat) ({ cls := "SnapStacksLaw", name := "reads", desc := "(LSnapStacks;I)Z" } : MethodName)) ∈ lwg := mw 562 (by decide +kernel) rfl
theorem w_557 : (Cond.static ({ cls := "SnapStacksLaw", name := "reads", desc := "(LSnapStacks;I)Z" } : MethodName)) ∈ lwg := mw 563 (by decide +kernel) rfl
theorem w_559 : (Cond.methodLink "SnapStacksLaw" (52 : Nat) ({ cls := "SnapStacks", name := "fault", desc := "(I)I" } : MethodName)) ∈ lwg := mw 565 (by decide +kernel) rfl
theorem w_560 : (Cond.instanceMethod ({ cls := "SnapStacks", name := "fault", desc := "(I)I" } : MethodName)) ∈ lwg := mw 566 (by decide +kernel) rfl
theorem w_561 : (Cond.selects "SnapStacks" ({ cls := "SnapStacks", name := "fault", desc := "(I)I" } : MethodName) ({ cls := "SnapStacks", name := "fault", desc := "(I)I" } : MethodName)) ∈ lwg := mw 567 (by decide +kernel) rfl
theorem w_562 : (Cond.code ({ cls := "SnapStacks", name := "fault", desc := "(I)I" } : MethodName) prog_1_method_24_code (3 : Nat) (Option.some ClassFile.FieldType.int)) ∈ lwg := mw 568 (by decide +kernel) rfl
theorem w_563 : (Cond.methodLink "SnapStacks" (243 : Nat) ({ cls := "SnapStacks$Text", name := "faultyPlace", desc := "()I" } : MethodName)) ∈ lwg := mw 569 (by decide +kernel) rfl
theorem w_564 : (Cond.instanceMethod ({ cls := "SnapStacks$Text", name := "faultyPlace", desc := "()I" } : MethodName)) ∈ lwg := mw 570 (by decide +kernel) rfl
theorem w_565 : (Cond.selects "SnapStacks$Text" ({ cls := "SnapStacks$Text", name := "faultyPlace", desc := "()I" } : MethodName) ({ cls := "SnapStacks$Text", name := "faultyPlace", desc := "()I" } : MethodName)) ∈ lwg := mw 571 (by decide +kernel) rfl
theorem w_566 : (Cond.code ({ cls := "SnapStacks$Text", name := "faultyPlace", desc := "()I" } : MethodName) prog_8_method_3_code (3 : Nat) (Option.some ClassFile.FieldType.int)) ∈ lwg := mw 572 (by decide +kernel) rfl
theorem w_567 : (Cond.methodLink "SnapStacks$Text" (19 : Nat) ({ cls := "java/lang/Math", name := "min", desc := "(II)I" } : MethodName)) ∈ lwg := mw 573 (by decide +kernel) rfl
theorem w_568 : (Cond.methodLink "SnapStacks$Text" (25 : Nat) ({ cls := "SnapStacks$Text", name := "canStandAt", desc := "(I)Z" } : MethodName)) ∈ lwg := mw 574 (by decide +kernel) rfl
theorem w_570 : (Cond.instanceMethod ({ cls := "SnapStacks$Text", name := "canStandAt", desc := "(I)Z" } : MethodName)) ∈ lwg := mw 576 (by decide +kernel) rfl
theorem w_571 : (Cond.code ({ cls := "SnapStacks$Text", name := "canStandAt", desc := "(I)Z" } : MethodName) prog_8_method_5_code (3 : Nat) (Option.some ClassFile.FieldType.boolean)) ∈ lwg := mw 577 (by decide +kernel) rfl
theorem w_573 : (Cond.methodLink "SnapStacks" (246 : Nat) ({ cls := "SnapStacks$Text", name := "reasonAt", desc := "(I)I" } : MethodName)) ∈ lwg := mw 579 (by decide +kernel) rfl
theorem w_574 : (Cond.instanceMethod ({ cls := "SnapStacks$Text", name := "reasonAt", desc := "(I)I" } : MethodName)) ∈ lwg := mw 580 (by decide +kernel) rfl
theorem w_575 : (Cond.selects "SnapStacks$Text" ({ cls := "SnapStacks$Text", name := "reasonAt", desc := "(I)I" } : MethodName) ({ cls := "SnapStacks$Text", name := "reasonAt", desc := "(I)I" } : MethodName)) ∈ lwg := mw 581 (by decide +kernel) rfl
theorem w_576 : (Cond.code ({ cls := "SnapStacks$Text", name := "reasonAt", desc := "(I)I" } : MethodName) prog_8_method_4_code (2 : Nat) (Option.some ClassFile.FieldType.int)) ∈ lwg := mw 582 (by decide +kernel) rfl
theorem w_577 : (Cond.methodLink "SnapStacksLaw" (55 : Nat) ({ cls := "SnapStacks", name := "read", desc := "(I)I" } : MethodName)) ∈ lwg := mw 583 (by decide +kernel) rfl
theorem w_578 : (Cond.instanceMethod ({ cls := "SnapStacks", name := "read", desc := "(I)I" } : MethodName)) ∈ lwg := mw 584 (by decide +kernel) rfl
theorem w_579 : (Cond.selects "SnapStacks" ({ cls := "SnapStacks", name := "read", desc := "(I)I" } : MethodName) ({ cls := "SnapStacks", name := "read", desc := "(I)I" } : MethodName)) ∈ lwg := mw 585 (by decide +kernel) rfl
theorem w_580 : (Cond.code ({ cls := "SnapStacks", name := "read", desc := "(I)I" } : MethodName) prog_1_method_25_code (4 : Nat) (Option.some ClassFile.FieldType.int)) ∈ lwg := mw 586 (by decide +kernel) rfl
theorem w_581 : (Cond.methodLink "SnapStacks" (249 : Nat) ({ cls := "SnapStacks$Text", name := "parts", desc := "()I" } : MethodName)) ∈ lwg := mw 587 (by decide +kernel) rfl
theorem w_582 : (Cond.instanceMethod ({ cls := "SnapStacks$Text", name := "parts", desc := "()I" } : MethodName)) ∈ lwg := mw 588 (by decide +kernel) rfl
theorem w_583 : (Cond.selects "SnapStacks$Text" ({ cls := "SnapStacks$Text", name := "parts", desc := "()I" } : MethodName) ({ cls := "SnapStacks$Text", name := "parts", desc := "()I" } : MethodName)) ∈ lwg := mw 589 (by decide +kernel) rfl
theorem w_584 : (Cond.code ({ cls := "SnapStacks$Text", name := "parts", desc := "()I" } : MethodName) prog_8_method_6_code (1 : Nat) (Option.some ClassFile.FieldType.int)) ∈ lwg := mw 590 (by decide +kernel) rfl
theorem w_585 : (Cond.methodLink "SnapStacks" (251 : Nat) ({ cls := "SnapStacks$Text", name := "lengthOfPart", desc := "(I)I" } : MethodName)) ∈ lwg := mw 591 (by decide +kernel) rfl
theorem w_586 : (Cond.instanceMethod ({ cls := "SnapStacks$Text", name := "lengthOfPart", desc := "(I)I" } : MethodName)) ∈ lwg := mw 592 (by decide +kernel) rfl
theorem w_587 : (Cond.selects "SnapStacks$Text" ({ cls := "SnapStacks$Text", name := "lengthOfPart", desc := "(I)I" } : MethodName) ({ cls := "SnapStacks$Text", name := "lengthOfPart", desc := "(I)I" } : MethodName)) ∈ lwg := mw 593 (by decide +kernel) rfl
theorem w_588 : (Cond.code ({ cls := "SnapStacks$Text", name := "lengthOfPart", desc := "(I)I" } : MethodName) prog_8_method_7_code (2 : Nat) (Option.some ClassFile.FieldType.int)) ∈ lwg := mw 594 (by decide +kernel) rfl
theorem w_589 : (Cond.methodLink "SnapStacks" (254 : Nat) ({ cls := "SnapStacks$Text", name := "upperOfPart", desc := "(I)I" } : MethodName)) ∈ lwg := mw 595 (by decide +kernel) rfl
theorem w_590 : (Cond.instanceMethod ({ cls := "SnapStacks$Text", name := "upperOfPart", desc := "(I)I" } : MethodName)) ∈ lwg := mw 596 (by decide +kernel) rfl
theorem w_591 : (Cond.selects "SnapStacks$Text" ({ cls := "SnapStacks$Text", name := "upperOfPart", desc := "(I)I" } : MethodName) ({ cls := "SnapStacks$Text", name := "upperOfPart", desc := "(I)I" } : MethodName)) ∈ lwg := mw 597 (by decide +kernel) rfl
theorem w_592 : (Cond.code ({ cls := "SnapStacks$Text", name := "upperOfPart", desc := "(I)I" } : MethodName) prog_8_method_8_code (2 : Nat) (Option.some ClassFile.FieldType.int)) ∈ lwg := mw 598 (by decide +kernel) rfl
theorem w_593 : (Cond.methodLink "SnapStacks" (257 : Nat) ({ cls := "SnapStacks$Text", name := "lowerOfPart", desc := "(I)I" } : MethodName)) ∈ lwg := mw 599 (by decide +kernel) rfl
theorem w_594 : (Cond.instanceMethod ({ cls := "SnapStacks$Text", name := "lowerOfPart", desc := "(I)I" } : MethodName)) ∈ lwg := mw 600 (by decide +kernel) rfl
theorem w_595 : (Cond.selects "SnapStacks$Text" ({ cls := "SnapStacks$Text", name := "lowerOfPart", desc := "(I)I" } : MethodName) ({ cls := "SnapStacks$Text", name := "lowerOfPart", desc := "(I)I" } : MethodName)) ∈ lwg := mw 601 (by decide +kernel) rfl
theorem w_596 : (Cond.code ({ cls := "SnapStacks$Text", name := "lowerOfPart", desc := "(I)I" } : MethodName) prog_8_method_9_code (2 : Nat) (Option.some ClassFile.FieldType.int)) ∈ lwg := mw 602 (by decide +kernel) rfl
theorem wp_0 : Cond.selects "SnapStacks" ⟨"SnapStacks", "numberOfMetal", "(I)I"⟩ ⟨"SnapStacks", "numberOfMetal", "(I)I"⟩ ∈ lwg := mw 0 (by decide +kernel) rfl
theorem wp_1 : Cond.selects "SnapStacks$LoopFinder" ⟨"SnapStacks$LoopFinder", "sameStepOrEnter", "(I)I"⟩ ⟨"SnapStacks$LoopFinder", "sameStepOrEnter", "(I)I"⟩ ∈ lwg := mw 1 (by decide +kernel) rfl
theorem wp_2 : Cond.selects "SnapStacks$State" ⟨"SnapStacks$State", "warmthToCome", "(I)I"⟩ ⟨"SnapStacks$State", "warmthToCome", "(I)I"⟩ ∈ lwg := mw 2 (by decide +kernel) rfl
theorem wp_3 : Cond.selects "SnapStacks$State" ⟨"SnapStacks$State", "moveStrip", "(I)Z"⟩ ⟨"SnapStacks$State", "moveStrip", "(I)Z"⟩ ∈ lwg := mw 3 (by decide +kernel) rfl
theorem wp_4 : Cond.selects "SnapStacks" ⟨"SnapStacks", "recordChange", "()V"⟩ ⟨"SnapStacks", "recordChange", "()V"⟩ ∈ lwg := mw 4 (by decide +kernel) rfl
theorem wp_5 : Cond.selects "SnapStacks$Text" ⟨"SnapStacks$Text", "canStandAt", "(I)Z"⟩ ⟨"SnapStacks$Text", "canStandAt", "(I)Z"⟩ ∈ lwg := mw 5 (by decide +kernel) rfl
