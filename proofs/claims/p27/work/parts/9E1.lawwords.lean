/-! the code words of the law's own methods -/
set_option maxRecDepth 100000 in
theorem w_312 : (Cond.code ({ cls := "SnapStacksLaw", name := "lot", desc := "([II)I" } : MethodName) method_2_code (2 : Nat) (Option.some ClassFile.FieldType.int)) ∈ lwg := mw 318 (by rfl) rfl
set_option maxRecDepth 100000 in
theorem w_316 : (Cond.code ({ cls := "SnapStacksLaw", name := "low", desc := "(II)I" } : MethodName) method_3_code (2 : Nat) (Option.some ClassFile.FieldType.int)) ∈ lwg := mw 322 (by rfl) rfl
set_option maxRecDepth 100000 in
theorem w_320 : (Cond.code ({ cls := "SnapStacksLaw", name := "digest", desc := "(LSnapStacks;)J" } : MethodName) method_4_code (4 : Nat) (Option.some ClassFile.FieldType.long)) ∈ lwg := mw 326 (by rfl) rfl
set_option maxRecDepth 100000 in
theorem w_369 : (Cond.code ({ cls := "SnapStacksLaw", name := "holds", desc := "(LSnapStacks;I)Z" } : MethodName) method_5_code (13 : Nat) (Option.some ClassFile.FieldType.boolean)) ∈ lwg := mw 375 (by rfl) rfl
set_option maxRecDepth 100000 in
theorem w_468 : (Cond.code ({ cls := "SnapStacksLaw", name := "acts", desc := "(LSnapStacks;II)Z" } : MethodName) method_8_code (10 : Nat) (Option.some ClassFile.FieldType.boolean)) ∈ lwg := mw 474 (by rfl) rfl
set_option maxRecDepth 100000 in
theorem w_543 : (Cond.code ({ cls := "SnapStacksLaw", name := "types", desc := "(LSnapStacks;I)Z" } : MethodName) method_6_code (6 : Nat) (Option.some ClassFile.FieldType.boolean)) ∈ lwg := mw 549 (by rfl) rfl
set_option maxRecDepth 100000 in
theorem w_558 : (Cond.code ({ cls := "SnapStacksLaw", name := "reads", desc := "(LSnapStacks;I)Z" } : MethodName) method_7_code (8 : Nat) (Option.some ClassFile.FieldType.boolean)) ∈ lwg := mw 564 (by rfl) rfl
