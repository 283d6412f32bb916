/-! static methods of numbers alone -/
def b2i (b : Bool) : Int32 := if b = true then 1 else 0
theorem b2i_01 (b : Bool) : b2i b = 0 ∨ b2i b = 1 := by cases b <;> simp [b2i]
theorem b2i_t : b2i true = 1 := rfl
theorem b2i_f : b2i false = 0 := rfl
theorem b2i_0 (b : Bool) : b2i b = 0 ↔ b = false := by cases b <;> simp [b2i]
theorem b2i_1 (b : Bool) : b2i b = 1 ↔ b = true := by cases b <;> simp [b2i]
theorem c1_nil : ∀ v ∈ ([] : List Value), v.category = 1 := fun _ h => absurd h List.not_mem_nil
theorem c1_int {x : Int32} {l : List Value} (h : ∀ v ∈ l, v.category = 1) : ∀ v ∈ (Value.int x :: l), v.category = 1 := List.forall_mem_cons.mpr ⟨rfl, h⟩
theorem c1_ref {x : Nat} {l : List Value} (h : ∀ v ∈ l, v.category = 1) : ∀ v ∈ (Value.ref x :: l), v.category = 1 := List.forall_mem_cons.mpr ⟨rfl, h⟩
theorem va_up_app {α : Type} (f : Nat → α) (k : Nat) (v : α) (j : Nat) : va_up f k v j = if j = k then v else f j := rfl
def stp : List Nat → Nat → Bool
  | [], _ => false
  | a :: l, n => (n == a) || stp l n
def isIn (v a b : Int32) : Bool := !(decide (v < a)) && !(decide (b < v))
def sp_X7_isWithin (_ : Nat → ClassId) : SPEC := fun av h post => match av with
  | [.int v, .int a, .int b] => post (some (.int (b2i (isIn v a b)))) h
  | _ => False
def k_X7_isWithin (ca : Nat → ClassId) : Nat → IT := fun pc => lk pc [(0, i_iload 1 1),
  (1, i_iload 0 2),
  (2, i_icmp (fun x y => y < x) 14 5),
  (5, i_iload 0 6),
  (6, i_iload 2 7),
  (7, i_icmp (fun x y => y < x) 14 10),
  (10, i_push (.int 1) 11),
  (11, i_goto 15),
  (14, i_push (.int 0) 15),
  (15, i_zret)]
set_option maxRecDepth 20000 in
theorem t_X7_isWithin : Tb k_X7_isWithin yX7_isWithin cX7_isWithin 3 (some .boolean) 0 0 0 := by
  intro l D ca A p e s m args below meth c post X
  unfold k_X7_isWithin
  refine snd_cons (snd_iload_n X dX7_isWithin_0 rfl) ?_
  refine snd_cons (snd_iload_n X dX7_isWithin_1 rfl) ?_
  refine snd_cons (snd_icmp_gt X dX7_isWithin_2 (by decide)) ?_
  refine snd_cons (snd_iload_n X dX7_isWithin_5 rfl) ?_
  refine snd_cons (snd_iload_n X dX7_isWithin_6 rfl) ?_
  refine snd_cons (snd_icmp_gt X dX7_isWithin_7 (by decide)) ?_
  refine snd_cons (snd_iconst X dX7_isWithin_10 (by decide)) ?_
  refine snd_cons (snd_goto X dX7_isWithin_11 (by decide)) ?_
  refine snd_cons (snd_iconst X dX7_isWithin_14 (by decide)) ?_
  refine snd_cons (snd_zret X dX7_isWithin_15) ?_
  exact snd_nil
theorem k_X7_isWithin_0 (ca : Nat → ClassId) : k_X7_isWithin ca 0 = i_iload 1 1 := rfl
theorem k_X7_isWithin_1 (ca : Nat → ClassId) : k_X7_isWithin ca 1 = i_iload 0 2 := rfl
theorem k_X7_isWithin_2 (ca : Nat → ClassId) : k_X7_isWithin ca 2 = i_icmp (fun x y => y < x) 14 5 := rfl
theorem k_X7_isWithin_5 (ca : Nat → ClassId) : k_X7_isWithin ca 5 = i_iload 0 6 := rfl
theorem k_X7_isWithin_6 (ca : Nat → ClassId) : k_X7_isWithin ca 6 = i_iload 2 7 := rfl
theorem k_X7_isWithin_7 (ca : Nat → ClassId) : k_X7_isWithin ca 7 = i_icmp (fun x y => y < x) 14 10 := rfl
theorem k_X7_isWithin_10 (ca : Nat → ClassId) : k_X7_isWithin ca 10 = i_push (.int 1) 11 := rfl
theorem k_X7_isWithin_11 (ca : Nat → ClassId) : k_X7_isWithin ca 11 = i_goto 15 := rfl
theorem k_X7_isWithin_14 (ca : Nat → ClassId) : k_X7_isWithin ca 14 = i_push (.int 0) 15 := rfl
theorem k_X7_isWithin_15 (ca : Nat → ClassId) : k_X7_isWithin ca 15 = i_zret := rfl
set_option maxHeartbeats 4000000 in
set_option maxRecDepth 20000 in
theorem ok_X7_isWithin (l : Launch) (D : va_G) (ca : Nat → ClassId) : OkAll l D ca yX7_isWithin cX7_isWithin 3 (some .boolean) 0 0 0 (sp_X7_isWithin ca) := by
  intro av h post hs
  unfold sp_X7_isWithin at hs
  split at hs
  · refine okM_of t_X7_isWithin (by decide +kernel) (c1_int (c1_int (c1_int c1_nil))) (Nat.le_of_ble_eq_true rfl) ?_
    intro K go
    refine go (stp []) 20 _ _ _ _ _ _ ?_
    simp only [wpS, ite_not, i_push, i_iload, i_lload, i_aload, i_istore, i_astore, i_lstore, i_iinc, i_bin, i_dv, i_un, i_lbin, i_lsh, i_i2l, i_l2i, i_lcmp, i_dup, i_dup2, i_pop, i_if, i_icmp, i_goto, swG, i_sw, i_getf, i_puti, i_putz, i_putr, i_ald, i_lald, i_aald, i_ast, i_last, i_aast, i_alen, i_new, i_newi, i_newl, i_newq, i_oinit, i_ret, i_zret, i_lret, i_vret, catS, tk, rpush, isO, i_m1, i_m2, i_acopy, i_callV, i_callS, KRet, lget, lput, lputL, lcl0, isL, lv0, List.map_cons, List.map_nil, List.length_cons, List.length_nil, List.cons_append, List.nil_append, Nat.reduceAdd, Nat.reduceSub, Nat.reduceLeDiff, List.replicate_succ, List.replicate_zero, List.getElem?_cons_succ, List.getElem?_cons_zero, List.set_cons_succ, List.set_cons_zero, true_and, and_true, if_true, if_false, reduceIte, Nat.le_refl, Value.category, va_up_app, eq_self, stp, Nat.reduceBEq, Bool.or_false, Bool.false_or, Bool.true_or, Bool.or_true, or_true, true_or, bx_uu, implies_true, true_implies, not_true, not_false_eq_true, false_implies, and_self, Nat.reduceLT, Int32.reduceAdd, Int32.reduceSub, Int32.reduceMul, Int32.reduceLE, Int32.reduceLT, Int32.reduceToNatClampNeg, va_rf_some, Bool.false_eq_true, k_X7_isWithin_0 ca, k_X7_isWithin_1 ca, k_X7_isWithin_2 ca, k_X7_isWithin_5 ca, k_X7_isWithin_6 ca, k_X7_isWithin_7 ca, k_X7_isWithin_10 ca, k_X7_isWithin_11 ca, k_X7_isWithin_14 ca, k_X7_isWithin_15 ca]
    clear go
    (repeat' first | intro _ | apply And.intro | apply ifp) <;> simp_all [b2i, isIn]
  · exact hs.elim
def sp_X7_isRoom (_ : Nat → ClassId) : SPEC := fun av h post => match av with
  | [.int v] => post (some (.int (b2i (isIn v 0 2)))) h
  | _ => False
def k_X7_isRoom (ca : Nat → ClassId) : Nat → IT := fun pc => lk pc [(0, i_iload 0 1),
  (1, i_push (.int 0) 2),
  (2, i_push (.int 2) 3),
  (3, i_callS 3 0 0 0 0 (sp_X7_isWithin ca) 6),
  (6, i_zret)]
set_option maxRecDepth 20000 in
theorem t_X7_isRoom : Tb k_X7_isRoom yX7_isRoom cX7_isRoom 1 (some .boolean) 1 0 0 := by
  intro l D ca A p e s m args below meth c post X
  unfold k_X7_isRoom
  refine snd_cons (snd_iload_n X dX7_isRoom_0 rfl) ?_
  refine snd_cons (snd_iconst X dX7_isRoom_1 (by decide)) ?_
  refine snd_cons (snd_iconst X dX7_isRoom_2 (by decide)) ?_
  refine snd_cons (snd_callS X (ok_X7_isWithin l D ca) rfl rfl w_281 w_282 w_1 w_283 (by decide) (by decide) dX7_isRoom_3) ?_
  refine snd_cons (snd_zret X dX7_isRoom_6) ?_
  exact snd_nil
theorem k_X7_isRoom_0 (ca : Nat → ClassId) : k_X7_isRoom ca 0 = i_iload 0 1 := rfl
theorem k_X7_isRoom_1 (ca : Nat → ClassId) : k_X7_isRoom ca 1 = i_push (.int 0) 2 := rfl
theorem k_X7_isRoom_2 (ca : Nat → ClassId) : k_X7_isRoom ca 2 = i_push (.int 2) 3 := rfl
theorem k_X7_isRoom_3 (ca : Nat → ClassId) : k_X7_isRoom ca 3 = i_callS 3 0 0 0 0 (sp_X7_isWithin ca) 6 := rfl
theorem k_X7_isRoom_6 (ca : Nat → ClassId) : k_X7_isRoom ca 6 = i_zret := rfl
set_option maxHeartbeats 4000000 in
set_option maxRecDepth 20000 in
theorem ok_X7_isRoom (l : Launch) (D : va_G) (ca : Nat → ClassId) : OkAll l D ca yX7_isRoom cX7_isRoom 1 (some .boolean) 1 0 0 (sp_X7_isRoom ca) := by
  intro av h post hs
  unfold sp_X7_isRoom at hs
  split at hs
  · refine okM_of t_X7_isRoom (by decide +kernel) (c1_int c1_nil) (Nat.le_of_ble_eq_true rfl) ?_
    intro K go
    refine go (stp []) 20 _ _ _ _ _ _ ?_
    simp only [wpS, ite_not, i_push, i_iload, i_lload, i_aload, i_istore, i_astore, i_lstore, i_iinc, i_bin, i_dv, i_un, i_lbin, i_lsh, i_i2l, i_l2i, i_lcmp, i_dup, i_dup2, i_pop, i_if, i_icmp, i_goto, swG, i_sw, i_getf, i_puti, i_putz, i_putr, i_ald, i_lald, i_aald, i_ast, i_last, i_aast, i_alen, i_new, i_newi, i_newl, i_newq, i_oinit, i_ret, i_zret, i_lret, i_vret, catS, tk, rpush, isO, i_m1, i_m2, i_acopy, i_callV, i_callS, KRet, lget, lput, lputL, lcl0, isL, lv0, List.map_cons, List.map_nil, List.length_cons, List.length_nil, List.cons_append, List.nil_append, Nat.reduceAdd, Nat.reduceSub, Nat.reduceLeDiff, List.replicate_succ, List.replicate_zero, List.getElem?_cons_succ, List.getElem?_cons_zero, List.set_cons_succ, List.set_cons_zero, true_and, and_true, if_true, if_false, reduceIte, Nat.le_refl, Value.category, va_up_app, eq_self, stp, Nat.reduceBEq, Bool.or_false, Bool.false_or, Bool.true_or, Bool.or_true, or_true, true_or, bx_uu, implies_true, true_implies, not_true, not_false_eq_true, false_implies, and_self, Nat.reduceLT, Int32.reduceAdd, Int32.reduceSub, Int32.reduceMul, Int32.reduceLE, Int32.reduceLT, Int32.reduceToNatClampNeg, va_rf_some, Bool.false_eq_true, k_X7_isRoom_0 ca, k_X7_isRoom_1 ca, k_X7_isRoom_2 ca, k_X7_isRoom_3 ca, k_X7_isRoom_6 ca, sp_X7_isWithin, b2i_01]
    exact hs
  · exact hs.elim
def sp_X7_isWarmth (_ : Nat → ClassId) : SPEC := fun av h post => match av with
  | [.int v] => post (some (.int (b2i (isIn v (-500) 1500)))) h
  | _ => False
def k_X7_isWarmth (ca : Nat → ClassId) : Nat → IT := fun pc => lk pc [(0, i_iload 0 1),
  (1, i_push (.int (-500)) 4),
  (4, i_push (.int 1500) 7),
  (7, i_callS 3 0 0 0 0 (sp_X7_isWithin ca) 10),
  (10, i_zret)]
set_option maxRecDepth 20000 in
theorem t_X7_isWarmth : Tb k_X7_isWarmth yX7_isWarmth cX7_isWarmth 1 (some .boolean) 1 0 0 := by
  intro l D ca A p e s m args below meth c post X
  unfold k_X7_isWarmth
  refine snd_cons (snd_iload_n X dX7_isWarmth_0 rfl) ?_
  refine snd_cons (snd_sipush X dX7_isWarmth_1 (by decide)) ?_
  refine snd_cons (snd_sipush X dX7_isWarmth_4 (by decide)) ?_
  refine snd_cons (snd_callS X (ok_X7_isWithin l D ca) rfl rfl w_281 w_282 w_1 w_283 (by decide) (by decide) dX7_isWarmth_7) ?_
  refine snd_cons (snd_zret X dX7_isWarmth_10) ?_
  exact snd_nil
theorem k_X7_isWarmth_0 (ca : Nat → ClassId) : k_X7_isWarmth ca 0 = i_iload 0 1 := rfl
theorem k_X7_isWarmth_1 (ca : Nat → ClassId) : k_X7_isWarmth ca 1 = i_push (.int (-500)) 4 := rfl
theorem k_X7_isWarmth_4 (ca : Nat → ClassId) : k_X7_isWarmth ca 4 = i_push (.int 1500) 7 := rfl
theorem k_X7_isWarmth_7 (ca : Nat → ClassId) : k_X7_isWarmth ca 7 = i_callS 3 0 0 0 0 (sp_X7_isWithin ca) 10 := rfl
theorem k_X7_isWarmth_10 (ca : Nat → ClassId) : k_X7_isWarmth ca 10 = i_zret := rfl
set_option maxHeartbeats 4000000 in
set_option maxRecDepth 20000 in
theorem ok_X7_isWarmth (l : Launch) (D : va_G) (ca : Nat → ClassId) : OkAll l D ca yX7_isWarmth cX7_isWarmth 1 (some .boolean) 1 0 0 (sp_X7_isWarmth ca) := by
  intro av h post hs
  unfold sp_X7_isWarmth at hs
  split at hs
  · refine okM_of t_X7_isWarmth (by decide +kernel) (c1_int c1_nil) (Nat.le_of_ble_eq_true rfl) ?_
    intro K go
    refine go (stp []) 20 _ _ _ _ _ _ ?_
    simp only [wpS, ite_not, i_push, i_iload, i_lload, i_aload, i_istore, i_astore, i_lstore, i_iinc, i_bin, i_dv, i_un, i_lbin, i_lsh, i_i2l, i_l2i, i_lcmp, i_dup, i_dup2, i_pop, i_if, i_icmp, i_goto, swG, i_sw, i_getf, i_puti, i_putz, i_putr, i_ald, i_lald, i_aald, i_ast, i_last, i_aast, i_alen, i_new, i_newi, i_newl, i_newq, i_oinit, i_ret, i_zret, i_lret, i_vret, catS, tk, rpush, isO, i_m1, i_m2, i_acopy, i_callV, i_callS, KRet, lget, lput, lputL, lcl0, isL, lv0, List.map_cons, List.map_nil, List.length_cons, List.length_nil, List.cons_append, List.nil_append, Nat.reduceAdd, Nat.reduceSub, Nat.reduceLeDiff, List.replicate_succ, List.replicate_zero, List.getElem?_cons_succ, List.getElem?_cons_zero, List.set_cons_succ, List.set_cons_zero, true_and, and_true, if_true, if_false, reduceIte, Nat.le_refl, Value.category, va_up_app, eq_self, stp, Nat.reduceBEq, Bool.or_false, Bool.false_or, Bool.true_or, Bool.or_true, or_true, true_or, bx_uu, implies_true, true_implies, not_true, not_false_eq_true, false_implies, and_self, Nat.reduceLT, Int32.reduceAdd, Int32.reduceSub, Int32.reduceMul, Int32.reduceLE, Int32.reduceLT, Int32.reduceToNatClampNeg, va_rf_some, Bool.false_eq_true, k_X7_isWarmth_0 ca, k_X7_isWarmth_1 ca, k_X7_isWarmth_4 ca, k_X7_isWarmth_7 ca, k_X7_isWarmth_10 ca, sp_X7_isWithin, b2i_01]
    exact hs
  · exact hs.elim
def isSet (w v : Int32) : Bool := if w = 0 then isIn v 0 99 else decide (w = 1) && isIn v 1 999
def sp_X7_isSetting (_ : Nat → ClassId) : SPEC := fun av h post => match av with
  | [.int w, .int v] => post (some (.int (b2i (isSet w v)))) h
  | _ => False
def k_X7_isSetting (ca : Nat → ClassId) : Nat → IT := fun pc => lk pc [(0, i_iload 0 1),
  (1, i_if (fun x => ¬ x = 0) 14 4),
  (4, i_iload 1 5),
  (5, i_push (.int 0) 6),
  (6, i_push (.int 99) 8),
  (8, i_callS 3 0 0 0 0 (sp_X7_isWithin ca) 11),
  (11, i_goto 35),
  (14, i_iload 0 15),
  (15, i_push (.int 1) 16),
  (16, i_icmp (fun x y => ¬ x = y) 34 19),
  (19, i_iload 1 20),
  (20, i_push (.int 1) 21),
  (21, i_push (.int 999) 24),
  (24, i_callS 3 0 0 0 0 (sp_X7_isWithin ca) 27),
  (27, i_if (fun x => x = 0) 34 30),
  (30, i_push (.int 1) 31),
  (31, i_goto 35),
  (34, i_push (.int 0) 35),
  (35, i_zret)]
set_option maxRecDepth 20000 in
theorem t_X7_isSetting : Tb k_X7_isSetting yX7_isSetting cX7_isSetting 2 (some .boolean) 1 0 0 := by
  intro l D ca A p e s m args below meth c post X
  unfold k_X7_isSetting
  refine snd_cons (snd_iload_n X dX7_isSetting_0 rfl) ?_
  refine snd_cons (snd_if_ne X dX7_isSetting_1 (by decide)) ?_
  refine snd_cons (snd_iload_n X dX7_isSetting_4 rfl) ?_
  refine snd_cons (snd_iconst X dX7_isSetting_5 (by decide)) ?_
  refine snd_cons (snd_bipush X dX7_isSetting_6 (by decide)) ?_
  refine snd_cons (snd_callS X (ok_X7_isWithin l D ca) rfl rfl w_281 w_282 w_1 w_283 (by decide) (by decide) dX7_isSetting_8) ?_
  refine snd_cons (snd_goto X dX7_isSetting_11 (by decide)) ?_
  refine snd_cons (snd_iload_n X dX7_isSetting_14 rfl) ?_
  refine snd_cons (snd_iconst X dX7_isSetting_15 (by decide)) ?_
  refine snd_cons (snd_icmp_ne X dX7_isSetting_16 (by decide)) ?_
  refine snd_cons (snd_iload_n X dX7_isSetting_19 rfl) ?_
  refine snd_cons (snd_iconst X dX7_isSetting_20 (by decide)) ?_
  refine snd_cons (snd_sipush X dX7_isSetting_21 (by decide)) ?_
  refine snd_cons (snd_callS X (ok_X7_isWithin l D ca) rfl rfl w_281 w_282 w_1 w_283 (by decide) (by decide) dX7_isSetting_24) ?_
  refine snd_cons (snd_if_eq X dX7_isSetting_27 (by decide)) ?_
  refine snd_cons (snd_iconst X dX7_isSetting_30 (by decide)) ?_
  refine snd_cons (snd_goto X dX7_isSetting_31 (by decide)) ?_
  refine snd_cons (snd_iconst X dX7_isSetting_34 (by decide)) ?_
  refine snd_cons (snd_zret X dX7_isSetting_35) ?_
  exact snd_nil
theorem k_X7_isSetting_0 (ca : Nat → ClassId) : k_X7_isSetting ca 0 = i_iload 0 1 := rfl
theorem k_X7_isSetting_1 (ca : Nat → ClassId) : k_X7_isSetting ca 1 = i_if (fun x => ¬ x = 0) 14 4 := rfl
theorem k_X7_isSetting_4 (ca : Nat → ClassId) : k_X7_isSetting ca 4 = i_iload 1 5 := rfl
theorem k_X7_isSetting_5 (ca : Nat → ClassId) : k_X7_isSetting ca 5 = i_push (.int 0) 6 := rfl
theorem k_X7_isSetting_6 (ca : Nat → ClassId) : k_X7_isSetting ca 6 = i_push (.int 99) 8 := rfl
theorem k_X7_isSetting_8 (ca : Nat → ClassId) : k_X7_isSetting ca 8 = i_callS 3 0 0 0 0 (sp_X7_isWithin ca) 11 := rfl
theorem k_X7_isSetting_11 (ca : Nat → ClassId) : k_X7_isSetting ca 11 = i_goto 35 := rfl
theorem k_X7_isSetting_14 (ca : Nat → ClassId) : k_X7_isSetting ca 14 = i_iload 0 15 := rfl
theorem k_X7_isSetting_15 (ca : Nat → ClassId) : k_X7_isSetting ca 15 = i_push (.int 1) 16 := rfl
theorem k_X7_isSetting_16 (ca : Nat → ClassId) : k_X7_isSetting ca 16 = i_icmp (fun x y => ¬ x = y) 34 19 := rfl
theorem k_X7_isSetting_19 (ca : Nat → ClassId) : k_X7_isSetting ca 19 = i_iload 1 20 := rfl
theorem k_X7_isSetting_20 (ca : Nat → ClassId) : k_X7_isSetting ca 20 = i_push (.int 1) 21 := rfl
theorem k_X7_isSetting_21 (ca : Nat → ClassId) : k_X7_isSetting ca 21 = i_push (.int 999) 24 := rfl
theorem k_X7_isSetting_24 (ca : Nat → ClassId) : k_X7_isSetting ca 24 = i_callS 3 0 0 0 0 (sp_X7_isWithin ca) 27 := rfl
theorem k_X7_isSetting_27 (ca : Nat → ClassId) : k_X7_isSetting ca 27 = i_if (fun x => x = 0) 34 30 := rfl
theorem k_X7_isSetting_30 (ca : Nat → ClassId) : k_X7_isSetting ca 30 = i_push (.int 1) 31 := rfl
theorem k_X7_isSetting_31 (ca : Nat → ClassId) : k_X7_isSetting ca 31 = i_goto 35 := rfl
theorem k_X7_isSetting_34 (ca : Nat → ClassId) : k_X7_isSetting ca 34 = i_push (.int 0) 35 := rfl
theorem k_X7_isSetting_35 (ca : Nat → ClassId) : k_X7_isSetting ca 35 = i_zret := rfl
set_option maxHeartbeats 4000000 in
set_option maxRecDepth 20000 in
theorem ok_X7_isSetting (l : Launch) (D : va_G) (ca : Nat → ClassId) : OkAll l D ca yX7_isSetting cX7_isSetting 2 (some .boolean) 1 0 0 (sp_X7_isSetting ca) := by
  intro av h post hs
  unfold sp_X7_isSetting at hs
  split at hs
  · refine okM_of t_X7_isSetting (by decide +kernel) (c1_int (c1_int c1_nil)) (Nat.le_of_ble_eq_true rfl) ?_
    intro K go
    refine go (stp []) 30 _ _ _ _ _ _ ?_
    simp only [wpS, ite_not, i_push, i_iload, i_lload, i_aload, i_istore, i_astore, i_lstore, i_iinc, i_bin, i_dv, i_un, i_lbin, i_lsh, i_i2l, i_l2i, i_lcmp, i_dup, i_dup2, i_pop, i_if, i_icmp, i_goto, swG, i_sw, i_getf, i_puti, i_putz, i_putr, i_ald, i_lald, i_aald, i_ast, i_last, i_aast, i_alen, i_new, i_newi, i_newl, i_newq, i_oinit, i_ret, i_zret, i_lret, i_vret, catS, tk, rpush, isO, i_m1, i_m2, i_acopy, i_callV, i_callS, KRet, lget, lput, lputL, lcl0, isL, lv0, List.map_cons, List.map_nil, List.length_cons, List.length_nil, List.cons_append, List.nil_append, Nat.reduceAdd, Nat.reduceSub, Nat.reduceLeDiff, List.replicate_succ, List.replicate_zero, List.getElem?_cons_succ, List.getElem?_cons_zero, List.set_cons_succ, List.set_cons_zero, true_and, and_true, if_true, if_false, reduceIte, Nat.le_refl, Value.category, va_up_app, eq_self, stp, Nat.reduceBEq, Bool.or_false, Bool.false_or, Bool.true_or, Bool.or_true, or_true, true_or, bx_uu, implies_true, true_implies, not_true, not_false_eq_true, false_implies, and_self, Nat.reduceLT, Int32.reduceAdd, Int32.reduceSub, Int32.reduceMul, Int32.reduceLE, Int32.reduceLT, Int32.reduceToNatClampNeg, va_rf_some, Bool.false_eq_true, k_X7_isSetting_0 ca, k_X7_isSetting_1 ca, k_X7_isSetting_4 ca, k_X7_isSetting_5 ca, k_X7_isSetting_6 ca, k_X7_isSetting_8 ca, k_X7_isSetting_11 ca, k_X7_isSetting_14 ca, k_X7_isSetting_15 ca, k_X7_isSetting_16 ca, k_X7_isSetting_19 ca, k_X7_isSetting_20 ca, k_X7_isSetting_21 ca, k_X7_isSetting_24 ca, k_X7_isSetting_27 ca, k_X7_isSetting_30 ca, k_X7_isSetting_31 ca, k_X7_isSetting_34 ca, k_X7_isSetting_35 ca, sp_X7_isWithin, b2i_01]
    clear go
    (repeat' first | intro _ | apply And.intro | apply ifp) <;> simp_all [isSet, b2i_0, b2i_t, b2i_f]
  · exact hs.elim
def sp_X7_oneIf (_ : Nat → ClassId) : SPEC := fun av h post => match av with
  | [.int v] => post (some (.int (if v = 0 then 0 else 1))) h
  | _ => False
def k_X7_oneIf (ca : Nat → ClassId) : Nat → IT := fun pc => lk pc [(0, i_iload 0 1),
  (1, i_if (fun x => x = 0) 8 4),
  (4, i_push (.int 1) 5),
  (5, i_goto 9),
  (8, i_push (.int 0) 9),
  (9, i_ret)]
set_option maxRecDepth 20000 in
theorem t_X7_oneIf : Tb k_X7_oneIf yX7_oneIf cX7_oneIf 1 (some .int) 0 0 0 := by
  intro l D ca A p e s m args below meth c post X
  unfold k_X7_oneIf
  refine snd_cons (snd_iload_n X dX7_oneIf_0 rfl) ?_
  refine snd_cons (snd_if_eq X dX7_oneIf_1 (by decide)) ?_
  refine snd_cons (snd_iconst X dX7_oneIf_4 (by decide)) ?_
  refine snd_cons (snd_goto X dX7_oneIf_5 (by decide)) ?_
  refine snd_cons (snd_iconst X dX7_oneIf_8 (by decide)) ?_
  refine snd_cons (snd_ret X dX7_oneIf_9) ?_
  exact snd_nil
theorem k_X7_oneIf_0 (ca : Nat → ClassId) : k_X7_oneIf ca 0 = i_iload 0 1 := rfl
theorem k_X7_oneIf_1 (ca : Nat → ClassId) : k_X7_oneIf ca 1 = i_if (fun x => x = 0) 8 4 := rfl
theorem k_X7_oneIf_4 (ca : Nat → ClassId) : k_X7_oneIf ca 4 = i_push (.int 1) 5 := rfl
theorem k_X7_oneIf_5 (ca : Nat → ClassId) : k_X7_oneIf ca 5 = i_goto 9 := rfl
theorem k_X7_oneIf_8 (ca : Nat → ClassId) : k_X7_oneIf ca 8 = i_push (.int 0) 9 := rfl
theorem k_X7_oneIf_9 (ca : Nat → ClassId) : k_X7_oneIf ca 9 = i_ret := rfl
set_option maxHeartbeats 4000000 in
set_option maxRecDepth 20000 in
theorem ok_X7_oneIf (l : Launch) (D : va_G) (ca : Nat → ClassId) : OkAll l D ca yX7_oneIf cX7_oneIf 1 (some .int) 0 0 0 (sp_X7_oneIf ca) := by
  intro av h post hs
  unfold sp_X7_oneIf at hs
  split at hs
  · refine okM_of t_X7_oneIf (by decide +kernel) (c1_int c1_nil) (Nat.le_of_ble_eq_true rfl) ?_
    intro K go
    refine go (stp []) 20 _ _ _ _ _ _ ?_
    simp only [wpS, ite_not, i_push, i_iload, i_lload, i_aload, i_istore, i_astore, i_lstore, i_iinc, i_bin, i_dv, i_un, i_lbin, i_lsh, i_i2l, i_l2i, i_lcmp, i_dup, i_dup2, i_pop, i_if, i_icmp, i_goto, swG, i_sw, i_getf, i_puti, i_putz, i_putr, i_ald, i_lald, i_aald, i_ast, i_last, i_aast, i_alen, i_new, i_newi, i_newl, i_newq, i_oinit, i_ret, i_zret, i_lret, i_vret, catS, tk, rpush, isO, i_m1, i_m2, i_acopy, i_callV, i_callS, KRet, lget, lput, lputL, lcl0, isL, lv0, List.map_cons, List.map_nil, List.length_cons, List.length_nil, List.cons_append, List.nil_append, Nat.reduceAdd, Nat.reduceSub, Nat.reduceLeDiff, List.replicate_succ, List.replicate_zero, List.getElem?_cons_succ, List.getElem?_cons_zero, List.set_cons_succ, List.set_cons_zero, true_and, and_true, if_true, if_false, reduceIte, Nat.le_refl, Value.category, va_up_app, eq_self, stp, Nat.reduceBEq, Bool.or_false, Bool.false_or, Bool.true_or, Bool.or_true, or_true, true_or, bx_uu, implies_true, true_implies, not_true, not_false_eq_true, false_implies, and_self, Nat.reduceLT, Int32.reduceAdd, Int32.reduceSub, Int32.reduceMul, Int32.reduceLE, Int32.reduceLT, Int32.reduceToNatClampNeg, va_rf_some, Bool.false_eq_true, k_X7_oneIf_0 ca, k_X7_oneIf_1 ca, k_X7_oneIf_4 ca, k_X7_oneIf_5 ca, k_X7_oneIf_8 ca, k_X7_oneIf_9 ca]
    clear go
    (repeat' first | intro _ | apply And.intro | apply ifp) <;> simp_all []
  · exact hs.elim
def sp_X7_bendAt (_ : Nat → ClassId) : SPEC := fun av h post => match av with
  | [.int r, .int w] => post (some (.int (r * (w - 200)))) h
  | _ => False
def k_X7_bendAt (ca : Nat → ClassId) : Nat → IT := fun pc => lk pc [(0, i_iload 0 1),
  (1, i_iload 1 2),
  (2, i_push (.int 200) 5),
  (5, i_bin (fun x y => x - y) 6),
  (6, i_bin (fun x y => x * y) 7),
  (7, i_ret)]
set_option maxRecDepth 20000 in
theorem t_X7_bendAt : Tb k_X7_bendAt yX7_bendAt cX7_bendAt 2 (some .int) 0 0 0 := by
  intro l D ca A p e s m args below meth c post X
  unfold k_X7_bendAt
  refine snd_cons (snd_iload_n X dX7_bendAt_0 rfl) ?_
  refine snd_cons (snd_iload_n X dX7_bendAt_1 rfl) ?_
  refine snd_cons (snd_sipush X dX7_bendAt_2 (by decide)) ?_
  refine snd_cons (snd_isub X dX7_bendAt_5) ?_
  refine snd_cons (snd_imul X dX7_bendAt_6) ?_
  refine snd_cons (snd_ret X dX7_bendAt_7) ?_
  exact snd_nil
theorem k_X7_bendAt_0 (ca : Nat → ClassId) : k_X7_bendAt ca 0 = i_iload 0 1 := rfl
theorem k_X7_bendAt_1 (ca : Nat → ClassId) : k_X7_bendAt ca 1 = i_iload 1 2 := rfl
theorem k_X7_bendAt_2 (ca : Nat → ClassId) : k_X7_bendAt ca 2 = i_push (.int 200) 5 := rfl
theorem k_X7_bendAt_5 (ca : Nat → ClassId) : k_X7_bendAt ca 5 = i_bin (fun x y => x - y) 6 := rfl
theorem k_X7_bendAt_6 (ca : Nat → ClassId) : k_X7_bendAt ca 6 = i_bin (fun x y => x * y) 7 := rfl
theorem k_X7_bendAt_7 (ca : Nat → ClassId) : k_X7_bendAt ca 7 = i_ret := rfl
set_option maxHeartbeats 4000000 in
set_option maxRecDepth 20000 in
theorem ok_X7_bendAt (l : Launch) (D : va_G) (ca : Nat → ClassId) : OkAll l D ca yX7_bendAt cX7_bendAt 2 (some .int) 0 0 0 (sp_X7_bendAt ca) := by
  intro av h post hs
  unfold sp_X7_bendAt at hs
  split at hs
  · refine okM_of t_X7_bendAt (by decide +kernel) (c1_int (c1_int c1_nil)) (Nat.le_of_ble_eq_true rfl) ?_
    intro K go
    refine go (stp []) 20 _ _ _ _ _ _ ?_
    simp only [wpS, ite_not, i_push, i_iload, i_lload, i_aload, i_istore, i_astore, i_lstore, i_iinc, i_bin, i_dv, i_un, i_lbin, i_lsh, i_i2l, i_l2i, i_lcmp, i_dup, i_dup2, i_pop, i_if, i_icmp, i_goto, swG, i_sw, i_getf, i_puti, i_putz, i_putr, i_ald, i_lald, i_aald, i_ast, i_last, i_aast, i_alen, i_new, i_newi, i_newl, i_newq, i_oinit, i_ret, i_zret, i_lret, i_vret, catS, tk, rpush, isO, i_m1, i_m2, i_acopy, i_callV, i_callS, KRet, lget, lput, lputL, lcl0, isL, lv0, List.map_cons, List.map_nil, List.length_cons, List.length_nil, List.cons_append, List.nil_append, Nat.reduceAdd, Nat.reduceSub, Nat.reduceLeDiff, List.replicate_succ, List.replicate_zero, List.getElem?_cons_succ, List.getElem?_cons_zero, List.set_cons_succ, List.set_cons_zero, true_and, and_true, if_true, if_false, reduceIte, Nat.le_refl, Value.category, va_up_app, eq_self, stp, Nat.reduceBEq, Bool.or_false, Bool.false_or, Bool.true_or, Bool.or_true, or_true, true_or, bx_uu, implies_true, true_implies, not_true, not_false_eq_true, false_implies, and_self, Nat.reduceLT, Int32.reduceAdd, Int32.reduceSub, Int32.reduceMul, Int32.reduceLE, Int32.reduceLT, Int32.reduceToNatClampNeg, va_rf_some, Bool.false_eq_true, k_X7_bendAt_0 ca, k_X7_bendAt_1 ca, k_X7_bendAt_2 ca, k_X7_bendAt_5 ca, k_X7_bendAt_6 ca, k_X7_bendAt_7 ca]
    exact hs
  · exact hs.elim
def flDiv (x y : Int32) : Int32 := if 0 ≤ x ^^^ y then x / y else if x / y * y = x then x / y else x / y - 1
def sp_J9_floorDiv_7cf53 (_ : Nat → ClassId) : SPEC := fun av h post => match av with
  | [.int x, .int y] => ¬ y = 0 ∧ post (some (.int (flDiv x y))) h
  | _ => False
def k_J9_floorDiv_7cf53 (ca : Nat → ClassId) : Nat → IT := fun pc => lk pc [(0, i_iload 0 1),
  (1, i_iload 1 2),
  (2, i_dv (fun x y => x / y) 3),
  (3, i_istore 2 4),
  (4, i_iload 0 5),
  (5, i_iload 1 6),
  (6, i_bin (fun x y => x ^^^ y) 7),
  (7, i_if (fun x => 0 ≤ x) 21 10),
  (10, i_iload 2 11),
  (11, i_iload 1 12),
  (12, i_bin (fun x y => x * y) 13),
  (13, i_iload 0 14),
  (14, i_icmp (fun x y => x = y) 21 17),
  (17, i_iload 2 18),
  (18, i_push (.int 1) 19),
  (19, i_bin (fun x y => x - y) 20),
  (20, i_ret),
  (21, i_iload 2 22),
  (22, i_ret)]
set_option maxRecDepth 20000 in
theorem t_J9_floorDiv_7cf53 : Tb k_J9_floorDiv_7cf53 yJ9_floorDiv_7cf53 cJ9_floorDiv_7cf53 3 (some .int) 0 0 0 := by
  intro l D ca A p e s m args below meth c post X
  unfold k_J9_floorDiv_7cf53
  refine snd_cons (snd_iload_n X dJ9_floorDiv_7cf53_0 rfl) ?_
  refine snd_cons (snd_iload_n X dJ9_floorDiv_7cf53_1 rfl) ?_
  refine snd_cons (snd_idiv X dJ9_floorDiv_7cf53_2) ?_
  refine snd_cons (snd_istore_n X dJ9_floorDiv_7cf53_3 rfl (by decide)) ?_
  refine snd_cons (snd_iload_n X dJ9_floorDiv_7cf53_4 rfl) ?_
  refine snd_cons (snd_iload_n X dJ9_floorDiv_7cf53_5 rfl) ?_
  refine snd_cons (snd_ixor X dJ9_floorDiv_7cf53_6) ?_
  refine snd_cons (snd_if_ge X dJ9_floorDiv_7cf53_7 (by decide)) ?_
  refine snd_cons (snd_iload_n X dJ9_floorDiv_7cf53_10 rfl) ?_
  refine snd_cons (snd_iload_n X dJ9_floorDiv_7cf53_11 rfl) ?_
  refine snd_cons (snd_imul X dJ9_floorDiv_7cf53_12) ?_
  refine snd_cons (snd_iload_n X dJ9_floorDiv_7cf53_13 rfl) ?_
  refine snd_cons (snd_icmp_eq X dJ9_floorDiv_7cf53_14 (by decide)) ?_
  refine snd_cons (snd_iload_n X dJ9_floorDiv_7cf53_17 rfl) ?_
  refine snd_cons (snd_iconst X dJ9_floorDiv_7cf53_18 (by decide)) ?_
  refine snd_cons (snd_isub X dJ9_floorDiv_7cf53_19) ?_
  refine snd_cons (snd_ret X dJ9_floorDiv_7cf53_20) ?_
  refine snd_cons (snd_iload_n X dJ9_floorDiv_7cf53_21 rfl) ?_
  refine snd_cons (snd_ret X dJ9_floorDiv_7cf53_22) ?_
  exact snd_nil
theorem k_J9_floorDiv_7cf53_0 (ca : Nat → ClassId) : k_J9_floorDiv_7cf53 ca 0 = i_iload 0 1 := rfl
theorem k_J9_floorDiv_7cf53_1 (ca : Nat → ClassId) : k_J9_floorDiv_7cf53 ca 1 = i_iload 1 2 := rfl
theorem k_J9_floorDiv_7cf53_2 (ca : Nat → ClassId) : k_J9_floorDiv_7cf53 ca 2 = i_dv (fun x y => x / y) 3 := rfl
theorem k_J9_floorDiv_7cf53_3 (ca : Nat → ClassId) : k_J9_floorDiv_7cf53 ca 3 = i_istore 2 4 := rfl
theorem k_J9_floorDiv_7cf53_4 (ca : Nat → ClassId) : k_J9_floorDiv_7cf53 ca 4 = i_iload 0 5 := rfl
theorem k_J9_floorDiv_7cf53_5 (ca : Nat → ClassId) : k_J9_floorDiv_7cf53 ca 5 = i_iload 1 6 := rfl
theorem k_J9_floorDiv_7cf53_6 (ca : Nat → ClassId) : k_J9_floorDiv_7cf53 ca 6 = i_bin (fun x y => x ^^^ y) 7 := rfl
theorem k_J9_floorDiv_7cf53_7 (ca : Nat → ClassId) : k_J9_floorDiv_7cf53 ca 7 = i_if (fun x => 0 ≤ x) 21 10 := rfl
theorem k_J9_floorDiv_7cf53_10 (ca : Nat → ClassId) : k_J9_floorDiv_7cf53 ca 10 = i_iload 2 11 := rfl
theorem k_J9_floorDiv_7cf53_11 (ca : Nat → ClassId) : k_J9_floorDiv_7cf53 ca 11 = i_iload 1 12 := rfl
theorem k_J9_floorDiv_7cf53_12 (ca : Nat → ClassId) : k_J9_floorDiv_7cf53 ca 12 = i_bin (fun x y => x * y) 13 := rfl
theorem k_J9_floorDiv_7cf53_13 (ca : Nat → ClassId) : k_J9_floorDiv_7cf53 ca 13 = i_iload 0 14 := rfl
theorem k_J9_floorDiv_7cf53_14 (ca : Nat → ClassId) : k_J9_floorDiv_7cf53 ca 14 = i_icmp (fun x y => x = y) 21 17 := rfl
theorem k_J9_floorDiv_7cf53_17 (ca : Nat → ClassId) : k_J9_floorDiv_7cf53 ca 17 = i_iload 2 18 := rfl
theorem k_J9_floorDiv_7cf53_18 (ca : Nat → ClassId) : k_J9_floorDiv_7cf53 ca 18 = i_push (.int 1) 19 := rfl
theorem k_J9_floorDiv_7cf53_19 (ca : Nat → ClassId) : k_J9_floorDiv_7cf53 ca 19 = i_bin (fun x y => x - y) 20 := rfl
theorem k_J9_floorDiv_7cf53_20 (ca : Nat → ClassId) : k_J9_floorDiv_7cf53 ca 20 = i_ret := rfl
theorem k_J9_floorDiv_7cf53_21 (ca : Nat → ClassId) : k_J9_floorDiv_7cf53 ca 21 = i_iload 2 22 := rfl
theorem k_J9_floorDiv_7cf53_22 (ca : Nat → ClassId) : k_J9_floorDiv_7cf53 ca 22 = i_ret := rfl
set_option maxHeartbeats 4000000 in
set_option maxRecDepth 20000 in
theorem ok_J9_floorDiv_7cf53 (l : Launch) (D : va_G) (ca : Nat → ClassId) : OkAll l D ca yJ9_floorDiv_7cf53 cJ9_floorDiv_7cf53 3 (some .int) 0 0 0 (sp_J9_floorDiv_7cf53 ca) := by
  intro av h post hs
  unfold sp_J9_floorDiv_7cf53 at hs
  split at hs
  · refine okM_of t_J9_floorDiv_7cf53 (by decide +kernel) (c1_int (c1_int c1_nil)) (Nat.le_of_ble_eq_true rfl) ?_
    intro K go
    refine go (stp []) 30 _ _ _ _ _ _ ?_
    simp only [wpS, ite_not, i_push, i_iload, i_lload, i_aload, i_istore, i_astore, i_lstore, i_iinc, i_bin, i_dv, i_un, i_lbin, i_lsh, i_i2l, i_l2i, i_lcmp, i_dup, i_dup2, i_pop, i_if, i_icmp, i_goto, swG, i_sw, i_getf, i_puti, i_putz, i_putr, i_ald, i_lald, i_aald, i_ast, i_last, i_aast, i_alen, i_new, i_newi, i_newl, i_newq, i_oinit, i_ret, i_zret, i_lret, i_vret, catS, tk, rpush, isO, i_m1, i_m2, i_acopy, i_callV, i_callS, KRet, lget, lput, lputL, lcl0, isL, lv0, List.map_cons, List.map_nil, List.length_cons, List.length_nil, List.cons_append, List.nil_append, Nat.reduceAdd, Nat.reduceSub, Nat.reduceLeDiff, List.replicate_succ, List.replicate_zero, List.getElem?_cons_succ, List.getElem?_cons_zero, List.set_cons_succ, List.set_cons_zero, true_and, and_true, if_true, if_false, reduceIte, Nat.le_refl, Value.category, va_up_app, eq_self, stp, Nat.reduceBEq, Bool.or_false, Bool.false_or, Bool.true_or, Bool.or_true, or_true, true_or, bx_uu, implies_true, true_implies, not_true, not_false_eq_true, false_implies, and_self, Nat.reduceLT, Int32.reduceAdd, Int32.reduceSub, Int32.reduceMul, Int32.reduceLE, Int32.reduceLT, Int32.reduceToNatClampNeg, va_rf_some, Bool.false_eq_true, k_J9_floorDiv_7cf53_0 ca, k_J9_floorDiv_7cf53_1 ca, k_J9_floorDiv_7cf53_2 ca, k_J9_floorDiv_7cf53_3 ca, k_J9_floorDiv_7cf53_4 ca, k_J9_floorDiv_7cf53_5 ca, k_J9_floorDiv_7cf53_6 ca, k_J9_floorDiv_7cf53_7 ca, k_J9_floorDiv_7cf53_10 ca, k_J9_floorDiv_7cf53_11 ca, k_J9_floorDiv_7cf53_12 ca, k_J9_floorDiv_7cf53_13 ca, k_J9_floorDiv_7cf53_14 ca, k_J9_floorDiv_7cf53_17 ca, k_J9_floorDiv_7cf53_18 ca, k_J9_floorDiv_7cf53_19 ca, k_J9_floorDiv_7cf53_20 ca, k_J9_floorDiv_7cf53_21 ca, k_J9_floorDiv_7cf53_22 ca]
    clear go
    (repeat' first | intro _ | apply And.intro | apply ifp) <;> simp_all [flDiv]
  · exact hs.elim
def lPull (r hi : Int32) : Int32 := if 0 < r then (if 200 - flDiv (-hi) r ≤ 1500 then (if 200 - flDiv (-hi) r < -500 then -500 else 200 - flDiv (-hi) r) else -10000004) else if r * (-500 - 200) < hi then -10000004 else -500
def sp_X7_leastPulledUp (_ : Nat → ClassId) : SPEC := fun av h post => match av with
  | [.int r, .int hi] => post (some (.int (lPull r hi))) h
  | _ => False
def k_X7_leastPulledUp (ca : Nat → ClassId) : Nat → IT := fun pc => lk pc [(0, i_iload 0 1),
  (1, i_if (fun x => 0 < x) 24 4),
  (4, i_iload 0 5),
  (5, i_push (.int (-500)) 8),
  (8, i_callS 2 0 0 0 0 (sp_X7_bendAt ca) 11),
  (11, i_iload 1 12),
  (12, i_icmp (fun x y => x < y) 21 15),
  (15, i_push (.int (-500)) 18),
  (18, i_goto 23),
  (21, i_push (.int (-10000004)) 23),
  (23, i_ret),
  (24, i_push (.int 200) 27),
  (27, i_iload 1 28),
  (28, i_un (fun x => -x) 29),
  (29, i_iload 0 30),
  (30, i_callS 2 0 0 0 0 (sp_J9_floorDiv_7cf53 ca) 33),
  (33, i_bin (fun x y => x - y) 34),
  (34, i_istore 2 35),
  (35, i_iload 2 36),
  (36, i_push (.int 1500) 39),
  (39, i_icmp (fun x y => x ≤ y) 47 42),
  (42, i_push (.int (-10000004)) 44),
  (44, i_goto 54),
  (47, i_iload 2 48),
  (48, i_push (.int (-500)) 51),
  (51, i_m2 (fun x y => if x < y then y else x) 0 0 54),
  (54, i_ret)]
set_option maxRecDepth 20000 in
theorem t_X7_leastPulledUp : Tb k_X7_leastPulledUp yX7_leastPulledUp cX7_leastPulledUp 3 (some .int) 1 0 0 := by
  intro l D ca A p e s m args below meth c post X
  unfold k_X7_leastPulledUp
  refine snd_cons (snd_iload_n X dX7_leastPulledUp_0 rfl) ?_
  refine snd_cons (snd_if_gt X dX7_leastPulledUp_1 (by decide)) ?_
  refine snd_cons (snd_iload_n X dX7_leastPulledUp_4 rfl) ?_
  refine snd_cons (snd_sipush X dX7_leastPulledUp_5 (by decide)) ?_
  refine snd_cons (snd_callS X (ok_X7_bendAt l D ca) rfl rfl w_377 w_348 w_1 w_349 (by decide) (by decide) dX7_leastPulledUp_8) ?_
  refine snd_cons (snd_iload_n X dX7_leastPulledUp_11 rfl) ?_
  refine snd_cons (snd_icmp_lt X dX7_leastPulledUp_12 (by decide)) ?_
  refine snd_cons (snd_sipush X dX7_leastPulledUp_15 (by decide)) ?_
  refine snd_cons (snd_goto X dX7_leastPulledUp_18 (by decide)) ?_
  refine snd_cons (snd_ldc X w_361 dX7_leastPulledUp_21) ?_
  refine snd_cons (snd_ret X dX7_leastPulledUp_23) ?_
  refine snd_cons (snd_sipush X dX7_leastPulledUp_24 (by decide)) ?_
  refine snd_cons (snd_iload_n X dX7_leastPulledUp_27 rfl) ?_
  refine snd_cons (snd_ineg X dX7_leastPulledUp_28) ?_
  refine snd_cons (snd_iload_n X dX7_leastPulledUp_29 rfl) ?_
  refine snd_cons (snd_callJ X (ok_J9_floorDiv_7cf53 l D ca) rfl rfl w_378 w_379 w_9 w_380 (by decide) (by decide) dX7_leastPulledUp_30) ?_
  refine snd_cons (snd_isub X dX7_leastPulledUp_33) ?_
  refine snd_cons (snd_istore_n X dX7_leastPulledUp_34 rfl (by decide)) ?_
  refine snd_cons (snd_iload_n X dX7_leastPulledUp_35 rfl) ?_
  refine snd_cons (snd_sipush X dX7_leastPulledUp_36 (by decide)) ?_
  refine snd_cons (snd_icmp_le X dX7_leastPulledUp_39 (by decide)) ?_
  refine snd_cons (snd_ldc X w_361 dX7_leastPulledUp_42) ?_
  refine snd_cons (snd_goto X dX7_leastPulledUp_44 (by decide)) ?_
  refine snd_cons (snd_iload_n X dX7_leastPulledUp_47 rfl) ?_
  refine snd_cons (snd_sipush X dX7_leastPulledUp_48 (by decide)) ?_
  refine snd_cons (snd_mmax X rfl rfl w_381 w_382 w_9 w_383 (by decide) (by decide) dX7_leastPulledUp_51) ?_
  refine snd_cons (snd_ret X dX7_leastPulledUp_54) ?_
  exact snd_nil
theorem k_X7_leastPulledUp_0 (ca : Nat → ClassId) : k_X7_leastPulledUp ca 0 = i_iload 0 1 := rfl
theorem k_X7_leastPulledUp_1 (ca : Nat → ClassId) : k_X7_leastPulledUp ca 1 = i_if (fun x => 0 < x) 24 4 := rfl
theorem k_X7_leastPulledUp_4 (ca : Nat → ClassId) : k_X7_leastPulledUp ca 4 = i_iload 0 5 := rfl
theorem k_X7_leastPulledUp_5 (ca : Nat → ClassId) : k_X7_leastPulledUp ca 5 = i_push (.int (-500)) 8 := rfl
theorem k_X7_leastPulledUp_8 (ca : Nat → ClassId) : k_X7_leastPulledUp ca 8 = i_callS 2 0 0 0 0 (sp_X7_bendAt ca) 11 := rfl
theorem k_X7_leastPulledUp_11 (ca : Nat → ClassId) : k_X7_leastPulledUp ca 11 = i_iload 1 12 := rfl
theorem k_X7_leastPulledUp_12 (ca : Nat → ClassId) : k_X7_leastPulledUp ca 12 = i_icmp (fun x y => x < y) 21 15 := rfl
theorem k_X7_leastPulledUp_15 (ca : Nat → ClassId) : k_X7_leastPulledUp ca 15 = i_push (.int (-500)) 18 := rfl
theorem k_X7_leastPulledUp_18 (ca : Nat → ClassId) : k_X7_leastPulledUp ca 18 = i_goto 23 := rfl
theorem k_X7_leastPulledUp_21 (ca : Nat → ClassId) : k_X7_leastPulledUp ca 21 = i_push (.int (-10000004)) 23 := rfl
theorem k_X7_leastPulledUp_23 (ca : Nat → ClassId) : k_X7_leastPulledUp ca 23 = i_ret := rfl
theorem k_X7_leastPulledUp_24 (ca : Nat → ClassId) : k_X7_leastPulledUp ca 24 = i_push (.int 200) 27 := rfl
theorem k_X7_leastPulledUp_27 (ca : Nat → ClassId) : k_X7_leastPulledUp ca 27 = i_iload 1 28 := rfl
theorem k_X7_leastPulledUp_28 (ca : Nat → ClassId) : k_X7_leastPulledUp ca 28 = i_un (fun x => -x) 29 := rfl
theorem k_X7_leastPulledUp_29 (ca : Nat → ClassId) : k_X7_leastPulledUp ca 29 = i_iload 0 30 := rfl
theorem k_X7_leastPulledUp_30 (ca : Nat → ClassId) : k_X7_leastPulledUp ca 30 = i_callS 2 0 0 0 0 (sp_J9_floorDiv_7cf53 ca) 33 := rfl
theorem k_X7_leastPulledUp_33 (ca : Nat → ClassId) : k_X7_leastPulledUp ca 33 = i_bin (fun x y => x - y) 34 := rfl
theorem k_X7_leastPulledUp_34 (ca : Nat → ClassId) : k_X7_leastPulledUp ca 34 = i_istore 2 35 := rfl
theorem k_X7_leastPulledUp_35 (ca : Nat → ClassId) : k_X7_leastPulledUp ca 35 = i_iload 2 36 := rfl
theorem k_X7_leastPulledUp_36 (ca : Nat → ClassId) : k_X7_leastPulledUp ca 36 = i_push (.int 1500) 39 := rfl
theorem k_X7_leastPulledUp_39 (ca : Nat → ClassId) : k_X7_leastPulledUp ca 39 = i_icmp (fun x y => x ≤ y) 47 42 := rfl
theorem k_X7_leastPulledUp_42 (ca : Nat → ClassId) : k_X7_leastPulledUp ca 42 = i_push (.int (-10000004)) 44 := rfl
theorem k_X7_leastPulledUp_44 (ca : Nat → ClassId) : k_X7_leastPulledUp ca 44 = i_goto 54 := rfl
theorem k_X7_leastPulledUp_47 (ca : Nat → ClassId) : k_X7_leastPulledUp ca 47 = i_iload 2 48 := rfl
theorem k_X7_leastPulledUp_48 (ca : Nat → ClassId) : k_X7_leastPulledUp ca 48 = i_push (.int (-500)) 51 := rfl
theorem k_X7_leastPulledUp_51 (ca : Nat → ClassId) : k_X7_leastPulledUp ca 51 = i_m2 (fun x y => if x < y then y else x) 0 0 54 := rfl
theorem k_X7_leastPulledUp_54 (ca : Nat → ClassId) : k_X7_leastPulledUp ca 54 = i_ret := rfl
set_option maxHeartbeats 4000000 in
set_option maxRecDepth 20000 in
theorem ok_X7_leastPulledUp (l : Launch) (D : va_G) (ca : Nat → ClassId) : OkAll l D ca yX7_leastPulledUp cX7_leastPulledUp 3 (some .int) 1 0 0 (sp_X7_leastPulledUp ca) := by
  intro av h post hs
  unfold sp_X7_leastPulledUp at hs
  split at hs
  · refine okM_of t_X7_leastPulledUp (by decide +kernel) (c1_int (c1_int c1_nil)) (Nat.le_of_ble_eq_true rfl) ?_
    intro K go
    refine go (stp []) 40 _ _ _ _ _ _ ?_
    simp only [wpS, ite_not, i_push, i_iload, i_lload, i_aload, i_istore, i_astore, i_lstore, i_iinc, i_bin, i_dv, i_un, i_lbin, i_lsh, i_i2l, i_l2i, i_lcmp, i_dup, i_dup2, i_pop, i_if, i_icmp, i_goto, swG, i_sw, i_getf, i_puti, i_putz, i_putr, i_ald, i_lald, i_aald, i_ast, i_last, i_aast, i_alen, i_new, i_newi, i_newl, i_newq, i_oinit, i_ret, i_zret, i_lret, i_vret, catS, tk, rpush, isO, i_m1, i_m2, i_acopy, i_callV, i_callS, KRet, lget, lput, lputL, lcl0, isL, lv0, List.map_cons, List.map_nil, List.length_cons, List.length_nil, List.cons_append, List.nil_append, Nat.reduceAdd, Nat.reduceSub, Nat.reduceLeDiff, List.replicate_succ, List.replicate_zero, List.getElem?_cons_succ, List.getElem?_cons_zero, List.set_cons_succ, List.set_cons_zero, true_and, and_true, if_true, if_false, reduceIte, Nat.le_refl, Value.category, va_up_app, eq_self, stp, Nat.reduceBEq, Bool.or_false, Bool.false_or, Bool.true_or, Bool.or_true, or_true, true_or, bx_uu, implies_true, true_implies, not_true, not_false_eq_true, false_implies, and_self, Nat.reduceLT, Int32.reduceAdd, Int32.reduceSub, Int32.reduceMul, Int32.reduceLE, Int32.reduceLT, Int32.reduceToNatClampNeg, va_rf_some, Bool.false_eq_true, k_X7_leastPulledUp_0 ca, k_X7_leastPulledUp_1 ca, k_X7_leastPulledUp_4 ca, k_X7_leastPulledUp_5 ca, k_X7_leastPulledUp_8 ca, k_X7_leastPulledUp_11 ca, k_X7_leastPulledUp_12 ca, k_X7_leastPulledUp_15 ca, k_X7_leastPulledUp_18 ca, k_X7_leastPulledUp_21 ca, k_X7_leastPulledUp_23 ca, k_X7_leastPulledUp_24 ca, k_X7_leastPulledUp_27 ca, k_X7_leastPulledUp_28 ca, k_X7_leastPulledUp_29 ca, k_X7_leastPulledUp_30 ca, k_X7_leastPulledUp_33 ca, k_X7_leastPulledUp_34 ca, k_X7_leastPulledUp_35 ca, k_X7_leastPulledUp_36 ca, k_X7_leastPulledUp_39 ca, k_X7_leastPulledUp_42 ca, k_X7_leastPulledUp_44 ca, k_X7_leastPulledUp_47 ca, k_X7_leastPulledUp_48 ca, k_X7_leastPulledUp_51 ca, k_X7_leastPulledUp_54 ca, sp_X7_bendAt, sp_J9_floorDiv_7cf53]
    clear go
    (repeat' first | intro _ | apply And.intro | apply ifp) <;> first | (simp_all [lPull, -Int32.not_lt, -Int32.not_le]; done)
  · exact hs.elim
def gPull (r lo : Int32) : Int32 := if 0 < r then (if -500 ≤ 200 + flDiv lo r then (if 1500 < 200 + flDiv lo r then 1500 else 200 + flDiv lo r) else -10000004) else if lo < r * (1500 - 200) then -10000004 else 1500
def sp_X7_greatestPulledBack (_ : Nat → ClassId) : SPEC := fun av h post => match av with
  | [.int r, .int lo] => post (some (.int (gPull r lo))) h
  | _ => False
def k_X7_greatestPulledBack (ca : Nat → ClassId) : Nat → IT := fun pc => lk pc [(0, i_iload 0 1),
  (1, i_if (fun x => 0 < x) 24 4),
  (4, i_iload 0 5),
  (5, i_push (.int 1500) 8),
  (8, i_callS 2 0 0 0 0 (sp_X7_bendAt ca) 11),
  (11, i_iload 1 12),
  (12, i_icmp (fun x y => y < x) 21 15),
  (15, i_push (.int 1500) 18),
  (18, i_goto 23),
  (21, i_push (.int (-10000004)) 23),
  (23, i_ret),
  (24, i_push (.int 200) 27),
  (27, i_iload 1 28),
  (28, i_iload 0 29),
  (29, i_callS 2 0 0 0 0 (sp_J9_floorDiv_7cf53 ca) 32),
  (32, i_bin (fun x y => x + y) 33),
  (33, i_istore 2 34),
  (34, i_iload 2 35),
  (35, i_push (.int (-500)) 38),
  (38, i_icmp (fun x y => y ≤ x) 46 41),
  (41, i_push (.int (-10000004)) 43),
  (43, i_goto 53),
  (46, i_iload 2 47),
  (47, i_push (.int 1500) 50),
  (50, i_m2 (fun x y => if y < x then y else x) 0 0 53),
  (53, i_ret)]
set_option maxRecDepth 20000 in
theorem t_X7_greatestPulledBack : Tb k_X7_greatestPulledBack yX7_greatestPulledBack cX7_greatestPulledBack 3 (some .int) 1 0 0 := by
  intro l D ca A p e s m args below meth c post X
  unfold k_X7_greatestPulledBack
  refine snd_cons (snd_iload_n X dX7_greatestPulledBack_0 rfl) ?_
  refine snd_cons (snd_if_gt X dX7_greatestPulledBack_1 (by decide)) ?_
  refine snd_cons (snd_iload_n X dX7_greatestPulledBack_4 rfl) ?_
  refine snd_cons (snd_sipush X dX7_greatestPulledBack_5 (by decide)) ?_
  refine snd_cons (snd_callS X (ok_X7_bendAt l D ca) rfl rfl w_377 w_348 w_1 w_349 (by decide) (by decide) dX7_greatestPulledBack_8) ?_
  refine snd_cons (snd_iload_n X dX7_greatestPulledBack_11 rfl) ?_
  refine snd_cons (snd_icmp_gt X dX7_greatestPulledBack_12 (by decide)) ?_
  refine snd_cons (snd_sipush X dX7_greatestPulledBack_15 (by decide)) ?_
  refine snd_cons (snd_goto X dX7_greatestPulledBack_18 (by decide)) ?_
  refine snd_cons (snd_ldc X w_361 dX7_greatestPulledBack_21) ?_
  refine snd_cons (snd_ret X dX7_greatestPulledBack_23) ?_
  refine snd_cons (snd_sipush X dX7_greatestPulledBack_24 (by decide)) ?_
  refine snd_cons (snd_iload_n X dX7_greatestPulledBack_27 rfl) ?_
  refine snd_cons (snd_iload_n X dX7_greatestPulledBack_28 rfl) ?_
  refine snd_cons (snd_callJ X (ok_J9_floorDiv_7cf53 l D ca) rfl rfl w_378 w_379 w_9 w_380 (by decide) (by decide) dX7_greatestPulledBack_29) ?_
  refine snd_cons (snd_iadd X dX7_greatestPulledBack_32) ?_
  refine snd_cons (snd_istore_n X dX7_greatestPulledBack_33 rfl (by decide)) ?_
  refine snd_cons (snd_iload_n X dX7_greatestPulledBack_34 rfl) ?_
  refine snd_cons (snd_sipush X dX7_greatestPulledBack_35 (by decide)) ?_
  refine snd_cons (snd_icmp_ge X dX7_greatestPulledBack_38 (by decide)) ?_
  refine snd_cons (snd_ldc X w_361 dX7_greatestPulledBack_41) ?_
  refine snd_cons (snd_goto X dX7_greatestPulledBack_43 (by decide)) ?_
  refine snd_cons (snd_iload_n X dX7_greatestPulledBack_46 rfl) ?_
  refine snd_cons (snd_sipush X dX7_greatestPulledBack_47 (by decide)) ?_
  refine snd_cons (snd_mmin X rfl rfl w_387 w_388 w_9 w_389 (by decide) (by decide) dX7_greatestPulledBack_50) ?_
  refine snd_cons (snd_ret X dX7_greatestPulledBack_53) ?_
  exact snd_nil
theorem k_X7_greatestPulledBack_0 (ca : Nat → ClassId) : k_X7_greatestPulledBack ca 0 = i_iload 0 1 := rfl
theorem k_X7_greatestPulledBack_1 (ca : Nat → ClassId) : k_X7_greatestPulledBack ca 1 = i_if (fun x => 0 < x) 24 4 := rfl
theorem k_X7_greatestPulledBack_4 (ca : Nat → ClassId) : k_X7_greatestPulledBack ca 4 = i_iload 0 5 := rfl
theorem k_X7_greatestPulledBack_5 (ca : Nat → ClassId) : k_X7_greatestPulledBack ca 5 = i_push (.int 1500) 8 := rfl
theorem k_X7_greatestPulledBack_8 (ca : Nat → ClassId) : k_X7_greatestPulledBack ca 8 = i_callS 2 0 0 0 0 (sp_X7_bendAt ca) 11 := rfl
theorem k_X7_greatestPulledBack_11 (ca : Nat → ClassId) : k_X7_greatestPulledBack ca 11 = i_iload 1 12 := rfl
theorem k_X7_greatestPulledBack_12 (ca : Nat → ClassId) : k_X7_greatestPulledBack ca 12 = i_icmp (fun x y => y < x) 21 15 := rfl
theorem k_X7_greatestPulledBack_15 (ca : Nat → ClassId) : k_X7_greatestPulledBack ca 15 = i_push (.int 1500) 18 := rfl
theorem k_X7_greatestPulledBack_18 (ca : Nat → ClassId) : k_X7_greatestPulledBack ca 18 = i_goto 23 := rfl
theorem k_X7_greatestPulledBack_21 (ca : Nat → ClassId) : k_X7_greatestPulledBack ca 21 = i_push (.int (-10000004)) 23 := rfl
theorem k_X7_greatestPulledBack_23 (ca : Nat → ClassId) : k_X7_greatestPulledBack ca 23 = i_ret := rfl
theorem k_X7_greatestPulledBack_24 (ca : Nat → ClassId) : k_X7_greatestPulledBack ca 24 = i_push (.int 200) 27 := rfl
theorem k_X7_greatestPulledBack_27 (ca : Nat → ClassId) : k_X7_greatestPulledBack ca 27 = i_iload 1 28 := rfl
theorem k_X7_greatestPulledBack_28 (ca : Nat → ClassId) : k_X7_greatestPulledBack ca 28 = i_iload 0 29 := rfl
theorem k_X7_greatestPulledBack_29 (ca : Nat → ClassId) : k_X7_greatestPulledBack ca 29 = i_callS 2 0 0 0 0 (sp_J9_floorDiv_7cf53 ca) 32 := rfl
theorem k_X7_greatestPulledBack_32 (ca : Nat → ClassId) : k_X7_greatestPulledBack ca 32 = i_bin (fun x y => x + y) 33 := rfl
theorem k_X7_greatestPulledBack_33 (ca : Nat → ClassId) : k_X7_greatestPulledBack ca 33 = i_istore 2 34 := rfl
theorem k_X7_greatestPulledBack_34 (ca : Nat → ClassId) : k_X7_greatestPulledBack ca 34 = i_iload 2 35 := rfl
theorem k_X7_greatestPulledBack_35 (ca : Nat → ClassId) : k_X7_greatestPulledBack ca 35 = i_push (.int (-500)) 38 := rfl
theorem k_X7_greatestPulledBack_38 (ca : Nat → ClassId) : k_X7_greatestPulledBack ca 38 = i_icmp (fun x y => y ≤ x) 46 41 := rfl
theorem k_X7_greatestPulledBack_41 (ca : Nat → ClassId) : k_X7_greatestPulledBack ca 41 = i_push (.int (-10000004)) 43 := rfl
theorem k_X7_greatestPulledBack_43 (ca : Nat → ClassId) : k_X7_greatestPulledBack ca 43 = i_goto 53 := rfl
theorem k_X7_greatestPulledBack_46 (ca : Nat → ClassId) : k_X7_greatestPulledBack ca 46 = i_iload 2 47 := rfl
theorem k_X7_greatestPulledBack_47 (ca : Nat → ClassId) : k_X7_greatestPulledBack ca 47 = i_push (.int 1500) 50 := rfl
theorem k_X7_greatestPulledBack_50 (ca : Nat → ClassId) : k_X7_greatestPulledBack ca 50 = i_m2 (fun x y => if y < x then y else x) 0 0 53 := rfl
theorem k_X7_greatestPulledBack_53 (ca : Nat → ClassId) : k_X7_greatestPulledBack ca 53 = i_ret := rfl
set_option maxHeartbeats 4000000 in
set_option maxRecDepth 20000 in
theorem ok_X7_greatestPulledBack (l : Launch) (D : va_G) (ca : Nat → ClassId) : OkAll l D ca yX7_greatestPulledBack cX7_greatestPulledBack 3 (some .int) 1 0 0 (sp_X7_greatestPulledBack ca) := by
  intro av h post hs
  unfold sp_X7_greatestPulledBack at hs
  split at hs
  · refine okM_of t_X7_greatestPulledBack (by decide +kernel) (c1_int (c1_int c1_nil)) (Nat.le_of_ble_eq_true rfl) ?_
    intro K go
    refine go (stp []) 40 _ _ _ _ _ _ ?_
    simp only [wpS, ite_not, i_push, i_iload, i_lload, i_aload, i_istore, i_astore, i_lstore, i_iinc, i_bin, i_dv, i_un, i_lbin, i_lsh, i_i2l, i_l2i, i_lcmp, i_dup, i_dup2, i_pop, i_if, i_icmp, i_goto, swG, i_sw, i_getf, i_puti, i_putz, i_putr, i_ald, i_lald, i_aald, i_ast, i_last, i_aast, i_alen, i_new, i_newi, i_newl, i_newq, i_oinit, i_ret, i_zret, i_lret, i_vret, catS, tk, rpush, isO, i_m1, i_m2, i_acopy, i_callV, i_callS, KRet, lget, lput, lputL, lcl0, isL, lv0, List.map_cons, List.map_nil, List.length_cons, List.length_nil, List.cons_append, List.nil_append, Nat.reduceAdd, Nat.reduceSub, Nat.reduceLeDiff, List.replicate_succ, List.replicate_zero, List.getElem?_cons_succ, List.getElem?_cons_zero, List.set_cons_succ, List.set_cons_zero, true_and, and_true, if_true, if_false, reduceIte, Nat.le_refl, Value.category, va_up_app, eq_self, stp, Nat.reduceBEq, Bool.or_false, Bool.false_or, Bool.true_or, Bool.or_true, or_true, true_or, bx_uu, implies_true, true_implies, not_true, not_false_eq_true, false_implies, and_self, Nat.reduceLT, Int32.reduceAdd, Int32.reduceSub, Int32.reduceMul, Int32.reduceLE, Int32.reduceLT, Int32.reduceToNatClampNeg, va_rf_some, Bool.false_eq_true, k_X7_greatestPulledBack_0 ca, k_X7_greatestPulledBack_1 ca, k_X7_greatestPulledBack_4 ca, k_X7_greatestPulledBack_5 ca, k_X7_greatestPulledBack_8 ca, k_X7_greatestPulledBack_11 ca, k_X7_greatestPulledBack_12 ca, k_X7_greatestPulledBack_15 ca, k_X7_greatestPulledBack_18 ca, k_X7_greatestPulledBack_21 ca, k_X7_greatestPulledBack_23 ca, k_X7_greatestPulledBack_24 ca, k_X7_greatestPulledBack_27 ca, k_X7_greatestPulledBack_28 ca, k_X7_greatestPulledBack_29 ca, k_X7_greatestPulledBack_32 ca, k_X7_greatestPulledBack_33 ca, k_X7_greatestPulledBack_34 ca, k_X7_greatestPulledBack_35 ca, k_X7_greatestPulledBack_38 ca, k_X7_greatestPulledBack_41 ca, k_X7_greatestPulledBack_43 ca, k_X7_greatestPulledBack_46 ca, k_X7_greatestPulledBack_47 ca, k_X7_greatestPulledBack_50 ca, k_X7_greatestPulledBack_53 ca, sp_X7_bendAt, sp_J9_floorDiv_7cf53]
    clear go
    (repeat' first | intro _ | apply And.intro | apply ifp) <;> first | (simp_all [gPull, -Int32.not_lt, -Int32.not_le]; done)
  · exact hs.elim

