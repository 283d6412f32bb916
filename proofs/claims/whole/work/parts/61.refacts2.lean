/-! SnapStacksModel: heat, contact, opening, part, cut, bounds -/
def aHeat (s : Nat → Int32) (x y z : Int32) : Int32 := if isIn x 0 2 = true then (if isIn y 0 99 = true then (if isIn z 1 99 = true then 100 * s (106 + 7 * x.toNatClampNeg + 1) + s (106 + 7 * x.toNatClampNeg + 2) else -10000001) else -10000001) else -10000001
def fHeat (s : Nat → Int32) (x y z : Int32) : Nat → Int32 := upd (upd s (106 + 7 * x.toNatClampNeg + 1) y) (106 + 7 * x.toNatClampNeg + 2) z
def sp_X8_heat (ca : Nat → ClassId) : SPEC := fun av h post => ∃ m a s p t f n x y z, av = [.ref m, .int x, .int y, .int z] ∧ RI m a ∧ t ≤ 4 ∧ RAt ca h m a s p t f n ∧ actR ca h m a s p t f n post (aHeat s x y z) (fHeat s x y z)
def k_X8_heat (ca : Nat → ClassId) : Nat → IT := fun pc => lk pc [(0, i_aload 0 1),
  (1, i_callV 8 0 0 0 0 0 (sp_X8_begins ca) 4),
  (4, i_iload 1 5),
  (5, i_callS 1 0 0 0 0 (sp_X8_isOne ca) 8),
  (8, i_if (fun x => x = 0) 31 11),
  (11, i_iload 2 12),
  (12, i_push (.int 0) 13),
  (13, i_push (.int 99) 15),
  (15, i_callS 3 0 0 0 0 (sp_X8_in ca) 18),
  (18, i_if (fun x => x = 0) 31 21),
  (21, i_iload 3 22),
  (22, i_push (.int 1) 23),
  (23, i_push (.int 99) 25),
  (25, i_callS 3 0 0 0 0 (sp_X8_in ca) 28),
  (28, i_if (fun x => ¬ x = 0) 34 31),
  (31, i_push (.int (-10000001)) 33),
  (33, i_ret),
  (34, i_push (.int 100) 36),
  (36, i_aload 0 37),
  (37, i_iload 1 38),
  (38, i_callS 1 0 0 0 0 (sp_X8_roomAt ca) 41),
  (41, i_push (.int 1) 42),
  (42, i_bin (fun x y => x + y) 43),
  (43, i_iload 2 44),
  (44, i_callV 8 2 0 0 0 0 (sp_X8_puts ca) 47),
  (47, i_bin (fun x y => x * y) 48),
  (48, i_istore 4 50),
  (50, i_aload 0 51),
  (51, i_iload 4 53),
  (53, i_aload 0 54),
  (54, i_iload 1 55),
  (55, i_callS 1 0 0 0 0 (sp_X8_roomAt ca) 58),
  (58, i_push (.int 2) 59),
  (59, i_bin (fun x y => x + y) 60),
  (60, i_iload 3 61),
  (61, i_callV 8 2 0 0 0 0 (sp_X8_puts ca) 64),
  (64, i_bin (fun x y => x + y) 65),
  (65, i_callV 8 1 0 0 0 0 (sp_X8_acted ca) 68),
  (68, i_ret)]
set_option maxRecDepth 20000 in
theorem t_X8_heat : Tb k_X8_heat yX8_heat cX8_heat 5 (some .int) 2 0 0 := by
  intro l D ca A p e s m args below meth c post X
  unfold k_X8_heat
  refine snd_cons (snd_aload_n X dX8_heat_0 rfl) ?_
  refine snd_cons (snd_callV X Fk8 (ok_X8_begins l D ca) rfl rfl w_698 w_700 wp_16 w_9 w_701 (by decide) (by decide) dX8_heat_1) ?_
  refine snd_cons (snd_iload_n X dX8_heat_4 rfl) ?_
  refine snd_cons (snd_callS X (ok_X8_isOne l D ca) rfl rfl w_722 w_723 w_9 w_724 (by decide) (by decide) dX8_heat_5) ?_
  refine snd_cons (snd_if_eq X dX8_heat_8 (by decide)) ?_
  refine snd_cons (snd_iload_n X dX8_heat_11 rfl) ?_
  refine snd_cons (snd_iconst X dX8_heat_12 (by decide)) ?_
  refine snd_cons (snd_bipush X dX8_heat_13 (by decide)) ?_
  refine snd_cons (snd_callS X (ok_X8_in l D ca) rfl rfl w_702 w_703 w_9 w_704 (by decide) (by decide) dX8_heat_15) ?_
  refine snd_cons (snd_if_eq X dX8_heat_18 (by decide)) ?_
  refine snd_cons (snd_iload_n X dX8_heat_21 rfl) ?_
  refine snd_cons (snd_iconst X dX8_heat_22 (by decide)) ?_
  refine snd_cons (snd_bipush X dX8_heat_23 (by decide)) ?_
  refine snd_cons (snd_callS X (ok_X8_in l D ca) rfl rfl w_702 w_703 w_9 w_704 (by decide) (by decide) dX8_heat_25) ?_
  refine snd_cons (snd_if_ne X dX8_heat_28 (by decide)) ?_
  refine snd_cons (snd_ldc X w_709 dX8_heat_31) ?_
  refine snd_cons (snd_ret X dX8_heat_33) ?_
  refine snd_cons (snd_bipush X dX8_heat_34 (by decide)) ?_
  refine snd_cons (snd_aload_n X dX8_heat_36 rfl) ?_
  refine snd_cons (snd_iload_n X dX8_heat_37 rfl) ?_
  refine snd_cons (snd_callS X (ok_X8_roomAt l D ca) rfl rfl w_644 w_645 w_9 w_646 (by decide) (by decide) dX8_heat_38) ?_
  refine snd_cons (snd_iconst X dX8_heat_41 (by decide)) ?_
  refine snd_cons (snd_iadd X dX8_heat_42) ?_
  refine snd_cons (snd_iload_n X dX8_heat_43 rfl) ?_
  refine snd_cons (snd_callV X Fk8 (ok_X8_puts l D ca) rfl rfl w_705 w_707 wp_17 w_9 w_708 (by decide) (by decide) dX8_heat_44) ?_
  refine snd_cons (snd_imul X dX8_heat_47) ?_
  refine snd_cons (snd_istore X dX8_heat_48 (by decide)) ?_
  refine snd_cons (snd_aload_n X dX8_heat_50 rfl) ?_
  refine snd_cons (snd_iload X dX8_heat_51) ?_
  refine snd_cons (snd_aload_n X dX8_heat_53 rfl) ?_
  refine snd_cons (snd_iload_n X dX8_heat_54 rfl) ?_
  refine snd_cons (snd_callS X (ok_X8_roomAt l D ca) rfl rfl w_644 w_645 w_9 w_646 (by decide) (by decide) dX8_heat_55) ?_
  refine snd_cons (snd_iconst X dX8_heat_58 (by decide)) ?_
  refine snd_cons (snd_iadd X dX8_heat_59) ?_
  refine snd_cons (snd_iload_n X dX8_heat_60 rfl) ?_
  refine snd_cons (snd_callV X Fk8 (ok_X8_puts l D ca) rfl rfl w_705 w_707 wp_17 w_9 w_708 (by decide) (by decide) dX8_heat_61) ?_
  refine snd_cons (snd_iadd X dX8_heat_64) ?_
  refine snd_cons (snd_callV X Fk8 (ok_X8_acted l D ca) rfl rfl w_710 w_712 wp_18 w_9 w_713 (by decide) (by decide) dX8_heat_65) ?_
  refine snd_cons (snd_ret X dX8_heat_68) ?_
  exact snd_nil
theorem k_X8_heat_0 (ca : Nat → ClassId) : k_X8_heat ca 0 = i_aload 0 1 := rfl
theorem k_X8_heat_1 (ca : Nat → ClassId) : k_X8_heat ca 1 = i_callV 8 0 0 0 0 0 (sp_X8_begins ca) 4 := rfl
theorem k_X8_heat_4 (ca : Nat → ClassId) : k_X8_heat ca 4 = i_iload 1 5 := rfl
theorem k_X8_heat_5 (ca : Nat → ClassId) : k_X8_heat ca 5 = i_callS 1 0 0 0 0 (sp_X8_isOne ca) 8 := rfl
theorem k_X8_heat_8 (ca : Nat → ClassId) : k_X8_heat ca 8 = i_if (fun x => x = 0) 31 11 := rfl
theorem k_X8_heat_11 (ca : Nat → ClassId) : k_X8_heat ca 11 = i_iload 2 12 := rfl
theorem k_X8_heat_12 (ca : Nat → ClassId) : k_X8_heat ca 12 = i_push (.int 0) 13 := rfl
theorem k_X8_heat_13 (ca : Nat → ClassId) : k_X8_heat ca 13 = i_push (.int 99) 15 := rfl
theorem k_X8_heat_15 (ca : Nat → ClassId) : k_X8_heat ca 15 = i_callS 3 0 0 0 0 (sp_X8_in ca) 18 := rfl
theorem k_X8_heat_18 (ca : Nat → ClassId) : k_X8_heat ca 18 = i_if (fun x => x = 0) 31 21 := rfl
theorem k_X8_heat_21 (ca : Nat → ClassId) : k_X8_heat ca 21 = i_iload 3 22 := rfl
theorem k_X8_heat_22 (ca : Nat → ClassId) : k_X8_heat ca 22 = i_push (.int 1) 23 := rfl
theorem k_X8_heat_23 (ca : Nat → ClassId) : k_X8_heat ca 23 = i_push (.int 99) 25 := rfl
theorem k_X8_heat_25 (ca : Nat → ClassId) : k_X8_heat ca 25 = i_callS 3 0 0 0 0 (sp_X8_in ca) 28 := rfl
theorem k_X8_heat_28 (ca : Nat → ClassId) : k_X8_heat ca 28 = i_if (fun x => ¬ x = 0) 34 31 := rfl
theorem k_X8_heat_31 (ca : Nat → ClassId) : k_X8_heat ca 31 = i_push (.int (-10000001)) 33 := rfl
theorem k_X8_heat_33 (ca : Nat → ClassId) : k_X8_heat ca 33 = i_ret := rfl
theorem k_X8_heat_34 (ca : Nat → ClassId) : k_X8_heat ca 34 = i_push (.int 100) 36 := rfl
theorem k_X8_heat_36 (ca : Nat → ClassId) : k_X8_heat ca 36 = i_aload 0 37 := rfl
theorem k_X8_heat_37 (ca : Nat → ClassId) : k_X8_heat ca 37 = i_iload 1 38 := rfl
theorem k_X8_heat_38 (ca : Nat → ClassId) : k_X8_heat ca 38 = i_callS 1 0 0 0 0 (sp_X8_roomAt ca) 41 := rfl
theorem k_X8_heat_41 (ca : Nat → ClassId) : k_X8_heat ca 41 = i_push (.int 1) 42 := rfl
theorem k_X8_heat_42 (ca : Nat → ClassId) : k_X8_heat ca 42 = i_bin (fun x y => x + y) 43 := rfl
theorem k_X8_heat_43 (ca : Nat → ClassId) : k_X8_heat ca 43 = i_iload 2 44 := rfl
theorem k_X8_heat_44 (ca : Nat → ClassId) : k_X8_heat ca 44 = i_callV 8 2 0 0 0 0 (sp_X8_puts ca) 47 := rfl
theorem k_X8_heat_47 (ca : Nat → ClassId) : k_X8_heat ca 47 = i_bin (fun x y => x * y) 48 := rfl
theorem k_X8_heat_48 (ca : Nat → ClassId) : k_X8_heat ca 48 = i_istore 4 50 := rfl
theorem k_X8_heat_50 (ca : Nat → ClassId) : k_X8_heat ca 50 = i_aload 0 51 := rfl
theorem k_X8_heat_51 (ca : Nat → ClassId) : k_X8_heat ca 51 = i_iload 4 53 := rfl
theorem k_X8_heat_53 (ca : Nat → ClassId) : k_X8_heat ca 53 = i_aload 0 54 := rfl
theorem k_X8_heat_54 (ca : Nat → ClassId) : k_X8_heat ca 54 = i_iload 1 55 := rfl
theorem k_X8_heat_55 (ca : Nat → ClassId) : k_X8_heat ca 55 = i_callS 1 0 0 0 0 (sp_X8_roomAt ca) 58 := rfl
theorem k_X8_heat_58 (ca : Nat → ClassId) : k_X8_heat ca 58 = i_push (.int 2) 59 := rfl
theorem k_X8_heat_59 (ca : Nat → ClassId) : k_X8_heat ca 59 = i_bin (fun x y => x + y) 60 := rfl
theorem k_X8_heat_60 (ca : Nat → ClassId) : k_X8_heat ca 60 = i_iload 3 61 := rfl
theorem k_X8_heat_61 (ca : Nat → ClassId) : k_X8_heat ca 61 = i_callV 8 2 0 0 0 0 (sp_X8_puts ca) 64 := rfl
theorem k_X8_heat_64 (ca : Nat → ClassId) : k_X8_heat ca 64 = i_bin (fun x y => x + y) 65 := rfl
theorem k_X8_heat_65 (ca : Nat → ClassId) : k_X8_heat ca 65 = i_callV 8 1 0 0 0 0 (sp_X8_acted ca) 68 := rfl
theorem k_X8_heat_68 (ca : Nat → ClassId) : k_X8_heat ca 68 = i_ret := rfl
set_option maxHeartbeats 4000000 in
set_option maxRecDepth 20000 in
theorem ok_X8_heat (l : Launch) (D : va_G) (ca : Nat → ClassId) : OkAll l D ca yX8_heat cX8_heat 5 (some .int) 2 0 0 (sp_X8_heat ca) := by
  intro av h post hs
  obtain ⟨m, a, s, p, t, f, n, x, y, z, rfl, I, ht, hR, hs⟩ := hs
  refine okM_of t_X8_heat (by decide +kernel) (c1_ref (c1_int (c1_int (c1_int c1_nil)))) (Nat.le_of_ble_eq_true rfl) ?_
  intro K go
  have d0 := I.2 0
  obtain ⟨l0, hm0⟩ := hR.m8
  have fin : ∀ lv x h', post (some (.int x)) h' → K 0 0 68 lv [.int x] h' := by
    intro lv x h' hh
    refine goN go (stp []) 160 _ _ _ _ _ _ (fun F hF hF0 => ?_)
    simp only [hF, hF0, ite_not, i_push, i_iload, i_lload, i_aload, i_istore, i_astore, i_lstore, i_iinc, i_bin, i_dv, i_un, i_lbin, i_lsh, i_i2l, i_l2i, i_lcmp, i_dup, i_dup2, i_pop, i_if, i_icmp, i_goto, swG, i_sw, i_getf, i_puti, i_putz, i_putr, i_ald, i_lald, i_aald, i_ast, i_last, i_aast, i_alen, i_new, i_newi, i_newl, i_newq, i_oinit, i_ret, i_zret, i_lret, i_vret, catS, tk, rpush, isO, i_m1, i_m2, i_acopy, i_callV, i_callS, KRet, lget, lput, lputL, lcl0, isL, lv0, List.map_cons, List.map_nil, List.length_cons, List.length_nil, List.cons_append, List.nil_append, Nat.reduceAdd, Nat.reduceSub, Nat.reduceLeDiff, List.replicate_succ, List.replicate_zero, List.getElem?_cons_succ, List.getElem?_cons_zero, List.set_cons_succ, List.set_cons_zero, true_and, and_true, if_true, if_false, ↓reduceIte, Nat.le_refl, Value.category, va_up_app, eq_self, stp, Nat.reduceBEq, Bool.or_false, Bool.false_or, Bool.true_or, Bool.or_true, or_true, true_or, bx_uu, implies_true, true_implies, not_true, not_false_eq_true, false_implies, and_self, Nat.reduceLT, Int32.reduceAdd, Int32.reduceSub, Int32.reduceMul, Int32.reduceLE, Int32.reduceLT, Int32.reduceToNatClampNeg, va_rf_some, Bool.false_eq_true, k_X8_heat_0 ca, k_X8_heat_1 ca, k_X8_heat_4 ca, k_X8_heat_5 ca, k_X8_heat_8 ca, k_X8_heat_11 ca, k_X8_heat_12 ca, k_X8_heat_13 ca, k_X8_heat_15 ca, k_X8_heat_18 ca, k_X8_heat_21 ca, k_X8_heat_22 ca, k_X8_heat_23 ca, k_X8_heat_25 ca, k_X8_heat_28 ca, k_X8_heat_31 ca, k_X8_heat_33 ca, k_X8_heat_34 ca, k_X8_heat_36 ca, k_X8_heat_37 ca, k_X8_heat_38 ca, k_X8_heat_41 ca, k_X8_heat_42 ca, k_X8_heat_43 ca, k_X8_heat_44 ca, k_X8_heat_47 ca, k_X8_heat_48 ca, k_X8_heat_50 ca, k_X8_heat_51 ca, k_X8_heat_53 ca, k_X8_heat_54 ca, k_X8_heat_55 ca, k_X8_heat_58 ca, k_X8_heat_59 ca, k_X8_heat_60 ca, k_X8_heat_61 ca, k_X8_heat_64 ca, k_X8_heat_65 ca, k_X8_heat_68 ca]
    try clear hF hF0 F
    exact hh
  refine goN go (stp [4]) 160 _ _ _ _ _ _ (fun F hF hF0 => ?_)
  simp only [hF, hF0, ite_not, i_push, i_iload, i_lload, i_aload, i_istore, i_astore, i_lstore, i_iinc, i_bin, i_dv, i_un, i_lbin, i_lsh, i_i2l, i_l2i, i_lcmp, i_dup, i_dup2, i_pop, i_if, i_icmp, i_goto, swG, i_sw, i_getf, i_puti, i_putz, i_putr, i_ald, i_lald, i_aald, i_ast, i_last, i_aast, i_alen, i_new, i_newi, i_newl, i_newq, i_oinit, i_ret, i_zret, i_lret, i_vret, catS, tk, rpush, isO, i_m1, i_m2, i_acopy, i_callV, i_callS, KRet, lget, lput, lputL, lcl0, isL, lv0, List.map_cons, List.map_nil, List.length_cons, List.length_nil, List.cons_append, List.nil_append, Nat.reduceAdd, Nat.reduceSub, Nat.reduceLeDiff, List.replicate_succ, List.replicate_zero, List.getElem?_cons_succ, List.getElem?_cons_zero, List.set_cons_succ, List.set_cons_zero, true_and, and_true, if_true, if_false, ↓reduceIte, Nat.le_refl, Value.category, va_up_app, eq_self, stp, Nat.reduceBEq, Bool.or_false, Bool.false_or, Bool.true_or, Bool.or_true, or_true, true_or, bx_uu, implies_true, true_implies, not_true, not_false_eq_true, false_implies, and_self, Nat.reduceLT, Int32.reduceAdd, Int32.reduceSub, Int32.reduceMul, Int32.reduceLE, Int32.reduceLT, Int32.reduceToNatClampNeg, va_rf_some, Bool.false_eq_true, k_X8_heat_0 ca, k_X8_heat_1 ca, k_X8_heat_4 ca, k_X8_heat_5 ca, k_X8_heat_8 ca, k_X8_heat_11 ca, k_X8_heat_12 ca, k_X8_heat_13 ca, k_X8_heat_15 ca, k_X8_heat_18 ca, k_X8_heat_21 ca, k_X8_heat_22 ca, k_X8_heat_23 ca, k_X8_heat_25 ca, k_X8_heat_28 ca, k_X8_heat_31 ca, k_X8_heat_33 ca, k_X8_heat_34 ca, k_X8_heat_36 ca, k_X8_heat_37 ca, k_X8_heat_38 ca, k_X8_heat_41 ca, k_X8_heat_42 ca, k_X8_heat_43 ca, k_X8_heat_44 ca, k_X8_heat_47 ca, k_X8_heat_48 ca, k_X8_heat_50 ca, k_X8_heat_51 ca, k_X8_heat_53 ca, k_X8_heat_54 ca, k_X8_heat_55 ca, k_X8_heat_58 ca, k_X8_heat_59 ca, k_X8_heat_60 ca, k_X8_heat_61 ca, k_X8_heat_64 ca, k_X8_heat_65 ca, k_X8_heat_68 ca, hm0]
  try clear hF hF0 F
  refine begins_of I hR (fun h1 g hg hR1 hS1 => ?_)
  obtain ⟨fm, at', re, bd, kp, ks, iw, ip, fo, em, e0, -⟩ := id hR1
  unfold eMod at em
  unfold aHeat fHeat at hs
  have bad : ∀ F, actR ca h m a s p t f n post (-10000001) F → post (some (.int (-10000001))) h1 := fun F hs => hs.1 inv_le h1 s p Eq127.rf (fun _ _ => rfl) ⟨g, hR1⟩ hS1
  cases q1 : isIn x 0 2 with
  | false =>
    rw [q1, if_neg (by decide)] at hs
    refine goN go (stp []) 160 _ _ _ _ _ _ (fun F hF hF0 => ?_)
    simp only [hF, hF0, ite_not, i_push, i_iload, i_lload, i_aload, i_istore, i_astore, i_lstore, i_iinc, i_bin, i_dv, i_un, i_lbin, i_lsh, i_i2l, i_l2i, i_lcmp, i_dup, i_dup2, i_pop, i_if, i_icmp, i_goto, swG, i_sw, i_getf, i_puti, i_putz, i_putr, i_ald, i_lald, i_aald, i_ast, i_last, i_aast, i_alen, i_new, i_newi, i_newl, i_newq, i_oinit, i_ret, i_zret, i_lret, i_vret, catS, tk, rpush, isO, i_m1, i_m2, i_acopy, i_callV, i_callS, KRet, lget, lput, lputL, lcl0, isL, lv0, List.map_cons, List.map_nil, List.length_cons, List.length_nil, List.cons_append, List.nil_append, Nat.reduceAdd, Nat.reduceSub, Nat.reduceLeDiff, List.replicate_succ, List.replicate_zero, List.getElem?_cons_succ, List.getElem?_cons_zero, List.set_cons_succ, List.set_cons_zero, true_and, and_true, if_true, if_false, ↓reduceIte, Nat.le_refl, Value.category, va_up_app, eq_self, stp, Nat.reduceBEq, Bool.or_false, Bool.false_or, Bool.true_or, Bool.or_true, or_true, true_or, bx_uu, implies_true, true_implies, not_true, not_false_eq_true, false_implies, and_self, Nat.reduceLT, Int32.reduceAdd, Int32.reduceSub, Int32.reduceMul, Int32.reduceLE, Int32.reduceLT, Int32.reduceToNatClampNeg, va_rf_some, Bool.false_eq_true, k_X8_heat_0 ca, k_X8_heat_1 ca, k_X8_heat_4 ca, k_X8_heat_5 ca, k_X8_heat_8 ca, k_X8_heat_11 ca, k_X8_heat_12 ca, k_X8_heat_13 ca, k_X8_heat_15 ca, k_X8_heat_18 ca, k_X8_heat_21 ca, k_X8_heat_22 ca, k_X8_heat_23 ca, k_X8_heat_25 ca, k_X8_heat_28 ca, k_X8_heat_31 ca, k_X8_heat_33 ca, k_X8_heat_34 ca, k_X8_heat_36 ca, k_X8_heat_37 ca, k_X8_heat_38 ca, k_X8_heat_41 ca, k_X8_heat_42 ca, k_X8_heat_43 ca, k_X8_heat_44 ca, k_X8_heat_47 ca, k_X8_heat_48 ca, k_X8_heat_50 ca, k_X8_heat_51 ca, k_X8_heat_53 ca, k_X8_heat_54 ca, k_X8_heat_55 ca, k_X8_heat_58 ca, k_X8_heat_59 ca, k_X8_heat_60 ca, k_X8_heat_61 ca, k_X8_heat_64 ca, k_X8_heat_65 ca, k_X8_heat_68 ca, sp_X8_isOne, sp_X7_isRoom, q1, b2i_f]
    try clear hF hF0 F
    exact bad _ hs
  | true =>
    rw [q1, if_pos rfl] at hs
    cases q2 : isIn y 0 99 with
    | false =>
      rw [q2, if_neg (by decide)] at hs
      refine goN go (stp []) 160 _ _ _ _ _ _ (fun F hF hF0 => ?_)
      simp only [hF, hF0, ite_not, i_push, i_iload, i_lload, i_aload, i_istore, i_astore, i_lstore, i_iinc, i_bin, i_dv, i_un, i_lbin, i_lsh, i_i2l, i_l2i, i_lcmp, i_dup, i_dup2, i_pop, i_if, i_icmp, i_goto, swG, i_sw, i_getf, i_puti, i_putz, i_putr, i_ald, i_lald, i_aald, i_ast, i_last, i_aast, i_alen, i_new, i_newi, i_newl, i_newq, i_oinit, i_ret, i_zret, i_lret, i_vret, catS, tk, rpush, isO, i_m1, i_m2, i_acopy, i_callV, i_callS, KRet, lget, lput, lputL, lcl0, isL, lv0, List.map_cons, List.map_nil, List.length_cons, List.length_nil, List.cons_append, List.nil_append, Nat.reduceAdd, Nat.reduceSub, Nat.reduceLeDiff, List.replicate_succ, List.replicate_zero, List.getElem?_cons_succ, List.getElem?_cons_zero, List.set_cons_succ, List.set_cons_zero, true_and, and_true, if_true, if_false, ↓reduceIte, Nat.le_refl, Value.category, va_up_app, eq_self, stp, Nat.reduceBEq, Bool.or_false, Bool.false_or, Bool.true_or, Bool.or_true, or_true, true_or, bx_uu, implies_true, true_implies, not_true, not_false_eq_true, false_implies, and_self, Nat.reduceLT, Int32.reduceAdd, Int32.reduceSub, Int32.reduceMul, Int32.reduceLE, Int32.reduceLT, Int32.reduceToNatClampNeg, va_rf_some, Bool.false_eq_true, k_X8_heat_0 ca, k_X8_heat_1 ca, k_X8_heat_4 ca, k_X8_heat_5 ca, k_X8_heat_8 ca, k_X8_heat_11 ca, k_X8_heat_12 ca, k_X8_heat_13 ca, k_X8_heat_15 ca, k_X8_heat_18 ca, k_X8_heat_21 ca, k_X8_heat_22 ca, k_X8_heat_23 ca, k_X8_heat_25 ca, k_X8_heat_28 ca, k_X8_heat_31 ca, k_X8_heat_33 ca, k_X8_heat_34 ca, k_X8_heat_36 ca, k_X8_heat_37 ca, k_X8_heat_38 ca, k_X8_heat_41 ca, k_X8_heat_42 ca, k_X8_heat_43 ca, k_X8_heat_44 ca, k_X8_heat_47 ca, k_X8_heat_48 ca, k_X8_heat_50 ca, k_X8_heat_51 ca, k_X8_heat_53 ca, k_X8_heat_54 ca, k_X8_heat_55 ca, k_X8_heat_58 ca, k_X8_heat_59 ca, k_X8_heat_60 ca, k_X8_heat_61 ca, k_X8_heat_64 ca, k_X8_heat_65 ca, k_X8_heat_68 ca, sp_X8_isOne, sp_X7_isRoom, sp_X8_in, sp_X7_isWithin, q1, q2, b2i_f, b2i_t, one0]
      try clear hF hF0 F
      exact bad _ hs
    | true =>
      rw [q2, if_pos rfl] at hs
      cases q3 : isIn z 1 99 with
      | false =>
        rw [q3, if_neg (by decide)] at hs
        refine goN go (stp []) 160 _ _ _ _ _ _ (fun F hF hF0 => ?_)
        simp only [hF, hF0, ite_not, i_push, i_iload, i_lload, i_aload, i_istore, i_astore, i_lstore, i_iinc, i_bin, i_dv, i_un, i_lbin, i_lsh, i_i2l, i_l2i, i_lcmp, i_dup, i_dup2, i_pop, i_if, i_icmp, i_goto, swG, i_sw, i_getf, i_puti, i_putz, i_putr, i_ald, i_lald, i_aald, i_ast, i_last, i_aast, i_alen, i_new, i_newi, i_newl, i_newq, i_oinit, i_ret, i_zret, i_lret, i_vret, catS, tk, rpush, isO, i_m1, i_m2, i_acopy, i_callV, i_callS, KRet, lget, lput, lputL, lcl0, isL, lv0, List.map_cons, List.map_nil, List.length_cons, List.length_nil, List.cons_append, List.nil_append, Nat.reduceAdd, Nat.reduceSub, Nat.reduceLeDiff, List.replicate_succ, List.replicate_zero, List.getElem?_cons_succ, List.getElem?_cons_zero, List.set_cons_succ, List.set_cons_zero, true_and, and_true, if_true, if_false, ↓reduceIte, Nat.le_refl, Value.category, va_up_app, eq_self, stp, Nat.reduceBEq, Bool.or_false, Bool.false_or, Bool.true_or, Bool.or_true, or_true, true_or, bx_uu, implies_true, true_implies, not_true, not_false_eq_true, false_implies, and_self, Nat.reduceLT, Int32.reduceAdd, Int32.reduceSub, Int32.reduceMul, Int32.reduceLE, Int32.reduceLT, Int32.reduceToNatClampNeg, va_rf_some, Bool.false_eq_true, k_X8_heat_0 ca, k_X8_heat_1 ca, k_X8_heat_4 ca, k_X8_heat_5 ca, k_X8_heat_8 ca, k_X8_heat_11 ca, k_X8_heat_12 ca, k_X8_heat_13 ca, k_X8_heat_15 ca, k_X8_heat_18 ca, k_X8_heat_21 ca, k_X8_heat_22 ca, k_X8_heat_23 ca, k_X8_heat_25 ca, k_X8_heat_28 ca, k_X8_heat_31 ca, k_X8_heat_33 ca, k_X8_heat_34 ca, k_X8_heat_36 ca, k_X8_heat_37 ca, k_X8_heat_38 ca, k_X8_heat_41 ca, k_X8_heat_42 ca, k_X8_heat_43 ca, k_X8_heat_44 ca, k_X8_heat_47 ca, k_X8_heat_48 ca, k_X8_heat_50 ca, k_X8_heat_51 ca, k_X8_heat_53 ca, k_X8_heat_54 ca, k_X8_heat_55 ca, k_X8_heat_58 ca, k_X8_heat_59 ca, k_X8_heat_60 ca, k_X8_heat_61 ca, k_X8_heat_64 ca, k_X8_heat_65 ca, k_X8_heat_68 ca, sp_X8_isOne, sp_X7_isRoom, sp_X8_in, sp_X7_isWithin, q1, q2, q3, b2i_f, b2i_t, one0]
        try clear hF hF0 F
        exact bad _ hs
      | true =>
        rw [q3, if_pos rfl] at hs
        obtain ⟨X, hX, rfl⟩ := isIn0 (B := 2) rfl q1
        have xx : (nI X).toNatClampNeg = X := tn127 (by omega)
        rw [xx] at hs
        have x1 : (nI (106 + 7 * X + 1)).toNatClampNeg = 106 + 7 * X + 1 := tn127 (by omega)
        have v1 : vp_in (nI (106 + 7 * X + 1)) 127 := vp127 (by omega)
        have x2 : (nI (106 + 7 * X + 2)).toNatClampNeg = 106 + 7 * X + 2 := tn127 (by omega)
        have v2 : vp_in (nI (106 + 7 * X + 2)) 127 := vp127 (by omega)
        have u2 : ∀ w, upd s (106 + 7 * X + 1) w (106 + 7 * X + 2) = s (106 + 7 * X + 2) := fun w => pk_un (by omega)
        refine goN go (stp [68]) 160 _ _ _ _ _ _ (fun F hF hF0 => ?_)
        simp only [hF, hF0, ite_not, i_push, i_iload, i_lload, i_aload, i_istore, i_astore, i_lstore, i_iinc, i_bin, i_dv, i_un, i_lbin, i_lsh, i_i2l, i_l2i, i_lcmp, i_dup, i_dup2, i_pop, i_if, i_icmp, i_goto, swG, i_sw, i_getf, i_puti, i_putz, i_putr, i_ald, i_lald, i_aald, i_ast, i_last, i_aast, i_alen, i_new, i_newi, i_newl, i_newq, i_oinit, i_ret, i_zret, i_lret, i_vret, catS, tk, rpush, isO, i_m1, i_m2, i_acopy, i_callV, i_callS, KRet, lget, lput, lputL, lcl0, isL, lv0, List.map_cons, List.map_nil, List.length_cons, List.length_nil, List.cons_append, List.nil_append, Nat.reduceAdd, Nat.reduceSub, Nat.reduceLeDiff, List.replicate_succ, List.replicate_zero, List.getElem?_cons_succ, List.getElem?_cons_zero, List.set_cons_succ, List.set_cons_zero, true_and, and_true, if_true, if_false, ↓reduceIte, Nat.le_refl, Value.category, va_up_app, eq_self, stp, Nat.reduceBEq, Bool.or_false, Bool.false_or, Bool.true_or, Bool.or_true, or_true, true_or, bx_uu, implies_true, true_implies, not_true, not_false_eq_true, false_implies, and_self, Nat.reduceLT, Int32.reduceAdd, Int32.reduceSub, Int32.reduceMul, Int32.reduceLE, Int32.reduceLT, Int32.reduceToNatClampNeg, va_rf_some, Bool.false_eq_true, k_X8_heat_0 ca, k_X8_heat_1 ca, k_X8_heat_4 ca, k_X8_heat_5 ca, k_X8_heat_8 ca, k_X8_heat_11 ca, k_X8_heat_12 ca, k_X8_heat_13 ca, k_X8_heat_15 ca, k_X8_heat_18 ca, k_X8_heat_21 ca, k_X8_heat_22 ca, k_X8_heat_23 ca, k_X8_heat_25 ca, k_X8_heat_28 ca, k_X8_heat_31 ca, k_X8_heat_33 ca, k_X8_heat_34 ca, k_X8_heat_36 ca, k_X8_heat_37 ca, k_X8_heat_38 ca, k_X8_heat_41 ca, k_X8_heat_42 ca, k_X8_heat_43 ca, k_X8_heat_44 ca, k_X8_heat_47 ca, k_X8_heat_48 ca, k_X8_heat_50 ca, k_X8_heat_51 ca, k_X8_heat_53 ca, k_X8_heat_54 ca, k_X8_heat_55 ca, k_X8_heat_58 ca, k_X8_heat_59 ca, k_X8_heat_60 ca, k_X8_heat_61 ca, k_X8_heat_64 ca, k_X8_heat_65 ca, k_X8_heat_68 ca, sp_X8_isOne, sp_X7_isRoom, sp_X8_in, sp_X7_isWithin, sp_X8_puts, sp_X8_roomAt, s106, a_1, a_2, q1, q2, q3, b2i_t, one0, x1, v1, x2, v2, u2, em, e0, d0]
        try clear hF hF0 F
        exact acted_R I ht (hR1.s0 I _) hg (hS1.tr (SmR.a (by decide) _)) Eq127.rf hs (fun h' => fin _ _ h')
def aContact (s : Nat → Int32) (x y : Int32) : Int32 := if isIn x 0 2 = true then (if isIn y 0 1 = true then b2i (closedF y (s (10 + 32 * x.toNatClampNeg + 4))) else -10000001) else -10000001
def sp_X8_contact (ca : Nat → ClassId) : SPEC := fun av h post => ∃ m a s p t f n x y, av = [.ref m, .int x, .int y] ∧ RI m a ∧ t ≤ 4 ∧ RAt ca h m a s p t f n ∧ (∀ k, k < 3 → OkR s k) ∧ actR ca h m a s p t f n post (aContact s x y) (upd s (10 + 32 * x.toNatClampNeg + 7) y)
def k_X8_contact (ca : Nat → ClassId) : Nat → IT := fun pc => lk pc [(0, i_aload 0 1),
  (1, i_callV 8 0 0 0 0 0 (sp_X8_begins ca) 4),
  (4, i_iload 1 5),
  (5, i_callS 1 0 0 0 0 (sp_X8_isOne ca) 8),
  (8, i_if (fun x => x = 0) 20 11),
  (11, i_iload 2 12),
  (12, i_push (.int 0) 13),
  (13, i_push (.int 1) 14),
  (14, i_callS 3 0 0 0 0 (sp_X8_in ca) 17),
  (17, i_if (fun x => ¬ x = 0) 23 20),
  (20, i_push (.int (-10000001)) 22),
  (22, i_ret),
  (23, i_aload 0 24),
  (24, i_getf 8 0 27),
  (27, i_iload 1 28),
  (28, i_callS 1 0 0 0 0 (sp_X8_stripAt ca) 31),
  (31, i_push (.int 7) 33),
  (33, i_bin (fun x y => x + y) 34),
  (34, i_iload 2 35),
  (35, i_ast (fun x => x) (ca 0) 36),
  (36, i_aload 0 37),
  (37, i_aload 0 38),
  (38, i_iload 1 39),
  (39, i_callV 8 1 0 0 0 0 (sp_X8_isClosed ca) 42),
  (42, i_if (fun x => x = 0) 49 45),
  (45, i_push (.int 1) 46),
  (46, i_goto 50),
  (49, i_push (.int 0) 50),
  (50, i_callV 8 1 0 0 0 0 (sp_X8_acted ca) 53),
  (53, i_ret)]
set_option maxRecDepth 20000 in
theorem t_X8_contact : Tb k_X8_contact yX8_contact cX8_contact 3 (some .int) 3 0 0 := by
  intro l D ca A p e s m args below meth c post X
  unfold k_X8_contact
  refine snd_cons (snd_aload_n X dX8_contact_0 rfl) ?_
  refine snd_cons (snd_callV X Fk8 (ok_X8_begins l D ca) rfl rfl w_698 w_700 wp_16 w_9 w_701 (by decide) (by decide) dX8_contact_1) ?_
  refine snd_cons (snd_iload_n X dX8_contact_4 rfl) ?_
  refine snd_cons (snd_callS X (ok_X8_isOne l D ca) rfl rfl w_722 w_723 w_9 w_724 (by decide) (by decide) dX8_contact_5) ?_
  refine snd_cons (snd_if_eq X dX8_contact_8 (by decide)) ?_
  refine snd_cons (snd_iload_n X dX8_contact_11 rfl) ?_
  refine snd_cons (snd_iconst X dX8_contact_12 (by decide)) ?_
  refine snd_cons (snd_iconst X dX8_contact_13 (by decide)) ?_
  refine snd_cons (snd_callS X (ok_X8_in l D ca) rfl rfl w_702 w_703 w_9 w_704 (by decide) (by decide) dX8_contact_14) ?_
  refine snd_cons (snd_if_ne X dX8_contact_17 (by decide)) ?_
  refine snd_cons (snd_ldc X w_709 dX8_contact_20) ?_
  refine snd_cons (snd_ret X dX8_contact_22) ?_
  refine snd_cons (snd_aload_n X dX8_contact_23 rfl) ?_
  refine snd_cons (snd_getf X Fk8 0 (by decide) w_647 dX8_contact_24) ?_
  refine snd_cons (snd_iload_n X dX8_contact_27 rfl) ?_
  refine snd_cons (snd_callS X (ok_X8_stripAt l D ca) rfl rfl w_641 w_642 w_9 w_643 (by decide) (by decide) dX8_contact_28) ?_
  refine snd_cons (snd_bipush X dX8_contact_31 (by decide)) ?_
  refine snd_cons (snd_iadd X dX8_contact_33) ?_
  refine snd_cons (snd_iload_n X dX8_contact_34 rfl) ?_
  refine snd_cons (snd_iastore X dX8_contact_35) ?_
  refine snd_cons (snd_aload_n X dX8_contact_36 rfl) ?_
  refine snd_cons (snd_aload_n X dX8_contact_37 rfl) ?_
  refine snd_cons (snd_iload_n X dX8_contact_38 rfl) ?_
  refine snd_cons (snd_callV X Fk8 (ok_X8_isClosed l D ca) rfl rfl w_778 w_780 wp_28 w_9 w_781 (by decide) (by decide) dX8_contact_39) ?_
  refine snd_cons (snd_if_eq X dX8_contact_42 (by decide)) ?_
  refine snd_cons (snd_iconst X dX8_contact_45 (by decide)) ?_
  refine snd_cons (snd_goto X dX8_contact_46 (by decide)) ?_
  refine snd_cons (snd_iconst X dX8_contact_49 (by decide)) ?_
  refine snd_cons (snd_callV X Fk8 (ok_X8_acted l D ca) rfl rfl w_710 w_712 wp_18 w_9 w_713 (by decide) (by decide) dX8_contact_50) ?_
  refine snd_cons (snd_ret X dX8_contact_53) ?_
  exact snd_nil
theorem k_X8_contact_0 (ca : Nat → ClassId) : k_X8_contact ca 0 = i_aload 0 1 := rfl
theorem k_X8_contact_1 (ca : Nat → ClassId) : k_X8_contact ca 1 = i_callV 8 0 0 0 0 0 (sp_X8_begins ca) 4 := rfl
theorem k_X8_contact_4 (ca : Nat → ClassId) : k_X8_contact ca 4 = i_iload 1 5 := rfl
theorem k_X8_contact_5 (ca : Nat → ClassId) : k_X8_contact ca 5 = i_callS 1 0 0 0 0 (sp_X8_isOne ca) 8 := rfl
theorem k_X8_contact_8 (ca : Nat → ClassId) : k_X8_contact ca 8 = i_if (fun x => x = 0) 20 11 := rfl
theorem k_X8_contact_11 (ca : Nat → ClassId) : k_X8_contact ca 11 = i_iload 2 12 := rfl
theorem k_X8_contact_12 (ca : Nat → ClassId) : k_X8_contact ca 12 = i_push (.int 0) 13 := rfl
theorem k_X8_contact_13 (ca : Nat → ClassId) : k_X8_contact ca 13 = i_push (.int 1) 14 := rfl
theorem k_X8_contact_14 (ca : Nat → ClassId) : k_X8_contact ca 14 = i_callS 3 0 0 0 0 (sp_X8_in ca) 17 := rfl
theorem k_X8_contact_17 (ca : Nat → ClassId) : k_X8_contact ca 17 = i_if (fun x => ¬ x = 0) 23 20 := rfl
theorem k_X8_contact_20 (ca : Nat → ClassId) : k_X8_contact ca 20 = i_push (.int (-10000001)) 22 := rfl
theorem k_X8_contact_22 (ca : Nat → ClassId) : k_X8_contact ca 22 = i_ret := rfl
theorem k_X8_contact_23 (ca : Nat → ClassId) : k_X8_contact ca 23 = i_aload 0 24 := rfl
theorem k_X8_contact_24 (ca : Nat → ClassId) : k_X8_contact ca 24 = i_getf 8 0 27 := rfl
theorem k_X8_contact_27 (ca : Nat → ClassId) : k_X8_contact ca 27 = i_iload 1 28 := rfl
theorem k_X8_contact_28 (ca : Nat → ClassId) : k_X8_contact ca 28 = i_callS 1 0 0 0 0 (sp_X8_stripAt ca) 31 := rfl
theorem k_X8_contact_31 (ca : Nat → ClassId) : k_X8_contact ca 31 = i_push (.int 7) 33 := rfl
theorem k_X8_contact_33 (ca : Nat → ClassId) : k_X8_contact ca 33 = i_bin (fun x y => x + y) 34 := rfl
theorem k_X8_contact_34 (ca : Nat → ClassId) : k_X8_contact ca 34 = i_iload 2 35 := rfl
theorem k_X8_contact_35 (ca : Nat → ClassId) : k_X8_contact ca 35 = i_ast (fun x => x) (ca 0) 36 := rfl
theorem k_X8_contact_36 (ca : Nat → ClassId) : k_X8_contact ca 36 = i_aload 0 37 := rfl
theorem k_X8_contact_37 (ca : Nat → ClassId) : k_X8_contact ca 37 = i_aload 0 38 := rfl
theorem k_X8_contact_38 (ca : Nat → ClassId) : k_X8_contact ca 38 = i_iload 1 39 := rfl
theorem k_X8_contact_39 (ca : Nat → ClassId) : k_X8_contact ca 39 = i_callV 8 1 0 0 0 0 (sp_X8_isClosed ca) 42 := rfl
theorem k_X8_contact_42 (ca : Nat → ClassId) : k_X8_contact ca 42 = i_if (fun x => x = 0) 49 45 := rfl
theorem k_X8_contact_45 (ca : Nat → ClassId) : k_X8_contact ca 45 = i_push (.int 1) 46 := rfl
theorem k_X8_contact_46 (ca : Nat → ClassId) : k_X8_contact ca 46 = i_goto 50 := rfl
theorem k_X8_contact_49 (ca : Nat → ClassId) : k_X8_contact ca 49 = i_push (.int 0) 50 := rfl
theorem k_X8_contact_50 (ca : Nat → ClassId) : k_X8_contact ca 50 = i_callV 8 1 0 0 0 0 (sp_X8_acted ca) 53 := rfl
theorem k_X8_contact_53 (ca : Nat → ClassId) : k_X8_contact ca 53 = i_ret := rfl
set_option maxHeartbeats 4000000 in
set_option maxRecDepth 20000 in
theorem ok_X8_contact (l : Launch) (D : va_G) (ca : Nat → ClassId) : OkAll l D ca yX8_contact cX8_contact 3 (some .int) 3 0 0 (sp_X8_contact ca) := by
  intro av h post hs
  obtain ⟨m, a, s, p, t, f, n, x, y, rfl, I, ht, hR, hO, hs⟩ := hs
  refine okM_of t_X8_contact (by decide +kernel) (c1_ref (c1_int (c1_int c1_nil))) (Nat.le_of_ble_eq_true rfl) ?_
  intro K go
  have d0 := I.2 0
  obtain ⟨l0, hm0⟩ := hR.m8
  have fin : ∀ lv x h', post (some (.int x)) h' → K 0 0 53 lv [.int x] h' := by
    intro lv x h' hh
    refine goN go (stp []) 160 _ _ _ _ _ _ (fun F hF hF0 => ?_)
    simp only [hF, hF0, ite_not, i_push, i_iload, i_lload, i_aload, i_istore, i_astore, i_lstore, i_iinc, i_bin, i_dv, i_un, i_lbin, i_lsh, i_i2l, i_l2i, i_lcmp, i_dup, i_dup2, i_pop, i_if, i_icmp, i_goto, swG, i_sw, i_getf, i_puti, i_putz, i_putr, i_ald, i_lald, i_aald, i_ast, i_last, i_aast, i_alen, i_new, i_newi, i_newl, i_newq, i_oinit, i_ret, i_zret, i_lret, i_vret, catS, tk, rpush, isO, i_m1, i_m2, i_acopy, i_callV, i_callS, KRet, lget, lput, lputL, lcl0, isL, lv0, List.map_cons, List.map_nil, List.length_cons, List.length_nil, List.cons_append, List.nil_append, Nat.reduceAdd, Nat.reduceSub, Nat.reduceLeDiff, List.replicate_succ, List.replicate_zero, List.getElem?_cons_succ, List.getElem?_cons_zero, List.set_cons_succ, List.set_cons_zero, true_and, and_true, if_true, if_false, ↓reduceIte, Nat.le_refl, Value.category, va_up_app, eq_self, stp, Nat.reduceBEq, Bool.or_false, Bool.false_or, Bool.true_or, Bool.or_true, or_true, true_or, bx_uu, implies_true, true_implies, not_true, not_false_eq_true, false_implies, and_self, Nat.reduceLT, Int32.reduceAdd, Int32.reduceSub, Int32.reduceMul, Int32.reduceLE, Int32.reduceLT, Int32.reduceToNatClampNeg, va_rf_some, Bool.false_eq_true, k_X8_contact_0 ca, k_X8_contact_1 ca, k_X8_contact_4 ca, k_X8_contact_5 ca, k_X8_contact_8 ca, k_X8_contact_11 ca, k_X8_contact_12 ca, k_X8_contact_13 ca, k_X8_contact_14 ca, k_X8_contact_17 ca, k_X8_contact_20 ca, k_X8_contact_22 ca, k_X8_contact_23 ca, k_X8_contact_24 ca, k_X8_contact_27 ca, k_X8_contact_28 ca, k_X8_contact_31 ca, k_X8_contact_33 ca, k_X8_contact_34 ca, k_X8_contact_35 ca, k_X8_contact_36 ca, k_X8_contact_37 ca, k_X8_contact_38 ca, k_X8_contact_39 ca, k_X8_contact_42 ca, k_X8_contact_45 ca, k_X8_contact_46 ca, k_X8_contact_49 ca, k_X8_contact_50 ca, k_X8_contact_53 ca]
    try clear hF hF0 F
    exact hh
  refine goN go (stp [4]) 160 _ _ _ _ _ _ (fun F hF hF0 => ?_)
  simp only [hF, hF0, ite_not, i_push, i_iload, i_lload, i_aload, i_istore, i_astore, i_lstore, i_iinc, i_bin, i_dv, i_un, i_lbin, i_lsh, i_i2l, i_l2i, i_lcmp, i_dup, i_dup2, i_pop, i_if, i_icmp, i_goto, swG, i_sw, i_getf, i_puti, i_putz, i_putr, i_ald, i_lald, i_aald, i_ast, i_last, i_aast, i_alen, i_new, i_newi, i_newl, i_newq, i_oinit, i_ret, i_zret, i_lret, i_vret, catS, tk, rpush, isO, i_m1, i_m2, i_acopy, i_callV, i_callS, KRet, lget, lput, lputL, lcl0, isL, lv0, List.map_cons, List.map_nil, List.length_cons, List.length_nil, List.cons_append, List.nil_append, Nat.reduceAdd, Nat.reduceSub, Nat.reduceLeDiff, List.replicate_succ, List.replicate_zero, List.getElem?_cons_succ, List.getElem?_cons_zero, List.set_cons_succ, List.set_cons_zero, true_and, and_true, if_true, if_false, ↓reduceIte, Nat.le_refl, Value.category, va_up_app, eq_self, stp, Nat.reduceBEq, Bool.or_false, Bool.false_or, Bool.true_or, Bool.or_true, or_true, true_or, bx_uu, implies_true, true_implies, not_true, not_false_eq_true, false_implies, and_self, Nat.reduceLT, Int32.reduceAdd, Int32.reduceSub, Int32.reduceMul, Int32.reduceLE, Int32.reduceLT, Int32.reduceToNatClampNeg, va_rf_some, Bool.false_eq_true, k_X8_contact_0 ca, k_X8_contact_1 ca, k_X8_contact_4 ca, k_X8_contact_5 ca, k_X8_contact_8 ca, k_X8_contact_11 ca, k_X8_contact_12 ca, k_X8_contact_13 ca, k_X8_contact_14 ca, k_X8_contact_17 ca, k_X8_contact_20 ca, k_X8_contact_22 ca, k_X8_contact_23 ca, k_X8_contact_24 ca, k_X8_contact_27 ca, k_X8_contact_28 ca, k_X8_contact_31 ca, k_X8_contact_33 ca, k_X8_contact_34 ca, k_X8_contact_35 ca, k_X8_contact_36 ca, k_X8_contact_37 ca, k_X8_contact_38 ca, k_X8_contact_39 ca, k_X8_contact_42 ca, k_X8_contact_45 ca, k_X8_contact_46 ca, k_X8_contact_49 ca, k_X8_contact_50 ca, k_X8_contact_53 ca, hm0]
  try clear hF hF0 F
  refine begins_of I hR (fun h1 g hg hR1 hS1 => ?_)
  obtain ⟨fm, at', re, bd, kp, ks, iw, ip, fo, em, e0, -⟩ := id hR1
  unfold eMod at em
  unfold aContact at hs
  have bad : ∀ F, actR ca h m a s p t f n post (-10000001) F → post (some (.int (-10000001))) h1 := fun F hs => hs.1 inv_le h1 s p Eq127.rf (fun _ _ => rfl) ⟨g, hR1⟩ hS1
  cases q1 : isIn x 0 2 with
  | false =>
    rw [q1, if_neg (by decide)] at hs
    refine goN go (stp []) 160 _ _ _ _ _ _ (fun F hF hF0 => ?_)
    simp only [hF, hF0, ite_not, i_push, i_iload, i_lload, i_aload, i_istore, i_astore, i_lstore, i_iinc, i_bin, i_dv, i_un, i_lbin, i_lsh, i_i2l, i_l2i, i_lcmp, i_dup, i_dup2, i_pop, i_if, i_icmp, i_goto, swG, i_sw, i_getf, i_puti, i_putz, i_putr, i_ald, i_lald, i_aald, i_ast, i_last, i_aast, i_alen, i_new, i_newi, i_newl, i_newq, i_oinit, i_ret, i_zret, i_lret, i_vret, catS, tk, rpush, isO, i_m1, i_m2, i_acopy, i_callV, i_callS, KRet, lget, lput, lputL, lcl0, isL, lv0, List.map_cons, List.map_nil, List.length_cons, List.length_nil, List.cons_append, List.nil_append, Nat.reduceAdd, Nat.reduceSub, Nat.reduceLeDiff, List.replicate_succ, List.replicate_zero, List.getElem?_cons_succ, List.getElem?_cons_zero, List.set_cons_succ, List.set_cons_zero, true_and, and_true, if_true, if_false, ↓reduceIte, Nat.le_refl, Value.category, va_up_app, eq_self, stp, Nat.reduceBEq, Bool.or_false, Bool.false_or, Bool.true_or, Bool.or_true, or_true, true_or, bx_uu, implies_true, true_implies, not_true, not_false_eq_true, false_implies, and_self, Nat.reduceLT, Int32.reduceAdd, Int32.reduceSub, Int32.reduceMul, Int32.reduceLE, Int32.reduceLT, Int32.reduceToNatClampNeg, va_rf_some, Bool.false_eq_true, k_X8_contact_0 ca, k_X8_contact_1 ca, k_X8_contact_4 ca, k_X8_contact_5 ca, k_X8_contact_8 ca, k_X8_contact_11 ca, k_X8_contact_12 ca, k_X8_contact_13 ca, k_X8_contact_14 ca, k_X8_contact_17 ca, k_X8_contact_20 ca, k_X8_contact_22 ca, k_X8_contact_23 ca, k_X8_contact_24 ca, k_X8_contact_27 ca, k_X8_contact_28 ca, k_X8_contact_31 ca, k_X8_contact_33 ca, k_X8_contact_34 ca, k_X8_contact_35 ca, k_X8_contact_36 ca, k_X8_contact_37 ca, k_X8_contact_38 ca, k_X8_contact_39 ca, k_X8_contact_42 ca, k_X8_contact_45 ca, k_X8_contact_46 ca, k_X8_contact_49 ca, k_X8_contact_50 ca, k_X8_contact_53 ca, sp_X8_isOne, sp_X7_isRoom, q1, b2i_f]
    try clear hF hF0 F
    exact bad _ hs
  | true =>
    rw [q1, if_pos rfl] at hs
    cases q2 : isIn y 0 1 with
    | false =>
      rw [q2, if_neg (by decide)] at hs
      refine goN go (stp []) 160 _ _ _ _ _ _ (fun F hF hF0 => ?_)
      simp only [hF, hF0, ite_not, i_push, i_iload, i_lload, i_aload, i_istore, i_astore, i_lstore, i_iinc, i_bin, i_dv, i_un, i_lbin, i_lsh, i_i2l, i_l2i, i_lcmp, i_dup, i_dup2, i_pop, i_if, i_icmp, i_goto, swG, i_sw, i_getf, i_puti, i_putz, i_putr, i_ald, i_lald, i_aald, i_ast, i_last, i_aast, i_alen, i_new, i_newi, i_newl, i_newq, i_oinit, i_ret, i_zret, i_lret, i_vret, catS, tk, rpush, isO, i_m1, i_m2, i_acopy, i_callV, i_callS, KRet, lget, lput, lputL, lcl0, isL, lv0, List.map_cons, List.map_nil, List.length_cons, List.length_nil, List.cons_append, List.nil_append, Nat.reduceAdd, Nat.reduceSub, Nat.reduceLeDiff, List.replicate_succ, List.replicate_zero, List.getElem?_cons_succ, List.getElem?_cons_zero, List.set_cons_succ, List.set_cons_zero, true_and, and_true, if_true, if_false, ↓reduceIte, Nat.le_refl, Value.category, va_up_app, eq_self, stp, Nat.reduceBEq, Bool.or_false, Bool.false_or, Bool.true_or, Bool.or_true, or_true, true_or, bx_uu, implies_true, true_implies, not_true, not_false_eq_true, false_implies, and_self, Nat.reduceLT, Int32.reduceAdd, Int32.reduceSub, Int32.reduceMul, Int32.reduceLE, Int32.reduceLT, Int32.reduceToNatClampNeg, va_rf_some, Bool.false_eq_true, k_X8_contact_0 ca, k_X8_contact_1 ca, k_X8_contact_4 ca, k_X8_contact_5 ca, k_X8_contact_8 ca, k_X8_contact_11 ca, k_X8_contact_12 ca, k_X8_contact_13 ca, k_X8_contact_14 ca, k_X8_contact_17 ca, k_X8_contact_20 ca, k_X8_contact_22 ca, k_X8_contact_23 ca, k_X8_contact_24 ca, k_X8_contact_27 ca, k_X8_contact_28 ca, k_X8_contact_31 ca, k_X8_contact_33 ca, k_X8_contact_34 ca, k_X8_contact_35 ca, k_X8_contact_36 ca, k_X8_contact_37 ca, k_X8_contact_38 ca, k_X8_contact_39 ca, k_X8_contact_42 ca, k_X8_contact_45 ca, k_X8_contact_46 ca, k_X8_contact_49 ca, k_X8_contact_50 ca, k_X8_contact_53 ca, sp_X8_isOne, sp_X7_isRoom, sp_X8_in, sp_X7_isWithin, q1, q2, b2i_f, b2i_t, one0]
      try clear hF hF0 F
      exact bad _ hs
    | true =>
      rw [q2, if_pos rfl] at hs
      obtain ⟨X, hX, rfl⟩ := isIn0 (B := 2) rfl q1
      have xx : (nI X).toNatClampNeg = X := tn127 (by omega)
      rw [xx] at hs
      have x1 : (nI (10 + 32 * X + 7)).toNatClampNeg = 10 + 32 * X + 7 := tn127 (by omega)
      have v1 : vp_in (nI (10 + 32 * X + 7)) 127 := vp127 (by omega)
      have x2 : (nI (10 + 32 * X + 4)).toNatClampNeg = 10 + 32 * X + 4 := tn127 (by omega)
      have v2 : vp_in (nI (10 + 32 * X + 4)) 127 := vp127 (by omega)
      have u1 : upd s (10 + 32 * X + 7) y (10 + 32 * X + 4) = s (10 + 32 * X + 4) := pk_un (by omega)
      have u2 : upd s (10 + 32 * X + 7) y (10 + 32 * X + 7) = y := pk_us
      have hcl : closedM y (s (10 + 32 * X + 4)) = closedF y (s (10 + 32 * X + 4)) := closed_eq (by rw [show 10 + 32 * X + 4 = 14 + 32 * X by omega]; exact (hO X (by omega)).2.1)
      cases q3 : closedF y (s (10 + 32 * X + 4)) with
      | false =>
        rw [q3, b2i_f] at hs
        rw [q3] at hcl
        refine goN go (stp [53]) 160 _ _ _ _ _ _ (fun F hF hF0 => ?_)
        simp only [hF, hF0, ite_not, i_push, i_iload, i_lload, i_aload, i_istore, i_astore, i_lstore, i_iinc, i_bin, i_dv, i_un, i_lbin, i_lsh, i_i2l, i_l2i, i_lcmp, i_dup, i_dup2, i_pop, i_if, i_icmp, i_goto, swG, i_sw, i_getf, i_puti, i_putz, i_putr, i_ald, i_lald, i_aald, i_ast, i_last, i_aast, i_alen, i_new, i_newi, i_newl, i_newq, i_oinit, i_ret, i_zret, i_lret, i_vret, catS, tk, rpush, isO, i_m1, i_m2, i_acopy, i_callV, i_callS, KRet, lget, lput, lputL, lcl0, isL, lv0, List.map_cons, List.map_nil, List.length_cons, List.length_nil, List.cons_append, List.nil_append, Nat.reduceAdd, Nat.reduceSub, Nat.reduceLeDiff, List.replicate_succ, List.replicate_zero, List.getElem?_cons_succ, List.getElem?_cons_zero, List.set_cons_succ, List.set_cons_zero, true_and, and_true, if_true, if_false, ↓reduceIte, Nat.le_refl, Value.category, va_up_app, eq_self, stp, Nat.reduceBEq, Bool.or_false, Bool.false_or, Bool.true_or, Bool.or_true, or_true, true_or, bx_uu, implies_true, true_implies, not_true, not_false_eq_true, false_implies, and_self, Nat.reduceLT, Int32.reduceAdd, Int32.reduceSub, Int32.reduceMul, Int32.reduceLE, Int32.reduceLT, Int32.reduceToNatClampNeg, va_rf_some, Bool.false_eq_true, k_X8_contact_0 ca, k_X8_contact_1 ca, k_X8_contact_4 ca, k_X8_contact_5 ca, k_X8_contact_8 ca, k_X8_contact_11 ca, k_X8_contact_12 ca, k_X8_contact_13 ca, k_X8_contact_14 ca, k_X8_contact_17 ca, k_X8_contact_20 ca, k_X8_contact_22 ca, k_X8_contact_23 ca, k_X8_contact_24 ca, k_X8_contact_27 ca, k_X8_contact_28 ca, k_X8_contact_31 ca, k_X8_contact_33 ca, k_X8_contact_34 ca, k_X8_contact_35 ca, k_X8_contact_36 ca, k_X8_contact_37 ca, k_X8_contact_38 ca, k_X8_contact_39 ca, k_X8_contact_42 ca, k_X8_contact_45 ca, k_X8_contact_46 ca, k_X8_contact_49 ca, k_X8_contact_50 ca, k_X8_contact_53 ca, sp_X8_isOne, sp_X7_isRoom, sp_X8_in, sp_X7_isWithin, sp_X8_isClosed, sp_X8_stripAt, s10, a_4, a_7, q1, q2, b2i_t, b2i_f, one0, x1, v1, x2, v2, u1, u2, em, e0, d0, hcl]
        try clear hF hF0 F
        exact acted_R I ht (hR1.s0 I _) hg (hS1.tr (SmR.a (by decide) _)) Eq127.rf hs (fun h' => fin _ _ h')
      | true =>
        rw [q3, b2i_t] at hs
        rw [q3] at hcl
        refine goN go (stp [53]) 160 _ _ _ _ _ _ (fun F hF hF0 => ?_)
        simp only [hF, hF0, ite_not, i_push, i_iload, i_lload, i_aload, i_istore, i_astore, i_lstore, i_iinc, i_bin, i_dv, i_un, i_lbin, i_lsh, i_i2l, i_l2i, i_lcmp, i_dup, i_dup2, i_pop, i_if, i_icmp, i_goto, swG, i_sw, i_getf, i_puti, i_putz, i_putr, i_ald, i_lald, i_aald, i_ast, i_last, i_aast, i_alen, i_new, i_newi, i_newl, i_newq, i_oinit, i_ret, i_zret, i_lret, i_vret, catS, tk, rpush, isO, i_m1, i_m2, i_acopy, i_callV, i_callS, KRet, lget, lput, lputL, lcl0, isL, lv0, List.map_cons, List.map_nil, List.length_cons, List.length_nil, List.cons_append, List.nil_append, Nat.reduceAdd, Nat.reduceSub, Nat.reduceLeDiff, List.replicate_succ, List.replicate_zero, List.getElem?_cons_succ, List.getElem?_cons_zero, List.set_cons_succ, List.set_cons_zero, true_and, and_true, if_true, if_false, ↓reduceIte, Nat.le_refl, Value.category, va_up_app, eq_self, stp, Nat.reduceBEq, Bool.or_false, Bool.false_or, Bool.true_or, Bool.or_true, or_true, true_or, bx_uu, implies_true, true_implies, not_true, not_false_eq_true, false_implies, and_self, Nat.reduceLT, Int32.reduceAdd, Int32.reduceSub, Int32.reduceMul, Int32.reduceLE, Int32.reduceLT, Int32.reduceToNatClampNeg, va_rf_some, Bool.false_eq_true, k_X8_contact_0 ca, k_X8_contact_1 ca, k_X8_contact_4 ca, k_X8_contact_5 ca, k_X8_contact_8 ca, k_X8_contact_11 ca, k_X8_contact_12 ca, k_X8_contact_13 ca, k_X8_contact_14 ca, k_X8_contact_17 ca, k_X8_contact_20 ca, k_X8_contact_22 ca, k_X8_contact_23 ca, k_X8_contact_24 ca, k_X8_contact_27 ca, k_X8_contact_28 ca, k_X8_contact_31 ca, k_X8_contact_33 ca, k_X8_contact_34 ca, k_X8_contact_35 ca, k_X8_contact_36 ca, k_X8_contact_37 ca, k_X8_contact_38 ca, k_X8_contact_39 ca, k_X8_contact_42 ca, k_X8_contact_45 ca, k_X8_contact_46 ca, k_X8_contact_49 ca, k_X8_contact_50 ca, k_X8_contact_53 ca, sp_X8_isOne, sp_X7_isRoom, sp_X8_in, sp_X7_isWithin, sp_X8_isClosed, sp_X8_stripAt, s10, a_4, a_7, q1, q2, b2i_t, b2i_f, one0, x1, v1, x2, v2, u1, u2, em, e0, d0, hcl]
        try clear hF hF0 F
        exact acted_R I ht (hR1.s0 I _) hg (hS1.tr (SmR.a (by decide) _)) Eq127.rf hs (fun h' => fin _ _ h')
def fOpening (s : Nat → Int32) (x y : Int32) : Nat → Int32 := upd s (106 + 7 * x.toNatClampNeg + 3) y
def aOpening (s : Nat → Int32) (x y : Int32) : Int32 := if isIn x 0 2 = true then (if isIn y 0 1 = true then fOpening s x y 109 + fOpening s x y 116 + fOpening s x y 123 else -10000001) else -10000001
theorem v109 : vp_in 109 127 := vpl (by decide)
theorem v116 : vp_in 116 127 := vpl (by decide)
theorem v123 : vp_in 123 127 := vpl (by decide)
def sp_X8_opening (ca : Nat → ClassId) : SPEC := fun av h post => ∃ m a s p t f n x y, av = [.ref m, .int x, .int y] ∧ RI m a ∧ t ≤ 4 ∧ RAt ca h m a s p t f n ∧ actR ca h m a s p t f n post (aOpening s x y) (fOpening s x y)
def k_X8_opening (ca : Nat → ClassId) : Nat → IT := fun pc => lk pc [(0, i_aload 0 1),
  (1, i_callV 8 0 0 0 0 0 (sp_X8_begins ca) 4),
  (4, i_iload 1 5),
  (5, i_callS 1 0 0 0 0 (sp_X8_isOne ca) 8),
  (8, i_if (fun x => x = 0) 20 11),
  (11, i_iload 2 12),
  (12, i_push (.int 0) 13),
  (13, i_push (.int 1) 14),
  (14, i_callS 3 0 0 0 0 (sp_X8_in ca) 17),
  (17, i_if (fun x => ¬ x = 0) 23 20),
  (20, i_push (.int (-10000001)) 22),
  (22, i_ret),
  (23, i_aload 0 24),
  (24, i_getf 8 0 27),
  (27, i_iload 1 28),
  (28, i_callS 1 0 0 0 0 (sp_X8_roomAt ca) 31),
  (31, i_push (.int 3) 32),
  (32, i_bin (fun x y => x + y) 33),
  (33, i_iload 2 34),
  (34, i_ast (fun x => x) (ca 0) 35),
  (35, i_aload 0 36),
  (36, i_aload 0 37),
  (37, i_getf 8 0 40),
  (40, i_push (.int 0) 41),
  (41, i_callS 1 0 0 0 0 (sp_X8_roomAt ca) 44),
  (44, i_push (.int 3) 45),
  (45, i_bin (fun x y => x + y) 46),
  (46, i_ald (ca 0) 47),
  (47, i_aload 0 48),
  (48, i_getf 8 0 51),
  (51, i_push (.int 1) 52),
  (52, i_callS 1 0 0 0 0 (sp_X8_roomAt ca) 55),
  (55, i_push (.int 3) 56),
  (56, i_bin (fun x y => x + y) 57),
  (57, i_ald (ca 0) 58),
  (58, i_bin (fun x y => x + y) 59),
  (59, i_aload 0 60),
  (60, i_getf 8 0 63),
  (63, i_push (.int 2) 64),
  (64, i_callS 1 0 0 0 0 (sp_X8_roomAt ca) 67),
  (67, i_push (.int 3) 68),
  (68, i_bin (fun x y => x + y) 69),
  (69, i_ald (ca 0) 70),
  (70, i_bin (fun x y => x + y) 71),
  (71, i_callV 8 1 0 0 0 0 (sp_X8_acted ca) 74),
  (74, i_ret)]
set_option maxRecDepth 20000 in
theorem t_X8_opening : Tb k_X8_opening yX8_opening cX8_opening 3 (some .int) 2 0 0 := by
  intro l D ca A p e s m args below meth c post X
  unfold k_X8_opening
  refine snd_cons (snd_aload_n X dX8_opening_0 rfl) ?_
  refine snd_cons (snd_callV X Fk8 (ok_X8_begins l D ca) rfl rfl w_698 w_700 wp_16 w_9 w_701 (by decide) (by decide) dX8_opening_1) ?_
  refine snd_cons (snd_iload_n X dX8_opening_4 rfl) ?_
  refine snd_cons (snd_callS X (ok_X8_isOne l D ca) rfl rfl w_722 w_723 w_9 w_724 (by decide) (by decide) dX8_opening_5) ?_
  refine snd_cons (snd_if_eq X dX8_opening_8 (by decide)) ?_
  refine snd_cons (snd_iload_n X dX8_opening_11 rfl) ?_
  refine snd_cons (snd_iconst X dX8_opening_12 (by decide)) ?_
  refine snd_cons (snd_iconst X dX8_opening_13 (by decide)) ?_
  refine snd_cons (snd_callS X (ok_X8_in l D ca) rfl rfl w_702 w_703 w_9 w_704 (by decide) (by decide) dX8_opening_14) ?_
  refine snd_cons (snd_if_ne X dX8_opening_17 (by decide)) ?_
  refine snd_cons (snd_ldc X w_709 dX8_opening_20) ?_
  refine snd_cons (snd_ret X dX8_opening_22) ?_
  refine snd_cons (snd_aload_n X dX8_opening_23 rfl) ?_
  refine snd_cons (snd_getf X Fk8 0 (by decide) w_647 dX8_opening_24) ?_
  refine snd_cons (snd_iload_n X dX8_opening_27 rfl) ?_
  refine snd_cons (snd_callS X (ok_X8_roomAt l D ca) rfl rfl w_644 w_645 w_9 w_646 (by decide) (by decide) dX8_opening_28) ?_
  refine snd_cons (snd_iconst X dX8_opening_31 (by decide)) ?_
  refine snd_cons (snd_iadd X dX8_opening_32) ?_
  refine snd_cons (snd_iload_n X dX8_opening_33 rfl) ?_
  refine snd_cons (snd_iastore X dX8_opening_34) ?_
  refine snd_cons (snd_aload_n X dX8_opening_35 rfl) ?_
  refine snd_cons (snd_aload_n X dX8_opening_36 rfl) ?_
  refine snd_cons (snd_getf X Fk8 0 (by decide) w_647 dX8_opening_37) ?_
  refine snd_cons (snd_iconst X dX8_opening_40 (by decide)) ?_
  refine snd_cons (snd_callS X (ok_X8_roomAt l D ca) rfl rfl w_644 w_645 w_9 w_646 (by decide) (by decide) dX8_opening_41) ?_
  refine snd_cons (snd_iconst X dX8_opening_44 (by decide)) ?_
  refine snd_cons (snd_iadd X dX8_opening_45) ?_
  refine snd_cons (snd_iaload X dX8_opening_46) ?_
  refine snd_cons (snd_aload_n X dX8_opening_47 rfl) ?_
  refine snd_cons (snd_getf X Fk8 0 (by decide) w_647 dX8_opening_48) ?_
  refine snd_cons (snd_iconst X dX8_opening_51 (by decide)) ?_
  refine snd_cons (snd_callS X (ok_X8_roomAt l D ca) rfl rfl w_644 w_645 w_9 w_646 (by decide) (by decide) dX8_opening_52) ?_
  refine snd_cons (snd_iconst X dX8_opening_55 (by decide)) ?_
  refine snd_cons (snd_iadd X dX8_opening_56) ?_
  refine snd_cons (snd_iaload X dX8_opening_57) ?_
  refine snd_cons (snd_iadd X dX8_opening_58) ?_
  refine snd_cons (snd_aload_n X dX8_opening_59 rfl) ?_
  refine snd_cons (snd_getf X Fk8 0 (by decide) w_647 dX8_opening_60) ?_
  refine snd_cons (snd_iconst X dX8_opening_63 (by decide)) ?_
  refine snd_cons (snd_callS X (ok_X8_roomAt l D ca) rfl rfl w_644 w_645 w_9 w_646 (by decide) (by decide) dX8_opening_64) ?_
  refine snd_cons (snd_iconst X dX8_opening_67 (by decide)) ?_
  refine snd_cons (snd_iadd X dX8_opening_68) ?_
  refine snd_cons (snd_iaload X dX8_opening_69) ?_
  refine snd_cons (snd_iadd X dX8_opening_70) ?_
  refine snd_cons (snd_callV X Fk8 (ok_X8_acted l D ca) rfl rfl w_710 w_712 wp_18 w_9 w_713 (by decide) (by decide) dX8_opening_71) ?_
  refine snd_cons (snd_ret X dX8_opening_74) ?_
  exact snd_nil
theorem k_X8_opening_0 (ca : Nat → ClassId) : k_X8_opening ca 0 = i_aload 0 1 := rfl
theorem k_X8_opening_1 (ca : Nat → ClassId) : k_X8_opening ca 1 = i_callV 8 0 0 0 0 0 (sp_X8_begins ca) 4 := rfl
theorem k_X8_opening_4 (ca : Nat → ClassId) : k_X8_opening ca 4 = i_iload 1 5 := rfl
theorem k_X8_opening_5 (ca : Nat → ClassId) : k_X8_opening ca 5 = i_callS 1 0 0 0 0 (sp_X8_isOne ca) 8 := rfl
theorem k_X8_opening_8 (ca : Nat → ClassId) : k_X8_opening ca 8 = i_if (fun x => x = 0) 20 11 := rfl
theorem k_X8_opening_11 (ca : Nat → ClassId) : k_X8_opening ca 11 = i_iload 2 12 := rfl
theorem k_X8_opening_12 (ca : Nat → ClassId) : k_X8_opening ca 12 = i_push (.int 0) 13 := rfl
theorem k_X8_opening_13 (ca : Nat → ClassId) : k_X8_opening ca 13 = i_push (.int 1) 14 := rfl
theorem k_X8_opening_14 (ca : Nat → ClassId) : k_X8_opening ca 14 = i_callS 3 0 0 0 0 (sp_X8_in ca) 17 := rfl
theorem k_X8_opening_17 (ca : Nat → ClassId) : k_X8_opening ca 17 = i_if (fun x => ¬ x = 0) 23 20 := rfl
theorem k_X8_opening_20 (ca : Nat → ClassId) : k_X8_opening ca 20 = i_push (.int (-10000001)) 22 := rfl
theorem k_X8_opening_22 (ca : Nat → ClassId) : k_X8_opening ca 22 = i_ret := rfl
theorem k_X8_opening_23 (ca : Nat → ClassId) : k_X8_opening ca 23 = i_aload 0 24 := rfl
theorem k_X8_opening_24 (ca : Nat → ClassId) : k_X8_opening ca 24 = i_getf 8 0 27 := rfl
theorem k_X8_opening_27 (ca : Nat → ClassId) : k_X8_opening ca 27 = i_iload 1 28 := rfl
theorem k_X8_opening_28 (ca : Nat → ClassId) : k_X8_opening ca 28 = i_callS 1 0 0 0 0 (sp_X8_roomAt ca) 31 := rfl
theorem k_X8_opening_31 (ca : Nat → ClassId) : k_X8_opening ca 31 = i_push (.int 3) 32 := rfl
theorem k_X8_opening_32 (ca : Nat → ClassId) : k_X8_opening ca 32 = i_bin (fun x y => x + y) 33 := rfl
theorem k_X8_opening_33 (ca : Nat → ClassId) : k_X8_opening ca 33 = i_iload 2 34 := rfl
theorem k_X8_opening_34 (ca : Nat → ClassId) : k_X8_opening ca 34 = i_ast (fun x => x) (ca 0) 35 := rfl
theorem k_X8_opening_35 (ca : Nat → ClassId) : k_X8_opening ca 35 = i_aload 0 36 := rfl
theorem k_X8_opening_36 (ca : Nat → ClassId) : k_X8_opening ca 36 = i_aload 0 37 := rfl
theorem k_X8_opening_37 (ca : Nat → ClassId) : k_X8_opening ca 37 = i_getf 8 0 40 := rfl
theorem k_X8_opening_40 (ca : Nat → ClassId) : k_X8_opening ca 40 = i_push (.int 0) 41 := rfl
theorem k_X8_opening_41 (ca : Nat → ClassId) : k_X8_opening ca 41 = i_callS 1 0 0 0 0 (sp_X8_roomAt ca) 44 := rfl
theorem k_X8_opening_44 (ca : Nat → ClassId) : k_X8_opening ca 44 = i_push (.int 3) 45 := rfl
theorem k_X8_opening_45 (ca : Nat → ClassId) : k_X8_opening ca 45 = i_bin (fun x y => x + y) 46 := rfl
theorem k_X8_opening_46 (ca : Nat → ClassId) : k_X8_opening ca 46 = i_ald (ca 0) 47 := rfl
theorem k_X8_opening_47 (ca : Nat → ClassId) : k_X8_opening ca 47 = i_aload 0 48 := rfl
theorem k_X8_opening_48 (ca : Nat → ClassId) : k_X8_opening ca 48 = i_getf 8 0 51 := rfl
theorem k_X8_opening_51 (ca : Nat → ClassId) : k_X8_opening ca 51 = i_push (.int 1) 52 := rfl
theorem k_X8_opening_52 (ca : Nat → ClassId) : k_X8_opening ca 52 = i_callS 1 0 0 0 0 (sp_X8_roomAt ca) 55 := rfl
theorem k_X8_opening_55 (ca : Nat → ClassId) : k_X8_opening ca 55 = i_push (.int 3) 56 := rfl
theorem k_X8_opening_56 (ca : Nat → ClassId) : k_X8_opening ca 56 = i_bin (fun x y => x + y) 57 := rfl
theorem k_X8_opening_57 (ca : Nat → ClassId) : k_X8_opening ca 57 = i_ald (ca 0) 58 := rfl
theorem k_X8_opening_58 (ca : Nat → ClassId) : k_X8_opening ca 58 = i_bin (fun x y => x + y) 59 := rfl
theorem k_X8_opening_59 (ca : Nat → ClassId) : k_X8_opening ca 59 = i_aload 0 60 := rfl
theorem k_X8_opening_60 (ca : Nat → ClassId) : k_X8_opening ca 60 = i_getf 8 0 63 := rfl
theorem k_X8_opening_63 (ca : Nat → ClassId) : k_X8_opening ca 63 = i_push (.int 2) 64 := rfl
theorem k_X8_opening_64 (ca : Nat → ClassId) : k_X8_opening ca 64 = i_callS 1 0 0 0 0 (sp_X8_roomAt ca) 67 := rfl
theorem k_X8_opening_67 (ca : Nat → ClassId) : k_X8_opening ca 67 = i_push (.int 3) 68 := rfl
theorem k_X8_opening_68 (ca : Nat → ClassId) : k_X8_opening ca 68 = i_bin (fun x y => x + y) 69 := rfl
theorem k_X8_opening_69 (ca : Nat → ClassId) : k_X8_opening ca 69 = i_ald (ca 0) 70 := rfl
theorem k_X8_opening_70 (ca : Nat → ClassId) : k_X8_opening ca 70 = i_bin (fun x y => x + y) 71 := rfl
theorem k_X8_opening_71 (ca : Nat → ClassId) : k_X8_opening ca 71 = i_callV 8 1 0 0 0 0 (sp_X8_acted ca) 74 := rfl
theorem k_X8_opening_74 (ca : Nat → ClassId) : k_X8_opening ca 74 = i_ret := rfl
set_option maxHeartbeats 4000000 in
set_option maxRecDepth 20000 in
theorem ok_X8_opening (l : Launch) (D : va_G) (ca : Nat → ClassId) : OkAll l D ca yX8_opening cX8_opening 3 (some .int) 2 0 0 (sp_X8_opening ca) := by
  intro av h post hs
  obtain ⟨m, a, s, p, t, f, n, x, y, rfl, I, ht, hR, hs⟩ := hs
  refine okM_of t_X8_opening (by decide +kernel) (c1_ref (c1_int (c1_int c1_nil))) (Nat.le_of_ble_eq_true rfl) ?_
  intro K go
  have d0 := I.2 0
  obtain ⟨l0, hm0⟩ := hR.m8
  have fin : ∀ lv x h', post (some (.int x)) h' → K 0 0 74 lv [.int x] h' := by
    intro lv x h' hh
    refine goN go (stp []) 160 _ _ _ _ _ _ (fun F hF hF0 => ?_)
    simp only [hF, hF0, ite_not, i_push, i_iload, i_lload, i_aload, i_istore, i_astore, i_lstore, i_iinc, i_bin, i_dv, i_un, i_lbin, i_lsh, i_i2l, i_l2i, i_lcmp, i_dup, i_dup2, i_pop, i_if, i_icmp, i_goto, swG, i_sw, i_getf, i_puti, i_putz, i_putr, i_ald, i_lald, i_aald, i_ast, i_last, i_aast, i_alen, i_new, i_newi, i_newl, i_newq, i_oinit, i_ret, i_zret, i_lret, i_vret, catS, tk, rpush, isO, i_m1, i_m2, i_acopy, i_callV, i_callS, KRet, lget, lput, lputL, lcl0, isL, lv0, List.map_cons, List.map_nil, List.length_cons, List.length_nil, List.cons_append, List.nil_append, Nat.reduceAdd, Nat.reduceSub, Nat.reduceLeDiff, List.replicate_succ, List.replicate_zero, List.getElem?_cons_succ, List.getElem?_cons_zero, List.set_cons_succ, List.set_cons_zero, true_and, and_true, if_true, if_false, ↓reduceIte, Nat.le_refl, Value.category, va_up_app, eq_self, stp, Nat.reduceBEq, Bool.or_false, Bool.false_or, Bool.true_or, Bool.or_true, or_true, true_or, bx_uu, implies_true, true_implies, not_true, not_false_eq_true, false_implies, and_self, Nat.reduceLT, Int32.reduceAdd, Int32.reduceSub, Int32.reduceMul, Int32.reduceLE, Int32.reduceLT, Int32.reduceToNatClampNeg, va_rf_some, Bool.false_eq_true, k_X8_opening_0 ca, k_X8_opening_1 ca, k_X8_opening_4 ca, k_X8_opening_5 ca, k_X8_opening_8 ca, k_X8_opening_11 ca, k_X8_opening_12 ca, k_X8_opening_13 ca, k_X8_opening_14 ca, k_X8_opening_17 ca, k_X8_opening_20 ca, k_X8_opening_22 ca, k_X8_opening_23 ca, k_X8_opening_24 ca, k_X8_opening_27 ca, k_X8_opening_28 ca, k_X8_opening_31 ca, k_X8_opening_32 ca, k_X8_opening_33 ca, k_X8_opening_34 ca, k_X8_opening_35 ca, k_X8_opening_36 ca, k_X8_opening_37 ca, k_X8_opening_40 ca, k_X8_opening_41 ca, k_X8_opening_44 ca, k_X8_opening_45 ca, k_X8_opening_46 ca, k_X8_opening_47 ca, k_X8_opening_48 ca, k_X8_opening_51 ca, k_X8_opening_52 ca, k_X8_opening_55 ca, k_X8_opening_56 ca, k_X8_opening_57 ca, k_X8_opening_58 ca, k_X8_opening_59 ca, k_X8_opening_60 ca, k_X8_opening_63 ca, k_X8_opening_64 ca, k_X8_opening_67 ca, k_X8_opening_68 ca, k_X8_opening_69 ca, k_X8_opening_70 ca, k_X8_opening_71 ca, k_X8_opening_74 ca]
    try clear hF hF0 F
    exact hh
  refine goN go (stp [4]) 160 _ _ _ _ _ _ (fun F hF hF0 => ?_)
  simp only [hF, hF0, ite_not, i_push, i_iload, i_lload, i_aload, i_istore, i_astore, i_lstore, i_iinc, i_bin, i_dv, i_un, i_lbin, i_lsh, i_i2l, i_l2i, i_lcmp, i_dup, i_dup2, i_pop, i_if, i_icmp, i_goto, swG, i_sw, i_getf, i_puti, i_putz, i_putr, i_ald, i_lald, i_aald, i_ast, i_last, i_aast, i_alen, i_new, i_newi, i_newl, i_newq, i_oinit, i_ret, i_zret, i_lret, i_vret, catS, tk, rpush, isO, i_m1, i_m2, i_acopy, i_callV, i_callS, KRet, lget, lput, lputL, lcl0, isL, lv0, List.map_cons, List.map_nil, List.length_cons, List.length_nil, List.cons_append, List.nil_append, Nat.reduceAdd, Nat.reduceSub, Nat.reduceLeDiff, List.replicate_succ, List.replicate_zero, List.getElem?_cons_succ, List.getElem?_cons_zero, List.set_cons_succ, List.set_cons_zero, true_and, and_true, if_true, if_false, ↓reduceIte, Nat.le_refl, Value.category, va_up_app, eq_self, stp, Nat.reduceBEq, Bool.or_false, Bool.false_or, Bool.true_or, Bool.or_true, or_true, true_or, bx_uu, implies_true, true_implies, not_true, not_false_eq_true, false_implies, and_self, Nat.reduceLT, Int32.reduceAdd, Int32.reduceSub, Int32.reduceMul, Int32.reduceLE, Int32.reduceLT, Int32.reduceToNatClampNeg, va_rf_some, Bool.false_eq_true, k_X8_opening_0 ca, k_X8_opening_1 ca, k_X8_opening_4 ca, k_X8_opening_5 ca, k_X8_opening_8 ca, k_X8_opening_11 ca, k_X8_opening_12 ca, k_X8_opening_13 ca, k_X8_opening_14 ca, k_X8_opening_17 ca, k_X8_opening_20 ca, k_X8_opening_22 ca, k_X8_opening_23 ca, k_X8_opening_24 ca, k_X8_opening_27 ca, k_X8_opening_28 ca, k_X8_opening_31 ca, k_X8_opening_32 ca, k_X8_opening_33 ca, k_X8_opening_34 ca, k_X8_opening_35 ca, k_X8_opening_36 ca, k_X8_opening_37 ca, k_X8_opening_40 ca, k_X8_opening_41 ca, k_X8_opening_44 ca, k_X8_opening_45 ca, k_X8_opening_46 ca, k_X8_opening_47 ca, k_X8_opening_48 ca, k_X8_opening_51 ca, k_X8_opening_52 ca, k_X8_opening_55 ca, k_X8_opening_56 ca, k_X8_opening_57 ca, k_X8_opening_58 ca, k_X8_opening_59 ca, k_X8_opening_60 ca, k_X8_opening_63 ca, k_X8_opening_64 ca, k_X8_opening_67 ca, k_X8_opening_68 ca, k_X8_opening_69 ca, k_X8_opening_70 ca, k_X8_opening_71 ca, k_X8_opening_74 ca, hm0]
  try clear hF hF0 F
  refine begins_of I hR (fun h1 g hg hR1 hS1 => ?_)
  obtain ⟨fm, at', re, bd, kp, ks, iw, ip, fo, em, e0, -⟩ := id hR1
  unfold eMod at em
  unfold aOpening fOpening at hs
  have bad : ∀ F, actR ca h m a s p t f n post (-10000001) F → post (some (.int (-10000001))) h1 := fun F hs => hs.1 inv_le h1 s p Eq127.rf (fun _ _ => rfl) ⟨g, hR1⟩ hS1
  cases q1 : isIn x 0 2 with
  | false =>
    rw [q1, if_neg (by decide)] at hs
    refine goN go (stp []) 160 _ _ _ _ _ _ (fun F hF hF0 => ?_)
    simp only [hF, hF0, ite_not, i_push, i_iload, i_lload, i_aload, i_istore, i_astore, i_lstore, i_iinc, i_bin, i_dv, i_un, i_lbin, i_lsh, i_i2l, i_l2i, i_lcmp, i_dup, i_dup2, i_pop, i_if, i_icmp, i_goto, swG, i_sw, i_getf, i_puti, i_putz, i_putr, i_ald, i_lald, i_aald, i_ast, i_last, i_aast, i_alen, i_new, i_newi, i_newl, i_newq, i_oinit, i_ret, i_zret, i_lret, i_vret, catS, tk, rpush, isO, i_m1, i_m2, i_acopy, i_callV, i_callS, KRet, lget, lput, lputL, lcl0, isL, lv0, List.map_cons, List.map_nil, List.length_cons, List.length_nil, List.cons_append, List.nil_append, Nat.reduceAdd, Nat.reduceSub, Nat.reduceLeDiff, List.replicate_succ, List.replicate_zero, List.getElem?_cons_succ, List.getElem?_cons_zero, List.set_cons_succ, List.set_cons_zero, true_and, and_true, if_true, if_false, ↓reduceIte, Nat.le_refl, Value.category, va_up_app, eq_self, stp, Nat.reduceBEq, Bool.or_false, Bool.false_or, Bool.true_or, Bool.or_true, or_true, true_or, bx_uu, implies_true, true_implies, not_true, not_false_eq_true, false_implies, and_self, Nat.reduceLT, Int32.reduceAdd, Int32.reduceSub, Int32.reduceMul, Int32.reduceLE, Int32.reduceLT, Int32.reduceToNatClampNeg, va_rf_some, Bool.false_eq_true, k_X8_opening_0 ca, k_X8_opening_1 ca, k_X8_opening_4 ca, k_X8_opening_5 ca, k_X8_opening_8 ca, k_X8_opening_11 ca, k_X8_opening_12 ca, k_X8_opening_13 ca, k_X8_opening_14 ca, k_X8_opening_17 ca, k_X8_opening_20 ca, k_X8_opening_22 ca, k_X8_opening_23 ca, k_X8_opening_24 ca, k_X8_opening_27 ca, k_X8_opening_28 ca, k_X8_opening_31 ca, k_X8_opening_32 ca, k_X8_opening_33 ca, k_X8_opening_34 ca, k_X8_opening_35 ca, k_X8_opening_36 ca, k_X8_opening_37 ca, k_X8_opening_40 ca, k_X8_opening_41 ca, k_X8_opening_44 ca, k_X8_opening_45 ca, k_X8_opening_46 ca, k_X8_opening_47 ca, k_X8_opening_48 ca, k_X8_opening_51 ca, k_X8_opening_52 ca, k_X8_opening_55 ca, k_X8_opening_56 ca, k_X8_opening_57 ca, k_X8_opening_58 ca, k_X8_opening_59 ca, k_X8_opening_60 ca, k_X8_opening_63 ca, k_X8_opening_64 ca, k_X8_opening_67 ca, k_X8_opening_68 ca, k_X8_opening_69 ca, k_X8_opening_70 ca, k_X8_opening_71 ca, k_X8_opening_74 ca, sp_X8_isOne, sp_X7_isRoom, q1, b2i_f]
    try clear hF hF0 F
    exact bad _ hs
  | true =>
    rw [q1, if_pos rfl] at hs
    cases q2 : isIn y 0 1 with
    | false =>
      rw [q2, if_neg (by decide)] at hs
      refine goN go (stp []) 160 _ _ _ _ _ _ (fun F hF hF0 => ?_)
      simp only [hF, hF0, ite_not, i_push, i_iload, i_lload, i_aload, i_istore, i_astore, i_lstore, i_iinc, i_bin, i_dv, i_un, i_lbin, i_lsh, i_i2l, i_l2i, i_lcmp, i_dup, i_dup2, i_pop, i_if, i_icmp, i_goto, swG, i_sw, i_getf, i_puti, i_putz, i_putr, i_ald, i_lald, i_aald, i_ast, i_last, i_aast, i_alen, i_new, i_newi, i_newl, i_newq, i_oinit, i_ret, i_zret, i_lret, i_vret, catS, tk, rpush, isO, i_m1, i_m2, i_acopy, i_callV, i_callS, KRet, lget, lput, lputL, lcl0, isL, lv0, List.map_cons, List.map_nil, List.length_cons, List.length_nil, List.cons_append, List.nil_append, Nat.reduceAdd, Nat.reduceSub, Nat.reduceLeDiff, List.replicate_succ, List.replicate_zero, List.getElem?_cons_succ, List.getElem?_cons_zero, List.set_cons_succ, List.set_cons_zero, true_and, and_true, if_true, if_false, ↓reduceIte, Nat.le_refl, Value.category, va_up_app, eq_self, stp, Nat.reduceBEq, Bool.or_false, Bool.false_or, Bool.true_or, Bool.or_true, or_true, true_or, bx_uu, implies_true, true_implies, not_true, not_false_eq_true, false_implies, and_self, Nat.reduceLT, Int32.reduceAdd, Int32.reduceSub, Int32.reduceMul, Int32.reduceLE, Int32.reduceLT, Int32.reduceToNatClampNeg, va_rf_some, Bool.false_eq_true, k_X8_opening_0 ca, k_X8_opening_1 ca, k_X8_opening_4 ca, k_X8_opening_5 ca, k_X8_opening_8 ca, k_X8_opening_11 ca, k_X8_opening_12 ca, k_X8_opening_13 ca, k_X8_opening_14 ca, k_X8_opening_17 ca, k_X8_opening_20 ca, k_X8_opening_22 ca, k_X8_opening_23 ca, k_X8_opening_24 ca, k_X8_opening_27 ca, k_X8_opening_28 ca, k_X8_opening_31 ca, k_X8_opening_32 ca, k_X8_opening_33 ca, k_X8_opening_34 ca, k_X8_opening_35 ca, k_X8_opening_36 ca, k_X8_opening_37 ca, k_X8_opening_40 ca, k_X8_opening_41 ca, k_X8_opening_44 ca, k_X8_opening_45 ca, k_X8_opening_46 ca, k_X8_opening_47 ca, k_X8_opening_48 ca, k_X8_opening_51 ca, k_X8_opening_52 ca, k_X8_opening_55 ca, k_X8_opening_56 ca, k_X8_opening_57 ca, k_X8_opening_58 ca, k_X8_opening_59 ca, k_X8_opening_60 ca, k_X8_opening_63 ca, k_X8_opening_64 ca, k_X8_opening_67 ca, k_X8_opening_68 ca, k_X8_opening_69 ca, k_X8_opening_70 ca, k_X8_opening_71 ca, k_X8_opening_74 ca, sp_X8_isOne, sp_X7_isRoom, sp_X8_in, sp_X7_isWithin, q1, q2, b2i_f, b2i_t, one0]
      try clear hF hF0 F
      exact bad _ hs
    | true =>
      rw [q2, if_pos rfl] at hs
      obtain ⟨X, hX, rfl⟩ := isIn0 (B := 2) rfl q1
      have xx : (nI X).toNatClampNeg = X := tn127 (by omega)
      rw [xx] at hs
      have x1 : (nI (106 + 7 * X + 3)).toNatClampNeg = 106 + 7 * X + 3 := tn127 (by omega)
      have v1 : vp_in (nI (106 + 7 * X + 3)) 127 := vp127 (by omega)
      refine goN go (stp [35]) 160 _ _ _ _ _ _ (fun F hF hF0 => ?_)
      simp only [hF, hF0, ite_not, i_push, i_iload, i_lload, i_aload, i_istore, i_astore, i_lstore, i_iinc, i_bin, i_dv, i_un, i_lbin, i_lsh, i_i2l, i_l2i, i_lcmp, i_dup, i_dup2, i_pop, i_if, i_icmp, i_goto, swG, i_sw, i_getf, i_puti, i_putz, i_putr, i_ald, i_lald, i_aald, i_ast, i_last, i_aast, i_alen, i_new, i_newi, i_newl, i_newq, i_oinit, i_ret, i_zret, i_lret, i_vret, catS, tk, rpush, isO, i_m1, i_m2, i_acopy, i_callV, i_callS, KRet, lget, lput, lputL, lcl0, isL, lv0, List.map_cons, List.map_nil, List.length_cons, List.length_nil, List.cons_append, List.nil_append, Nat.reduceAdd, Nat.reduceSub, Nat.reduceLeDiff, List.replicate_succ, List.replicate_zero, List.getElem?_cons_succ, List.getElem?_cons_zero, List.set_cons_succ, List.set_cons_zero, true_and, and_true, if_true, if_false, ↓reduceIte, Nat.le_refl, Value.category, va_up_app, eq_self, stp, Nat.reduceBEq, Bool.or_false, Bool.false_or, Bool.true_or, Bool.or_true, or_true, true_or, bx_uu, implies_true, true_implies, not_true, not_false_eq_true, false_implies, and_self, Nat.reduceLT, Int32.reduceAdd, Int32.reduceSub, Int32.reduceMul, Int32.reduceLE, Int32.reduceLT, Int32.reduceToNatClampNeg, va_rf_some, Bool.false_eq_true, k_X8_opening_0 ca, k_X8_opening_1 ca, k_X8_opening_4 ca, k_X8_opening_5 ca, k_X8_opening_8 ca, k_X8_opening_11 ca, k_X8_opening_12 ca, k_X8_opening_13 ca, k_X8_opening_14 ca, k_X8_opening_17 ca, k_X8_opening_20 ca, k_X8_opening_22 ca, k_X8_opening_23 ca, k_X8_opening_24 ca, k_X8_opening_27 ca, k_X8_opening_28 ca, k_X8_opening_31 ca, k_X8_opening_32 ca, k_X8_opening_33 ca, k_X8_opening_34 ca, k_X8_opening_35 ca, k_X8_opening_36 ca, k_X8_opening_37 ca, k_X8_opening_40 ca, k_X8_opening_41 ca, k_X8_opening_44 ca, k_X8_opening_45 ca, k_X8_opening_46 ca, k_X8_opening_47 ca, k_X8_opening_48 ca, k_X8_opening_51 ca, k_X8_opening_52 ca, k_X8_opening_55 ca, k_X8_opening_56 ca, k_X8_opening_57 ca, k_X8_opening_58 ca, k_X8_opening_59 ca, k_X8_opening_60 ca, k_X8_opening_63 ca, k_X8_opening_64 ca, k_X8_opening_67 ca, k_X8_opening_68 ca, k_X8_opening_69 ca, k_X8_opening_70 ca, k_X8_opening_71 ca, k_X8_opening_74 ca, sp_X8_isOne, sp_X7_isRoom, sp_X8_in, sp_X7_isWithin, sp_X8_roomAt, s106, a_3, q1, q2, b2i_t, one0, x1, v1, em, e0, d0]
      try clear hF hF0 F
      generalize hu : upd s (106 + 7 * X + 3) y = u at *
      refine goN go (stp [74]) 160 _ _ _ _ _ _ (fun F hF hF0 => ?_)
      simp only [hF, hF0, ite_not, i_push, i_iload, i_lload, i_aload, i_istore, i_astore, i_lstore, i_iinc, i_bin, i_dv, i_un, i_lbin, i_lsh, i_i2l, i_l2i, i_lcmp, i_dup, i_dup2, i_pop, i_if, i_icmp, i_goto, swG, i_sw, i_getf, i_puti, i_putz, i_putr, i_ald, i_lald, i_aald, i_ast, i_last, i_aast, i_alen, i_new, i_newi, i_newl, i_newq, i_oinit, i_ret, i_zret, i_lret, i_vret, catS, tk, rpush, isO, i_m1, i_m2, i_acopy, i_callV, i_callS, KRet, lget, lput, lputL, lcl0, isL, lv0, List.map_cons, List.map_nil, List.length_cons, List.length_nil, List.cons_append, List.nil_append, Nat.reduceAdd, Nat.reduceSub, Nat.reduceLeDiff, List.replicate_succ, List.replicate_zero, List.getElem?_cons_succ, List.getElem?_cons_zero, List.set_cons_succ, List.set_cons_zero, true_and, and_true, if_true, if_false, ↓reduceIte, Nat.le_refl, Value.category, va_up_app, eq_self, stp, Nat.reduceBEq, Bool.or_false, Bool.false_or, Bool.true_or, Bool.or_true, or_true, true_or, bx_uu, implies_true, true_implies, not_true, not_false_eq_true, false_implies, and_self, Nat.reduceLT, Int32.reduceAdd, Int32.reduceSub, Int32.reduceMul, Int32.reduceLE, Int32.reduceLT, Int32.reduceToNatClampNeg, va_rf_some, Bool.false_eq_true, k_X8_opening_0 ca, k_X8_opening_1 ca, k_X8_opening_4 ca, k_X8_opening_5 ca, k_X8_opening_8 ca, k_X8_opening_11 ca, k_X8_opening_12 ca, k_X8_opening_13 ca, k_X8_opening_14 ca, k_X8_opening_17 ca, k_X8_opening_20 ca, k_X8_opening_22 ca, k_X8_opening_23 ca, k_X8_opening_24 ca, k_X8_opening_27 ca, k_X8_opening_28 ca, k_X8_opening_31 ca, k_X8_opening_32 ca, k_X8_opening_33 ca, k_X8_opening_34 ca, k_X8_opening_35 ca, k_X8_opening_36 ca, k_X8_opening_37 ca, k_X8_opening_40 ca, k_X8_opening_41 ca, k_X8_opening_44 ca, k_X8_opening_45 ca, k_X8_opening_46 ca, k_X8_opening_47 ca, k_X8_opening_48 ca, k_X8_opening_51 ca, k_X8_opening_52 ca, k_X8_opening_55 ca, k_X8_opening_56 ca, k_X8_opening_57 ca, k_X8_opening_58 ca, k_X8_opening_59 ca, k_X8_opening_60 ca, k_X8_opening_63 ca, k_X8_opening_64 ca, k_X8_opening_67 ca, k_X8_opening_68 ca, k_X8_opening_69 ca, k_X8_opening_70 ca, k_X8_opening_71 ca, k_X8_opening_74 ca, sp_X8_roomAt, v109, v116, v123, em, d0]
      try clear hF hF0 F
      exact acted_R I ht (hR1.s0 I _) hg (hS1.tr (SmR.a (by decide) _)) Eq127.rf hs (fun h' => fin _ _ h')
theorem WfT.n {s : Nat → Int32} {o : Nat} (W : WfT s o) : s o = nI (s o).toNatClampNeg ∧ (s o).toNatClampNeg ≤ 8 := by
  obtain ⟨N, hN, e1, e2⟩ := tnI W.1
  exact ⟨by rw [e2]; exact e1, W.2.1⟩
theorem WfS.k {s : Nat → Int32} (W : WfS s) {k : Nat} (hk : k < 3) : WfT s (10 + 32 * k) := by
  have hk3 : k = 0 ∨ k = 1 ∨ k = 2 := by omega
  rcases hk3 with rfl | rfl | rfl
  · exact W.1
  · exact W.2.1
  · exact W.2.2
def fPart (s : Nat → Int32) (k N : Nat) (x y z : Int32) : Nat → Int32 := upd (upd (upd (upd s (10 + 32 * k + 8 + 3 * N) x) (10 + 32 * k + 8 + 3 * N + 1) y) (10 + 32 * k + 8 + 3 * N + 2) z) (10 + 32 * k) (nI (N + 1))
def nPt (s : Nat → Int32) (x : Int32) : Nat := (s (10 + 32 * x.toNatClampNeg)).toNatClampNeg
def aPart (s : Nat → Int32) (x y z w : Int32) : Int32 := if isIn x 0 2 = true then (if isIn y 1 9 = true then (if isIn z 0 5 = true then (if isIn w 0 5 = true then (if nPt s x = 8 then -10000003 else nI (nPt s x + 1)) else -10000001) else -10000001) else -10000001) else -10000001
theorem lim_le : (-10000003 : Int32) ≤ -10000001 := by decide
theorem npo_le : (-10000002 : Int32) ≤ -10000001 := by decide
def sp_X8_part (ca : Nat → ClassId) : SPEC := fun av h post => ∃ m a s p t f n x y z w, av = [.ref m, .int x, .int y, .int z, .int w] ∧ RI m a ∧ t ≤ 4 ∧ RAt ca h m a s p t f n ∧ WfS s ∧ actR ca h m a s p t f n post (aPart s x y z w) (fPart s x.toNatClampNeg (nPt s x) y z w)
def k_X8_part (ca : Nat → ClassId) : Nat → IT := fun pc => lk pc [(0, i_aload 0 1),
  (1, i_callV 8 0 0 0 0 0 (sp_X8_begins ca) 4),
  (4, i_iload 1 5),
  (5, i_callS 1 0 0 0 0 (sp_X8_isOne ca) 8),
  (8, i_if (fun x => x = 0) 40 11),
  (11, i_iload 2 12),
  (12, i_push (.int 1) 13),
  (13, i_push (.int 9) 15),
  (15, i_callS 3 0 0 0 0 (sp_X8_in ca) 18),
  (18, i_if (fun x => x = 0) 40 21),
  (21, i_iload 3 22),
  (22, i_callS 1 0 0 0 0 (sp_X8_isMetal ca) 25),
  (25, i_if (fun x => x = 0) 40 28),
  (28, i_iload 4 30),
  (30, i_callS 1 0 0 0 0 (sp_X8_isMetal ca) 33),
  (33, i_if (fun x => x = 0) 40 36),
  (36, i_push (.int 1) 37),
  (37, i_goto 41),
  (40, i_push (.int 0) 41),
  (41, i_istore 5 43),
  (43, i_aload 0 44),
  (44, i_iload 5 46),
  (46, i_if (fun x => x = 0) 61 49),
  (49, i_aload 0 50),
  (50, i_iload 1 51),
  (51, i_iload 2 52),
  (52, i_iload 3 53),
  (53, i_iload 4 55),
  (55, i_callV 8 4 0 0 0 0 (sp_X8_adds ca) 58),
  (58, i_goto 63),
  (61, i_push (.int (-10000001)) 63),
  (63, i_callV 8 1 0 0 0 0 (sp_X8_acted ca) 66),
  (66, i_ret)]
set_option maxRecDepth 20000 in
theorem t_X8_part : Tb k_X8_part yX8_part cX8_part 6 (some .int) 3 0 0 := by
  intro l D ca A p e s m args below meth c post X
  unfold k_X8_part
  refine snd_cons (snd_aload_n X dX8_part_0 rfl) ?_
  refine snd_cons (snd_callV X Fk8 (ok_X8_begins l D ca) rfl rfl w_698 w_700 wp_16 w_9 w_701 (by decide) (by decide) dX8_part_1) ?_
  refine snd_cons (snd_iload_n X dX8_part_4 rfl) ?_
  refine snd_cons (snd_callS X (ok_X8_isOne l D ca) rfl rfl w_722 w_723 w_9 w_724 (by decide) (by decide) dX8_part_5) ?_
  refine snd_cons (snd_if_eq X dX8_part_8 (by decide)) ?_
  refine snd_cons (snd_iload_n X dX8_part_11 rfl) ?_
  refine snd_cons (snd_iconst X dX8_part_12 (by decide)) ?_
  refine snd_cons (snd_bipush X dX8_part_13 (by decide)) ?_
  refine snd_cons (snd_callS X (ok_X8_in l D ca) rfl rfl w_702 w_703 w_9 w_704 (by decide) (by decide) dX8_part_15) ?_
  refine snd_cons (snd_if_eq X dX8_part_18 (by decide)) ?_
  refine snd_cons (snd_iload_n X dX8_part_21 rfl) ?_
  refine snd_cons (snd_callS X (ok_X8_isMetal l D ca) rfl rfl w_725 w_726 w_9 w_727 (by decide) (by decide) dX8_part_22) ?_
  refine snd_cons (snd_if_eq X dX8_part_25 (by decide)) ?_
  refine snd_cons (snd_iload X dX8_part_28) ?_
  refine snd_cons (snd_callS X (ok_X8_isMetal l D ca) rfl rfl w_725 w_726 w_9 w_727 (by decide) (by decide) dX8_part_30) ?_
  refine snd_cons (snd_if_eq X dX8_part_33 (by decide)) ?_
  refine snd_cons (snd_iconst X dX8_part_36 (by decide)) ?_
  refine snd_cons (snd_goto X dX8_part_37 (by decide)) ?_
  refine snd_cons (snd_iconst X dX8_part_40 (by decide)) ?_
  refine snd_cons (snd_istore X dX8_part_41 (by decide)) ?_
  refine snd_cons (snd_aload_n X dX8_part_43 rfl) ?_
  refine snd_cons (snd_iload X dX8_part_44) ?_
  refine snd_cons (snd_if_eq X dX8_part_46 (by decide)) ?_
  refine snd_cons (snd_aload_n X dX8_part_49 rfl) ?_
  refine snd_cons (snd_iload_n X dX8_part_50 rfl) ?_
  refine snd_cons (snd_iload_n X dX8_part_51 rfl) ?_
  refine snd_cons (snd_iload_n X dX8_part_52 rfl) ?_
  refine snd_cons (snd_iload X dX8_part_53) ?_
  refine snd_cons (snd_callV X Fk8 (ok_X8_adds l D ca) rfl rfl w_728 w_730 wp_20 w_9 w_731 (by decide) (by decide) dX8_part_55) ?_
  refine snd_cons (snd_goto X dX8_part_58 (by decide)) ?_
  refine snd_cons (snd_ldc X w_709 dX8_part_61) ?_
  refine snd_cons (snd_callV X Fk8 (ok_X8_acted l D ca) rfl rfl w_710 w_712 wp_18 w_9 w_713 (by decide) (by decide) dX8_part_63) ?_
  refine snd_cons (snd_ret X dX8_part_66) ?_
  exact snd_nil
theorem k_X8_part_0 (ca : Nat → ClassId) : k_X8_part ca 0 = i_aload 0 1 := rfl
theorem k_X8_part_1 (ca : Nat → ClassId) : k_X8_part ca 1 = i_callV 8 0 0 0 0 0 (sp_X8_begins ca) 4 := rfl
theorem k_X8_part_4 (ca : Nat → ClassId) : k_X8_part ca 4 = i_iload 1 5 := rfl
theorem k_X8_part_5 (ca : Nat → ClassId) : k_X8_part ca 5 = i_callS 1 0 0 0 0 (sp_X8_isOne ca) 8 := rfl
theorem k_X8_part_8 (ca : Nat → ClassId) : k_X8_part ca 8 = i_if (fun x => x = 0) 40 11 := rfl
theorem k_X8_part_11 (ca : Nat → ClassId) : k_X8_part ca 11 = i_iload 2 12 := rfl
theorem k_X8_part_12 (ca : Nat → ClassId) : k_X8_part ca 12 = i_push (.int 1) 13 := rfl
theorem k_X8_part_13 (ca : Nat → ClassId) : k_X8_part ca 13 = i_push (.int 9) 15 := rfl
theorem k_X8_part_15 (ca : Nat → ClassId) : k_X8_part ca 15 = i_callS 3 0 0 0 0 (sp_X8_in ca) 18 := rfl
theorem k_X8_part_18 (ca : Nat → ClassId) : k_X8_part ca 18 = i_if (fun x => x = 0) 40 21 := rfl
theorem k_X8_part_21 (ca : Nat → ClassId) : k_X8_part ca 21 = i_iload 3 22 := rfl
theorem k_X8_part_22 (ca : Nat → ClassId) : k_X8_part ca 22 = i_callS 1 0 0 0 0 (sp_X8_isMetal ca) 25 := rfl
theorem k_X8_part_25 (ca : Nat → ClassId) : k_X8_part ca 25 = i_if (fun x => x = 0) 40 28 := rfl
theorem k_X8_part_28 (ca : Nat → ClassId) : k_X8_part ca 28 = i_iload 4 30 := rfl
theorem k_X8_part_30 (ca : Nat → ClassId) : k_X8_part ca 30 = i_callS 1 0 0 0 0 (sp_X8_isMetal ca) 33 := rfl
theorem k_X8_part_33 (ca : Nat → ClassId) : k_X8_part ca 33 = i_if (fun x => x = 0) 40 36 := rfl
theorem k_X8_part_36 (ca : Nat → ClassId) : k_X8_part ca 36 = i_push (.int 1) 37 := rfl
theorem k_X8_part_37 (ca : Nat → ClassId) : k_X8_part ca 37 = i_goto 41 := rfl
theorem k_X8_part_40 (ca : Nat → ClassId) : k_X8_part ca 40 = i_push (.int 0) 41 := rfl
theorem k_X8_part_41 (ca : Nat → ClassId) : k_X8_part ca 41 = i_istore 5 43 := rfl
theorem k_X8_part_43 (ca : Nat → ClassId) : k_X8_part ca 43 = i_aload 0 44 := rfl
theorem k_X8_part_44 (ca : Nat → ClassId) : k_X8_part ca 44 = i_iload 5 46 := rfl
theorem k_X8_part_46 (ca : Nat → ClassId) : k_X8_part ca 46 = i_if (fun x => x = 0) 61 49 := rfl
theorem k_X8_part_49 (ca : Nat → ClassId) : k_X8_part ca 49 = i_aload 0 50 := rfl
theorem k_X8_part_50 (ca : Nat → ClassId) : k_X8_part ca 50 = i_iload 1 51 := rfl
theorem k_X8_part_51 (ca : Nat → ClassId) : k_X8_part ca 51 = i_iload 2 52 := rfl
theorem k_X8_part_52 (ca : Nat → ClassId) : k_X8_part ca 52 = i_iload 3 53 := rfl
theorem k_X8_part_53 (ca : Nat → ClassId) : k_X8_part ca 53 = i_iload 4 55 := rfl
theorem k_X8_part_55 (ca : Nat → ClassId) : k_X8_part ca 55 = i_callV 8 4 0 0 0 0 (sp_X8_adds ca) 58 := rfl
theorem k_X8_part_58 (ca : Nat → ClassId) : k_X8_part ca 58 = i_goto 63 := rfl
theorem k_X8_part_61 (ca : Nat → ClassId) : k_X8_part ca 61 = i_push (.int (-10000001)) 63 := rfl
theorem k_X8_part_63 (ca : Nat → ClassId) : k_X8_part ca 63 = i_callV 8 1 0 0 0 0 (sp_X8_acted ca) 66 := rfl
theorem k_X8_part_66 (ca : Nat → ClassId) : k_X8_part ca 66 = i_ret := rfl
set_option maxHeartbeats 4000000 in
set_option maxRecDepth 20000 in
theorem ok_X8_part (l : Launch) (D : va_G) (ca : Nat → ClassId) : OkAll l D ca yX8_part cX8_part 6 (some .int) 3 0 0 (sp_X8_part ca) := by
  intro av h post hs
  obtain ⟨m, a, s, p, t, f, n, x, y, z, w, rfl, I, ht, hR, hW, hs⟩ := hs
  refine okM_of t_X8_part (by decide +kernel) (c1_ref (c1_int (c1_int (c1_int (c1_int c1_nil))))) (Nat.le_of_ble_eq_true rfl) ?_
  intro K go
  have d0 := I.2 0
  obtain ⟨l0, hm0⟩ := hR.m8
  have fin : ∀ lv x h', post (some (.int x)) h' → K 0 0 66 lv [.int x] h' := by
    intro lv x h' hh
    refine goN go (stp []) 160 _ _ _ _ _ _ (fun F hF hF0 => ?_)
    simp only [hF, hF0, ite_not, i_push, i_iload, i_lload, i_aload, i_istore, i_astore, i_lstore, i_iinc, i_bin, i_dv, i_un, i_lbin, i_lsh, i_i2l, i_l2i, i_lcmp, i_dup, i_dup2, i_pop, i_if, i_icmp, i_goto, swG, i_sw, i_getf, i_puti, i_putz, i_putr, i_ald, i_lald, i_aald, i_ast, i_last, i_aast, i_alen, i_new, i_newi, i_newl, i_newq, i_oinit, i_ret, i_zret, i_lret, i_vret, catS, tk, rpush, isO, i_m1, i_m2, i_acopy, i_callV, i_callS, KRet, lget, lput, lputL, lcl0, isL, lv0, List.map_cons, List.map_nil, List.length_cons, List.length_nil, List.cons_append, List.nil_append, Nat.reduceAdd, Nat.reduceSub, Nat.reduceLeDiff, List.replicate_succ, List.replicate_zero, List.getElem?_cons_succ, List.getElem?_cons_zero, List.set_cons_succ, List.set_cons_zero, true_and, and_true, if_true, if_false, ↓reduceIte, Nat.le_refl, Value.category, va_up_app, eq_self, stp, Nat.reduceBEq, Bool.or_false, Bool.false_or, Bool.true_or, Bool.or_true, or_true, true_or, bx_uu, implies_true, true_implies, not_true, not_false_eq_true, false_implies, and_self, Nat.reduceLT, Int32.reduceAdd, Int32.reduceSub, Int32.reduceMul, Int32.reduceLE, Int32.reduceLT, Int32.reduceToNatClampNeg, va_rf_some, Bool.false_eq_true, k_X8_part_0 ca, k_X8_part_1 ca, k_X8_part_4 ca, k_X8_part_5 ca, k_X8_part_8 ca, k_X8_part_11 ca, k_X8_part_12 ca, k_X8_part_13 ca, k_X8_part_15 ca, k_X8_part_18 ca, k_X8_part_21 ca, k_X8_part_22 ca, k_X8_part_25 ca, k_X8_part_28 ca, k_X8_part_30 ca, k_X8_part_33 ca, k_X8_part_36 ca, k_X8_part_37 ca, k_X8_part_40 ca, k_X8_part_41 ca, k_X8_part_43 ca, k_X8_part_44 ca, k_X8_part_46 ca, k_X8_part_49 ca, k_X8_part_50 ca, k_X8_part_51 ca, k_X8_part_52 ca, k_X8_part_53 ca, k_X8_part_55 ca, k_X8_part_58 ca, k_X8_part_61 ca, k_X8_part_63 ca, k_X8_part_66 ca]
    try clear hF hF0 F
    exact hh
  refine goN go (stp [4]) 160 _ _ _ _ _ _ (fun F hF hF0 => ?_)
  simp only [hF, hF0, ite_not, i_push, i_iload, i_lload, i_aload, i_istore, i_astore, i_lstore, i_iinc, i_bin, i_dv, i_un, i_lbin, i_lsh, i_i2l, i_l2i, i_lcmp, i_dup, i_dup2, i_pop, i_if, i_icmp, i_goto, swG, i_sw, i_getf, i_puti, i_putz, i_putr, i_ald, i_lald, i_aald, i_ast, i_last, i_aast, i_alen, i_new, i_newi, i_newl, i_newq, i_oinit, i_ret, i_zret, i_lret, i_vret, catS, tk, rpush, isO, i_m1, i_m2, i_acopy, i_callV, i_callS, KRet, lget, lput, lputL, lcl0, isL, lv0, List.map_cons, List.map_nil, List.length_cons, List.length_nil, List.cons_append, List.nil_append, Nat.reduceAdd, Nat.reduceSub, Nat.reduceLeDiff, List.replicate_succ, List.replicate_zero, List.getElem?_cons_succ, List.getElem?_cons_zero, List.set_cons_succ, List.set_cons_zero, true_and, and_true, if_true, if_false, ↓reduceIte, Nat.le_refl, Value.category, va_up_app, eq_self, stp, Nat.reduceBEq, Bool.or_false, Bool.false_or, Bool.true_or, Bool.or_true, or_true, true_or, bx_uu, implies_true, true_implies, not_true, not_false_eq_true, false_implies, and_self, Nat.reduceLT, Int32.reduceAdd, Int32.reduceSub, Int32.reduceMul, Int32.reduceLE, Int32.reduceLT, Int32.reduceToNatClampNeg, va_rf_some, Bool.false_eq_true, k_X8_part_0 ca, k_X8_part_1 ca, k_X8_part_4 ca, k_X8_part_5 ca, k_X8_part_8 ca, k_X8_part_11 ca, k_X8_part_12 ca, k_X8_part_13 ca, k_X8_part_15 ca, k_X8_part_18 ca, k_X8_part_21 ca, k_X8_part_22 ca, k_X8_part_25 ca, k_X8_part_28 ca, k_X8_part_30 ca, k_X8_part_33 ca, k_X8_part_36 ca, k_X8_part_37 ca, k_X8_part_40 ca, k_X8_part_41 ca, k_X8_part_43 ca, k_X8_part_44 ca, k_X8_part_46 ca, k_X8_part_49 ca, k_X8_part_50 ca, k_X8_part_51 ca, k_X8_part_52 ca, k_X8_part_53 ca, k_X8_part_55 ca, k_X8_part_58 ca, k_X8_part_61 ca, k_X8_part_63 ca, k_X8_part_66 ca, hm0]
  try clear hF hF0 F
  refine begins_of I hR (fun h1 g hg hR1 hS1 => ?_)
  obtain ⟨fm, at', re, bd, kp, ks, iw, ip, fo, em, e0, -⟩ := id hR1
  unfold eMod at em
  unfold aPart at hs
  cases q1 : isIn x 0 2 with
  | false =>
    rw [q1, if_neg (by decide)] at hs
    refine goN go (stp [66]) 160 _ _ _ _ _ _ (fun F hF hF0 => ?_)
    simp only [hF, hF0, ite_not, i_push, i_iload, i_lload, i_aload, i_istore, i_astore, i_lstore, i_iinc, i_bin, i_dv, i_un, i_lbin, i_lsh, i_i2l, i_l2i, i_lcmp, i_dup, i_dup2, i_pop, i_if, i_icmp, i_goto, swG, i_sw, i_getf, i_puti, i_putz, i_putr, i_ald, i_lald, i_aald, i_ast, i_last, i_aast, i_alen, i_new, i_newi, i_newl, i_newq, i_oinit, i_ret, i_zret, i_lret, i_vret, catS, tk, rpush, isO, i_m1, i_m2, i_acopy, i_callV, i_callS, KRet, lget, lput, lputL, lcl0, isL, lv0, List.map_cons, List.map_nil, List.length_cons, List.length_nil, List.cons_append, List.nil_append, Nat.reduceAdd, Nat.reduceSub, Nat.reduceLeDiff, List.replicate_succ, List.replicate_zero, List.getElem?_cons_succ, List.getElem?_cons_zero, List.set_cons_succ, List.set_cons_zero, true_and, and_true, if_true, if_false, ↓reduceIte, Nat.le_refl, Value.category, va_up_app, eq_self, stp, Nat.reduceBEq, Bool.or_false, Bool.false_or, Bool.true_or, Bool.or_true, or_true, true_or, bx_uu, implies_true, true_implies, not_true, not_false_eq_true, false_implies, and_self, Nat.reduceLT, Int32.reduceAdd, Int32.reduceSub, Int32.reduceMul, Int32.reduceLE, Int32.reduceLT, Int32.reduceToNatClampNeg, va_rf_some, Bool.false_eq_true, k_X8_part_0 ca, k_X8_part_1 ca, k_X8_part_4 ca, k_X8_part_5 ca, k_X8_part_8 ca, k_X8_part_11 ca, k_X8_part_12 ca, k_X8_part_13 ca, k_X8_part_15 ca, k_X8_part_18 ca, k_X8_part_21 ca, k_X8_part_22 ca, k_X8_part_25 ca, k_X8_part_28 ca, k_X8_part_30 ca, k_X8_part_33 ca, k_X8_part_36 ca, k_X8_part_37 ca, k_X8_part_40 ca, k_X8_part_41 ca, k_X8_part_43 ca, k_X8_part_44 ca, k_X8_part_46 ca, k_X8_part_49 ca, k_X8_part_50 ca, k_X8_part_51 ca, k_X8_part_52 ca, k_X8_part_53 ca, k_X8_part_55 ca, k_X8_part_58 ca, k_X8_part_61 ca, k_X8_part_63 ca, k_X8_part_66 ca, sp_X8_isOne, sp_X7_isRoom, q1, b2i_f, em, d0]
    try clear hF hF0 F
    exact acted_R I ht hR1 hg hS1 Eq127.rf ⟨hs.1, fun z => absurd inv_le z⟩ (fun h' => fin _ _ h')
  | true =>
    rw [q1, if_pos rfl] at hs
    cases q2 : isIn y 1 9 with
    | false =>
      rw [q2, if_neg (by decide)] at hs
      refine goN go (stp [66]) 160 _ _ _ _ _ _ (fun F hF hF0 => ?_)
      simp only [hF, hF0, ite_not, i_push, i_iload, i_lload, i_aload, i_istore, i_astore, i_lstore, i_iinc, i_bin, i_dv, i_un, i_lbin, i_lsh, i_i2l, i_l2i, i_lcmp, i_dup, i_dup2, i_pop, i_if, i_icmp, i_goto, swG, i_sw, i_getf, i_puti, i_putz, i_putr, i_ald, i_lald, i_aald, i_ast, i_last, i_aast, i_alen, i_new, i_newi, i_newl, i_newq, i_oinit, i_ret, i_zret, i_lret, i_vret, catS, tk, rpush, isO, i_m1, i_m2, i_acopy, i_callV, i_callS, KRet, lget, lput, lputL, lcl0, isL, lv0, List.map_cons, List.map_nil, List.length_cons, List.length_nil, List.cons_append, List.nil_append, Nat.reduceAdd, Nat.reduceSub, Nat.reduceLeDiff, List.replicate_succ, List.replicate_zero, List.getElem?_cons_succ, List.getElem?_cons_zero, List.set_cons_succ, List.set_cons_zero, true_and, and_true, if_true, if_false, ↓reduceIte, Nat.le_refl, Value.category, va_up_app, eq_self, stp, Nat.reduceBEq, Bool.or_false, Bool.false_or, Bool.true_or, Bool.or_true, or_true, true_or, bx_uu, implies_true, true_implies, not_true, not_false_eq_true, false_implies, and_self, Nat.reduceLT, Int32.reduceAdd, Int32.reduceSub, Int32.reduceMul, Int32.reduceLE, Int32.reduceLT, Int32.reduceToNatClampNeg, va_rf_some, Bool.false_eq_true, k_X8_part_0 ca, k_X8_part_1 ca, k_X8_part_4 ca, k_X8_part_5 ca, k_X8_part_8 ca, k_X8_part_11 ca, k_X8_part_12 ca, k_X8_part_13 ca, k_X8_part_15 ca, k_X8_part_18 ca, k_X8_part_21 ca, k_X8_part_22 ca, k_X8_part_25 ca, k_X8_part_28 ca, k_X8_part_30 ca, k_X8_part_33 ca, k_X8_part_36 ca, k_X8_part_37 ca, k_X8_part_40 ca, k_X8_part_41 ca, k_X8_part_43 ca, k_X8_part_44 ca, k_X8_part_46 ca, k_X8_part_49 ca, k_X8_part_50 ca, k_X8_part_51 ca, k_X8_part_52 ca, k_X8_part_53 ca, k_X8_part_55 ca, k_X8_part_58 ca, k_X8_part_61 ca, k_X8_part_63 ca, k_X8_part_66 ca, sp_X8_isOne, sp_X7_isRoom, sp_X8_in, sp_X7_isWithin, q1, q2, b2i_f, b2i_t, one0, em, d0]
      try clear hF hF0 F
      exact acted_R I ht hR1 hg hS1 Eq127.rf ⟨hs.1, fun z => absurd inv_le z⟩ (fun h' => fin _ _ h')
    | true =>
      rw [q2, if_pos rfl] at hs
      cases q3 : isIn z 0 5 with
      | false =>
        rw [q3, if_neg (by decide)] at hs
        refine goN go (stp [66]) 160 _ _ _ _ _ _ (fun F hF hF0 => ?_)
        simp only [hF, hF0, ite_not, i_push, i_iload, i_lload, i_aload, i_istore, i_astore, i_lstore, i_iinc, i_bin, i_dv, i_un, i_lbin, i_lsh, i_i2l, i_l2i, i_lcmp, i_dup, i_dup2, i_pop, i_if, i_icmp, i_goto, swG, i_sw, i_getf, i_puti, i_putz, i_putr, i_ald, i_lald, i_aald, i_ast, i_last, i_aast, i_alen, i_new, i_newi, i_newl, i_newq, i_oinit, i_ret, i_zret, i_lret, i_vret, catS, tk, rpush, isO, i_m1, i_m2, i_acopy, i_callV, i_callS, KRet, lget, lput, lputL, lcl0, isL, lv0, List.map_cons, List.map_nil, List.length_cons, List.length_nil, List.cons_append, List.nil_append, Nat.reduceAdd, Nat.reduceSub, Nat.reduceLeDiff, List.replicate_succ, List.replicate_zero, List.getElem?_cons_succ, List.getElem?_cons_zero, List.set_cons_succ, List.set_cons_zero, true_and, and_true, if_true, if_false, ↓reduceIte, Nat.le_refl, Value.category, va_up_app, eq_self, stp, Nat.reduceBEq, Bool.or_false, Bool.false_or, Bool.true_or, Bool.or_true, or_true, true_or, bx_uu, implies_true, true_implies, not_true, not_false_eq_true, false_implies, and_self, Nat.reduceLT, Int32.reduceAdd, Int32.reduceSub, Int32.reduceMul, Int32.reduceLE, Int32.reduceLT, Int32.reduceToNatClampNeg, va_rf_some, Bool.false_eq_true, k_X8_part_0 ca, k_X8_part_1 ca, k_X8_part_4 ca, k_X8_part_5 ca, k_X8_part_8 ca, k_X8_part_11 ca, k_X8_part_12 ca, k_X8_part_13 ca, k_X8_part_15 ca, k_X8_part_18 ca, k_X8_part_21 ca, k_X8_part_22 ca, k_X8_part_25 ca, k_X8_part_28 ca, k_X8_part_30 ca, k_X8_part_33 ca, k_X8_part_36 ca, k_X8_part_37 ca, k_X8_part_40 ca, k_X8_part_41 ca, k_X8_part_43 ca, k_X8_part_44 ca, k_X8_part_46 ca, k_X8_part_49 ca, k_X8_part_50 ca, k_X8_part_51 ca, k_X8_part_52 ca, k_X8_part_53 ca, k_X8_part_55 ca, k_X8_part_58 ca, k_X8_part_61 ca, k_X8_part_63 ca, k_X8_part_66 ca, sp_X8_isOne, sp_X7_isRoom, sp_X8_in, sp_X7_isWithin, sp_X8_isMetal, q1, q2, q3, b2i_f, b2i_t, one0, em, d0]
        try clear hF hF0 F
        exact acted_R I ht hR1 hg hS1 Eq127.rf ⟨hs.1, fun z => absurd inv_le z⟩ (fun h' => fin _ _ h')
      | true =>
        rw [q3, if_pos rfl] at hs
        cases q4 : isIn w 0 5 with
        | false =>
          rw [q4, if_neg (by decide)] at hs
          refine goN go (stp [66]) 160 _ _ _ _ _ _ (fun F hF hF0 => ?_)
          simp only [hF, hF0, ite_not, i_push, i_iload, i_lload, i_aload, i_istore, i_astore, i_lstore, i_iinc, i_bin, i_dv, i_un, i_lbin, i_lsh, i_i2l, i_l2i, i_lcmp, i_dup, i_dup2, i_pop, i_if, i_icmp, i_goto, swG, i_sw, i_getf, i_puti, i_putz, i_putr, i_ald, i_lald, i_aald, i_ast, i_last, i_aast, i_alen, i_new, i_newi, i_newl, i_newq, i_oinit, i_ret, i_zret, i_lret, i_vret, catS, tk, rpush, isO, i_m1, i_m2, i_acopy, i_callV, i_callS, KRet, lget, lput, lputL, lcl0, isL, lv0, List.map_cons, List.map_nil, List.length_cons, List.length_nil, List.cons_append, List.nil_append, Nat.reduceAdd, Nat.reduceSub, Nat.reduceLeDiff, List.replicate_succ, List.replicate_zero, List.getElem?_cons_succ, List.getElem?_cons_zero, List.set_cons_succ, List.set_cons_zero, true_and, and_true, if_true, if_false, ↓reduceIte, Nat.le_refl, Value.category, va_up_app, eq_self, stp, Nat.reduceBEq, Bool.or_false, Bool.false_or, Bool.true_or, Bool.or_true, or_true, true_or, bx_uu, implies_true, true_implies, not_true, not_false_eq_true, false_implies, and_self, Nat.reduceLT, Int32.reduceAdd, Int32.reduceSub, Int32.reduceMul, Int32.reduceLE, Int32.reduceLT, Int32.reduceToNatClampNeg, va_rf_some, Bool.false_eq_true, k_X8_part_0 ca, k_X8_part_1 ca, k_X8_part_4 ca, k_X8_part_5 ca, k_X8_part_8 ca, k_X8_part_11 ca, k_X8_part_12 ca, k_X8_part_13 ca, k_X8_part_15 ca, k_X8_part_18 ca, k_X8_part_21 ca, k_X8_part_22 ca, k_X8_part_25 ca, k_X8_part_28 ca, k_X8_part_30 ca, k_X8_part_33 ca, k_X8_part_36 ca, k_X8_part_37 ca, k_X8_part_40 ca, k_X8_part_41 ca, k_X8_part_43 ca, k_X8_part_44 ca, k_X8_part_46 ca, k_X8_part_49 ca, k_X8_part_50 ca, k_X8_part_51 ca, k_X8_part_52 ca, k_X8_part_53 ca, k_X8_part_55 ca, k_X8_part_58 ca, k_X8_part_61 ca, k_X8_part_63 ca, k_X8_part_66 ca, sp_X8_isOne, sp_X7_isRoom, sp_X8_in, sp_X7_isWithin, sp_X8_isMetal, q1, q2, q3, q4, b2i_f, b2i_t, one0, em, d0]
          try clear hF hF0 F
          exact acted_R I ht hR1 hg hS1 Eq127.rf ⟨hs.1, fun z => absurd inv_le z⟩ (fun h' => fin _ _ h')
        | true =>
          rw [q4, if_pos rfl] at hs
          obtain ⟨X, hX, rfl⟩ := isIn0 (B := 2) rfl q1
          have xx : (nI X).toNatClampNeg = X := tn127 (by omega)
          unfold nPt at hs
          rw [xx] at hs
          obtain ⟨hN, hN8⟩ := (hW.k (k := X) (by omega)).n
          generalize hNN : (s (10 + 32 * X)).toNatClampNeg = N at *
          refine goN go (stp [58]) 160 _ _ _ _ _ _ (fun F hF hF0 => ?_)
          simp only [hF, hF0, ite_not, i_push, i_iload, i_lload, i_aload, i_istore, i_astore, i_lstore, i_iinc, i_bin, i_dv, i_un, i_lbin, i_lsh, i_i2l, i_l2i, i_lcmp, i_dup, i_dup2, i_pop, i_if, i_icmp, i_goto, swG, i_sw, i_getf, i_puti, i_putz, i_putr, i_ald, i_lald, i_aald, i_ast, i_last, i_aast, i_alen, i_new, i_newi, i_newl, i_newq, i_oinit, i_ret, i_zret, i_lret, i_vret, catS, tk, rpush, isO, i_m1, i_m2, i_acopy, i_callV, i_callS, KRet, lget, lput, lputL, lcl0, isL, lv0, List.map_cons, List.map_nil, List.length_cons, List.length_nil, List.cons_append, List.nil_append, Nat.reduceAdd, Nat.reduceSub, Nat.reduceLeDiff, List.replicate_succ, List.replicate_zero, List.getElem?_cons_succ, List.getElem?_cons_zero, List.set_cons_succ, List.set_cons_zero, true_and, and_true, if_true, if_false, ↓reduceIte, Nat.le_refl, Value.category, va_up_app, eq_self, stp, Nat.reduceBEq, Bool.or_false, Bool.false_or, Bool.true_or, Bool.or_true, or_true, true_or, bx_uu, implies_true, true_implies, not_true, not_false_eq_true, false_implies, and_self, Nat.reduceLT, Int32.reduceAdd, Int32.reduceSub, Int32.reduceMul, Int32.reduceLE, Int32.reduceLT, Int32.reduceToNatClampNeg, va_rf_some, Bool.false_eq_true, k_X8_part_0 ca, k_X8_part_1 ca, k_X8_part_4 ca, k_X8_part_5 ca, k_X8_part_8 ca, k_X8_part_11 ca, k_X8_part_12 ca, k_X8_part_13 ca, k_X8_part_15 ca, k_X8_part_18 ca, k_X8_part_21 ca, k_X8_part_22 ca, k_X8_part_25 ca, k_X8_part_28 ca, k_X8_part_30 ca, k_X8_part_33 ca, k_X8_part_36 ca, k_X8_part_37 ca, k_X8_part_40 ca, k_X8_part_41 ca, k_X8_part_43 ca, k_X8_part_44 ca, k_X8_part_46 ca, k_X8_part_49 ca, k_X8_part_50 ca, k_X8_part_51 ca, k_X8_part_52 ca, k_X8_part_53 ca, k_X8_part_55 ca, k_X8_part_58 ca, k_X8_part_61 ca, k_X8_part_63 ca, k_X8_part_66 ca, sp_X8_isOne, sp_X7_isRoom, sp_X8_in, sp_X7_isWithin, sp_X8_isMetal, q1, q2, q3, q4, b2i_t, one0, em, d0]
          try clear hF hF0 F
          refine ⟨m, a 0, s, X, y, z, w, N, by omega, rfl, ⟨⟨_, em⟩, e0⟩, I.2 0, hN, hN8, fun hb => ?_, fun hb => ?_⟩
          · rw [if_pos hb] at hs
            refine goN go (stp [66]) 160 _ _ _ _ _ _ (fun F hF hF0 => ?_)
            simp only [hF, hF0, ite_not, i_push, i_iload, i_lload, i_aload, i_istore, i_astore, i_lstore, i_iinc, i_bin, i_dv, i_un, i_lbin, i_lsh, i_i2l, i_l2i, i_lcmp, i_dup, i_dup2, i_pop, i_if, i_icmp, i_goto, swG, i_sw, i_getf, i_puti, i_putz, i_putr, i_ald, i_lald, i_aald, i_ast, i_last, i_aast, i_alen, i_new, i_newi, i_newl, i_newq, i_oinit, i_ret, i_zret, i_lret, i_vret, catS, tk, rpush, isO, i_m1, i_m2, i_acopy, i_callV, i_callS, KRet, lget, lput, lputL, lcl0, isL, lv0, List.map_cons, List.map_nil, List.length_cons, List.length_nil, List.cons_append, List.nil_append, Nat.reduceAdd, Nat.reduceSub, Nat.reduceLeDiff, List.replicate_succ, List.replicate_zero, List.getElem?_cons_succ, List.getElem?_cons_zero, List.set_cons_succ, List.set_cons_zero, true_and, and_true, if_true, if_false, ↓reduceIte, Nat.le_refl, Value.category, va_up_app, eq_self, stp, Nat.reduceBEq, Bool.or_false, Bool.false_or, Bool.true_or, Bool.or_true, or_true, true_or, bx_uu, implies_true, true_implies, not_true, not_false_eq_true, false_implies, and_self, Nat.reduceLT, Int32.reduceAdd, Int32.reduceSub, Int32.reduceMul, Int32.reduceLE, Int32.reduceLT, Int32.reduceToNatClampNeg, va_rf_some, Bool.false_eq_true, k_X8_part_0 ca, k_X8_part_1 ca, k_X8_part_4 ca, k_X8_part_5 ca, k_X8_part_8 ca, k_X8_part_11 ca, k_X8_part_12 ca, k_X8_part_13 ca, k_X8_part_15 ca, k_X8_part_18 ca, k_X8_part_21 ca, k_X8_part_22 ca, k_X8_part_25 ca, k_X8_part_28 ca, k_X8_part_30 ca, k_X8_part_33 ca, k_X8_part_36 ca, k_X8_part_37 ca, k_X8_part_40 ca, k_X8_part_41 ca, k_X8_part_43 ca, k_X8_part_44 ca, k_X8_part_46 ca, k_X8_part_49 ca, k_X8_part_50 ca, k_X8_part_51 ca, k_X8_part_52 ca, k_X8_part_53 ca, k_X8_part_55 ca, k_X8_part_58 ca, k_X8_part_61 ca, k_X8_part_63 ca, k_X8_part_66 ca, em, d0]
            try clear hF hF0 F
            exact acted_R I ht hR1 hg hS1 Eq127.rf ⟨hs.1, fun z => absurd lim_le z⟩ (fun h' => fin _ _ h')
          · rw [if_neg (by omega)] at hs
            refine goN go (stp [66]) 160 _ _ _ _ _ _ (fun F hF hF0 => ?_)
            simp only [hF, hF0, ite_not, i_push, i_iload, i_lload, i_aload, i_istore, i_astore, i_lstore, i_iinc, i_bin, i_dv, i_un, i_lbin, i_lsh, i_i2l, i_l2i, i_lcmp, i_dup, i_dup2, i_pop, i_if, i_icmp, i_goto, swG, i_sw, i_getf, i_puti, i_putz, i_putr, i_ald, i_lald, i_aald, i_ast, i_last, i_aast, i_alen, i_new, i_newi, i_newl, i_newq, i_oinit, i_ret, i_zret, i_lret, i_vret, catS, tk, rpush, isO, i_m1, i_m2, i_acopy, i_callV, i_callS, KRet, lget, lput, lputL, lcl0, isL, lv0, List.map_cons, List.map_nil, List.length_cons, List.length_nil, List.cons_append, List.nil_append, Nat.reduceAdd, Nat.reduceSub, Nat.reduceLeDiff, List.replicate_succ, List.replicate_zero, List.getElem?_cons_succ, List.getElem?_cons_zero, List.set_cons_succ, List.set_cons_zero, true_and, and_true, if_true, if_false, ↓reduceIte, Nat.le_refl, Value.category, va_up_app, eq_self, stp, Nat.reduceBEq, Bool.or_false, Bool.false_or, Bool.true_or, Bool.or_true, or_true, true_or, bx_uu, implies_true, true_implies, not_true, not_false_eq_true, false_implies, and_self, Nat.reduceLT, Int32.reduceAdd, Int32.reduceSub, Int32.reduceMul, Int32.reduceLE, Int32.reduceLT, Int32.reduceToNatClampNeg, va_rf_some, Bool.false_eq_true, k_X8_part_0 ca, k_X8_part_1 ca, k_X8_part_4 ca, k_X8_part_5 ca, k_X8_part_8 ca, k_X8_part_11 ca, k_X8_part_12 ca, k_X8_part_13 ca, k_X8_part_15 ca, k_X8_part_18 ca, k_X8_part_21 ca, k_X8_part_22 ca, k_X8_part_25 ca, k_X8_part_28 ca, k_X8_part_30 ca, k_X8_part_33 ca, k_X8_part_36 ca, k_X8_part_37 ca, k_X8_part_40 ca, k_X8_part_41 ca, k_X8_part_43 ca, k_X8_part_44 ca, k_X8_part_46 ca, k_X8_part_49 ca, k_X8_part_50 ca, k_X8_part_51 ca, k_X8_part_52 ca, k_X8_part_53 ca, k_X8_part_55 ca, k_X8_part_58 ca, k_X8_part_61 ca, k_X8_part_63 ca, k_X8_part_66 ca, em, d0]
            try clear hF hF0 F
            exact acted_R I ht (hR1.s0 I _) hg (hS1.tr (SmR.a (by decide) _)) Eq127.rf hs (fun h' => fin _ _ h')
def aCut (s : Nat → Int32) (x y : Int32) : Int32 := if isIn x 0 2 = true then (if isIn y 1 8 = true then (if nPt s x < y.toNatClampNeg then -10000002 else nI (nPt s x - y.toNatClampNeg)) else -10000001) else -10000001
theorem isIn1 {v a b : Int32} {B : Nat} (ha : (0 : Int32) ≤ a) (hb : b.toInt = (B : Int)) (h : isIn v a b = true) : ∃ V, V ≤ B ∧ v = nI V := by
  unfold isIn at h
  simp only [Bool.and_eq_true, Bool.not_eq_true', decide_eq_false_iff_not] at h
  refine nI_of2 hb (fun z => h.1 ?_) (Int32.not_lt.mp h.2)
  rw [Int32.lt_iff_toInt_lt] at z ⊢
  rw [Int32.le_iff_toInt_le] at ha
  omega
def sp_X8_cut (ca : Nat → ClassId) : SPEC := fun av h post => ∃ m a s p t f n x y, av = [.ref m, .int x, .int y] ∧ RI m a ∧ t ≤ 4 ∧ RAt ca h m a s p t f n ∧ WfS s ∧ actR ca h m a s p t f n post (aCut s x y) (shS s (10 + 32 * x.toNatClampNeg) (nPt s x) y.toNatClampNeg)
def k_X8_cut (ca : Nat → ClassId) : Nat → IT := fun pc => lk pc [(0, i_aload 0 1),
  (1, i_callV 8 0 0 0 0 0 (sp_X8_begins ca) 4),
  (4, i_aload 0 5),
  (5, i_iload 1 6),
  (6, i_callS 1 0 0 0 0 (sp_X8_isOne ca) 9),
  (9, i_if (fun x => x = 0) 31 12),
  (12, i_iload 2 13),
  (13, i_push (.int 1) 14),
  (14, i_push (.int 8) 16),
  (16, i_callS 3 0 0 0 0 (sp_X8_in ca) 19),
  (19, i_if (fun x => x = 0) 31 22),
  (22, i_aload 0 23),
  (23, i_iload 1 24),
  (24, i_iload 2 25),
  (25, i_callV 8 2 0 0 0 0 (sp_X8_shortens ca) 28),
  (28, i_goto 33),
  (31, i_push (.int (-10000001)) 33),
  (33, i_callV 8 1 0 0 0 0 (sp_X8_acted ca) 36),
  (36, i_ret)]
set_option maxRecDepth 20000 in
theorem t_X8_cut : Tb k_X8_cut yX8_cut cX8_cut 3 (some .int) 3 0 0 := by
  intro l D ca A p e s m args below meth c post X
  unfold k_X8_cut
  refine snd_cons (snd_aload_n X dX8_cut_0 rfl) ?_
  refine snd_cons (snd_callV X Fk8 (ok_X8_begins l D ca) rfl rfl w_698 w_700 wp_16 w_9 w_701 (by decide) (by decide) dX8_cut_1) ?_
  refine snd_cons (snd_aload_n X dX8_cut_4 rfl) ?_
  refine snd_cons (snd_iload_n X dX8_cut_5 rfl) ?_
  refine snd_cons (snd_callS X (ok_X8_isOne l D ca) rfl rfl w_722 w_723 w_9 w_724 (by decide) (by decide) dX8_cut_6) ?_
  refine snd_cons (snd_if_eq X dX8_cut_9 (by decide)) ?_
  refine snd_cons (snd_iload_n X dX8_cut_12 rfl) ?_
  refine snd_cons (snd_iconst X dX8_cut_13 (by decide)) ?_
  refine snd_cons (snd_bipush X dX8_cut_14 (by decide)) ?_
  refine snd_cons (snd_callS X (ok_X8_in l D ca) rfl rfl w_702 w_703 w_9 w_704 (by decide) (by decide) dX8_cut_16) ?_
  refine snd_cons (snd_if_eq X dX8_cut_19 (by decide)) ?_
  refine snd_cons (snd_aload_n X dX8_cut_22 rfl) ?_
  refine snd_cons (snd_iload_n X dX8_cut_23 rfl) ?_
  refine snd_cons (snd_iload_n X dX8_cut_24 rfl) ?_
  refine snd_cons (snd_callV X Fk8 (ok_X8_shortens l D ca) rfl rfl w_741 w_743 wp_22 w_9 w_744 (by decide) (by decide) dX8_cut_25) ?_
  refine snd_cons (snd_goto X dX8_cut_28 (by decide)) ?_
  refine snd_cons (snd_ldc X w_709 dX8_cut_31) ?_
  refine snd_cons (snd_callV X Fk8 (ok_X8_acted l D ca) rfl rfl w_710 w_712 wp_18 w_9 w_713 (by decide) (by decide) dX8_cut_33) ?_
  refine snd_cons (snd_ret X dX8_cut_36) ?_
  exact snd_nil
theorem k_X8_cut_0 (ca : Nat → ClassId) : k_X8_cut ca 0 = i_aload 0 1 := rfl
theorem k_X8_cut_1 (ca : Nat → ClassId) : k_X8_cut ca 1 = i_callV 8 0 0 0 0 0 (sp_X8_begins ca) 4 := rfl
theorem k_X8_cut_4 (ca : Nat → ClassId) : k_X8_cut ca 4 = i_aload 0 5 := rfl
theorem k_X8_cut_5 (ca : Nat → ClassId) : k_X8_cut ca 5 = i_iload 1 6 := rfl
theorem k_X8_cut_6 (ca : Nat → ClassId) : k_X8_cut ca 6 = i_callS 1 0 0 0 0 (sp_X8_isOne ca) 9 := rfl
theorem k_X8_cut_9 (ca : Nat → ClassId) : k_X8_cut ca 9 = i_if (fun x => x = 0) 31 12 := rfl
theorem k_X8_cut_12 (ca : Nat → ClassId) : k_X8_cut ca 12 = i_iload 2 13 := rfl
theorem k_X8_cut_13 (ca : Nat → ClassId) : k_X8_cut ca 13 = i_push (.int 1) 14 := rfl
theorem k_X8_cut_14 (ca : Nat → ClassId) : k_X8_cut ca 14 = i_push (.int 8) 16 := rfl
theorem k_X8_cut_16 (ca : Nat → ClassId) : k_X8_cut ca 16 = i_callS 3 0 0 0 0 (sp_X8_in ca) 19 := rfl
theorem k_X8_cut_19 (ca : Nat → ClassId) : k_X8_cut ca 19 = i_if (fun x => x = 0) 31 22 := rfl
theorem k_X8_cut_22 (ca : Nat → ClassId) : k_X8_cut ca 22 = i_aload 0 23 := rfl
theorem k_X8_cut_23 (ca : Nat → ClassId) : k_X8_cut ca 23 = i_iload 1 24 := rfl
theorem k_X8_cut_24 (ca : Nat → ClassId) : k_X8_cut ca 24 = i_iload 2 25 := rfl
theorem k_X8_cut_25 (ca : Nat → ClassId) : k_X8_cut ca 25 = i_callV 8 2 0 0 0 0 (sp_X8_shortens ca) 28 := rfl
theorem k_X8_cut_28 (ca : Nat → ClassId) : k_X8_cut ca 28 = i_goto 33 := rfl
theorem k_X8_cut_31 (ca : Nat → ClassId) : k_X8_cut ca 31 = i_push (.int (-10000001)) 33 := rfl
theorem k_X8_cut_33 (ca : Nat → ClassId) : k_X8_cut ca 33 = i_callV 8 1 0 0 0 0 (sp_X8_acted ca) 36 := rfl
theorem k_X8_cut_36 (ca : Nat → ClassId) : k_X8_cut ca 36 = i_ret := rfl
set_option maxHeartbeats 4000000 in
set_option maxRecDepth 20000 in
theorem ok_X8_cut (l : Launch) (D : va_G) (ca : Nat → ClassId) : OkAll l D ca yX8_cut cX8_cut 3 (some .int) 3 0 0 (sp_X8_cut ca) := by
  intro av h post hs
  obtain ⟨m, a, s, p, t, f, n, x, y, rfl, I, ht, hR, hW, hs⟩ := hs
  refine okM_of t_X8_cut (by decide +kernel) (c1_ref (c1_int (c1_int c1_nil))) (Nat.le_of_ble_eq_true rfl) ?_
  intro K go
  have d0 := I.2 0
  obtain ⟨l0, hm0⟩ := hR.m8
  have fin : ∀ lv x h', post (some (.int x)) h' → K 0 0 36 lv [.int x] h' := by
    intro lv x h' hh
    refine goN go (stp []) 160 _ _ _ _ _ _ (fun F hF hF0 => ?_)
    simp only [hF, hF0, ite_not, i_push, i_iload, i_lload, i_aload, i_istore, i_astore, i_lstore, i_iinc, i_bin, i_dv, i_un, i_lbin, i_lsh, i_i2l, i_l2i, i_lcmp, i_dup, i_dup2, i_pop, i_if, i_icmp, i_goto, swG, i_sw, i_getf, i_puti, i_putz, i_putr, i_ald, i_lald, i_aald, i_ast, i_last, i_aast, i_alen, i_new, i_newi, i_newl, i_newq, i_oinit, i_ret, i_zret, i_lret, i_vret, catS, tk, rpush, isO, i_m1, i_m2, i_acopy, i_callV, i_callS, KRet, lget, lput, lputL, lcl0, isL, lv0, List.map_cons, List.map_nil, List.length_cons, List.length_nil, List.cons_append, List.nil_append, Nat.reduceAdd, Nat.reduceSub, Nat.reduceLeDiff, List.replicate_succ, List.replicate_zero, List.getElem?_cons_succ, List.getElem?_cons_zero, List.set_cons_succ, List.set_cons_zero, true_and, and_true, if_true, if_false, ↓reduceIte, Nat.le_refl, Value.category, va_up_app, eq_self, stp, Nat.reduceBEq, Bool.or_false, Bool.false_or, Bool.true_or, Bool.or_true, or_true, true_or, bx_uu, implies_true, true_implies, not_true, not_false_eq_true, false_implies, and_self, Nat.reduceLT, Int32.reduceAdd, Int32.reduceSub, Int32.reduceMul, Int32.reduceLE, Int32.reduceLT, Int32.reduceToNatClampNeg, va_rf_some, Bool.false_eq_true, k_X8_cut_0 ca, k_X8_cut_1 ca, k_X8_cut_4 ca, k_X8_cut_5 ca, k_X8_cut_6 ca, k_X8_cut_9 ca, k_X8_cut_12 ca, k_X8_cut_13 ca, k_X8_cut_14 ca, k_X8_cut_16 ca, k_X8_cut_19 ca, k_X8_cut_22 ca, k_X8_cut_23 ca, k_X8_cut_24 ca, k_X8_cut_25 ca, k_X8_cut_28 ca, k_X8_cut_31 ca, k_X8_cut_33 ca, k_X8_cut_36 ca]
    try clear hF hF0 F
    exact hh
  refine goN go (stp [4]) 160 _ _ _ _ _ _ (fun F hF hF0 => ?_)
  simp only [hF, hF0, ite_not, i_push, i_iload, i_lload, i_aload, i_istore, i_astore, i_lstore, i_iinc, i_bin, i_dv, i_un, i_lbin, i_lsh, i_i2l, i_l2i, i_lcmp, i_dup, i_dup2, i_pop, i_if, i_icmp, i_goto, swG, i_sw, i_getf, i_puti, i_putz, i_putr, i_ald, i_lald, i_aald, i_ast, i_last, i_aast, i_alen, i_new, i_newi, i_newl, i_newq, i_oinit, i_ret, i_zret, i_lret, i_vret, catS, tk, rpush, isO, i_m1, i_m2, i_acopy, i_callV, i_callS, KRet, lget, lput, lputL, lcl0, isL, lv0, List.map_cons, List.map_nil, List.length_cons, List.length_nil, List.cons_append, List.nil_append, Nat.reduceAdd, Nat.reduceSub, Nat.reduceLeDiff, List.replicate_succ, List.replicate_zero, List.getElem?_cons_succ, List.getElem?_cons_zero, List.set_cons_succ, List.set_cons_zero, true_and, and_true, if_true, if_false, ↓reduceIte, Nat.le_refl, Value.category, va_up_app, eq_self, stp, Nat.reduceBEq, Bool.or_false, Bool.false_or, Bool.true_or, Bool.or_true, or_true, true_or, bx_uu, implies_true, true_implies, not_true, not_false_eq_true, false_implies, and_self, Nat.reduceLT, Int32.reduceAdd, Int32.reduceSub, Int32.reduceMul, Int32.reduceLE, Int32.reduceLT, Int32.reduceToNatClampNeg, va_rf_some, Bool.false_eq_true, k_X8_cut_0 ca, k_X8_cut_1 ca, k_X8_cut_4 ca, k_X8_cut_5 ca, k_X8_cut_6 ca, k_X8_cut_9 ca, k_X8_cut_12 ca, k_X8_cut_13 ca, k_X8_cut_14 ca, k_X8_cut_16 ca, k_X8_cut_19 ca, k_X8_cut_22 ca, k_X8_cut_23 ca, k_X8_cut_24 ca, k_X8_cut_25 ca, k_X8_cut_28 ca, k_X8_cut_31 ca, k_X8_cut_33 ca, k_X8_cut_36 ca, hm0]
  try clear hF hF0 F
  refine begins_of I hR (fun h1 g hg hR1 hS1 => ?_)
  obtain ⟨fm, at', re, bd, kp, ks, iw, ip, fo, em, e0, -⟩ := id hR1
  unfold eMod at em
  unfold aCut at hs
  cases q1 : isIn x 0 2 with
  | false =>
    rw [q1, if_neg (by decide)] at hs
    refine goN go (stp [36]) 160 _ _ _ _ _ _ (fun F hF hF0 => ?_)
    simp only [hF, hF0, ite_not, i_push, i_iload, i_lload, i_aload, i_istore, i_astore, i_lstore, i_iinc, i_bin, i_dv, i_un, i_lbin, i_lsh, i_i2l, i_l2i, i_lcmp, i_dup, i_dup2, i_pop, i_if, i_icmp, i_goto, swG, i_sw, i_getf, i_puti, i_putz, i_putr, i_ald, i_lald, i_aald, i_ast, i_last, i_aast, i_alen, i_new, i_newi, i_newl, i_newq, i_oinit, i_ret, i_zret, i_lret, i_vret, catS, tk, rpush, isO, i_m1, i_m2, i_acopy, i_callV, i_callS, KRet, lget, lput, lputL, lcl0, isL, lv0, List.map_cons, List.map_nil, List.length_cons, List.length_nil, List.cons_append, List.nil_append, Nat.reduceAdd, Nat.reduceSub, Nat.reduceLeDiff, List.replicate_succ, List.replicate_zero, List.getElem?_cons_succ, List.getElem?_cons_zero, List.set_cons_succ, List.set_cons_zero, true_and, and_true, if_true, if_false, ↓reduceIte, Nat.le_refl, Value.category, va_up_app, eq_self, stp, Nat.reduceBEq, Bool.or_false, Bool.false_or, Bool.true_or, Bool.or_true, or_true, true_or, bx_uu, implies_true, true_implies, not_true, not_false_eq_true, false_implies, and_self, Nat.reduceLT, Int32.reduceAdd, Int32.reduceSub, Int32.reduceMul, Int32.reduceLE, Int32.reduceLT, Int32.reduceToNatClampNeg, va_rf_some, Bool.false_eq_true, k_X8_cut_0 ca, k_X8_cut_1 ca, k_X8_cut_4 ca, k_X8_cut_5 ca, k_X8_cut_6 ca, k_X8_cut_9 ca, k_X8_cut_12 ca, k_X8_cut_13 ca, k_X8_cut_14 ca, k_X8_cut_16 ca, k_X8_cut_19 ca, k_X8_cut_22 ca, k_X8_cut_23 ca, k_X8_cut_24 ca, k_X8_cut_25 ca, k_X8_cut_28 ca, k_X8_cut_31 ca, k_X8_cut_33 ca, k_X8_cut_36 ca, sp_X8_isOne, sp_X7_isRoom, q1, b2i_f, em, d0]
    try clear hF hF0 F
    exact acted_R I ht hR1 hg hS1 Eq127.rf ⟨hs.1, fun z => absurd inv_le z⟩ (fun h' => fin _ _ h')
  | true =>
    rw [q1, if_pos rfl] at hs
    cases q2 : isIn y 1 8 with
    | false =>
      rw [q2, if_neg (by decide)] at hs
      refine goN go (stp [36]) 160 _ _ _ _ _ _ (fun F hF hF0 => ?_)
      simp only [hF, hF0, ite_not, i_push, i_iload, i_lload, i_aload, i_istore, i_astore, i_lstore, i_iinc, i_bin, i_dv, i_un, i_lbin, i_lsh, i_i2l, i_l2i, i_lcmp, i_dup, i_dup2, i_pop, i_if, i_icmp, i_goto, swG, i_sw, i_getf, i_puti, i_putz, i_putr, i_ald, i_lald, i_aald, i_ast, i_last, i_aast, i_alen, i_new, i_newi, i_newl, i_newq, i_oinit, i_ret, i_zret, i_lret, i_vret, catS, tk, rpush, isO, i_m1, i_m2, i_acopy, i_callV, i_callS, KRet, lget, lput, lputL, lcl0, isL, lv0, List.map_cons, List.map_nil, List.length_cons, List.length_nil, List.cons_append, List.nil_append, Nat.reduceAdd, Nat.reduceSub, Nat.reduceLeDiff, List.replicate_succ, List.replicate_zero, List.getElem?_cons_succ, List.getElem?_cons_zero, List.set_cons_succ, List.set_cons_zero, true_and, and_true, if_true, if_false, ↓reduceIte, Nat.le_refl, Value.category, va_up_app, eq_self, stp, Nat.reduceBEq, Bool.or_false, Bool.false_or, Bool.true_or, Bool.or_true, or_true, true_or, bx_uu, implies_true, true_implies, not_true, not_false_eq_true, false_implies, and_self, Nat.reduceLT, Int32.reduceAdd, Int32.reduceSub, Int32.reduceMul, Int32.reduceLE, Int32.reduceLT, Int32.reduceToNatClampNeg, va_rf_some, Bool.false_eq_true, k_X8_cut_0 ca, k_X8_cut_1 ca, k_X8_cut_4 ca, k_X8_cut_5 ca, k_X8_cut_6 ca, k_X8_cut_9 ca, k_X8_cut_12 ca, k_X8_cut_13 ca, k_X8_cut_14 ca, k_X8_cut_16 ca, k_X8_cut_19 ca, k_X8_cut_22 ca, k_X8_cut_23 ca, k_X8_cut_24 ca, k_X8_cut_25 ca, k_X8_cut_28 ca, k_X8_cut_31 ca, k_X8_cut_33 ca, k_X8_cut_36 ca, sp_X8_isOne, sp_X7_isRoom, sp_X8_in, sp_X7_isWithin, q1, q2, b2i_f, b2i_t, one0, em, d0]
      try clear hF hF0 F
      exact acted_R I ht hR1 hg hS1 Eq127.rf ⟨hs.1, fun z => absurd inv_le z⟩ (fun h' => fin _ _ h')
    | true =>
      rw [q2, if_pos rfl] at hs
      obtain ⟨X, hX, rfl⟩ := isIn0 (B := 2) rfl q1
      obtain ⟨B, hB, rfl⟩ := isIn1 (B := 8) (by decide) rfl q2
      have xx : (nI X).toNatClampNeg = X := tn127 (by omega)
      have xb : (nI B).toNatClampNeg = B := tn127 (by omega)
      unfold nPt at hs
      rw [xx, xb] at hs
      obtain ⟨hN, hN8⟩ := (hW.k (k := X) (by omega)).n
      generalize hNN : (s (10 + 32 * X)).toNatClampNeg = N at *
      refine goN go (stp [28]) 160 _ _ _ _ _ _ (fun F hF hF0 => ?_)
      simp only [hF, hF0, ite_not, i_push, i_iload, i_lload, i_aload, i_istore, i_astore, i_lstore, i_iinc, i_bin, i_dv, i_un, i_lbin, i_lsh, i_i2l, i_l2i, i_lcmp, i_dup, i_dup2, i_pop, i_if, i_icmp, i_goto, swG, i_sw, i_getf, i_puti, i_putz, i_putr, i_ald, i_lald, i_aald, i_ast, i_last, i_aast, i_alen, i_new, i_newi, i_newl, i_newq, i_oinit, i_ret, i_zret, i_lret, i_vret, catS, tk, rpush, isO, i_m1, i_m2, i_acopy, i_callV, i_callS, KRet, lget, lput, lputL, lcl0, isL, lv0, List.map_cons, List.map_nil, List.length_cons, List.length_nil, List.cons_append, List.nil_append, Nat.reduceAdd, Nat.reduceSub, Nat.reduceLeDiff, List.replicate_succ, List.replicate_zero, List.getElem?_cons_succ, List.getElem?_cons_zero, List.set_cons_succ, List.set_cons_zero, true_and, and_true, if_true, if_false, ↓reduceIte, Nat.le_refl, Value.category, va_up_app, eq_self, stp, Nat.reduceBEq, Bool.or_false, Bool.false_or, Bool.true_or, Bool.or_true, or_true, true_or, bx_uu, implies_true, true_implies, not_true, not_false_eq_true, false_implies, and_self, Nat.reduceLT, Int32.reduceAdd, Int32.reduceSub, Int32.reduceMul, Int32.reduceLE, Int32.reduceLT, Int32.reduceToNatClampNeg, va_rf_some, Bool.false_eq_true, k_X8_cut_0 ca, k_X8_cut_1 ca, k_X8_cut_4 ca, k_X8_cut_5 ca, k_X8_cut_6 ca, k_X8_cut_9 ca, k_X8_cut_12 ca, k_X8_cut_13 ca, k_X8_cut_14 ca, k_X8_cut_16 ca, k_X8_cut_19 ca, k_X8_cut_22 ca, k_X8_cut_23 ca, k_X8_cut_24 ca, k_X8_cut_25 ca, k_X8_cut_28 ca, k_X8_cut_31 ca, k_X8_cut_33 ca, k_X8_cut_36 ca, sp_X8_isOne, sp_X7_isRoom, sp_X8_in, sp_X7_isWithin, q1, q2, b2i_t, one0, em, d0]
      try clear hF hF0 F
      refine ⟨m, a 0, s, X, B, N, by omega, rfl, by omega, ⟨⟨_, em⟩, e0⟩, I.2 0, hN, hN8, fun hb => ?_, fun hb => ?_⟩
      · rw [if_pos hb] at hs
        refine goN go (stp [36]) 160 _ _ _ _ _ _ (fun F hF hF0 => ?_)
        simp only [hF, hF0, ite_not, i_push, i_iload, i_lload, i_aload, i_istore, i_astore, i_lstore, i_iinc, i_bin, i_dv, i_un, i_lbin, i_lsh, i_i2l, i_l2i, i_lcmp, i_dup, i_dup2, i_pop, i_if, i_icmp, i_goto, swG, i_sw, i_getf, i_puti, i_putz, i_putr, i_ald, i_lald, i_aald, i_ast, i_last, i_aast, i_alen, i_new, i_newi, i_newl, i_newq, i_oinit, i_ret, i_zret, i_lret, i_vret, catS, tk, rpush, isO, i_m1, i_m2, i_acopy, i_callV, i_callS, KRet, lget, lput, lputL, lcl0, isL, lv0, List.map_cons, List.map_nil, List.length_cons, List.length_nil, List.cons_append, List.nil_append, Nat.reduceAdd, Nat.reduceSub, Nat.reduceLeDiff, List.replicate_succ, List.replicate_zero, List.getElem?_cons_succ, List.getElem?_cons_zero, List.set_cons_succ, List.set_cons_zero, true_and, and_true, if_true, if_false, ↓reduceIte, Nat.le_refl, Value.category, va_up_app, eq_self, stp, Nat.reduceBEq, Bool.or_false, Bool.false_or, Bool.true_or, Bool.or_true, or_true, true_or, bx_uu, implies_true, true_implies, not_true, not_false_eq_true, false_implies, and_self, Nat.reduceLT, Int32.reduceAdd, Int32.reduceSub, Int32.reduceMul, Int32.reduceLE, Int32.reduceLT, Int32.reduceToNatClampNeg, va_rf_some, Bool.false_eq_true, k_X8_cut_0 ca, k_X8_cut_1 ca, k_X8_cut_4 ca, k_X8_cut_5 ca, k_X8_cut_6 ca, k_X8_cut_9 ca, k_X8_cut_12 ca, k_X8_cut_13 ca, k_X8_cut_14 ca, k_X8_cut_16 ca, k_X8_cut_19 ca, k_X8_cut_22 ca, k_X8_cut_23 ca, k_X8_cut_24 ca, k_X8_cut_25 ca, k_X8_cut_28 ca, k_X8_cut_31 ca, k_X8_cut_33 ca, k_X8_cut_36 ca, em, d0]
        try clear hF hF0 F
        exact acted_R I ht hR1 hg hS1 Eq127.rf ⟨hs.1, fun z => absurd npo_le z⟩ (fun h' => fin _ _ h')
      · rw [if_neg (by omega)] at hs
        refine goN go (stp [36]) 160 _ _ _ _ _ _ (fun F hF hF0 => ?_)
        simp only [hF, hF0, ite_not, i_push, i_iload, i_lload, i_aload, i_istore, i_astore, i_lstore, i_iinc, i_bin, i_dv, i_un, i_lbin, i_lsh, i_i2l, i_l2i, i_lcmp, i_dup, i_dup2, i_pop, i_if, i_icmp, i_goto, swG, i_sw, i_getf, i_puti, i_putz, i_putr, i_ald, i_lald, i_aald, i_ast, i_last, i_aast, i_alen, i_new, i_newi, i_newl, i_newq, i_oinit, i_ret, i_zret, i_lret, i_vret, catS, tk, rpush, isO, i_m1, i_m2, i_acopy, i_callV, i_callS, KRet, lget, lput, lputL, lcl0, isL, lv0, List.map_cons, List.map_nil, List.length_cons, List.length_nil, List.cons_append, List.nil_append, Nat.reduceAdd, Nat.reduceSub, Nat.reduceLeDiff, List.replicate_succ, List.replicate_zero, List.getElem?_cons_succ, List.getElem?_cons_zero, List.set_cons_succ, List.set_cons_zero, true_and, and_true, if_true, if_false, ↓reduceIte, Nat.le_refl, Value.category, va_up_app, eq_self, stp, Nat.reduceBEq, Bool.or_false, Bool.false_or, Bool.true_or, Bool.or_true, or_true, true_or, bx_uu, implies_true, true_implies, not_true, not_false_eq_true, false_implies, and_self, Nat.reduceLT, Int32.reduceAdd, Int32.reduceSub, Int32.reduceMul, Int32.reduceLE, Int32.reduceLT, Int32.reduceToNatClampNeg, va_rf_some, Bool.false_eq_true, k_X8_cut_0 ca, k_X8_cut_1 ca, k_X8_cut_4 ca, k_X8_cut_5 ca, k_X8_cut_6 ca, k_X8_cut_9 ca, k_X8_cut_12 ca, k_X8_cut_13 ca, k_X8_cut_14 ca, k_X8_cut_16 ca, k_X8_cut_19 ca, k_X8_cut_22 ca, k_X8_cut_23 ca, k_X8_cut_24 ca, k_X8_cut_25 ca, k_X8_cut_28 ca, k_X8_cut_31 ca, k_X8_cut_33 ca, k_X8_cut_36 ca, em, d0]
        try clear hF hF0 F
        exact acted_R I ht (hR1.s0 I _) hg (hS1.tr (SmR.a (by decide) _)) Eq127.rf hs (fun h' => fin _ _ h')
def vBounds (x lo hi la : Int32) : Bool := isIn x 0 2 && (isIn lo (-90000) 89999 && (isIn hi (lo + 1) 90000 && isIn la 0 5))
theorem bnd_hi {lo hi : Int32} (h : isIn lo (-90000) 89999 = true) : isIn hi (lo + 1) 90000 = (isIn hi (-89999) 90000 && decide (lo < hi)) := by
  unfold isIn at *
  simp only [Bool.and_eq_true, Bool.not_eq_true', decide_eq_false_iff_not, Int32.not_lt, Int32.le_iff_toInt_le] at h
  have e1 : (-90000 : Int32).toInt = -90000 := by decide
  have e2 : (89999 : Int32).toInt = 89999 := by decide
  have e3 : (-89999 : Int32).toInt = -89999 := by decide
  have e4 : (1 : Int32).toInt = 1 := by decide
  rw [e1, e2] at h
  have e5 : (lo + 1).toInt = lo.toInt + 1 := by
    rw [Int32.toInt_add, e4]
    exact Int.bmod_eq_of_le (by omega) (by omega)
  rw [Bool.eq_iff_iff]
  simp only [Bool.and_eq_true, Bool.not_eq_true', decide_eq_false_iff_not, decide_eq_true_eq, Int32.not_lt, Int32.le_iff_toInt_le, Int32.lt_iff_toInt_lt, e5, e3]
  omega
def aBounds (s : Nat → Int32) (x lo hi la : Int32) : Int32 := if vBounds x lo hi la = true then rt s (10 + 32 * x.toNatClampNeg) * (s (106 + 7 * x.toNatClampNeg) - 200) else -10000001
def sp_X8_bounds (ca : Nat → ClassId) : SPEC := fun av h post => ∃ m a s p t f n x y z w, av = [.ref m, .int x, .int y, .int z, .int w] ∧ RI m a ∧ t ≤ 4 ∧ RAt ca h m a s p t f n ∧ WfS s ∧ actR ca h m a s p t f n post (aBounds s x y z w) (bndS s x.toNatClampNeg y z w)
def k_X8_bounds (ca : Nat → ClassId) : Nat → IT := fun pc => lk pc [(0, i_aload 0 1),
  (1, i_callV 8 0 0 0 0 0 (sp_X8_begins ca) 4),
  (4, i_iload 1 5),
  (5, i_callS 1 0 0 0 0 (sp_X8_isOne ca) 8),
  (8, i_if (fun x => x = 0) 52 11),
  (11, i_iload 2 12),
  (12, i_push (.int (-90000)) 14),
  (14, i_push (.int 89999) 16),
  (16, i_callS 3 0 0 0 0 (sp_X8_in ca) 19),
  (19, i_if (fun x => x = 0) 52 22),
  (22, i_iload 3 23),
  (23, i_push (.int (-89999)) 25),
  (25, i_push (.int 90000) 27),
  (27, i_callS 3 0 0 0 0 (sp_X8_in ca) 30),
  (30, i_if (fun x => x = 0) 52 33),
  (33, i_iload 2 34),
  (34, i_iload 3 35),
  (35, i_icmp (fun x y => y ≤ x) 52 38),
  (38, i_iload 4 40),
  (40, i_push (.int 0) 41),
  (41, i_push (.int 5) 42),
  (42, i_callS 3 0 0 0 0 (sp_X8_in ca) 45),
  (45, i_if (fun x => x = 0) 52 48),
  (48, i_push (.int 1) 49),
  (49, i_goto 53),
  (52, i_push (.int 0) 53),
  (53, i_istore 5 55),
  (55, i_aload 0 56),
  (56, i_iload 5 58),
  (58, i_if (fun x => x = 0) 73 61),
  (61, i_aload 0 62),
  (62, i_iload 1 63),
  (63, i_iload 2 64),
  (64, i_iload 3 65),
  (65, i_iload 4 67),
  (67, i_callV 8 4 0 0 0 0 (sp_X8_bounded ca) 70),
  (70, i_goto 75),
  (73, i_push (.int (-10000001)) 75),
  (75, i_callV 8 1 0 0 0 0 (sp_X8_acted ca) 78),
  (78, i_ret)]
set_option maxRecDepth 20000 in
theorem t_X8_bounds : Tb k_X8_bounds yX8_bounds cX8_bounds 6 (some .int) 6 0 0 := by
  intro l D ca A p e s m args below meth c post X
  unfold k_X8_bounds
  refine snd_cons (snd_aload_n X dX8_bounds_0 rfl) ?_
  refine snd_cons (snd_callV X Fk8 (ok_X8_begins l D ca) rfl rfl w_698 w_700 wp_16 w_9 w_701 (by decide) (by decide) dX8_bounds_1) ?_
  refine snd_cons (snd_iload_n X dX8_bounds_4 rfl) ?_
  refine snd_cons (snd_callS X (ok_X8_isOne l D ca) rfl rfl w_722 w_723 w_9 w_724 (by decide) (by decide) dX8_bounds_5) ?_
  refine snd_cons (snd_if_eq X dX8_bounds_8 (by decide)) ?_
  refine snd_cons (snd_iload_n X dX8_bounds_11 rfl) ?_
  refine snd_cons (snd_ldc X w_750 dX8_bounds_12) ?_
  refine snd_cons (snd_ldc X w_751 dX8_bounds_14) ?_
  refine snd_cons (snd_callS X (ok_X8_in l D ca) rfl rfl w_702 w_703 w_9 w_704 (by decide) (by decide) dX8_bounds_16) ?_
  refine snd_cons (snd_if_eq X dX8_bounds_19 (by decide)) ?_
  refine snd_cons (snd_iload_n X dX8_bounds_22 rfl) ?_
  refine snd_cons (snd_ldc X w_752 dX8_bounds_23) ?_
  refine snd_cons (snd_ldc X w_753 dX8_bounds_25) ?_
  refine snd_cons (snd_callS X (ok_X8_in l D ca) rfl rfl w_702 w_703 w_9 w_704 (by decide) (by decide) dX8_bounds_27) ?_
  refine snd_cons (snd_if_eq X dX8_bounds_30 (by decide)) ?_
  refine snd_cons (snd_iload_n X dX8_bounds_33 rfl) ?_
  refine snd_cons (snd_iload_n X dX8_bounds_34 rfl) ?_
  refine snd_cons (snd_icmp_ge X dX8_bounds_35 (by decide)) ?_
  refine snd_cons (snd_iload X dX8_bounds_38) ?_
  refine snd_cons (snd_iconst X dX8_bounds_40 (by decide)) ?_
  refine snd_cons (snd_iconst X dX8_bounds_41 (by decide)) ?_
  refine snd_cons (snd_callS X (ok_X8_in l D ca) rfl rfl w_702 w_703 w_9 w_704 (by decide) (by decide) dX8_bounds_42) ?_
  refine snd_cons (snd_if_eq X dX8_bounds_45 (by decide)) ?_
  refine snd_cons (snd_iconst X dX8_bounds_48 (by decide)) ?_
  refine snd_cons (snd_goto X dX8_bounds_49 (by decide)) ?_
  refine snd_cons (snd_iconst X dX8_bounds_52 (by decide)) ?_
  refine snd_cons (snd_istore X dX8_bounds_53 (by decide)) ?_
  refine snd_cons (snd_aload_n X dX8_bounds_55 rfl) ?_
  refine snd_cons (snd_iload X dX8_bounds_56) ?_
  refine snd_cons (snd_if_eq X dX8_bounds_58 (by decide)) ?_
  refine snd_cons (snd_aload_n X dX8_bounds_61 rfl) ?_
  refine snd_cons (snd_iload_n X dX8_bounds_62 rfl) ?_
  refine snd_cons (snd_iload_n X dX8_bounds_63 rfl) ?_
  refine snd_cons (snd_iload_n X dX8_bounds_64 rfl) ?_
  refine snd_cons (snd_iload X dX8_bounds_65) ?_
  refine snd_cons (snd_callV X Fk8 (ok_X8_bounded l D ca) rfl rfl w_754 w_756 wp_23 w_9 w_757 (by decide) (by decide) dX8_bounds_67) ?_
  refine snd_cons (snd_goto X dX8_bounds_70 (by decide)) ?_
  refine snd_cons (snd_ldc X w_709 dX8_bounds_73) ?_
  refine snd_cons (snd_callV X Fk8 (ok_X8_acted l D ca) rfl rfl w_710 w_712 wp_18 w_9 w_713 (by decide) (by decide) dX8_bounds_75) ?_
  refine snd_cons (snd_ret X dX8_bounds_78) ?_
  exact snd_nil
theorem k_X8_bounds_0 (ca : Nat → ClassId) : k_X8_bounds ca 0 = i_aload 0 1 := rfl
theorem k_X8_bounds_1 (ca : Nat → ClassId) : k_X8_bounds ca 1 = i_callV 8 0 0 0 0 0 (sp_X8_begins ca) 4 := rfl
theorem k_X8_bounds_4 (ca : Nat → ClassId) : k_X8_bounds ca 4 = i_iload 1 5 := rfl
theorem k_X8_bounds_5 (ca : Nat → ClassId) : k_X8_bounds ca 5 = i_callS 1 0 0 0 0 (sp_X8_isOne ca) 8 := rfl
theorem k_X8_bounds_8 (ca : Nat → ClassId) : k_X8_bounds ca 8 = i_if (fun x => x = 0) 52 11 := rfl
theorem k_X8_bounds_11 (ca : Nat → ClassId) : k_X8_bounds ca 11 = i_iload 2 12 := rfl
theorem k_X8_bounds_12 (ca : Nat → ClassId) : k_X8_bounds ca 12 = i_push (.int (-90000)) 14 := rfl
theorem k_X8_bounds_14 (ca : Nat → ClassId) : k_X8_bounds ca 14 = i_push (.int 89999) 16 := rfl
theorem k_X8_bounds_16 (ca : Nat → ClassId) : k_X8_bounds ca 16 = i_callS 3 0 0 0 0 (sp_X8_in ca) 19 := rfl
theorem k_X8_bounds_19 (ca : Nat → ClassId) : k_X8_bounds ca 19 = i_if (fun x => x = 0) 52 22 := rfl
theorem k_X8_bounds_22 (ca : Nat → ClassId) : k_X8_bounds ca 22 = i_iload 3 23 := rfl
theorem k_X8_bounds_23 (ca : Nat → ClassId) : k_X8_bounds ca 23 = i_push (.int (-89999)) 25 := rfl
theorem k_X8_bounds_25 (ca : Nat → ClassId) : k_X8_bounds ca 25 = i_push (.int 90000) 27 := rfl
theorem k_X8_bounds_27 (ca : Nat → ClassId) : k_X8_bounds ca 27 = i_callS 3 0 0 0 0 (sp_X8_in ca) 30 := rfl
theorem k_X8_bounds_30 (ca : Nat → ClassId) : k_X8_bounds ca 30 = i_if (fun x => x = 0) 52 33 := rfl
theorem k_X8_bounds_33 (ca : Nat → ClassId) : k_X8_bounds ca 33 = i_iload 2 34 := rfl
theorem k_X8_bounds_34 (ca : Nat → ClassId) : k_X8_bounds ca 34 = i_iload 3 35 := rfl
theorem k_X8_bounds_35 (ca : Nat → ClassId) : k_X8_bounds ca 35 = i_icmp (fun x y => y ≤ x) 52 38 := rfl
theorem k_X8_bounds_38 (ca : Nat → ClassId) : k_X8_bounds ca 38 = i_iload 4 40 := rfl
theorem k_X8_bounds_40 (ca : Nat → ClassId) : k_X8_bounds ca 40 = i_push (.int 0) 41 := rfl
theorem k_X8_bounds_41 (ca : Nat → ClassId) : k_X8_bounds ca 41 = i_push (.int 5) 42 := rfl
theorem k_X8_bounds_42 (ca : Nat → ClassId) : k_X8_bounds ca 42 = i_callS 3 0 0 0 0 (sp_X8_in ca) 45 := rfl
theorem k_X8_bounds_45 (ca : Nat → ClassId) : k_X8_bounds ca 45 = i_if (fun x => x = 0) 52 48 := rfl
theorem k_X8_bounds_48 (ca : Nat → ClassId) : k_X8_bounds ca 48 = i_push (.int 1) 49 := rfl
theorem k_X8_bounds_49 (ca : Nat → ClassId) : k_X8_bounds ca 49 = i_goto 53 := rfl
theorem k_X8_bounds_52 (ca : Nat → ClassId) : k_X8_bounds ca 52 = i_push (.int 0) 53 := rfl
theorem k_X8_bounds_53 (ca : Nat → ClassId) : k_X8_bounds ca 53 = i_istore 5 55 := rfl
theorem k_X8_bounds_55 (ca : Nat → ClassId) : k_X8_bounds ca 55 = i_aload 0 56 := rfl
theorem k_X8_bounds_56 (ca : Nat → ClassId) : k_X8_bounds ca 56 = i_iload 5 58 := rfl
theorem k_X8_bounds_58 (ca : Nat → ClassId) : k_X8_bounds ca 58 = i_if (fun x => x = 0) 73 61 := rfl
theorem k_X8_bounds_61 (ca : Nat → ClassId) : k_X8_bounds ca 61 = i_aload 0 62 := rfl
theorem k_X8_bounds_62 (ca : Nat → ClassId) : k_X8_bounds ca 62 = i_iload 1 63 := rfl
theorem k_X8_bounds_63 (ca : Nat → ClassId) : k_X8_bounds ca 63 = i_iload 2 64 := rfl
theorem k_X8_bounds_64 (ca : Nat → ClassId) : k_X8_bounds ca 64 = i_iload 3 65 := rfl
theorem k_X8_bounds_65 (ca : Nat → ClassId) : k_X8_bounds ca 65 = i_iload 4 67 := rfl
theorem k_X8_bounds_67 (ca : Nat → ClassId) : k_X8_bounds ca 67 = i_callV 8 4 0 0 0 0 (sp_X8_bounded ca) 70 := rfl
theorem k_X8_bounds_70 (ca : Nat → ClassId) : k_X8_bounds ca 70 = i_goto 75 := rfl
theorem k_X8_bounds_73 (ca : Nat → ClassId) : k_X8_bounds ca 73 = i_push (.int (-10000001)) 75 := rfl
theorem k_X8_bounds_75 (ca : Nat → ClassId) : k_X8_bounds ca 75 = i_callV 8 1 0 0 0 0 (sp_X8_acted ca) 78 := rfl
theorem k_X8_bounds_78 (ca : Nat → ClassId) : k_X8_bounds ca 78 = i_ret := rfl
set_option maxHeartbeats 4000000 in
set_option maxRecDepth 20000 in
theorem ok_X8_bounds (l : Launch) (D : va_G) (ca : Nat → ClassId) : OkAll l D ca yX8_bounds cX8_bounds 6 (some .int) 6 0 0 (sp_X8_bounds ca) := by
  intro av h post hs
  obtain ⟨m, a, s, p, t, f, n, x, y, z, w, rfl, I, ht, hR, hW, hs⟩ := hs
  refine okM_of t_X8_bounds (by decide +kernel) (c1_ref (c1_int (c1_int (c1_int (c1_int c1_nil))))) (Nat.le_of_ble_eq_true rfl) ?_
  intro K go
  have d0 := I.2 0
  obtain ⟨l0, hm0⟩ := hR.m8
  have fin : ∀ lv x h', post (some (.int x)) h' → K 0 0 78 lv [.int x] h' := by
    intro lv x h' hh
    refine goN go (stp []) 160 _ _ _ _ _ _ (fun F hF hF0 => ?_)
    simp only [hF, hF0, ite_not, i_push, i_iload, i_lload, i_aload, i_istore, i_astore, i_lstore, i_iinc, i_bin, i_dv, i_un, i_lbin, i_lsh, i_i2l, i_l2i, i_lcmp, i_dup, i_dup2, i_pop, i_if, i_icmp, i_goto, swG, i_sw, i_getf, i_puti, i_putz, i_putr, i_ald, i_lald, i_aald, i_ast, i_last, i_aast, i_alen, i_new, i_newi, i_newl, i_newq, i_oinit, i_ret, i_zret, i_lret, i_vret, catS, tk, rpush, isO, i_m1, i_m2, i_acopy, i_callV, i_callS, KRet, lget, lput, lputL, lcl0, isL, lv0, List.map_cons, List.map_nil, List.length_cons, List.length_nil, List.cons_append, List.nil_append, Nat.reduceAdd, Nat.reduceSub, Nat.reduceLeDiff, List.replicate_succ, List.replicate_zero, List.getElem?_cons_succ, List.getElem?_cons_zero, List.set_cons_succ, List.set_cons_zero, true_and, and_true, if_true, if_false, ↓reduceIte, Nat.le_refl, Value.category, va_up_app, eq_self, stp, Nat.reduceBEq, Bool.or_false, Bool.false_or, Bool.true_or, Bool.or_true, or_true, true_or, bx_uu, implies_true, true_implies, not_true, not_false_eq_true, false_implies, and_self, Nat.reduceLT, Int32.reduceAdd, Int32.reduceSub, Int32.reduceMul, Int32.reduceLE, Int32.reduceLT, Int32.reduceToNatClampNeg, va_rf_some, Bool.false_eq_true, k_X8_bounds_0 ca, k_X8_bounds_1 ca, k_X8_bounds_4 ca, k_X8_bounds_5 ca, k_X8_bounds_8 ca, k_X8_bounds_11 ca, k_X8_bounds_12 ca, k_X8_bounds_14 ca, k_X8_bounds_16 ca, k_X8_bounds_19 ca, k_X8_bounds_22 ca, k_X8_bounds_23 ca, k_X8_bounds_25 ca, k_X8_bounds_27 ca, k_X8_bounds_30 ca, k_X8_bounds_33 ca, k_X8_bounds_34 ca, k_X8_bounds_35 ca, k_X8_bounds_38 ca, k_X8_bounds_40 ca, k_X8_bounds_41 ca, k_X8_bounds_42 ca, k_X8_bounds_45 ca, k_X8_bounds_48 ca, k_X8_bounds_49 ca, k_X8_bounds_52 ca, k_X8_bounds_53 ca, k_X8_bounds_55 ca, k_X8_bounds_56 ca, k_X8_bounds_58 ca, k_X8_bounds_61 ca, k_X8_bounds_62 ca, k_X8_bounds_63 ca, k_X8_bounds_64 ca, k_X8_bounds_65 ca, k_X8_bounds_67 ca, k_X8_bounds_70 ca, k_X8_bounds_73 ca, k_X8_bounds_75 ca, k_X8_bounds_78 ca]
    try clear hF hF0 F
    exact hh
  refine goN go (stp [4]) 160 _ _ _ _ _ _ (fun F hF hF0 => ?_)
  simp only [hF, hF0, ite_not, i_push, i_iload, i_lload, i_aload, i_istore, i_astore, i_lstore, i_iinc, i_bin, i_dv, i_un, i_lbin, i_lsh, i_i2l, i_l2i, i_lcmp, i_dup, i_dup2, i_pop, i_if, i_icmp, i_goto, swG, i_sw, i_getf, i_puti, i_putz, i_putr, i_ald, i_lald, i_aald, i_ast, i_last, i_aast, i_alen, i_new, i_newi, i_newl, i_newq, i_oinit, i_ret, i_zret, i_lret, i_vret, catS, tk, rpush, isO, i_m1, i_m2, i_acopy, i_callV, i_callS, KRet, lget, lput, lputL, lcl0, isL, lv0, List.map_cons, List.map_nil, List.length_cons, List.length_nil, List.cons_append, List.nil_append, Nat.reduceAdd, Nat.reduceSub, Nat.reduceLeDiff, List.replicate_succ, List.replicate_zero, List.getElem?_cons_succ, List.getElem?_cons_zero, List.set_cons_succ, List.set_cons_zero, true_and, and_true, if_true, if_false, ↓reduceIte, Nat.le_refl, Value.category, va_up_app, eq_self, stp, Nat.reduceBEq, Bool.or_false, Bool.false_or, Bool.true_or, Bool.or_true, or_true, true_or, bx_uu, implies_true, true_implies, not_true, not_false_eq_true, false_implies, and_self, Nat.reduceLT, Int32.reduceAdd, Int32.reduceSub, Int32.reduceMul, Int32.reduceLE, Int32.reduceLT, Int32.reduceToNatClampNeg, va_rf_some, Bool.false_eq_true, k_X8_bounds_0 ca, k_X8_bounds_1 ca, k_X8_bounds_4 ca, k_X8_bounds_5 ca, k_X8_bounds_8 ca, k_X8_bounds_11 ca, k_X8_bounds_12 ca, k_X8_bounds_14 ca, k_X8_bounds_16 ca, k_X8_bounds_19 ca, k_X8_bounds_22 ca, k_X8_bounds_23 ca, k_X8_bounds_25 ca, k_X8_bounds_27 ca, k_X8_bounds_30 ca, k_X8_bounds_33 ca, k_X8_bounds_34 ca, k_X8_bounds_35 ca, k_X8_bounds_38 ca, k_X8_bounds_40 ca, k_X8_bounds_41 ca, k_X8_bounds_42 ca, k_X8_bounds_45 ca, k_X8_bounds_48 ca, k_X8_bounds_49 ca, k_X8_bounds_52 ca, k_X8_bounds_53 ca, k_X8_bounds_55 ca, k_X8_bounds_56 ca, k_X8_bounds_58 ca, k_X8_bounds_61 ca, k_X8_bounds_62 ca, k_X8_bounds_63 ca, k_X8_bounds_64 ca, k_X8_bounds_65 ca, k_X8_bounds_67 ca, k_X8_bounds_70 ca, k_X8_bounds_73 ca, k_X8_bounds_75 ca, k_X8_bounds_78 ca, hm0]
  try clear hF hF0 F
  refine begins_of I hR (fun h1 g hg hR1 hS1 => ?_)
  obtain ⟨fm, at', re, bd, kp, ks, iw, ip, fo, em, e0, -⟩ := id hR1
  unfold eMod at em
  unfold aBounds vBounds at hs
  have bad : actR ca h m a s p t f n post (-10000001) (bndS s x.toNatClampNeg y z w) → ∀ lv, sp_X8_acted ca [.ref m, .int (-10000001)] h1 (fun v h' => K 0 0 78 lv (rpush v []) h') := fun hs lv => acted_R I ht hR1 hg hS1 Eq127.rf ⟨hs.1, fun z => absurd inv_le z⟩ (fun h' => fin _ _ h')
  cases q1 : isIn x 0 2 with
  | false =>
    rw [q1, Bool.false_and, if_neg (by decide)] at hs
    refine goN go (stp [78]) 160 _ _ _ _ _ _ (fun F hF hF0 => ?_)
    simp only [hF, hF0, ite_not, i_push, i_iload, i_lload, i_aload, i_istore, i_astore, i_lstore, i_iinc, i_bin, i_dv, i_un, i_lbin, i_lsh, i_i2l, i_l2i, i_lcmp, i_dup, i_dup2, i_pop, i_if, i_icmp, i_goto, swG, i_sw, i_getf, i_puti, i_putz, i_putr, i_ald, i_lald, i_aald, i_ast, i_last, i_aast, i_alen, i_new, i_newi, i_newl, i_newq, i_oinit, i_ret, i_zret, i_lret, i_vret, catS, tk, rpush, isO, i_m1, i_m2, i_acopy, i_callV, i_callS, KRet, lget, lput, lputL, lcl0, isL, lv0, List.map_cons, List.map_nil, List.length_cons, List.length_nil, List.cons_append, List.nil_append, Nat.reduceAdd, Nat.reduceSub, Nat.reduceLeDiff, List.replicate_succ, List.replicate_zero, List.getElem?_cons_succ, List.getElem?_cons_zero, List.set_cons_succ, List.set_cons_zero, true_and, and_true, if_true, if_false, ↓reduceIte, Nat.le_refl, Value.category, va_up_app, eq_self, stp, Nat.reduceBEq, Bool.or_false, Bool.false_or, Bool.true_or, Bool.or_true, or_true, true_or, bx_uu, implies_true, true_implies, not_true, not_false_eq_true, false_implies, and_self, Nat.reduceLT, Int32.reduceAdd, Int32.reduceSub, Int32.reduceMul, Int32.reduceLE, Int32.reduceLT, Int32.reduceToNatClampNeg, va_rf_some, Bool.false_eq_true, k_X8_bounds_0 ca, k_X8_bounds_1 ca, k_X8_bounds_4 ca, k_X8_bounds_5 ca, k_X8_bounds_8 ca, k_X8_bounds_11 ca, k_X8_bounds_12 ca, k_X8_bounds_14 ca, k_X8_bounds_16 ca, k_X8_bounds_19 ca, k_X8_bounds_22 ca, k_X8_bounds_23 ca, k_X8_bounds_25 ca, k_X8_bounds_27 ca, k_X8_bounds_30 ca, k_X8_bounds_33 ca, k_X8_bounds_34 ca, k_X8_bounds_35 ca, k_X8_bounds_38 ca, k_X8_bounds_40 ca, k_X8_bounds_41 ca, k_X8_bounds_42 ca, k_X8_bounds_45 ca, k_X8_bounds_48 ca, k_X8_bounds_49 ca, k_X8_bounds_52 ca, k_X8_bounds_53 ca, k_X8_bounds_55 ca, k_X8_bounds_56 ca, k_X8_bounds_58 ca, k_X8_bounds_61 ca, k_X8_bounds_62 ca, k_X8_bounds_63 ca, k_X8_bounds_64 ca, k_X8_bounds_65 ca, k_X8_bounds_67 ca, k_X8_bounds_70 ca, k_X8_bounds_73 ca, k_X8_bounds_75 ca, k_X8_bounds_78 ca, sp_X8_isOne, sp_X7_isRoom, q1, b2i_f, em, d0]
    try clear hF hF0 F
    exact bad hs _
  | true =>
    rw [q1, Bool.true_and] at hs
    cases q2 : isIn y (-90000) 89999 with
    | false =>
      rw [q2, Bool.false_and, if_neg (by decide)] at hs
      refine goN go (stp [78]) 160 _ _ _ _ _ _ (fun F hF hF0 => ?_)
      simp only [hF, hF0, ite_not, i_push, i_iload, i_lload, i_aload, i_istore, i_astore, i_lstore, i_iinc, i_bin, i_dv, i_un, i_lbin, i_lsh, i_i2l, i_l2i, i_lcmp, i_dup, i_dup2, i_pop, i_if, i_icmp, i_goto, swG, i_sw, i_getf, i_puti, i_putz, i_putr, i_ald, i_lald, i_aald, i_ast, i_last, i_aast, i_alen, i_new, i_newi, i_newl, i_newq, i_oinit, i_ret, i_zret, i_lret, i_vret, catS, tk, rpush, isO, i_m1, i_m2, i_acopy, i_callV, i_callS, KRet, lget, lput, lputL, lcl0, isL, lv0, List.map_cons, List.map_nil, List.length_cons, List.length_nil, List.cons_append, List.nil_append, Nat.reduceAdd, Nat.reduceSub, Nat.reduceLeDiff, List.replicate_succ, List.replicate_zero, List.getElem?_cons_succ, List.getElem?_cons_zero, List.set_cons_succ, List.set_cons_zero, true_and, and_true, if_true, if_false, ↓reduceIte, Nat.le_refl, Value.category, va_up_app, eq_self, stp, Nat.reduceBEq, Bool.or_false, Bool.false_or, Bool.true_or, Bool.or_true, or_true, true_or, bx_uu, implies_true, true_implies, not_true, not_false_eq_true, false_implies, and_self, Nat.reduceLT, Int32.reduceAdd, Int32.reduceSub, Int32.reduceMul, Int32.reduceLE, Int32.reduceLT, Int32.reduceToNatClampNeg, va_rf_some, Bool.false_eq_true, k_X8_bounds_0 ca, k_X8_bounds_1 ca, k_X8_bounds_4 ca, k_X8_bounds_5 ca, k_X8_bounds_8 ca, k_X8_bounds_11 ca, k_X8_bounds_12 ca, k_X8_bounds_14 ca, k_X8_bounds_16 ca, k_X8_bounds_19 ca, k_X8_bounds_22 ca, k_X8_bounds_23 ca, k_X8_bounds_25 ca, k_X8_bounds_27 ca, k_X8_bounds_30 ca, k_X8_bounds_33 ca, k_X8_bounds_34 ca, k_X8_bounds_35 ca, k_X8_bounds_38 ca, k_X8_bounds_40 ca, k_X8_bounds_41 ca, k_X8_bounds_42 ca, k_X8_bounds_45 ca, k_X8_bounds_48 ca, k_X8_bounds_49 ca, k_X8_bounds_52 ca, k_X8_bounds_53 ca, k_X8_bounds_55 ca, k_X8_bounds_56 ca, k_X8_bounds_58 ca, k_X8_bounds_61 ca, k_X8_bounds_62 ca, k_X8_bounds_63 ca, k_X8_bounds_64 ca, k_X8_bounds_65 ca, k_X8_bounds_67 ca, k_X8_bounds_70 ca, k_X8_bounds_73 ca, k_X8_bounds_75 ca, k_X8_bounds_78 ca, sp_X8_isOne, sp_X7_isRoom, sp_X8_in, sp_X7_isWithin, q1, q2, b2i_f, b2i_t, one0, em, d0]
      try clear hF hF0 F
      exact bad hs _
    | true =>
      rw [q2, Bool.true_and, bnd_hi q2] at hs
      cases q3 : isIn z (-89999) 90000 with
      | false =>
        rw [q3, Bool.false_and, Bool.false_and, if_neg (by decide)] at hs
        refine goN go (stp [78]) 160 _ _ _ _ _ _ (fun F hF hF0 => ?_)
        simp only [hF, hF0, ite_not, i_push, i_iload, i_lload, i_aload, i_istore, i_astore, i_lstore, i_iinc, i_bin, i_dv, i_un, i_lbin, i_lsh, i_i2l, i_l2i, i_lcmp, i_dup, i_dup2, i_pop, i_if, i_icmp, i_goto, swG, i_sw, i_getf, i_puti, i_putz, i_putr, i_ald, i_lald, i_aald, i_ast, i_last, i_aast, i_alen, i_new, i_newi, i_newl, i_newq, i_oinit, i_ret, i_zret, i_lret, i_vret, catS, tk, rpush, isO, i_m1, i_m2, i_acopy, i_callV, i_callS, KRet, lget, lput, lputL, lcl0, isL, lv0, List.map_cons, List.map_nil, List.length_cons, List.length_nil, List.cons_append, List.nil_append, Nat.reduceAdd, Nat.reduceSub, Nat.reduceLeDiff, List.replicate_succ, List.replicate_zero, List.getElem?_cons_succ, List.getElem?_cons_zero, List.set_cons_succ, List.set_cons_zero, true_and, and_true, if_true, if_false, ↓reduceIte, Nat.le_refl, Value.category, va_up_app, eq_self, stp, Nat.reduceBEq, Bool.or_false, Bool.false_or, Bool.true_or, Bool.or_true, or_true, true_or, bx_uu, implies_true, true_implies, not_true, not_false_eq_true, false_implies, and_self, Nat.reduceLT, Int32.reduceAdd, Int32.reduceSub, Int32.reduceMul, Int32.reduceLE, Int32.reduceLT, Int32.reduceToNatClampNeg, va_rf_some, Bool.false_eq_true, k_X8_bounds_0 ca, k_X8_bounds_1 ca, k_X8_bounds_4 ca, k_X8_bounds_5 ca, k_X8_bounds_8 ca, k_X8_bounds_11 ca, k_X8_bounds_12 ca, k_X8_bounds_14 ca, k_X8_bounds_16 ca, k_X8_bounds_19 ca, k_X8_bounds_22 ca, k_X8_bounds_23 ca, k_X8_bounds_25 ca, k_X8_bounds_27 ca, k_X8_bounds_30 ca, k_X8_bounds_33 ca, k_X8_bounds_34 ca, k_X8_bounds_35 ca, k_X8_bounds_38 ca, k_X8_bounds_40 ca, k_X8_bounds_41 ca, k_X8_bounds_42 ca, k_X8_bounds_45 ca, k_X8_bounds_48 ca, k_X8_bounds_49 ca, k_X8_bounds_52 ca, k_X8_bounds_53 ca, k_X8_bounds_55 ca, k_X8_bounds_56 ca, k_X8_bounds_58 ca, k_X8_bounds_61 ca, k_X8_bounds_62 ca, k_X8_bounds_63 ca, k_X8_bounds_64 ca, k_X8_bounds_65 ca, k_X8_bounds_67 ca, k_X8_bounds_70 ca, k_X8_bounds_73 ca, k_X8_bounds_75 ca, k_X8_bounds_78 ca, sp_X8_isOne, sp_X7_isRoom, sp_X8_in, sp_X7_isWithin, q1, q2, q3, b2i_f, b2i_t, one0, em, d0]
        try clear hF hF0 F
        exact bad hs _
      | true =>
        rw [q3, Bool.true_and] at hs
        by_cases q4 : y < z
        · rw [decide_eq_true q4, Bool.true_and] at hs
          have g4 : (z ≤ y) = False := eq_false (Int32.not_le.mpr q4)
          cases q5 : isIn w 0 5 with
          | false =>
            rw [q5, if_neg (by decide)] at hs
            refine goN go (stp [78]) 160 _ _ _ _ _ _ (fun F hF hF0 => ?_)
            simp only [hF, hF0, ite_not, i_push, i_iload, i_lload, i_aload, i_istore, i_astore, i_lstore, i_iinc, i_bin, i_dv, i_un, i_lbin, i_lsh, i_i2l, i_l2i, i_lcmp, i_dup, i_dup2, i_pop, i_if, i_icmp, i_goto, swG, i_sw, i_getf, i_puti, i_putz, i_putr, i_ald, i_lald, i_aald, i_ast, i_last, i_aast, i_alen, i_new, i_newi, i_newl, i_newq, i_oinit, i_ret, i_zret, i_lret, i_vret, catS, tk, rpush, isO, i_m1, i_m2, i_acopy, i_callV, i_callS, KRet, lget, lput, lputL, lcl0, isL, lv0, List.map_cons, List.map_nil, List.length_cons, List.length_nil, List.cons_append, List.nil_append, Nat.reduceAdd, Nat.reduceSub, Nat.reduceLeDiff, List.replicate_succ, List.replicate_zero, List.getElem?_cons_succ, List.getElem?_cons_zero, List.set_cons_succ, List.set_cons_zero, true_and, and_true, if_true, if_false, ↓reduceIte, Nat.le_refl, Value.category, va_up_app, eq_self, stp, Nat.reduceBEq, Bool.or_false, Bool.false_or, Bool.true_or, Bool.or_true, or_true, true_or, bx_uu, implies_true, true_implies, not_true, not_false_eq_true, false_implies, and_self, Nat.reduceLT, Int32.reduceAdd, Int32.reduceSub, Int32.reduceMul, Int32.reduceLE, Int32.reduceLT, Int32.reduceToNatClampNeg, va_rf_some, Bool.false_eq_true, k_X8_bounds_0 ca, k_X8_bounds_1 ca, k_X8_bounds_4 ca, k_X8_bounds_5 ca, k_X8_bounds_8 ca, k_X8_bounds_11 ca, k_X8_bounds_12 ca, k_X8_bounds_14 ca, k_X8_bounds_16 ca, k_X8_bounds_19 ca, k_X8_bounds_22 ca, k_X8_bounds_23 ca, k_X8_bounds_25 ca, k_X8_bounds_27 ca, k_X8_bounds_30 ca, k_X8_bounds_33 ca, k_X8_bounds_34 ca, k_X8_bounds_35 ca, k_X8_bounds_38 ca, k_X8_bounds_40 ca, k_X8_bounds_41 ca, k_X8_bounds_42 ca, k_X8_bounds_45 ca, k_X8_bounds_48 ca, k_X8_bounds_49 ca, k_X8_bounds_52 ca, k_X8_bounds_53 ca, k_X8_bounds_55 ca, k_X8_bounds_56 ca, k_X8_bounds_58 ca, k_X8_bounds_61 ca, k_X8_bounds_62 ca, k_X8_bounds_63 ca, k_X8_bounds_64 ca, k_X8_bounds_65 ca, k_X8_bounds_67 ca, k_X8_bounds_70 ca, k_X8_bounds_73 ca, k_X8_bounds_75 ca, k_X8_bounds_78 ca, sp_X8_isOne, sp_X7_isRoom, sp_X8_in, sp_X7_isWithin, q1, q2, q3, g4, q5, b2i_f, b2i_t, one0, em, d0]
            try clear hF hF0 F
            exact bad hs _
          | true =>
            rw [q5, if_pos rfl] at hs
            obtain ⟨X, hX, rfl⟩ := isIn0 (B := 2) rfl q1
            have xx : (nI X).toNatClampNeg = X := tn127 (by omega)
            rw [xx] at hs
            clear bad
            refine goN go (stp [70]) 160 _ _ _ _ _ _ (fun F hF hF0 => ?_)
            simp only [hF, hF0, ite_not, i_push, i_iload, i_lload, i_aload, i_istore, i_astore, i_lstore, i_iinc, i_bin, i_dv, i_un, i_lbin, i_lsh, i_i2l, i_l2i, i_lcmp, i_dup, i_dup2, i_pop, i_if, i_icmp, i_goto, swG, i_sw, i_getf, i_puti, i_putz, i_putr, i_ald, i_lald, i_aald, i_ast, i_last, i_aast, i_alen, i_new, i_newi, i_newl, i_newq, i_oinit, i_ret, i_zret, i_lret, i_vret, catS, tk, rpush, isO, i_m1, i_m2, i_acopy, i_callV, i_callS, KRet, lget, lput, lputL, lcl0, isL, lv0, List.map_cons, List.map_nil, List.length_cons, List.length_nil, List.cons_append, List.nil_append, Nat.reduceAdd, Nat.reduceSub, Nat.reduceLeDiff, List.replicate_succ, List.replicate_zero, List.getElem?_cons_succ, List.getElem?_cons_zero, List.set_cons_succ, List.set_cons_zero, true_and, and_true, if_true, if_false, ↓reduceIte, Nat.le_refl, Value.category, va_up_app, eq_self, stp, Nat.reduceBEq, Bool.or_false, Bool.false_or, Bool.true_or, Bool.or_true, or_true, true_or, bx_uu, implies_true, true_implies, not_true, not_false_eq_true, false_implies, and_self, Nat.reduceLT, Int32.reduceAdd, Int32.reduceSub, Int32.reduceMul, Int32.reduceLE, Int32.reduceLT, Int32.reduceToNatClampNeg, va_rf_some, Bool.false_eq_true, k_X8_bounds_0 ca, k_X8_bounds_1 ca, k_X8_bounds_4 ca, k_X8_bounds_5 ca, k_X8_bounds_8 ca, k_X8_bounds_11 ca, k_X8_bounds_12 ca, k_X8_bounds_14 ca, k_X8_bounds_16 ca, k_X8_bounds_19 ca, k_X8_bounds_22 ca, k_X8_bounds_23 ca, k_X8_bounds_25 ca, k_X8_bounds_27 ca, k_X8_bounds_30 ca, k_X8_bounds_33 ca, k_X8_bounds_34 ca, k_X8_bounds_35 ca, k_X8_bounds_38 ca, k_X8_bounds_40 ca, k_X8_bounds_41 ca, k_X8_bounds_42 ca, k_X8_bounds_45 ca, k_X8_bounds_48 ca, k_X8_bounds_49 ca, k_X8_bounds_52 ca, k_X8_bounds_53 ca, k_X8_bounds_55 ca, k_X8_bounds_56 ca, k_X8_bounds_58 ca, k_X8_bounds_61 ca, k_X8_bounds_62 ca, k_X8_bounds_63 ca, k_X8_bounds_64 ca, k_X8_bounds_65 ca, k_X8_bounds_67 ca, k_X8_bounds_70 ca, k_X8_bounds_73 ca, k_X8_bounds_75 ca, k_X8_bounds_78 ca, sp_X8_isOne, sp_X7_isRoom, sp_X8_in, sp_X7_isWithin, q1, q2, q3, g4, q5, b2i_t, one0, em, d0]
            try clear hF hF0 F
            refine ⟨m, a 0, s, X, y, z, w, by omega, rfl, ⟨⟨_, em⟩, e0⟩, I.2 0, hW.k (by omega), ?_⟩
            refine goN go (stp [78]) 160 _ _ _ _ _ _ (fun F hF hF0 => ?_)
            simp only [hF, hF0, ite_not, i_push, i_iload, i_lload, i_aload, i_istore, i_astore, i_lstore, i_iinc, i_bin, i_dv, i_un, i_lbin, i_lsh, i_i2l, i_l2i, i_lcmp, i_dup, i_dup2, i_pop, i_if, i_icmp, i_goto, swG, i_sw, i_getf, i_puti, i_putz, i_putr, i_ald, i_lald, i_aald, i_ast, i_last, i_aast, i_alen, i_new, i_newi, i_newl, i_newq, i_oinit, i_ret, i_zret, i_lret, i_vret, catS, tk, rpush, isO, i_m1, i_m2, i_acopy, i_callV, i_callS, KRet, lget, lput, lputL, lcl0, isL, lv0, List.map_cons, List.map_nil, List.length_cons, List.length_nil, List.cons_append, List.nil_append, Nat.reduceAdd, Nat.reduceSub, Nat.reduceLeDiff, List.replicate_succ, List.replicate_zero, List.getElem?_cons_succ, List.getElem?_cons_zero, List.set_cons_succ, List.set_cons_zero, true_and, and_true, if_true, if_false, ↓reduceIte, Nat.le_refl, Value.category, va_up_app, eq_self, stp, Nat.reduceBEq, Bool.or_false, Bool.false_or, Bool.true_or, Bool.or_true, or_true, true_or, bx_uu, implies_true, true_implies, not_true, not_false_eq_true, false_implies, and_self, Nat.reduceLT, Int32.reduceAdd, Int32.reduceSub, Int32.reduceMul, Int32.reduceLE, Int32.reduceLT, Int32.reduceToNatClampNeg, va_rf_some, Bool.false_eq_true, k_X8_bounds_0 ca, k_X8_bounds_1 ca, k_X8_bounds_4 ca, k_X8_bounds_5 ca, k_X8_bounds_8 ca, k_X8_bounds_11 ca, k_X8_bounds_12 ca, k_X8_bounds_14 ca, k_X8_bounds_16 ca, k_X8_bounds_19 ca, k_X8_bounds_22 ca, k_X8_bounds_23 ca, k_X8_bounds_25 ca, k_X8_bounds_27 ca, k_X8_bounds_30 ca, k_X8_bounds_33 ca, k_X8_bounds_34 ca, k_X8_bounds_35 ca, k_X8_bounds_38 ca, k_X8_bounds_40 ca, k_X8_bounds_41 ca, k_X8_bounds_42 ca, k_X8_bounds_45 ca, k_X8_bounds_48 ca, k_X8_bounds_49 ca, k_X8_bounds_52 ca, k_X8_bounds_53 ca, k_X8_bounds_55 ca, k_X8_bounds_56 ca, k_X8_bounds_58 ca, k_X8_bounds_61 ca, k_X8_bounds_62 ca, k_X8_bounds_63 ca, k_X8_bounds_64 ca, k_X8_bounds_65 ca, k_X8_bounds_67 ca, k_X8_bounds_70 ca, k_X8_bounds_73 ca, k_X8_bounds_75 ca, k_X8_bounds_78 ca, em, d0]
            try clear hF hF0 F
            exact acted_R I ht (hR1.s0 I _) hg (hS1.tr (SmR.a (by decide) _)) Eq127.rf hs (fun h' => fin _ _ h')
        · rw [decide_eq_false q4, Bool.false_and, if_neg (by decide)] at hs
          have g4 : (z ≤ y) = True := eq_true (Int32.not_lt.mp q4)
          refine goN go (stp [78]) 160 _ _ _ _ _ _ (fun F hF hF0 => ?_)
          simp only [hF, hF0, ite_not, i_push, i_iload, i_lload, i_aload, i_istore, i_astore, i_lstore, i_iinc, i_bin, i_dv, i_un, i_lbin, i_lsh, i_i2l, i_l2i, i_lcmp, i_dup, i_dup2, i_pop, i_if, i_icmp, i_goto, swG, i_sw, i_getf, i_puti, i_putz, i_putr, i_ald, i_lald, i_aald, i_ast, i_last, i_aast, i_alen, i_new, i_newi, i_newl, i_newq, i_oinit, i_ret, i_zret, i_lret, i_vret, catS, tk, rpush, isO, i_m1, i_m2, i_acopy, i_callV, i_callS, KRet, lget, lput, lputL, lcl0, isL, lv0, List.map_cons, List.map_nil, List.length_cons, List.length_nil, List.cons_append, List.nil_append, Nat.reduceAdd, Nat.reduceSub, Nat.reduceLeDiff, List.replicate_succ, List.replicate_zero, List.getElem?_cons_succ, List.getElem?_cons_zero, List.set_cons_succ, List.set_cons_zero, true_and, and_true, if_true, if_false, ↓reduceIte, Nat.le_refl, Value.category, va_up_app, eq_self, stp, Nat.reduceBEq, Bool.or_false, Bool.false_or, Bool.true_or, Bool.or_true, or_true, true_or, bx_uu, implies_true, true_implies, not_true, not_false_eq_true, false_implies, and_self, Nat.reduceLT, Int32.reduceAdd, Int32.reduceSub, Int32.reduceMul, Int32.reduceLE, Int32.reduceLT, Int32.reduceToNatClampNeg, va_rf_some, Bool.false_eq_true, k_X8_bounds_0 ca, k_X8_bounds_1 ca, k_X8_bounds_4 ca, k_X8_bounds_5 ca, k_X8_bounds_8 ca, k_X8_bounds_11 ca, k_X8_bounds_12 ca, k_X8_bounds_14 ca, k_X8_bounds_16 ca, k_X8_bounds_19 ca, k_X8_bounds_22 ca, k_X8_bounds_23 ca, k_X8_bounds_25 ca, k_X8_bounds_27 ca, k_X8_bounds_30 ca, k_X8_bounds_33 ca, k_X8_bounds_34 ca, k_X8_bounds_35 ca, k_X8_bounds_38 ca, k_X8_bounds_40 ca, k_X8_bounds_41 ca, k_X8_bounds_42 ca, k_X8_bounds_45 ca, k_X8_bounds_48 ca, k_X8_bounds_49 ca, k_X8_bounds_52 ca, k_X8_bounds_53 ca, k_X8_bounds_55 ca, k_X8_bounds_56 ca, k_X8_bounds_58 ca, k_X8_bounds_61 ca, k_X8_bounds_62 ca, k_X8_bounds_63 ca, k_X8_bounds_64 ca, k_X8_bounds_65 ca, k_X8_bounds_67 ca, k_X8_bounds_70 ca, k_X8_bounds_73 ca, k_X8_bounds_75 ca, k_X8_bounds_78 ca, sp_X8_isOne, sp_X7_isRoom, sp_X8_in, sp_X7_isWithin, q1, q2, q3, g4, b2i_f, b2i_t, one0, em, d0]
          try clear hF hF0 F
          exact bad hs _
