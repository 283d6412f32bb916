/-! SnapStacks: cut, bounds, part, tick, read -/
def vCut (s : Nat → Int32) (x y : Int32) : Bool := isIn x 0 2 && (isIn y 1 8 && !(decide (nPt s x < y.toNatClampNeg)))
def sp_X7_cut (ca : Nat → ClassId) : SPEC := fun av h post => ∃ o b qh qa B x3 x4 x5 lk s oo ss S x y, av = [.ref o, .int x, .int y] ∧ DJ o b qh qa B ∧ CN ca h o b qh qa B x3 x4 x5 lk s oo ss S ∧ BoS s ∧ WfS s ∧ actC ca h o b qh qa B x3 x4 x5 s oo ss S post (vCut s x y) (aCut s x y) (upd s (10 + 32 * x.toNatClampNeg) (nI (nPt s x - y.toNatClampNeg)))
def k_X7_cut (ca : Nat → ClassId) : Nat → IT := fun pc => lk pc [(0, i_iload 1 1),
  (1, i_callS 1 0 0 0 0 (sp_X7_isRoom ca) 4),
  (4, i_if (fun x => x = 0) 17 7),
  (7, i_iload 2 8),
  (8, i_push (.int 1) 9),
  (9, i_push (.int 8) 11),
  (11, i_callS 3 0 0 0 0 (sp_X7_isWithin ca) 14),
  (14, i_if (fun x => ¬ x = 0) 20 17),
  (17, i_push (.int (-10000001)) 19),
  (19, i_ret),
  (20, i_aload 0 21),
  (21, i_getf 7 0 24),
  (24, i_getf 4 2 27),
  (27, i_iload 1 28),
  (28, i_aald (ca 6) 29),
  (29, i_astore 3 30),
  (30, i_aload 3 31),
  (31, i_getf 5 3 34),
  (34, i_iload 2 35),
  (35, i_icmp (fun x y => y ≤ x) 41 38),
  (38, i_push (.int (-10000002)) 40),
  (40, i_ret),
  (41, i_aload 0 42),
  (42, i_callV 7 0 0 0 0 0 (sp_X7_recordChange ca) 45),
  (45, i_aload 3 46),
  (46, i_dup 47),
  (47, i_getf 5 3 50),
  (50, i_iload 2 51),
  (51, i_bin (fun x y => x - y) 52),
  (52, i_puti 5 3 55),
  (55, i_aload 3 56),
  (56, i_getf 5 3 59),
  (59, i_ret)]
set_option maxRecDepth 20000 in
theorem t_X7_cut : Tb k_X7_cut yX7_cut cX7_cut 4 (some .int) 5 0 0 := by
  intro l D ca A p e s m args below meth c post X
  unfold k_X7_cut
  refine snd_cons (snd_iload_n X dX7_cut_0 rfl) ?_
  refine snd_cons (snd_callS X (ok_X7_isRoom l D ca) rfl rfl w_327 w_328 w_1 w_329 (by decide) (by decide) dX7_cut_1) ?_
  refine snd_cons (snd_if_eq X dX7_cut_4 (by decide)) ?_
  refine snd_cons (snd_iload_n X dX7_cut_7 rfl) ?_
  refine snd_cons (snd_iconst X dX7_cut_8 (by decide)) ?_
  refine snd_cons (snd_bipush X dX7_cut_9 (by decide)) ?_
  refine snd_cons (snd_callS X (ok_X7_isWithin l D ca) rfl rfl w_281 w_282 w_1 w_283 (by decide) (by decide) dX7_cut_11) ?_
  refine snd_cons (snd_if_ne X dX7_cut_14 (by decide)) ?_
  refine snd_cons (snd_ldc X w_284 dX7_cut_17) ?_
  refine snd_cons (snd_ret X dX7_cut_19) ?_
  refine snd_cons (snd_aload_n X dX7_cut_20 rfl) ?_
  refine snd_cons (snd_getf X Fk7 0 (by decide) w_250 dX7_cut_21) ?_
  refine snd_cons (snd_getf X Fk4 2 (by decide) w_128 dX7_cut_24) ?_
  refine snd_cons (snd_iload_n X dX7_cut_27 rfl) ?_
  refine snd_cons (snd_aaload X 6 rfl dX7_cut_28) ?_
  refine snd_cons (snd_astore_n X dX7_cut_29 rfl (by decide)) ?_
  refine snd_cons (snd_aload_n X dX7_cut_30 rfl) ?_
  refine snd_cons (snd_getf X Fk5 3 (by decide) w_42 dX7_cut_31) ?_
  refine snd_cons (snd_iload_n X dX7_cut_34 rfl) ?_
  refine snd_cons (snd_icmp_ge X dX7_cut_35 (by decide)) ?_
  refine snd_cons (snd_ldc X w_289 dX7_cut_38) ?_
  refine snd_cons (snd_ret X dX7_cut_40) ?_
  refine snd_cons (snd_aload_n X dX7_cut_41 rfl) ?_
  refine snd_cons (snd_callV X Fk7 (ok_X7_recordChange l D ca) rfl rfl w_474 w_476 wp_4 w_1 w_477 (by decide) (by decide) dX7_cut_42) ?_
  refine snd_cons (snd_aload_n X dX7_cut_45 rfl) ?_
  refine snd_cons (snd_dup X dX7_cut_46) ?_
  refine snd_cons (snd_getf X Fk5 3 (by decide) w_42 dX7_cut_47) ?_
  refine snd_cons (snd_iload_n X dX7_cut_50 rfl) ?_
  refine snd_cons (snd_isub X dX7_cut_51) ?_
  refine snd_cons (snd_puti X Fk5 3 (by decide) rfl rfl w_42 dX7_cut_52) ?_
  refine snd_cons (snd_aload_n X dX7_cut_55 rfl) ?_
  refine snd_cons (snd_getf X Fk5 3 (by decide) w_42 dX7_cut_56) ?_
  refine snd_cons (snd_ret X dX7_cut_59) ?_
  exact snd_nil
theorem k_X7_cut_0 (ca : Nat → ClassId) : k_X7_cut ca 0 = i_iload 1 1 := rfl
theorem k_X7_cut_1 (ca : Nat → ClassId) : k_X7_cut ca 1 = i_callS 1 0 0 0 0 (sp_X7_isRoom ca) 4 := rfl
theorem k_X7_cut_4 (ca : Nat → ClassId) : k_X7_cut ca 4 = i_if (fun x => x = 0) 17 7 := rfl
theorem k_X7_cut_7 (ca : Nat → ClassId) : k_X7_cut ca 7 = i_iload 2 8 := rfl
theorem k_X7_cut_8 (ca : Nat → ClassId) : k_X7_cut ca 8 = i_push (.int 1) 9 := rfl
theorem k_X7_cut_9 (ca : Nat → ClassId) : k_X7_cut ca 9 = i_push (.int 8) 11 := rfl
theorem k_X7_cut_11 (ca : Nat → ClassId) : k_X7_cut ca 11 = i_callS 3 0 0 0 0 (sp_X7_isWithin ca) 14 := rfl
theorem k_X7_cut_14 (ca : Nat → ClassId) : k_X7_cut ca 14 = i_if (fun x => ¬ x = 0) 20 17 := rfl
theorem k_X7_cut_17 (ca : Nat → ClassId) : k_X7_cut ca 17 = i_push (.int (-10000001)) 19 := rfl
theorem k_X7_cut_19 (ca : Nat → ClassId) : k_X7_cut ca 19 = i_ret := rfl
theorem k_X7_cut_20 (ca : Nat → ClassId) : k_X7_cut ca 20 = i_aload 0 21 := rfl
theorem k_X7_cut_21 (ca : Nat → ClassId) : k_X7_cut ca 21 = i_getf 7 0 24 := rfl
theorem k_X7_cut_24 (ca : Nat → ClassId) : k_X7_cut ca 24 = i_getf 4 2 27 := rfl
theorem k_X7_cut_27 (ca : Nat → ClassId) : k_X7_cut ca 27 = i_iload 1 28 := rfl
theorem k_X7_cut_28 (ca : Nat → ClassId) : k_X7_cut ca 28 = i_aald (ca 6) 29 := rfl
theorem k_X7_cut_29 (ca : Nat → ClassId) : k_X7_cut ca 29 = i_astore 3 30 := rfl
theorem k_X7_cut_30 (ca : Nat → ClassId) : k_X7_cut ca 30 = i_aload 3 31 := rfl
theorem k_X7_cut_31 (ca : Nat → ClassId) : k_X7_cut ca 31 = i_getf 5 3 34 := rfl
theorem k_X7_cut_34 (ca : Nat → ClassId) : k_X7_cut ca 34 = i_iload 2 35 := rfl
theorem k_X7_cut_35 (ca : Nat → ClassId) : k_X7_cut ca 35 = i_icmp (fun x y => y ≤ x) 41 38 := rfl
theorem k_X7_cut_38 (ca : Nat → ClassId) : k_X7_cut ca 38 = i_push (.int (-10000002)) 40 := rfl
theorem k_X7_cut_40 (ca : Nat → ClassId) : k_X7_cut ca 40 = i_ret := rfl
theorem k_X7_cut_41 (ca : Nat → ClassId) : k_X7_cut ca 41 = i_aload 0 42 := rfl
theorem k_X7_cut_42 (ca : Nat → ClassId) : k_X7_cut ca 42 = i_callV 7 0 0 0 0 0 (sp_X7_recordChange ca) 45 := rfl
theorem k_X7_cut_45 (ca : Nat → ClassId) : k_X7_cut ca 45 = i_aload 3 46 := rfl
theorem k_X7_cut_46 (ca : Nat → ClassId) : k_X7_cut ca 46 = i_dup 47 := rfl
theorem k_X7_cut_47 (ca : Nat → ClassId) : k_X7_cut ca 47 = i_getf 5 3 50 := rfl
theorem k_X7_cut_50 (ca : Nat → ClassId) : k_X7_cut ca 50 = i_iload 2 51 := rfl
theorem k_X7_cut_51 (ca : Nat → ClassId) : k_X7_cut ca 51 = i_bin (fun x y => x - y) 52 := rfl
theorem k_X7_cut_52 (ca : Nat → ClassId) : k_X7_cut ca 52 = i_puti 5 3 55 := rfl
theorem k_X7_cut_55 (ca : Nat → ClassId) : k_X7_cut ca 55 = i_aload 3 56 := rfl
theorem k_X7_cut_56 (ca : Nat → ClassId) : k_X7_cut ca 56 = i_getf 5 3 59 := rfl
theorem k_X7_cut_59 (ca : Nat → ClassId) : k_X7_cut ca 59 = i_ret := rfl
set_option maxHeartbeats 4000000 in
set_option maxRecDepth 20000 in
theorem ok_X7_cut (l : Launch) (D : va_G) (ca : Nat → ClassId) : OkAll l D ca yX7_cut cX7_cut 4 (some .int) 5 0 0 (sp_X7_cut ca) := by
  intro av h post hs
  obtain ⟨o, b, qh, qa, B, x3, x4, x5, lk, s, oo, ss, S, x, y, rfl, J, hC, hbo, hW, hs⟩ := hs
  have hb := J.1
  have c0 := hC.1
  unfold aCut vCut at hs
  refine okM_of t_X7_cut (by decide +kernel) (c1_ref (c1_int (c1_int c1_nil))) (Nat.le_of_ble_eq_true rfl) ?_
  intro K go
  cases q1 : isIn x 0 2 with
  | false =>
    rw [q1, if_neg (by decide)] at hs
    have k0 := hs.1 rfl
    refine goN go (stp []) 160 _ _ _ _ _ _ (fun F hF hF0 => ?_)
    simp only [hF, hF0, ite_not, i_push, i_iload, i_lload, i_aload, i_istore, i_astore, i_lstore, i_iinc, i_bin, i_dv, i_un, i_lbin, i_lsh, i_i2l, i_l2i, i_lcmp, i_dup, i_dup2, i_pop, i_if, i_icmp, i_goto, swG, i_sw, i_getf, i_puti, i_putz, i_putr, i_ald, i_lald, i_aald, i_ast, i_last, i_aast, i_alen, i_new, i_newi, i_newl, i_newq, i_oinit, i_ret, i_zret, i_lret, i_vret, catS, tk, rpush, isO, i_m1, i_m2, i_acopy, i_callV, i_callS, KRet, lget, lput, lputL, lcl0, isL, lv0, List.map_cons, List.map_nil, List.length_cons, List.length_nil, List.cons_append, List.nil_append, Nat.reduceAdd, Nat.reduceSub, Nat.reduceLeDiff, List.replicate_succ, List.replicate_zero, List.getElem?_cons_succ, List.getElem?_cons_zero, List.set_cons_succ, List.set_cons_zero, true_and, and_true, if_true, if_false, ↓reduceIte, Nat.le_refl, Value.category, va_up_app, eq_self, stp, Nat.reduceBEq, Bool.or_false, Bool.false_or, Bool.true_or, Bool.or_true, or_true, true_or, bx_uu, implies_true, true_implies, not_true, not_false_eq_true, false_implies, and_self, Nat.reduceLT, Int32.reduceAdd, Int32.reduceSub, Int32.reduceMul, Int32.reduceLE, Int32.reduceLT, Int32.reduceToNatClampNeg, va_rf_some, Bool.false_eq_true, k_X7_cut_0 ca, k_X7_cut_1 ca, k_X7_cut_4 ca, k_X7_cut_7 ca, k_X7_cut_8 ca, k_X7_cut_9 ca, k_X7_cut_11 ca, k_X7_cut_14 ca, k_X7_cut_17 ca, k_X7_cut_19 ca, k_X7_cut_20 ca, k_X7_cut_21 ca, k_X7_cut_24 ca, k_X7_cut_27 ca, k_X7_cut_28 ca, k_X7_cut_29 ca, k_X7_cut_30 ca, k_X7_cut_31 ca, k_X7_cut_34 ca, k_X7_cut_35 ca, k_X7_cut_38 ca, k_X7_cut_40 ca, k_X7_cut_41 ca, k_X7_cut_42 ca, k_X7_cut_45 ca, k_X7_cut_46 ca, k_X7_cut_47 ca, k_X7_cut_50 ca, k_X7_cut_51 ca, k_X7_cut_52 ca, k_X7_cut_55 ca, k_X7_cut_56 ca, k_X7_cut_59 ca, sp_X7_isRoom, q1, b2i_f]
    try clear hF hF0 F
    exact k0
  | true =>
    rw [q1, if_pos rfl, Bool.true_and] at hs
    cases q2 : isIn y 1 8 with
    | false =>
      rw [q2, if_neg (by decide)] at hs
      have k0 := hs.1 rfl
      refine goN go (stp []) 160 _ _ _ _ _ _ (fun F hF hF0 => ?_)
      simp only [hF, hF0, ite_not, i_push, i_iload, i_lload, i_aload, i_istore, i_astore, i_lstore, i_iinc, i_bin, i_dv, i_un, i_lbin, i_lsh, i_i2l, i_l2i, i_lcmp, i_dup, i_dup2, i_pop, i_if, i_icmp, i_goto, swG, i_sw, i_getf, i_puti, i_putz, i_putr, i_ald, i_lald, i_aald, i_ast, i_last, i_aast, i_alen, i_new, i_newi, i_newl, i_newq, i_oinit, i_ret, i_zret, i_lret, i_vret, catS, tk, rpush, isO, i_m1, i_m2, i_acopy, i_callV, i_callS, KRet, lget, lput, lputL, lcl0, isL, lv0, List.map_cons, List.map_nil, List.length_cons, List.length_nil, List.cons_append, List.nil_append, Nat.reduceAdd, Nat.reduceSub, Nat.reduceLeDiff, List.replicate_succ, List.replicate_zero, List.getElem?_cons_succ, List.getElem?_cons_zero, List.set_cons_succ, List.set_cons_zero, true_and, and_true, if_true, if_false, ↓reduceIte, Nat.le_refl, Value.category, va_up_app, eq_self, stp, Nat.reduceBEq, Bool.or_false, Bool.false_or, Bool.true_or, Bool.or_true, or_true, true_or, bx_uu, implies_true, true_implies, not_true, not_false_eq_true, false_implies, and_self, Nat.reduceLT, Int32.reduceAdd, Int32.reduceSub, Int32.reduceMul, Int32.reduceLE, Int32.reduceLT, Int32.reduceToNatClampNeg, va_rf_some, Bool.false_eq_true, k_X7_cut_0 ca, k_X7_cut_1 ca, k_X7_cut_4 ca, k_X7_cut_7 ca, k_X7_cut_8 ca, k_X7_cut_9 ca, k_X7_cut_11 ca, k_X7_cut_14 ca, k_X7_cut_17 ca, k_X7_cut_19 ca, k_X7_cut_20 ca, k_X7_cut_21 ca, k_X7_cut_24 ca, k_X7_cut_27 ca, k_X7_cut_28 ca, k_X7_cut_29 ca, k_X7_cut_30 ca, k_X7_cut_31 ca, k_X7_cut_34 ca, k_X7_cut_35 ca, k_X7_cut_38 ca, k_X7_cut_40 ca, k_X7_cut_41 ca, k_X7_cut_42 ca, k_X7_cut_45 ca, k_X7_cut_46 ca, k_X7_cut_47 ca, k_X7_cut_50 ca, k_X7_cut_51 ca, k_X7_cut_52 ca, k_X7_cut_55 ca, k_X7_cut_56 ca, k_X7_cut_59 ca, sp_X7_isRoom, sp_X7_isWithin, q1, q2, b2i_f, b2i_t, one0]
      try clear hF hF0 F
      exact k0
    | true =>
      rw [q2, if_pos rfl, Bool.true_and] at hs
      obtain ⟨X, hX, rfl⟩ := isIn0 (B := 2) rfl q1
      obtain ⟨Y, hY, rfl⟩ := isIn1 (B := 8) (by decide) rfl q2
      have xx : (nI X).toNatClampNeg = X := tn127 (by omega)
      have xy : (nI Y).toNatClampNeg = Y := tn127 (by omega)
      have vx := vp3 (k := X) (by omega)
      unfold nPt at hs
      rw [xx, xy] at hs
      obtain ⟨hN, hN8⟩ := (hW.k (k := X) (by omega)).n
      generalize hNN : (s (10 + 32 * X)).toNatClampNeg = N at *
      obtain ⟨z0, ⟨z3, z4, z5⟩, -⟩ := hC.2.1.c
      have z6 := z5 X (by omega)
      have z7 := hC.2.1.st (k := X) (by omega)
      rw [hN] at z7
      have ele : (nI Y ≤ nI N) = (Y ≤ N) := propext (nI_leI (by omega) (by omega))
      by_cases q3 : N < Y
      · rw [if_pos q3, decide_eq_true q3] at hs
        have k0 := hs.1 rfl
        have e3 : (Y ≤ N) = False := eq_false (by omega)
        refine goN go (stp []) 160 _ _ _ _ _ _ (fun F hF hF0 => ?_)
        simp only [hF, hF0, ite_not, i_push, i_iload, i_lload, i_aload, i_istore, i_astore, i_lstore, i_iinc, i_bin, i_dv, i_un, i_lbin, i_lsh, i_i2l, i_l2i, i_lcmp, i_dup, i_dup2, i_pop, i_if, i_icmp, i_goto, swG, i_sw, i_getf, i_puti, i_putz, i_putr, i_ald, i_lald, i_aald, i_ast, i_last, i_aast, i_alen, i_new, i_newi, i_newl, i_newq, i_oinit, i_ret, i_zret, i_lret, i_vret, catS, tk, rpush, isO, i_m1, i_m2, i_acopy, i_callV, i_callS, KRet, lget, lput, lputL, lcl0, isL, lv0, List.map_cons, List.map_nil, List.length_cons, List.length_nil, List.cons_append, List.nil_append, Nat.reduceAdd, Nat.reduceSub, Nat.reduceLeDiff, List.replicate_succ, List.replicate_zero, List.getElem?_cons_succ, List.getElem?_cons_zero, List.set_cons_succ, List.set_cons_zero, true_and, and_true, if_true, if_false, ↓reduceIte, Nat.le_refl, Value.category, va_up_app, eq_self, stp, Nat.reduceBEq, Bool.or_false, Bool.false_or, Bool.true_or, Bool.or_true, or_true, true_or, bx_uu, implies_true, true_implies, not_true, not_false_eq_true, false_implies, and_self, Nat.reduceLT, Int32.reduceAdd, Int32.reduceSub, Int32.reduceMul, Int32.reduceLE, Int32.reduceLT, Int32.reduceToNatClampNeg, va_rf_some, Bool.false_eq_true, k_X7_cut_0 ca, k_X7_cut_1 ca, k_X7_cut_4 ca, k_X7_cut_7 ca, k_X7_cut_8 ca, k_X7_cut_9 ca, k_X7_cut_11 ca, k_X7_cut_14 ca, k_X7_cut_17 ca, k_X7_cut_19 ca, k_X7_cut_20 ca, k_X7_cut_21 ca, k_X7_cut_24 ca, k_X7_cut_27 ca, k_X7_cut_28 ca, k_X7_cut_29 ca, k_X7_cut_30 ca, k_X7_cut_31 ca, k_X7_cut_34 ca, k_X7_cut_35 ca, k_X7_cut_38 ca, k_X7_cut_40 ca, k_X7_cut_41 ca, k_X7_cut_42 ca, k_X7_cut_45 ca, k_X7_cut_46 ca, k_X7_cut_47 ca, k_X7_cut_50 ca, k_X7_cut_51 ca, k_X7_cut_52 ca, k_X7_cut_55 ca, k_X7_cut_56 ca, k_X7_cut_59 ca, sp_X7_isRoom, sp_X7_isWithin, q1, q2, b2i_t, one0, c0, z0, z4, z6, z7, vx, xx, ele, e3]
        try clear hF hF0 F
        exact k0
      · rw [if_neg q3, decide_eq_false q3] at hs
        have e3 : (Y ≤ N) = True := eq_true (by omega)
        refine goN go (stp [45]) 160 _ _ _ _ _ _ (fun F hF hF0 => ?_)
        simp only [hF, hF0, ite_not, i_push, i_iload, i_lload, i_aload, i_istore, i_astore, i_lstore, i_iinc, i_bin, i_dv, i_un, i_lbin, i_lsh, i_i2l, i_l2i, i_lcmp, i_dup, i_dup2, i_pop, i_if, i_icmp, i_goto, swG, i_sw, i_getf, i_puti, i_putz, i_putr, i_ald, i_lald, i_aald, i_ast, i_last, i_aast, i_alen, i_new, i_newi, i_newl, i_newq, i_oinit, i_ret, i_zret, i_lret, i_vret, catS, tk, rpush, isO, i_m1, i_m2, i_acopy, i_callV, i_callS, KRet, lget, lput, lputL, lcl0, isL, lv0, List.map_cons, List.map_nil, List.length_cons, List.length_nil, List.cons_append, List.nil_append, Nat.reduceAdd, Nat.reduceSub, Nat.reduceLeDiff, List.replicate_succ, List.replicate_zero, List.getElem?_cons_succ, List.getElem?_cons_zero, List.set_cons_succ, List.set_cons_zero, true_and, and_true, if_true, if_false, ↓reduceIte, Nat.le_refl, Value.category, va_up_app, eq_self, stp, Nat.reduceBEq, Bool.or_false, Bool.false_or, Bool.true_or, Bool.or_true, or_true, true_or, bx_uu, implies_true, true_implies, not_true, not_false_eq_true, false_implies, and_self, Nat.reduceLT, Int32.reduceAdd, Int32.reduceSub, Int32.reduceMul, Int32.reduceLE, Int32.reduceLT, Int32.reduceToNatClampNeg, va_rf_some, Bool.false_eq_true, k_X7_cut_0 ca, k_X7_cut_1 ca, k_X7_cut_4 ca, k_X7_cut_7 ca, k_X7_cut_8 ca, k_X7_cut_9 ca, k_X7_cut_11 ca, k_X7_cut_14 ca, k_X7_cut_17 ca, k_X7_cut_19 ca, k_X7_cut_20 ca, k_X7_cut_21 ca, k_X7_cut_24 ca, k_X7_cut_27 ca, k_X7_cut_28 ca, k_X7_cut_29 ca, k_X7_cut_30 ca, k_X7_cut_31 ca, k_X7_cut_34 ca, k_X7_cut_35 ca, k_X7_cut_38 ca, k_X7_cut_40 ca, k_X7_cut_41 ca, k_X7_cut_42 ca, k_X7_cut_45 ca, k_X7_cut_46 ca, k_X7_cut_47 ca, k_X7_cut_50 ca, k_X7_cut_51 ca, k_X7_cut_52 ca, k_X7_cut_55 ca, k_X7_cut_56 ca, k_X7_cut_59 ca, sp_X7_isRoom, sp_X7_isWithin, q1, q2, b2i_t, one0, c0, z0, z4, z6, z7, vx, xx, ele, e3]
        try clear hF hF0 F
        refine rec_of J hC hbo (fun h1 hC1 hm1 => ?_)
        obtain ⟨d1, d2, -⟩ := id hC1
        have e7 := d2.st (k := X) (by omega)
        rw [hN] at e7
        have es := sub_nI (a := N) (b := Y) (by omega)
        have hS3 := d2.ssF hb (k := X) (F := upd s (10 + 32 * X) (nI (N - Y))) (by omega) (fun j hj => by rw [upd_app, if_neg (by omega)])
        have k0 := hs.2 rfl _ (hC1.now J hS3 (Same_up (by omega) _)) (hm1.tr (SmC.now (Same_up (by omega) _)))
        rw [show upd s (10 + 32 * X) (nI (N - Y)) (10 + 32 * X) = (nI (N - Y)) by rw [upd_app, if_pos rfl], show upd s (10 + 32 * X) (nI (N - Y)) (10 + 32 * X + 1) = s (10 + 32 * X + 1) by rw [upd_app, if_neg (by omega)], show upd s (10 + 32 * X) (nI (N - Y)) (10 + 32 * X + 2) = s (10 + 32 * X + 2) by rw [upd_app, if_neg (by omega)], show upd s (10 + 32 * X) (nI (N - Y)) (10 + 32 * X + 3) = s (10 + 32 * X + 3) by rw [upd_app, if_neg (by omega)], show upd s (10 + 32 * X) (nI (N - Y)) (10 + 32 * X + 5) = s (10 + 32 * X + 5) by rw [upd_app, if_neg (by omega)], show upd s (10 + 32 * X) (nI (N - Y)) (10 + 32 * X + 6) = s (10 + 32 * X + 6) by rw [upd_app, if_neg (by omega)], show upd s (10 + 32 * X) (nI (N - Y)) (10 + 32 * X + 7) = s (10 + 32 * X + 7) by rw [upd_app, if_neg (by omega)], show upd s (10 + 32 * X) (nI (N - Y)) (10 + 32 * X + 4) = s (10 + 32 * X + 4) by rw [upd_app, if_neg (by omega)]] at k0
        refine goN go (stp []) 160 _ _ _ _ _ _ (fun F hF hF0 => ?_)
        simp only [hF, hF0, ite_not, i_push, i_iload, i_lload, i_aload, i_istore, i_astore, i_lstore, i_iinc, i_bin, i_dv, i_un, i_lbin, i_lsh, i_i2l, i_l2i, i_lcmp, i_dup, i_dup2, i_pop, i_if, i_icmp, i_goto, swG, i_sw, i_getf, i_puti, i_putz, i_putr, i_ald, i_lald, i_aald, i_ast, i_last, i_aast, i_alen, i_new, i_newi, i_newl, i_newq, i_oinit, i_ret, i_zret, i_lret, i_vret, catS, tk, rpush, isO, i_m1, i_m2, i_acopy, i_callV, i_callS, KRet, lget, lput, lputL, lcl0, isL, lv0, List.map_cons, List.map_nil, List.length_cons, List.length_nil, List.cons_append, List.nil_append, Nat.reduceAdd, Nat.reduceSub, Nat.reduceLeDiff, List.replicate_succ, List.replicate_zero, List.getElem?_cons_succ, List.getElem?_cons_zero, List.set_cons_succ, List.set_cons_zero, true_and, and_true, if_true, if_false, ↓reduceIte, Nat.le_refl, Value.category, va_up_app, eq_self, stp, Nat.reduceBEq, Bool.or_false, Bool.false_or, Bool.true_or, Bool.or_true, or_true, true_or, bx_uu, implies_true, true_implies, not_true, not_false_eq_true, false_implies, and_self, Nat.reduceLT, Int32.reduceAdd, Int32.reduceSub, Int32.reduceMul, Int32.reduceLE, Int32.reduceLT, Int32.reduceToNatClampNeg, va_rf_some, Bool.false_eq_true, k_X7_cut_0 ca, k_X7_cut_1 ca, k_X7_cut_4 ca, k_X7_cut_7 ca, k_X7_cut_8 ca, k_X7_cut_9 ca, k_X7_cut_11 ca, k_X7_cut_14 ca, k_X7_cut_17 ca, k_X7_cut_19 ca, k_X7_cut_20 ca, k_X7_cut_21 ca, k_X7_cut_24 ca, k_X7_cut_27 ca, k_X7_cut_28 ca, k_X7_cut_29 ca, k_X7_cut_30 ca, k_X7_cut_31 ca, k_X7_cut_34 ca, k_X7_cut_35 ca, k_X7_cut_38 ca, k_X7_cut_40 ca, k_X7_cut_41 ca, k_X7_cut_42 ca, k_X7_cut_45 ca, k_X7_cut_46 ca, k_X7_cut_47 ca, k_X7_cut_50 ca, k_X7_cut_51 ca, k_X7_cut_52 ca, k_X7_cut_55 ca, k_X7_cut_56 ca, k_X7_cut_59 ca, e7, es]
        try clear hF hF0 F
        exact k0
theorem bndS_a {s : Nat → Int32} {k : Nat} {lo hi la : Int32} : bndS s k lo hi la (10 + 32 * k) = s (10 + 32 * k) ∧ bndS s k lo hi la (10 + 32 * k + 1) = lo ∧ bndS s k lo hi la (10 + 32 * k + 2) = hi ∧ bndS s k lo hi la (10 + 32 * k + 3) = la ∧ bndS s k lo hi la (10 + 32 * k + 4) = s (10 + 32 * k + 4) ∧ bndS s k lo hi la (10 + 32 * k + 5) = s (10 + 32 * k + 5) ∧ bndS s k lo hi la (10 + 32 * k + 6) = s (10 + 32 * k + 6) ∧ bndS s k lo hi la (10 + 32 * k + 7) = s (10 + 32 * k + 7) := by
  refine ⟨bndS_o (by omega), ?_, ?_, ?_, bndS_o (by omega), bndS_o (by omega), bndS_o (by omega), bndS_o (by omega)⟩
  · unfold bndS; rw [upd_app, if_neg (by omega), upd_app, if_neg (by omega), upd_app, if_pos rfl]
  · unfold bndS; rw [upd_app, if_neg (by omega), upd_app, if_pos rfl]
  · unfold bndS; rw [upd_app, if_pos rfl]
theorem WfS_cong {s t : Nat → Int32} (W : WfS s) (h0 : ∀ k, k < 3 → s (10 + 32 * k) = t (10 + 32 * k)) (h1 : ∀ k, k < 3 → ∀ i, i < 24 → s (10 + 32 * k + 8 + i) = t (10 + 32 * k + 8 + i)) (h2 : ∀ i, i < 6 → s i = t i) : WfS t := ⟨(rt_cong W.1 (h0 0 (by decide)) (h1 0 (by decide)) h2).2, (rt_cong W.2.1 (h0 1 (by decide)) (h1 1 (by decide)) h2).2, (rt_cong W.2.2 (h0 2 (by decide)) (h1 2 (by decide)) h2).2⟩
def sp_X7_bounds (ca : Nat → ClassId) : SPEC := fun av h post => ∃ o b qh qa B x3 x4 x5 lk s oo ss S x y z w, av = [.ref o, .int x, .int y, .int z, .int w] ∧ DJ o b qh qa B ∧ CN ca h o b qh qa B x3 x4 x5 lk s oo ss S ∧ BoS s ∧ WfS s ∧ actC ca h o b qh qa B x3 x4 x5 s oo ss S post (vBounds x y z w) (aBounds s x y z w) (bndS s x.toNatClampNeg y z w)
def k_X7_bounds (ca : Nat → ClassId) : Nat → IT := fun pc => lk pc [(0, i_iload 1 1),
  (1, i_callS 1 0 0 0 0 (sp_X7_isRoom ca) 4),
  (4, i_if (fun x => x = 0) 40 7),
  (7, i_iload 2 8),
  (8, i_push (.int (-90000)) 10),
  (10, i_push (.int 89999) 12),
  (12, i_callS 3 0 0 0 0 (sp_X7_isWithin ca) 15),
  (15, i_if (fun x => x = 0) 40 18),
  (18, i_iload 3 19),
  (19, i_iload 2 20),
  (20, i_push (.int 1) 21),
  (21, i_bin (fun x y => x + y) 22),
  (22, i_push (.int 90000) 24),
  (24, i_callS 3 0 0 0 0 (sp_X7_isWithin ca) 27),
  (27, i_if (fun x => x = 0) 40 30),
  (30, i_iload 4 32),
  (32, i_push (.int 0) 33),
  (33, i_push (.int 5) 34),
  (34, i_callS 3 0 0 0 0 (sp_X7_isWithin ca) 37),
  (37, i_if (fun x => ¬ x = 0) 43 40),
  (40, i_push (.int (-10000001)) 42),
  (42, i_ret),
  (43, i_aload 0 44),
  (44, i_callV 7 0 0 0 0 0 (sp_X7_recordChange ca) 47),
  (47, i_aload 0 48),
  (48, i_getf 7 0 51),
  (51, i_getf 4 2 54),
  (54, i_iload 1 55),
  (55, i_aald (ca 6) 56),
  (56, i_astore 5 58),
  (58, i_aload 5 60),
  (60, i_iload 2 61),
  (61, i_puti 5 4 64),
  (64, i_aload 5 66),
  (66, i_iload 3 67),
  (67, i_puti 5 5 70),
  (70, i_aload 5 72),
  (72, i_iload 4 74),
  (74, i_puti 5 6 77),
  (77, i_aload 0 78),
  (78, i_getf 7 0 81),
  (81, i_iload 1 82),
  (82, i_callV 4 1 0 0 0 0 (sp_X4_bendInRoom ca) 85),
  (85, i_ret)]
set_option maxRecDepth 20000 in
theorem t_X7_bounds : Tb k_X7_bounds yX7_bounds cX7_bounds 6 (some .int) 5 0 0 := by
  intro l D ca A p e s m args below meth c post X
  unfold k_X7_bounds
  refine snd_cons (snd_iload_n X dX7_bounds_0 rfl) ?_
  refine snd_cons (snd_callS X (ok_X7_isRoom l D ca) rfl rfl w_327 w_328 w_1 w_329 (by decide) (by decide) dX7_bounds_1) ?_
  refine snd_cons (snd_if_eq X dX7_bounds_4 (by decide)) ?_
  refine snd_cons (snd_iload_n X dX7_bounds_7 rfl) ?_
  refine snd_cons (snd_ldc X w_501 dX7_bounds_8) ?_
  refine snd_cons (snd_ldc X w_502 dX7_bounds_10) ?_
  refine snd_cons (snd_callS X (ok_X7_isWithin l D ca) rfl rfl w_281 w_282 w_1 w_283 (by decide) (by decide) dX7_bounds_12) ?_
  refine snd_cons (snd_if_eq X dX7_bounds_15 (by decide)) ?_
  refine snd_cons (snd_iload_n X dX7_bounds_18 rfl) ?_
  refine snd_cons (snd_iload_n X dX7_bounds_19 rfl) ?_
  refine snd_cons (snd_iconst X dX7_bounds_20 (by decide)) ?_
  refine snd_cons (snd_iadd X dX7_bounds_21) ?_
  refine snd_cons (snd_ldc X w_503 dX7_bounds_22) ?_
  refine snd_cons (snd_callS X (ok_X7_isWithin l D ca) rfl rfl w_281 w_282 w_1 w_283 (by decide) (by decide) dX7_bounds_24) ?_
  refine snd_cons (snd_if_eq X dX7_bounds_27 (by decide)) ?_
  refine snd_cons (snd_iload X dX7_bounds_30) ?_
  refine snd_cons (snd_iconst X dX7_bounds_32 (by decide)) ?_
  refine snd_cons (snd_iconst X dX7_bounds_33 (by decide)) ?_
  refine snd_cons (snd_callS X (ok_X7_isWithin l D ca) rfl rfl w_281 w_282 w_1 w_283 (by decide) (by decide) dX7_bounds_34) ?_
  refine snd_cons (snd_if_ne X dX7_bounds_37 (by decide)) ?_
  refine snd_cons (snd_ldc X w_284 dX7_bounds_40) ?_
  refine snd_cons (snd_ret X dX7_bounds_42) ?_
  refine snd_cons (snd_aload_n X dX7_bounds_43 rfl) ?_
  refine snd_cons (snd_callV X Fk7 (ok_X7_recordChange l D ca) rfl rfl w_474 w_476 wp_4 w_1 w_477 (by decide) (by decide) dX7_bounds_44) ?_
  refine snd_cons (snd_aload_n X dX7_bounds_47 rfl) ?_
  refine snd_cons (snd_getf X Fk7 0 (by decide) w_250 dX7_bounds_48) ?_
  refine snd_cons (snd_getf X Fk4 2 (by decide) w_128 dX7_bounds_51) ?_
  refine snd_cons (snd_iload_n X dX7_bounds_54 rfl) ?_
  refine snd_cons (snd_aaload X 6 rfl dX7_bounds_55) ?_
  refine snd_cons (snd_astore X dX7_bounds_56 (by decide)) ?_
  refine snd_cons (snd_aload X dX7_bounds_58) ?_
  refine snd_cons (snd_iload_n X dX7_bounds_60 rfl) ?_
  refine snd_cons (snd_puti X Fk5 4 (by decide) rfl rfl w_44 dX7_bounds_61) ?_
  refine snd_cons (snd_aload X dX7_bounds_64) ?_
  refine snd_cons (snd_iload_n X dX7_bounds_66 rfl) ?_
  refine snd_cons (snd_puti X Fk5 5 (by decide) rfl rfl w_46 dX7_bounds_67) ?_
  refine snd_cons (snd_aload X dX7_bounds_70) ?_
  refine snd_cons (snd_iload X dX7_bounds_72) ?_
  refine snd_cons (snd_puti X Fk5 6 (by decide) rfl rfl w_48 dX7_bounds_74) ?_
  refine snd_cons (snd_aload_n X dX7_bounds_77 rfl) ?_
  refine snd_cons (snd_getf X Fk7 0 (by decide) w_250 dX7_bounds_78) ?_
  refine snd_cons (snd_iload_n X dX7_bounds_81 rfl) ?_
  refine snd_cons (snd_callV X Fk4 (ok_X4_bendInRoom l D ca) rfl rfl w_342 w_343 w_344 w_2 w_345 (by decide) (by decide) dX7_bounds_82) ?_
  refine snd_cons (snd_ret X dX7_bounds_85) ?_
  exact snd_nil
theorem k_X7_bounds_0 (ca : Nat → ClassId) : k_X7_bounds ca 0 = i_iload 1 1 := rfl
theorem k_X7_bounds_1 (ca : Nat → ClassId) : k_X7_bounds ca 1 = i_callS 1 0 0 0 0 (sp_X7_isRoom ca) 4 := rfl
theorem k_X7_bounds_4 (ca : Nat → ClassId) : k_X7_bounds ca 4 = i_if (fun x => x = 0) 40 7 := rfl
theorem k_X7_bounds_7 (ca : Nat → ClassId) : k_X7_bounds ca 7 = i_iload 2 8 := rfl
theorem k_X7_bounds_8 (ca : Nat → ClassId) : k_X7_bounds ca 8 = i_push (.int (-90000)) 10 := rfl
theorem k_X7_bounds_10 (ca : Nat → ClassId) : k_X7_bounds ca 10 = i_push (.int 89999) 12 := rfl
theorem k_X7_bounds_12 (ca : Nat → ClassId) : k_X7_bounds ca 12 = i_callS 3 0 0 0 0 (sp_X7_isWithin ca) 15 := rfl
theorem k_X7_bounds_15 (ca : Nat → ClassId) : k_X7_bounds ca 15 = i_if (fun x => x = 0) 40 18 := rfl
theorem k_X7_bounds_18 (ca : Nat → ClassId) : k_X7_bounds ca 18 = i_iload 3 19 := rfl
theorem k_X7_bounds_19 (ca : Nat → ClassId) : k_X7_bounds ca 19 = i_iload 2 20 := rfl
theorem k_X7_bounds_20 (ca : Nat → ClassId) : k_X7_bounds ca 20 = i_push (.int 1) 21 := rfl
theorem k_X7_bounds_21 (ca : Nat → ClassId) : k_X7_bounds ca 21 = i_bin (fun x y => x + y) 22 := rfl
theorem k_X7_bounds_22 (ca : Nat → ClassId) : k_X7_bounds ca 22 = i_push (.int 90000) 24 := rfl
theorem k_X7_bounds_24 (ca : Nat → ClassId) : k_X7_bounds ca 24 = i_callS 3 0 0 0 0 (sp_X7_isWithin ca) 27 := rfl
theorem k_X7_bounds_27 (ca : Nat → ClassId) : k_X7_bounds ca 27 = i_if (fun x => x = 0) 40 30 := rfl
theorem k_X7_bounds_30 (ca : Nat → ClassId) : k_X7_bounds ca 30 = i_iload 4 32 := rfl
theorem k_X7_bounds_32 (ca : Nat → ClassId) : k_X7_bounds ca 32 = i_push (.int 0) 33 := rfl
theorem k_X7_bounds_33 (ca : Nat → ClassId) : k_X7_bounds ca 33 = i_push (.int 5) 34 := rfl
theorem k_X7_bounds_34 (ca : Nat → ClassId) : k_X7_bounds ca 34 = i_callS 3 0 0 0 0 (sp_X7_isWithin ca) 37 := rfl
theorem k_X7_bounds_37 (ca : Nat → ClassId) : k_X7_bounds ca 37 = i_if (fun x => ¬ x = 0) 43 40 := rfl
theorem k_X7_bounds_40 (ca : Nat → ClassId) : k_X7_bounds ca 40 = i_push (.int (-10000001)) 42 := rfl
theorem k_X7_bounds_42 (ca : Nat → ClassId) : k_X7_bounds ca 42 = i_ret := rfl
theorem k_X7_bounds_43 (ca : Nat → ClassId) : k_X7_bounds ca 43 = i_aload 0 44 := rfl
theorem k_X7_bounds_44 (ca : Nat → ClassId) : k_X7_bounds ca 44 = i_callV 7 0 0 0 0 0 (sp_X7_recordChange ca) 47 := rfl
theorem k_X7_bounds_47 (ca : Nat → ClassId) : k_X7_bounds ca 47 = i_aload 0 48 := rfl
theorem k_X7_bounds_48 (ca : Nat → ClassId) : k_X7_bounds ca 48 = i_getf 7 0 51 := rfl
theorem k_X7_bounds_51 (ca : Nat → ClassId) : k_X7_bounds ca 51 = i_getf 4 2 54 := rfl
theorem k_X7_bounds_54 (ca : Nat → ClassId) : k_X7_bounds ca 54 = i_iload 1 55 := rfl
theorem k_X7_bounds_55 (ca : Nat → ClassId) : k_X7_bounds ca 55 = i_aald (ca 6) 56 := rfl
theorem k_X7_bounds_56 (ca : Nat → ClassId) : k_X7_bounds ca 56 = i_astore 5 58 := rfl
theorem k_X7_bounds_58 (ca : Nat → ClassId) : k_X7_bounds ca 58 = i_aload 5 60 := rfl
theorem k_X7_bounds_60 (ca : Nat → ClassId) : k_X7_bounds ca 60 = i_iload 2 61 := rfl
theorem k_X7_bounds_61 (ca : Nat → ClassId) : k_X7_bounds ca 61 = i_puti 5 4 64 := rfl
theorem k_X7_bounds_64 (ca : Nat → ClassId) : k_X7_bounds ca 64 = i_aload 5 66 := rfl
theorem k_X7_bounds_66 (ca : Nat → ClassId) : k_X7_bounds ca 66 = i_iload 3 67 := rfl
theorem k_X7_bounds_67 (ca : Nat → ClassId) : k_X7_bounds ca 67 = i_puti 5 5 70 := rfl
theorem k_X7_bounds_70 (ca : Nat → ClassId) : k_X7_bounds ca 70 = i_aload 5 72 := rfl
theorem k_X7_bounds_72 (ca : Nat → ClassId) : k_X7_bounds ca 72 = i_iload 4 74 := rfl
theorem k_X7_bounds_74 (ca : Nat → ClassId) : k_X7_bounds ca 74 = i_puti 5 6 77 := rfl
theorem k_X7_bounds_77 (ca : Nat → ClassId) : k_X7_bounds ca 77 = i_aload 0 78 := rfl
theorem k_X7_bounds_78 (ca : Nat → ClassId) : k_X7_bounds ca 78 = i_getf 7 0 81 := rfl
theorem k_X7_bounds_81 (ca : Nat → ClassId) : k_X7_bounds ca 81 = i_iload 1 82 := rfl
theorem k_X7_bounds_82 (ca : Nat → ClassId) : k_X7_bounds ca 82 = i_callV 4 1 0 0 0 0 (sp_X4_bendInRoom ca) 85 := rfl
theorem k_X7_bounds_85 (ca : Nat → ClassId) : k_X7_bounds ca 85 = i_ret := rfl
set_option maxHeartbeats 4000000 in
set_option maxRecDepth 20000 in
theorem ok_X7_bounds (l : Launch) (D : va_G) (ca : Nat → ClassId) : OkAll l D ca yX7_bounds cX7_bounds 6 (some .int) 5 0 0 (sp_X7_bounds ca) := by
  intro av h post hs
  obtain ⟨o, b, qh, qa, B, x3, x4, x5, lk, s, oo, ss, S, x, y, z, w, rfl, J, hC, hbo, hW, hs⟩ := hs
  have hb := J.1
  have c0 := hC.1
  unfold aBounds vBounds at hs
  refine okM_of t_X7_bounds (by decide +kernel) (c1_ref (c1_int (c1_int (c1_int (c1_int c1_nil))))) (Nat.le_of_ble_eq_true rfl) ?_
  intro K go
  cases q1 : isIn x 0 2 with
  | false =>
    rw [q1, Bool.false_and, if_neg (by decide)] at hs
    have k0 := hs.1 rfl
    refine goN go (stp []) 160 _ _ _ _ _ _ (fun F hF hF0 => ?_)
    simp only [hF, hF0, ite_not, i_push, i_iload, i_lload, i_aload, i_istore, i_astore, i_lstore, i_iinc, i_bin, i_dv, i_un, i_lbin, i_lsh, i_i2l, i_l2i, i_lcmp, i_dup, i_dup2, i_pop, i_if, i_icmp, i_goto, swG, i_sw, i_getf, i_puti, i_putz, i_putr, i_ald, i_lald, i_aald, i_ast, i_last, i_aast, i_alen, i_new, i_newi, i_newl, i_newq, i_oinit, i_ret, i_zret, i_lret, i_vret, catS, tk, rpush, isO, i_m1, i_m2, i_acopy, i_callV, i_callS, KRet, lget, lput, lputL, lcl0, isL, lv0, List.map_cons, List.map_nil, List.length_cons, List.length_nil, List.cons_append, List.nil_append, Nat.reduceAdd, Nat.reduceSub, Nat.reduceLeDiff, List.replicate_succ, List.replicate_zero, List.getElem?_cons_succ, List.getElem?_cons_zero, List.set_cons_succ, List.set_cons_zero, true_and, and_true, if_true, if_false, ↓reduceIte, Nat.le_refl, Value.category, va_up_app, eq_self, stp, Nat.reduceBEq, Bool.or_false, Bool.false_or, Bool.true_or, Bool.or_true, or_true, true_or, bx_uu, implies_true, true_implies, not_true, not_false_eq_true, false_implies, and_self, Nat.reduceLT, Int32.reduceAdd, Int32.reduceSub, Int32.reduceMul, Int32.reduceLE, Int32.reduceLT, Int32.reduceToNatClampNeg, va_rf_some, Bool.false_eq_true, k_X7_bounds_0 ca, k_X7_bounds_1 ca, k_X7_bounds_4 ca, k_X7_bounds_7 ca, k_X7_bounds_8 ca, k_X7_bounds_10 ca, k_X7_bounds_12 ca, k_X7_bounds_15 ca, k_X7_bounds_18 ca, k_X7_bounds_19 ca, k_X7_bounds_20 ca, k_X7_bounds_21 ca, k_X7_bounds_22 ca, k_X7_bounds_24 ca, k_X7_bounds_27 ca, k_X7_bounds_30 ca, k_X7_bounds_32 ca, k_X7_bounds_33 ca, k_X7_bounds_34 ca, k_X7_bounds_37 ca, k_X7_bounds_40 ca, k_X7_bounds_42 ca, k_X7_bounds_43 ca, k_X7_bounds_44 ca, k_X7_bounds_47 ca, k_X7_bounds_48 ca, k_X7_bounds_51 ca, k_X7_bounds_54 ca, k_X7_bounds_55 ca, k_X7_bounds_56 ca, k_X7_bounds_58 ca, k_X7_bounds_60 ca, k_X7_bounds_61 ca, k_X7_bounds_64 ca, k_X7_bounds_66 ca, k_X7_bounds_67 ca, k_X7_bounds_70 ca, k_X7_bounds_72 ca, k_X7_bounds_74 ca, k_X7_bounds_77 ca, k_X7_bounds_78 ca, k_X7_bounds_81 ca, k_X7_bounds_82 ca, k_X7_bounds_85 ca, sp_X7_isRoom, q1, b2i_f]
    try clear hF hF0 F
    exact k0
  | true =>
    rw [q1, Bool.true_and] at hs
    cases q2 : isIn y (-90000) 89999 with
    | false =>
      rw [q2, Bool.false_and, if_neg (by decide)] at hs
      have k0 := hs.1 rfl
      refine goN go (stp []) 160 _ _ _ _ _ _ (fun F hF hF0 => ?_)
      simp only [hF, hF0, ite_not, i_push, i_iload, i_lload, i_aload, i_istore, i_astore, i_lstore, i_iinc, i_bin, i_dv, i_un, i_lbin, i_lsh, i_i2l, i_l2i, i_lcmp, i_dup, i_dup2, i_pop, i_if, i_icmp, i_goto, swG, i_sw, i_getf, i_puti, i_putz, i_putr, i_ald, i_lald, i_aald, i_ast, i_last, i_aast, i_alen, i_new, i_newi, i_newl, i_newq, i_oinit, i_ret, i_zret, i_lret, i_vret, catS, tk, rpush, isO, i_m1, i_m2, i_acopy, i_callV, i_callS, KRet, lget, lput, lputL, lcl0, isL, lv0, List.map_cons, List.map_nil, List.length_cons, List.length_nil, List.cons_append, List.nil_append, Nat.reduceAdd, Nat.reduceSub, Nat.reduceLeDiff, List.replicate_succ, List.replicate_zero, List.getElem?_cons_succ, List.getElem?_cons_zero, List.set_cons_succ, List.set_cons_zero, true_and, and_true, if_true, if_false, ↓reduceIte, Nat.le_refl, Value.category, va_up_app, eq_self, stp, Nat.reduceBEq, Bool.or_false, Bool.false_or, Bool.true_or, Bool.or_true, or_true, true_or, bx_uu, implies_true, true_implies, not_true, not_false_eq_true, false_implies, and_self, Nat.reduceLT, Int32.reduceAdd, Int32.reduceSub, Int32.reduceMul, Int32.reduceLE, Int32.reduceLT, Int32.reduceToNatClampNeg, va_rf_some, Bool.false_eq_true, k_X7_bounds_0 ca, k_X7_bounds_1 ca, k_X7_bounds_4 ca, k_X7_bounds_7 ca, k_X7_bounds_8 ca, k_X7_bounds_10 ca, k_X7_bounds_12 ca, k_X7_bounds_15 ca, k_X7_bounds_18 ca, k_X7_bounds_19 ca, k_X7_bounds_20 ca, k_X7_bounds_21 ca, k_X7_bounds_22 ca, k_X7_bounds_24 ca, k_X7_bounds_27 ca, k_X7_bounds_30 ca, k_X7_bounds_32 ca, k_X7_bounds_33 ca, k_X7_bounds_34 ca, k_X7_bounds_37 ca, k_X7_bounds_40 ca, k_X7_bounds_42 ca, k_X7_bounds_43 ca, k_X7_bounds_44 ca, k_X7_bounds_47 ca, k_X7_bounds_48 ca, k_X7_bounds_51 ca, k_X7_bounds_54 ca, k_X7_bounds_55 ca, k_X7_bounds_56 ca, k_X7_bounds_58 ca, k_X7_bounds_60 ca, k_X7_bounds_61 ca, k_X7_bounds_64 ca, k_X7_bounds_66 ca, k_X7_bounds_67 ca, k_X7_bounds_70 ca, k_X7_bounds_72 ca, k_X7_bounds_74 ca, k_X7_bounds_77 ca, k_X7_bounds_78 ca, k_X7_bounds_81 ca, k_X7_bounds_82 ca, k_X7_bounds_85 ca, sp_X7_isRoom, sp_X7_isWithin, q1, q2, b2i_f, b2i_t, one0]
      try clear hF hF0 F
      exact k0
    | true =>
      rw [q2, Bool.true_and] at hs
      cases q3 : isIn z (y + 1) 90000 with
      | false =>
        rw [q3, Bool.false_and, if_neg (by decide)] at hs
        have k0 := hs.1 rfl
        refine goN go (stp []) 160 _ _ _ _ _ _ (fun F hF hF0 => ?_)
        simp only [hF, hF0, ite_not, i_push, i_iload, i_lload, i_aload, i_istore, i_astore, i_lstore, i_iinc, i_bin, i_dv, i_un, i_lbin, i_lsh, i_i2l, i_l2i, i_lcmp, i_dup, i_dup2, i_pop, i_if, i_icmp, i_goto, swG, i_sw, i_getf, i_puti, i_putz, i_putr, i_ald, i_lald, i_aald, i_ast, i_last, i_aast, i_alen, i_new, i_newi, i_newl, i_newq, i_oinit, i_ret, i_zret, i_lret, i_vret, catS, tk, rpush, isO, i_m1, i_m2, i_acopy, i_callV, i_callS, KRet, lget, lput, lputL, lcl0, isL, lv0, List.map_cons, List.map_nil, List.length_cons, List.length_nil, List.cons_append, List.nil_append, Nat.reduceAdd, Nat.reduceSub, Nat.reduceLeDiff, List.replicate_succ, List.replicate_zero, List.getElem?_cons_succ, List.getElem?_cons_zero, List.set_cons_succ, List.set_cons_zero, true_and, and_true, if_true, if_false, ↓reduceIte, Nat.le_refl, Value.category, va_up_app, eq_self, stp, Nat.reduceBEq, Bool.or_false, Bool.false_or, Bool.true_or, Bool.or_true, or_true, true_or, bx_uu, implies_true, true_implies, not_true, not_false_eq_true, false_implies, and_self, Nat.reduceLT, Int32.reduceAdd, Int32.reduceSub, Int32.reduceMul, Int32.reduceLE, Int32.reduceLT, Int32.reduceToNatClampNeg, va_rf_some, Bool.false_eq_true, k_X7_bounds_0 ca, k_X7_bounds_1 ca, k_X7_bounds_4 ca, k_X7_bounds_7 ca, k_X7_bounds_8 ca, k_X7_bounds_10 ca, k_X7_bounds_12 ca, k_X7_bounds_15 ca, k_X7_bounds_18 ca, k_X7_bounds_19 ca, k_X7_bounds_20 ca, k_X7_bounds_21 ca, k_X7_bounds_22 ca, k_X7_bounds_24 ca, k_X7_bounds_27 ca, k_X7_bounds_30 ca, k_X7_bounds_32 ca, k_X7_bounds_33 ca, k_X7_bounds_34 ca, k_X7_bounds_37 ca, k_X7_bounds_40 ca, k_X7_bounds_42 ca, k_X7_bounds_43 ca, k_X7_bounds_44 ca, k_X7_bounds_47 ca, k_X7_bounds_48 ca, k_X7_bounds_51 ca, k_X7_bounds_54 ca, k_X7_bounds_55 ca, k_X7_bounds_56 ca, k_X7_bounds_58 ca, k_X7_bounds_60 ca, k_X7_bounds_61 ca, k_X7_bounds_64 ca, k_X7_bounds_66 ca, k_X7_bounds_67 ca, k_X7_bounds_70 ca, k_X7_bounds_72 ca, k_X7_bounds_74 ca, k_X7_bounds_77 ca, k_X7_bounds_78 ca, k_X7_bounds_81 ca, k_X7_bounds_82 ca, k_X7_bounds_85 ca, sp_X7_isRoom, sp_X7_isWithin, q1, q2, q3, b2i_f, b2i_t, one0]
        try clear hF hF0 F
        exact k0
      | true =>
        rw [q3, Bool.true_and] at hs
        cases q4 : isIn w 0 5 with
        | false =>
          rw [q4, if_neg (by decide)] at hs
          have k0 := hs.1 rfl
          refine goN go (stp []) 160 _ _ _ _ _ _ (fun F hF hF0 => ?_)
          simp only [hF, hF0, ite_not, i_push, i_iload, i_lload, i_aload, i_istore, i_astore, i_lstore, i_iinc, i_bin, i_dv, i_un, i_lbin, i_lsh, i_i2l, i_l2i, i_lcmp, i_dup, i_dup2, i_pop, i_if, i_icmp, i_goto, swG, i_sw, i_getf, i_puti, i_putz, i_putr, i_ald, i_lald, i_aald, i_ast, i_last, i_aast, i_alen, i_new, i_newi, i_newl, i_newq, i_oinit, i_ret, i_zret, i_lret, i_vret, catS, tk, rpush, isO, i_m1, i_m2, i_acopy, i_callV, i_callS, KRet, lget, lput, lputL, lcl0, isL, lv0, List.map_cons, List.map_nil, List.length_cons, List.length_nil, List.cons_append, List.nil_append, Nat.reduceAdd, Nat.reduceSub, Nat.reduceLeDiff, List.replicate_succ, List.replicate_zero, List.getElem?_cons_succ, List.getElem?_cons_zero, List.set_cons_succ, List.set_cons_zero, true_and, and_true, if_true, if_false, ↓reduceIte, Nat.le_refl, Value.category, va_up_app, eq_self, stp, Nat.reduceBEq, Bool.or_false, Bool.false_or, Bool.true_or, Bool.or_true, or_true, true_or, bx_uu, implies_true, true_implies, not_true, not_false_eq_true, false_implies, and_self, Nat.reduceLT, Int32.reduceAdd, Int32.reduceSub, Int32.reduceMul, Int32.reduceLE, Int32.reduceLT, Int32.reduceToNatClampNeg, va_rf_some, Bool.false_eq_true, k_X7_bounds_0 ca, k_X7_bounds_1 ca, k_X7_bounds_4 ca, k_X7_bounds_7 ca, k_X7_bounds_8 ca, k_X7_bounds_10 ca, k_X7_bounds_12 ca, k_X7_bounds_15 ca, k_X7_bounds_18 ca, k_X7_bounds_19 ca, k_X7_bounds_20 ca, k_X7_bounds_21 ca, k_X7_bounds_22 ca, k_X7_bounds_24 ca, k_X7_bounds_27 ca, k_X7_bounds_30 ca, k_X7_bounds_32 ca, k_X7_bounds_33 ca, k_X7_bounds_34 ca, k_X7_bounds_37 ca, k_X7_bounds_40 ca, k_X7_bounds_42 ca, k_X7_bounds_43 ca, k_X7_bounds_44 ca, k_X7_bounds_47 ca, k_X7_bounds_48 ca, k_X7_bounds_51 ca, k_X7_bounds_54 ca, k_X7_bounds_55 ca, k_X7_bounds_56 ca, k_X7_bounds_58 ca, k_X7_bounds_60 ca, k_X7_bounds_61 ca, k_X7_bounds_64 ca, k_X7_bounds_66 ca, k_X7_bounds_67 ca, k_X7_bounds_70 ca, k_X7_bounds_72 ca, k_X7_bounds_74 ca, k_X7_bounds_77 ca, k_X7_bounds_78 ca, k_X7_bounds_81 ca, k_X7_bounds_82 ca, k_X7_bounds_85 ca, sp_X7_isRoom, sp_X7_isWithin, q1, q2, q3, q4, b2i_f, b2i_t, one0]
          try clear hF hF0 F
          exact k0
        | true =>
          rw [q4, if_pos rfl] at hs
          obtain ⟨X, hX, rfl⟩ := isIn0 (B := 2) rfl q1
          have xx : (nI X).toNatClampNeg = X := tn127 (by omega)
          have vx := vp3 (k := X) (by omega)
          rw [xx] at hs
          refine goN go (stp [47]) 160 _ _ _ _ _ _ (fun F hF hF0 => ?_)
          simp only [hF, hF0, ite_not, i_push, i_iload, i_lload, i_aload, i_istore, i_astore, i_lstore, i_iinc, i_bin, i_dv, i_un, i_lbin, i_lsh, i_i2l, i_l2i, i_lcmp, i_dup, i_dup2, i_pop, i_if, i_icmp, i_goto, swG, i_sw, i_getf, i_puti, i_putz, i_putr, i_ald, i_lald, i_aald, i_ast, i_last, i_aast, i_alen, i_new, i_newi, i_newl, i_newq, i_oinit, i_ret, i_zret, i_lret, i_vret, catS, tk, rpush, isO, i_m1, i_m2, i_acopy, i_callV, i_callS, KRet, lget, lput, lputL, lcl0, isL, lv0, List.map_cons, List.map_nil, List.length_cons, List.length_nil, List.cons_append, List.nil_append, Nat.reduceAdd, Nat.reduceSub, Nat.reduceLeDiff, List.replicate_succ, List.replicate_zero, List.getElem?_cons_succ, List.getElem?_cons_zero, List.set_cons_succ, List.set_cons_zero, true_and, and_true, if_true, if_false, ↓reduceIte, Nat.le_refl, Value.category, va_up_app, eq_self, stp, Nat.reduceBEq, Bool.or_false, Bool.false_or, Bool.true_or, Bool.or_true, or_true, true_or, bx_uu, implies_true, true_implies, not_true, not_false_eq_true, false_implies, and_self, Nat.reduceLT, Int32.reduceAdd, Int32.reduceSub, Int32.reduceMul, Int32.reduceLE, Int32.reduceLT, Int32.reduceToNatClampNeg, va_rf_some, Bool.false_eq_true, k_X7_bounds_0 ca, k_X7_bounds_1 ca, k_X7_bounds_4 ca, k_X7_bounds_7 ca, k_X7_bounds_8 ca, k_X7_bounds_10 ca, k_X7_bounds_12 ca, k_X7_bounds_15 ca, k_X7_bounds_18 ca, k_X7_bounds_19 ca, k_X7_bounds_20 ca, k_X7_bounds_21 ca, k_X7_bounds_22 ca, k_X7_bounds_24 ca, k_X7_bounds_27 ca, k_X7_bounds_30 ca, k_X7_bounds_32 ca, k_X7_bounds_33 ca, k_X7_bounds_34 ca, k_X7_bounds_37 ca, k_X7_bounds_40 ca, k_X7_bounds_42 ca, k_X7_bounds_43 ca, k_X7_bounds_44 ca, k_X7_bounds_47 ca, k_X7_bounds_48 ca, k_X7_bounds_51 ca, k_X7_bounds_54 ca, k_X7_bounds_55 ca, k_X7_bounds_56 ca, k_X7_bounds_58 ca, k_X7_bounds_60 ca, k_X7_bounds_61 ca, k_X7_bounds_64 ca, k_X7_bounds_66 ca, k_X7_bounds_67 ca, k_X7_bounds_70 ca, k_X7_bounds_72 ca, k_X7_bounds_74 ca, k_X7_bounds_77 ca, k_X7_bounds_78 ca, k_X7_bounds_81 ca, k_X7_bounds_82 ca, k_X7_bounds_85 ca, sp_X7_isRoom, sp_X7_isWithin, q1, q2, q3, q4, b2i_t, one0, c0]
          try clear hF hF0 F
          refine rec_of J hC hbo (fun h1 hC1 hm1 => ?_)
          obtain ⟨d1, d2, -⟩ := id hC1
          obtain ⟨e0, ⟨f3, e4, e5⟩, -⟩ := d2.c
          have e6 := e5 X (by omega)
          have e7 := d2.st (k := X) (by omega)
          have hS3 := d2.ssF hb (k := X) (F := bndS s X y z w) (by omega) (fun j hj => bndS_o (by omega))
          have k0 := hs.2 rfl _ (hC1.now J hS3 (Same_up (by omega) _)) (hm1.tr (SmC.now (Same_up (by omega) _)))
          have hWF : WfS (bndS s X y z w) := WfS_cong hW (fun k hk => (bndS_o (by omega)).symm) (fun k hk i hi => (bndS_o (by omega)).symm) (fun i hi => (bndS_o (by omega)).symm)
          obtain ⟨g1, -⟩ := rt_cong (t := bndS s X y z w) (hW.k (k := X) (by omega)) (bndS_o (by omega)).symm (fun i hi => (bndS_o (by omega)).symm) (fun i hi => (bndS_o (by omega)).symm)
          have g2 : s (106 + 7 * X) = bndS s X y z w (106 + 7 * X) := (bndS_o (by omega)).symm
          rw [g1, g2] at k0
          obtain ⟨b0, b1, b2, b3, b4, b5, b6, b7⟩ := bndS_a (s := s) (k := X) (lo := y) (hi := z) (la := w)
          have d0 : (o = b (7 + 5 * X)) = False := eq_false (J.2.2.2.2.1 _ (by omega))
          have d00 : (b 0 = b (7 + 5 * X)) = False := bne hb (by omega)
          generalize bndS s X y z w = F at *
          rw [b0, b1, b2, b3, b4, b5, b6, b7] at hS3 k0
          refine goN go (stp [85]) 160 _ _ _ _ _ _ (fun F hF hF0 => ?_)
          simp only [hF, hF0, ite_not, i_push, i_iload, i_lload, i_aload, i_istore, i_astore, i_lstore, i_iinc, i_bin, i_dv, i_un, i_lbin, i_lsh, i_i2l, i_l2i, i_lcmp, i_dup, i_dup2, i_pop, i_if, i_icmp, i_goto, swG, i_sw, i_getf, i_puti, i_putz, i_putr, i_ald, i_lald, i_aald, i_ast, i_last, i_aast, i_alen, i_new, i_newi, i_newl, i_newq, i_oinit, i_ret, i_zret, i_lret, i_vret, catS, tk, rpush, isO, i_m1, i_m2, i_acopy, i_callV, i_callS, KRet, lget, lput, lputL, lcl0, isL, lv0, List.map_cons, List.map_nil, List.length_cons, List.length_nil, List.cons_append, List.nil_append, Nat.reduceAdd, Nat.reduceSub, Nat.reduceLeDiff, List.replicate_succ, List.replicate_zero, List.getElem?_cons_succ, List.getElem?_cons_zero, List.set_cons_succ, List.set_cons_zero, true_and, and_true, if_true, if_false, ↓reduceIte, Nat.le_refl, Value.category, va_up_app, eq_self, stp, Nat.reduceBEq, Bool.or_false, Bool.false_or, Bool.true_or, Bool.or_true, or_true, true_or, bx_uu, implies_true, true_implies, not_true, not_false_eq_true, false_implies, and_self, Nat.reduceLT, Int32.reduceAdd, Int32.reduceSub, Int32.reduceMul, Int32.reduceLE, Int32.reduceLT, Int32.reduceToNatClampNeg, va_rf_some, Bool.false_eq_true, k_X7_bounds_0 ca, k_X7_bounds_1 ca, k_X7_bounds_4 ca, k_X7_bounds_7 ca, k_X7_bounds_8 ca, k_X7_bounds_10 ca, k_X7_bounds_12 ca, k_X7_bounds_15 ca, k_X7_bounds_18 ca, k_X7_bounds_19 ca, k_X7_bounds_20 ca, k_X7_bounds_21 ca, k_X7_bounds_22 ca, k_X7_bounds_24 ca, k_X7_bounds_27 ca, k_X7_bounds_30 ca, k_X7_bounds_32 ca, k_X7_bounds_33 ca, k_X7_bounds_34 ca, k_X7_bounds_37 ca, k_X7_bounds_40 ca, k_X7_bounds_42 ca, k_X7_bounds_43 ca, k_X7_bounds_44 ca, k_X7_bounds_47 ca, k_X7_bounds_48 ca, k_X7_bounds_51 ca, k_X7_bounds_54 ca, k_X7_bounds_55 ca, k_X7_bounds_56 ca, k_X7_bounds_58 ca, k_X7_bounds_60 ca, k_X7_bounds_61 ca, k_X7_bounds_64 ca, k_X7_bounds_66 ca, k_X7_bounds_67 ca, k_X7_bounds_70 ca, k_X7_bounds_72 ca, k_X7_bounds_74 ca, k_X7_bounds_77 ca, k_X7_bounds_78 ca, k_X7_bounds_81 ca, k_X7_bounds_82 ca, k_X7_bounds_85 ca, d1, e0, e4, e6, e7, vx, xx, d0, d00]
          try clear hF hF0 F
          refine ⟨b, F, X, by omega, rfl, hS3, hWF, ?_⟩
          refine goN go (stp []) 160 _ _ _ _ _ _ (fun F hF hF0 => ?_)
          simp only [hF, hF0, ite_not, i_push, i_iload, i_lload, i_aload, i_istore, i_astore, i_lstore, i_iinc, i_bin, i_dv, i_un, i_lbin, i_lsh, i_i2l, i_l2i, i_lcmp, i_dup, i_dup2, i_pop, i_if, i_icmp, i_goto, swG, i_sw, i_getf, i_puti, i_putz, i_putr, i_ald, i_lald, i_aald, i_ast, i_last, i_aast, i_alen, i_new, i_newi, i_newl, i_newq, i_oinit, i_ret, i_zret, i_lret, i_vret, catS, tk, rpush, isO, i_m1, i_m2, i_acopy, i_callV, i_callS, KRet, lget, lput, lputL, lcl0, isL, lv0, List.map_cons, List.map_nil, List.length_cons, List.length_nil, List.cons_append, List.nil_append, Nat.reduceAdd, Nat.reduceSub, Nat.reduceLeDiff, List.replicate_succ, List.replicate_zero, List.getElem?_cons_succ, List.getElem?_cons_zero, List.set_cons_succ, List.set_cons_zero, true_and, and_true, if_true, if_false, ↓reduceIte, Nat.le_refl, Value.category, va_up_app, eq_self, stp, Nat.reduceBEq, Bool.or_false, Bool.false_or, Bool.true_or, Bool.or_true, or_true, true_or, bx_uu, implies_true, true_implies, not_true, not_false_eq_true, false_implies, and_self, Nat.reduceLT, Int32.reduceAdd, Int32.reduceSub, Int32.reduceMul, Int32.reduceLE, Int32.reduceLT, Int32.reduceToNatClampNeg, va_rf_some, Bool.false_eq_true, k_X7_bounds_0 ca, k_X7_bounds_1 ca, k_X7_bounds_4 ca, k_X7_bounds_7 ca, k_X7_bounds_8 ca, k_X7_bounds_10 ca, k_X7_bounds_12 ca, k_X7_bounds_15 ca, k_X7_bounds_18 ca, k_X7_bounds_19 ca, k_X7_bounds_20 ca, k_X7_bounds_21 ca, k_X7_bounds_22 ca, k_X7_bounds_24 ca, k_X7_bounds_27 ca, k_X7_bounds_30 ca, k_X7_bounds_32 ca, k_X7_bounds_33 ca, k_X7_bounds_34 ca, k_X7_bounds_37 ca, k_X7_bounds_40 ca, k_X7_bounds_42 ca, k_X7_bounds_43 ca, k_X7_bounds_44 ca, k_X7_bounds_47 ca, k_X7_bounds_48 ca, k_X7_bounds_51 ca, k_X7_bounds_54 ca, k_X7_bounds_55 ca, k_X7_bounds_56 ca, k_X7_bounds_58 ca, k_X7_bounds_60 ca, k_X7_bounds_61 ca, k_X7_bounds_64 ca, k_X7_bounds_66 ca, k_X7_bounds_67 ca, k_X7_bounds_70 ca, k_X7_bounds_72 ca, k_X7_bounds_74 ca, k_X7_bounds_77 ca, k_X7_bounds_78 ca, k_X7_bounds_81 ca, k_X7_bounds_82 ca, k_X7_bounds_85 ca]
          try clear hF hF0 F
          exact k0
section
variable {ca : Nat → ClassId} {h : PH} {b : Nat → Nat} {s fl fu fw : Nat → Int32} {k N : Nat} {x y z : Int32}
theorem fPart_o {j : Nat} (h : j < 10 + 32 * k ∨ (10 + 32 * k < j ∧ j < 18 + 32 * k) ∨ (18 + 32 * k ≤ j ∧ (j < 18 + 32 * k + 3 * N ∨ 18 + 32 * k + 3 * N + 3 ≤ j))) : fPart s k N x y z j = s j := by
  unfold fPart
  rw [upd_app, if_neg (by omega), upd_app, if_neg (by omega), upd_app, if_neg (by omega), upd_app, if_neg (by omega)]
theorem fPart_0 : fPart s k N x y z (10 + 32 * k) = nI (N + 1) := by unfold fPart; rw [upd_app, if_pos rfl]
theorem SAt.add (hb : Inj b) (hS : SAt ca h b s) (hk : k < 3) (hN : N < 8) (hl : h (b (8 + 5 * k)) = some (.inl (ca 0, 8, .inl fl))) (hu : h (b (9 + 5 * k)) = some (.inl (ca 0, 8, .inl fu))) (hw : h (b (10 + 5 * k)) = some (.inl (ca 0, 8, .inl fw))) :
    SAt ca (va_up (va_up (va_up (va_up h (b (8 + 5 * k)) (some (.inl (ca 0, 8, .inl (upd fl N x))))) (b (9 + 5 * k)) (some (.inl (ca 0, 8, .inl (upd fu N y))))) (b (10 + 5 * k)) (some (.inl (ca 0, 8, .inl (upd fw N z))))) (b (7 + 5 * k)) (some (.inr (5, [.ref (b (8 + 5 * k)), .ref (b (9 + 5 * k)), .ref (b (10 + 5 * k)), .int (nI (N + 1)), .int (s (10 + 32 * k + 1)), .int (s (10 + 32 * k + 2)), .int (s (10 + 32 * k + 3)), .int (s (10 + 32 * k + 5)), .int (s (10 + 32 * k + 6)), .int (s (10 + 32 * k + 7)), .int (s (10 + 32 * k + 4))])))) b (fPart s k N x y z) := by
  obtain ⟨⟨gl, l1, l2⟩, ⟨gu, u1, u2⟩, ⟨gw, w1, w2⟩⟩ := hS.pl hk
  rw [hl] at l1; cases l1
  rw [hu] at u1; cases u1
  rw [hw] at w1; cases w1
  have n1 := ne22 hb (i := 8 + 5 * k) (j := 9 + 5 * k) (by omega)
  have n2 := ne22 hb (i := 8 + 5 * k) (j := 10 + 5 * k) (by omega)
  have n3 := ne22 hb (i := 8 + 5 * k) (j := 7 + 5 * k) (by omega)
  have n4 := ne22 hb (i := 9 + 5 * k) (j := 10 + 5 * k) (by omega)
  have n5 := ne22 hb (i := 9 + 5 * k) (j := 7 + 5 * k) (by omega)
  have n6 := ne22 hb (i := 10 + 5 * k) (j := 7 + 5 * k) (by omega)
  refine SAt_cong (s := cpR s (fPart s k N x y z) (10 + 32 * k) 32) (hS.full hk (fun i hi hne => ?_) ⟨?_, ⟨upd fl N x, ?_, fun i hi => ?_⟩, ⟨upd fu N y, ?_, fun i hi => ?_⟩, ⟨upd fw N z, ?_, fun i hi => ?_⟩⟩) (fun j hj => ?_)
  · rw [va_up_ne _ _ (ne22 hb (by omega)), va_up_ne _ _ (ne22 hb (by omega)), va_up_ne _ _ (ne22 hb (by omega)), va_up_ne _ _ (ne22 hb (by omega))]
  · rw [va_up_self]
    show (_ : Option va_E) = some (.inr (5, [.ref (b (8 + 5 * k)), .ref (b (9 + 5 * k)), .ref (b (10 + 5 * k)), .int (fPart s k N x y z (10 + 32 * k + 0)), .int (fPart s k N x y z (10 + 32 * k + 1)), .int (fPart s k N x y z (10 + 32 * k + 2)), .int (fPart s k N x y z (10 + 32 * k + 3)), .int (fPart s k N x y z (10 + 32 * k + 5)), .int (fPart s k N x y z (10 + 32 * k + 6)), .int (fPart s k N x y z (10 + 32 * k + 7)), .int (fPart s k N x y z (10 + 32 * k + 4))]))
    rw [fPart_o (j := 10 + 32 * k + 1) (by omega), fPart_o (j := 10 + 32 * k + 2) (by omega), fPart_o (j := 10 + 32 * k + 3) (by omega), fPart_o (j := 10 + 32 * k + 5) (by omega), fPart_o (j := 10 + 32 * k + 6) (by omega), fPart_o (j := 10 + 32 * k + 7) (by omega), fPart_o (j := 10 + 32 * k + 4) (by omega), show fPart s k N x y z (10 + 32 * k + 0) = nI (N + 1) from fPart_0]
  · rw [va_up_ne _ _ n3, va_up_ne _ _ n2, va_up_ne _ _ n1, va_up_self]
  · show upd fl N x i = fPart s k N x y z (10 + 32 * k + (8 + 3 * i))
    rw [upd_app]
    by_cases q : i = N
    · rw [if_pos q, q]; unfold fPart; rw [upd_app, if_neg (by omega), upd_app, if_neg (by omega), upd_app, if_neg (by omega), upd_app, if_pos (by omega)]
    · rw [if_neg q, fPart_o (by omega)]; exact l2 i hi
  · rw [va_up_ne _ _ n5, va_up_ne _ _ n4, va_up_self]
  · show upd fu N y i = fPart s k N x y z (10 + 32 * k + (9 + 3 * i))
    rw [upd_app]
    by_cases q : i = N
    · rw [if_pos q, q]; unfold fPart; rw [upd_app, if_neg (by omega), upd_app, if_neg (by omega), upd_app, if_pos (by omega)]
    · rw [if_neg q, fPart_o (by omega)]; exact u2 i hi
  · rw [va_up_ne _ _ n6, va_up_self]
  · show upd fw N z i = fPart s k N x y z (10 + 32 * k + (10 + 3 * i))
    rw [upd_app]
    by_cases q : i = N
    · rw [if_pos q, q]; unfold fPart; rw [upd_app, if_neg (by omega), upd_app, if_pos (by omega)]
    · rw [if_neg q, fPart_o (by omega)]; exact w2 i hi
  · unfold cpR
    by_cases q : 10 + 32 * k ≤ j ∧ j < 10 + 32 * k + 32
    · rw [if_pos q]
    · rw [if_neg q, fPart_o (by omega)]
theorem Same_add {e1 e2 e3 e4 : Option va_E} (hk : k < 3) : Same b h (va_up (va_up (va_up (va_up h (b (8 + 5 * k)) e1) (b (9 + 5 * k)) e2) (b (10 + 5 * k)) e3) (b (7 + 5 * k)) e4) := Same_tr (Same_tr (Same_tr (Same_up (by omega) _) (Same_up (by omega) _)) (Same_up (by omega) _)) (Same_up (by omega) _)
end
def vPart (s : Nat → Int32) (x y z w : Int32) : Bool := isIn x 0 2 && (isIn y 1 9 && (isIn z 0 5 && (isIn w 0 5 && !(decide (nPt s x = 8)))))
def sp_X7_part (ca : Nat → ClassId) : SPEC := fun av h post => ∃ o b qh qa B x3 x4 x5 lk s oo ss S x y z w, av = [.ref o, .int x, .int y, .int z, .int w] ∧ DJ o b qh qa B ∧ CN ca h o b qh qa B x3 x4 x5 lk s oo ss S ∧ BoS s ∧ WfS s ∧ actC ca h o b qh qa B x3 x4 x5 s oo ss S post (vPart s x y z w) (aPart s x y z w) (fPart s x.toNatClampNeg (nPt s x) y z w)
def k_X7_part (ca : Nat → ClassId) : Nat → IT := fun pc => lk pc [(0, i_iload 1 1),
  (1, i_callS 1 0 0 0 0 (sp_X7_isRoom ca) 4),
  (4, i_if (fun x => x = 0) 36 7),
  (7, i_iload 2 8),
  (8, i_push (.int 1) 9),
  (9, i_push (.int 9) 11),
  (11, i_callS 3 0 0 0 0 (sp_X7_isWithin ca) 14),
  (14, i_if (fun x => x = 0) 36 17),
  (17, i_iload 3 18),
  (18, i_push (.int 0) 19),
  (19, i_push (.int 5) 20),
  (20, i_callS 3 0 0 0 0 (sp_X7_isWithin ca) 23),
  (23, i_if (fun x => x = 0) 36 26),
  (26, i_iload 4 28),
  (28, i_push (.int 0) 29),
  (29, i_push (.int 5) 30),
  (30, i_callS 3 0 0 0 0 (sp_X7_isWithin ca) 33),
  (33, i_if (fun x => ¬ x = 0) 39 36),
  (36, i_push (.int (-10000001)) 38),
  (38, i_ret),
  (39, i_aload 0 40),
  (40, i_getf 7 0 43),
  (43, i_getf 4 2 46),
  (46, i_iload 1 47),
  (47, i_aald (ca 6) 48),
  (48, i_astore 5 50),
  (50, i_aload 5 52),
  (52, i_getf 5 3 55),
  (55, i_push (.int 8) 57),
  (57, i_icmp (fun x y => x < y) 63 60),
  (60, i_push (.int (-10000003)) 62),
  (62, i_ret),
  (63, i_aload 0 64),
  (64, i_callV 7 0 0 0 0 0 (sp_X7_recordChange ca) 67),
  (67, i_aload 5 69),
  (69, i_iload 2 70),
  (70, i_iload 3 71),
  (71, i_iload 4 73),
  (73, i_callV 5 3 0 0 0 0 (sp_X5_addPart ca) 76),
  (76, i_aload 5 78),
  (78, i_getf 5 3 81),
  (81, i_ret)]
set_option maxRecDepth 20000 in
theorem t_X7_part : Tb k_X7_part yX7_part cX7_part 6 (some .int) 5 0 0 := by
  intro l D ca A p e s m args below meth c post X
  unfold k_X7_part
  refine snd_cons (snd_iload_n X dX7_part_0 rfl) ?_
  refine snd_cons (snd_callS X (ok_X7_isRoom l D ca) rfl rfl w_327 w_328 w_1 w_329 (by decide) (by decide) dX7_part_1) ?_
  refine snd_cons (snd_if_eq X dX7_part_4 (by decide)) ?_
  refine snd_cons (snd_iload_n X dX7_part_7 rfl) ?_
  refine snd_cons (snd_iconst X dX7_part_8 (by decide)) ?_
  refine snd_cons (snd_bipush X dX7_part_9 (by decide)) ?_
  refine snd_cons (snd_callS X (ok_X7_isWithin l D ca) rfl rfl w_281 w_282 w_1 w_283 (by decide) (by decide) dX7_part_11) ?_
  refine snd_cons (snd_if_eq X dX7_part_14 (by decide)) ?_
  refine snd_cons (snd_iload_n X dX7_part_17 rfl) ?_
  refine snd_cons (snd_iconst X dX7_part_18 (by decide)) ?_
  refine snd_cons (snd_iconst X dX7_part_19 (by decide)) ?_
  refine snd_cons (snd_callS X (ok_X7_isWithin l D ca) rfl rfl w_281 w_282 w_1 w_283 (by decide) (by decide) dX7_part_20) ?_
  refine snd_cons (snd_if_eq X dX7_part_23 (by decide)) ?_
  refine snd_cons (snd_iload X dX7_part_26) ?_
  refine snd_cons (snd_iconst X dX7_part_28 (by decide)) ?_
  refine snd_cons (snd_iconst X dX7_part_29 (by decide)) ?_
  refine snd_cons (snd_callS X (ok_X7_isWithin l D ca) rfl rfl w_281 w_282 w_1 w_283 (by decide) (by decide) dX7_part_30) ?_
  refine snd_cons (snd_if_ne X dX7_part_33 (by decide)) ?_
  refine snd_cons (snd_ldc X w_284 dX7_part_36) ?_
  refine snd_cons (snd_ret X dX7_part_38) ?_
  refine snd_cons (snd_aload_n X dX7_part_39 rfl) ?_
  refine snd_cons (snd_getf X Fk7 0 (by decide) w_250 dX7_part_40) ?_
  refine snd_cons (snd_getf X Fk4 2 (by decide) w_128 dX7_part_43) ?_
  refine snd_cons (snd_iload_n X dX7_part_46 rfl) ?_
  refine snd_cons (snd_aaload X 6 rfl dX7_part_47) ?_
  refine snd_cons (snd_astore X dX7_part_48 (by decide)) ?_
  refine snd_cons (snd_aload X dX7_part_50) ?_
  refine snd_cons (snd_getf X Fk5 3 (by decide) w_42 dX7_part_52) ?_
  refine snd_cons (snd_bipush X dX7_part_55 (by decide)) ?_
  refine snd_cons (snd_icmp_lt X dX7_part_57 (by decide)) ?_
  refine snd_cons (snd_ldc X w_473 dX7_part_60) ?_
  refine snd_cons (snd_ret X dX7_part_62) ?_
  refine snd_cons (snd_aload_n X dX7_part_63 rfl) ?_
  refine snd_cons (snd_callV X Fk7 (ok_X7_recordChange l D ca) rfl rfl w_474 w_476 wp_4 w_1 w_477 (by decide) (by decide) dX7_part_64) ?_
  refine snd_cons (snd_aload X dX7_part_67) ?_
  refine snd_cons (snd_iload_n X dX7_part_69 rfl) ?_
  refine snd_cons (snd_iload_n X dX7_part_70 rfl) ?_
  refine snd_cons (snd_iload X dX7_part_71) ?_
  refine snd_cons (snd_callV X Fk5 (ok_X5_addPart l D ca) rfl rfl w_482 w_483 w_484 w_3 w_485 (by decide) (by decide) dX7_part_73) ?_
  refine snd_cons (snd_aload X dX7_part_76) ?_
  refine snd_cons (snd_getf X Fk5 3 (by decide) w_42 dX7_part_78) ?_
  refine snd_cons (snd_ret X dX7_part_81) ?_
  exact snd_nil
theorem k_X7_part_0 (ca : Nat → ClassId) : k_X7_part ca 0 = i_iload 1 1 := rfl
theorem k_X7_part_1 (ca : Nat → ClassId) : k_X7_part ca 1 = i_callS 1 0 0 0 0 (sp_X7_isRoom ca) 4 := rfl
theorem k_X7_part_4 (ca : Nat → ClassId) : k_X7_part ca 4 = i_if (fun x => x = 0) 36 7 := rfl
theorem k_X7_part_7 (ca : Nat → ClassId) : k_X7_part ca 7 = i_iload 2 8 := rfl
theorem k_X7_part_8 (ca : Nat → ClassId) : k_X7_part ca 8 = i_push (.int 1) 9 := rfl
theorem k_X7_part_9 (ca : Nat → ClassId) : k_X7_part ca 9 = i_push (.int 9) 11 := rfl
theorem k_X7_part_11 (ca : Nat → ClassId) : k_X7_part ca 11 = i_callS 3 0 0 0 0 (sp_X7_isWithin ca) 14 := rfl
theorem k_X7_part_14 (ca : Nat → ClassId) : k_X7_part ca 14 = i_if (fun x => x = 0) 36 17 := rfl
theorem k_X7_part_17 (ca : Nat → ClassId) : k_X7_part ca 17 = i_iload 3 18 := rfl
theorem k_X7_part_18 (ca : Nat → ClassId) : k_X7_part ca 18 = i_push (.int 0) 19 := rfl
theorem k_X7_part_19 (ca : Nat → ClassId) : k_X7_part ca 19 = i_push (.int 5) 20 := rfl
theorem k_X7_part_20 (ca : Nat → ClassId) : k_X7_part ca 20 = i_callS 3 0 0 0 0 (sp_X7_isWithin ca) 23 := rfl
theorem k_X7_part_23 (ca : Nat → ClassId) : k_X7_part ca 23 = i_if (fun x => x = 0) 36 26 := rfl
theorem k_X7_part_26 (ca : Nat → ClassId) : k_X7_part ca 26 = i_iload 4 28 := rfl
theorem k_X7_part_28 (ca : Nat → ClassId) : k_X7_part ca 28 = i_push (.int 0) 29 := rfl
theorem k_X7_part_29 (ca : Nat → ClassId) : k_X7_part ca 29 = i_push (.int 5) 30 := rfl
theorem k_X7_part_30 (ca : Nat → ClassId) : k_X7_part ca 30 = i_callS 3 0 0 0 0 (sp_X7_isWithin ca) 33 := rfl
theorem k_X7_part_33 (ca : Nat → ClassId) : k_X7_part ca 33 = i_if (fun x => ¬ x = 0) 39 36 := rfl
theorem k_X7_part_36 (ca : Nat → ClassId) : k_X7_part ca 36 = i_push (.int (-10000001)) 38 := rfl
theorem k_X7_part_38 (ca : Nat → ClassId) : k_X7_part ca 38 = i_ret := rfl
theorem k_X7_part_39 (ca : Nat → ClassId) : k_X7_part ca 39 = i_aload 0 40 := rfl
theorem k_X7_part_40 (ca : Nat → ClassId) : k_X7_part ca 40 = i_getf 7 0 43 := rfl
theorem k_X7_part_43 (ca : Nat → ClassId) : k_X7_part ca 43 = i_getf 4 2 46 := rfl
theorem k_X7_part_46 (ca : Nat → ClassId) : k_X7_part ca 46 = i_iload 1 47 := rfl
theorem k_X7_part_47 (ca : Nat → ClassId) : k_X7_part ca 47 = i_aald (ca 6) 48 := rfl
theorem k_X7_part_48 (ca : Nat → ClassId) : k_X7_part ca 48 = i_astore 5 50 := rfl
theorem k_X7_part_50 (ca : Nat → ClassId) : k_X7_part ca 50 = i_aload 5 52 := rfl
theorem k_X7_part_52 (ca : Nat → ClassId) : k_X7_part ca 52 = i_getf 5 3 55 := rfl
theorem k_X7_part_55 (ca : Nat → ClassId) : k_X7_part ca 55 = i_push (.int 8) 57 := rfl
theorem k_X7_part_57 (ca : Nat → ClassId) : k_X7_part ca 57 = i_icmp (fun x y => x < y) 63 60 := rfl
theorem k_X7_part_60 (ca : Nat → ClassId) : k_X7_part ca 60 = i_push (.int (-10000003)) 62 := rfl
theorem k_X7_part_62 (ca : Nat → ClassId) : k_X7_part ca 62 = i_ret := rfl
theorem k_X7_part_63 (ca : Nat → ClassId) : k_X7_part ca 63 = i_aload 0 64 := rfl
theorem k_X7_part_64 (ca : Nat → ClassId) : k_X7_part ca 64 = i_callV 7 0 0 0 0 0 (sp_X7_recordChange ca) 67 := rfl
theorem k_X7_part_67 (ca : Nat → ClassId) : k_X7_part ca 67 = i_aload 5 69 := rfl
theorem k_X7_part_69 (ca : Nat → ClassId) : k_X7_part ca 69 = i_iload 2 70 := rfl
theorem k_X7_part_70 (ca : Nat → ClassId) : k_X7_part ca 70 = i_iload 3 71 := rfl
theorem k_X7_part_71 (ca : Nat → ClassId) : k_X7_part ca 71 = i_iload 4 73 := rfl
theorem k_X7_part_73 (ca : Nat → ClassId) : k_X7_part ca 73 = i_callV 5 3 0 0 0 0 (sp_X5_addPart ca) 76 := rfl
theorem k_X7_part_76 (ca : Nat → ClassId) : k_X7_part ca 76 = i_aload 5 78 := rfl
theorem k_X7_part_78 (ca : Nat → ClassId) : k_X7_part ca 78 = i_getf 5 3 81 := rfl
theorem k_X7_part_81 (ca : Nat → ClassId) : k_X7_part ca 81 = i_ret := rfl
set_option maxHeartbeats 4000000 in
set_option maxRecDepth 20000 in
theorem ok_X7_part (l : Launch) (D : va_G) (ca : Nat → ClassId) : OkAll l D ca yX7_part cX7_part 6 (some .int) 5 0 0 (sp_X7_part ca) := by
  intro av h post hs
  obtain ⟨o, b, qh, qa, B, x3, x4, x5, lk, s, oo, ss, S, x, y, z, w, rfl, J, hC, hbo, hW, hs⟩ := hs
  have hb := J.1
  have c0 := hC.1
  unfold aPart vPart at hs
  refine okM_of t_X7_part (by decide +kernel) (c1_ref (c1_int (c1_int (c1_int (c1_int c1_nil))))) (Nat.le_of_ble_eq_true rfl) ?_
  intro K go
  cases q1 : isIn x 0 2 with
  | false =>
    rw [q1, if_neg (by decide)] at hs
    have k0 := hs.1 rfl
    refine goN go (stp []) 160 _ _ _ _ _ _ (fun F hF hF0 => ?_)
    simp only [hF, hF0, ite_not, i_push, i_iload, i_lload, i_aload, i_istore, i_astore, i_lstore, i_iinc, i_bin, i_dv, i_un, i_lbin, i_lsh, i_i2l, i_l2i, i_lcmp, i_dup, i_dup2, i_pop, i_if, i_icmp, i_goto, swG, i_sw, i_getf, i_puti, i_putz, i_putr, i_ald, i_lald, i_aald, i_ast, i_last, i_aast, i_alen, i_new, i_newi, i_newl, i_newq, i_oinit, i_ret, i_zret, i_lret, i_vret, catS, tk, rpush, isO, i_m1, i_m2, i_acopy, i_callV, i_callS, KRet, lget, lput, lputL, lcl0, isL, lv0, List.map_cons, List.map_nil, List.length_cons, List.length_nil, List.cons_append, List.nil_append, Nat.reduceAdd, Nat.reduceSub, Nat.reduceLeDiff, List.replicate_succ, List.replicate_zero, List.getElem?_cons_succ, List.getElem?_cons_zero, List.set_cons_succ, List.set_cons_zero, true_and, and_true, if_true, if_false, ↓reduceIte, Nat.le_refl, Value.category, va_up_app, eq_self, stp, Nat.reduceBEq, Bool.or_false, Bool.false_or, Bool.true_or, Bool.or_true, or_true, true_or, bx_uu, implies_true, true_implies, not_true, not_false_eq_true, false_implies, and_self, Nat.reduceLT, Int32.reduceAdd, Int32.reduceSub, Int32.reduceMul, Int32.reduceLE, Int32.reduceLT, Int32.reduceToNatClampNeg, va_rf_some, Bool.false_eq_true, k_X7_part_0 ca, k_X7_part_1 ca, k_X7_part_4 ca, k_X7_part_7 ca, k_X7_part_8 ca, k_X7_part_9 ca, k_X7_part_11 ca, k_X7_part_14 ca, k_X7_part_17 ca, k_X7_part_18 ca, k_X7_part_19 ca, k_X7_part_20 ca, k_X7_part_23 ca, k_X7_part_26 ca, k_X7_part_28 ca, k_X7_part_29 ca, k_X7_part_30 ca, k_X7_part_33 ca, k_X7_part_36 ca, k_X7_part_38 ca, k_X7_part_39 ca, k_X7_part_40 ca, k_X7_part_43 ca, k_X7_part_46 ca, k_X7_part_47 ca, k_X7_part_48 ca, k_X7_part_50 ca, k_X7_part_52 ca, k_X7_part_55 ca, k_X7_part_57 ca, k_X7_part_60 ca, k_X7_part_62 ca, k_X7_part_63 ca, k_X7_part_64 ca, k_X7_part_67 ca, k_X7_part_69 ca, k_X7_part_70 ca, k_X7_part_71 ca, k_X7_part_73 ca, k_X7_part_76 ca, k_X7_part_78 ca, k_X7_part_81 ca, sp_X7_isRoom, q1, b2i_f]
    try clear hF hF0 F
    exact k0
  | true =>
    rw [q1, if_pos rfl, Bool.true_and] at hs
    cases q2 : isIn y 1 9 with
    | false =>
      rw [q2, if_neg (by decide)] at hs
      have k0 := hs.1 rfl
      refine goN go (stp []) 160 _ _ _ _ _ _ (fun F hF hF0 => ?_)
      simp only [hF, hF0, ite_not, i_push, i_iload, i_lload, i_aload, i_istore, i_astore, i_lstore, i_iinc, i_bin, i_dv, i_un, i_lbin, i_lsh, i_i2l, i_l2i, i_lcmp, i_dup, i_dup2, i_pop, i_if, i_icmp, i_goto, swG, i_sw, i_getf, i_puti, i_putz, i_putr, i_ald, i_lald, i_aald, i_ast, i_last, i_aast, i_alen, i_new, i_newi, i_newl, i_newq, i_oinit, i_ret, i_zret, i_lret, i_vret, catS, tk, rpush, isO, i_m1, i_m2, i_acopy, i_callV, i_callS, KRet, lget, lput, lputL, lcl0, isL, lv0, List.map_cons, List.map_nil, List.length_cons, List.length_nil, List.cons_append, List.nil_append, Nat.reduceAdd, Nat.reduceSub, Nat.reduceLeDiff, List.replicate_succ, List.replicate_zero, List.getElem?_cons_succ, List.getElem?_cons_zero, List.set_cons_succ, List.set_cons_zero, true_and, and_true, if_true, if_false, ↓reduceIte, Nat.le_refl, Value.category, va_up_app, eq_self, stp, Nat.reduceBEq, Bool.or_false, Bool.false_or, Bool.true_or, Bool.or_true, or_true, true_or, bx_uu, implies_true, true_implies, not_true, not_false_eq_true, false_implies, and_self, Nat.reduceLT, Int32.reduceAdd, Int32.reduceSub, Int32.reduceMul, Int32.reduceLE, Int32.reduceLT, Int32.reduceToNatClampNeg, va_rf_some, Bool.false_eq_true, k_X7_part_0 ca, k_X7_part_1 ca, k_X7_part_4 ca, k_X7_part_7 ca, k_X7_part_8 ca, k_X7_part_9 ca, k_X7_part_11 ca, k_X7_part_14 ca, k_X7_part_17 ca, k_X7_part_18 ca, k_X7_part_19 ca, k_X7_part_20 ca, k_X7_part_23 ca, k_X7_part_26 ca, k_X7_part_28 ca, k_X7_part_29 ca, k_X7_part_30 ca, k_X7_part_33 ca, k_X7_part_36 ca, k_X7_part_38 ca, k_X7_part_39 ca, k_X7_part_40 ca, k_X7_part_43 ca, k_X7_part_46 ca, k_X7_part_47 ca, k_X7_part_48 ca, k_X7_part_50 ca, k_X7_part_52 ca, k_X7_part_55 ca, k_X7_part_57 ca, k_X7_part_60 ca, k_X7_part_62 ca, k_X7_part_63 ca, k_X7_part_64 ca, k_X7_part_67 ca, k_X7_part_69 ca, k_X7_part_70 ca, k_X7_part_71 ca, k_X7_part_73 ca, k_X7_part_76 ca, k_X7_part_78 ca, k_X7_part_81 ca, sp_X7_isRoom, sp_X7_isWithin, q1, q2, b2i_f, b2i_t, one0]
      try clear hF hF0 F
      exact k0
    | true =>
      rw [q2, if_pos rfl, Bool.true_and] at hs
      cases q3 : isIn z 0 5 with
      | false =>
        rw [q3, if_neg (by decide)] at hs
        have k0 := hs.1 rfl
        refine goN go (stp []) 160 _ _ _ _ _ _ (fun F hF hF0 => ?_)
        simp only [hF, hF0, ite_not, i_push, i_iload, i_lload, i_aload, i_istore, i_astore, i_lstore, i_iinc, i_bin, i_dv, i_un, i_lbin, i_lsh, i_i2l, i_l2i, i_lcmp, i_dup, i_dup2, i_pop, i_if, i_icmp, i_goto, swG, i_sw, i_getf, i_puti, i_putz, i_putr, i_ald, i_lald, i_aald, i_ast, i_last, i_aast, i_alen, i_new, i_newi, i_newl, i_newq, i_oinit, i_ret, i_zret, i_lret, i_vret, catS, tk, rpush, isO, i_m1, i_m2, i_acopy, i_callV, i_callS, KRet, lget, lput, lputL, lcl0, isL, lv0, List.map_cons, List.map_nil, List.length_cons, List.length_nil, List.cons_append, List.nil_append, Nat.reduceAdd, Nat.reduceSub, Nat.reduceLeDiff, List.replicate_succ, List.replicate_zero, List.getElem?_cons_succ, List.getElem?_cons_zero, List.set_cons_succ, List.set_cons_zero, true_and, and_true, if_true, if_false, ↓reduceIte, Nat.le_refl, Value.category, va_up_app, eq_self, stp, Nat.reduceBEq, Bool.or_false, Bool.false_or, Bool.true_or, Bool.or_true, or_true, true_or, bx_uu, implies_true, true_implies, not_true, not_false_eq_true, false_implies, and_self, Nat.reduceLT, Int32.reduceAdd, Int32.reduceSub, Int32.reduceMul, Int32.reduceLE, Int32.reduceLT, Int32.reduceToNatClampNeg, va_rf_some, Bool.false_eq_true, k_X7_part_0 ca, k_X7_part_1 ca, k_X7_part_4 ca, k_X7_part_7 ca, k_X7_part_8 ca, k_X7_part_9 ca, k_X7_part_11 ca, k_X7_part_14 ca, k_X7_part_17 ca, k_X7_part_18 ca, k_X7_part_19 ca, k_X7_part_20 ca, k_X7_part_23 ca, k_X7_part_26 ca, k_X7_part_28 ca, k_X7_part_29 ca, k_X7_part_30 ca, k_X7_part_33 ca, k_X7_part_36 ca, k_X7_part_38 ca, k_X7_part_39 ca, k_X7_part_40 ca, k_X7_part_43 ca, k_X7_part_46 ca, k_X7_part_47 ca, k_X7_part_48 ca, k_X7_part_50 ca, k_X7_part_52 ca, k_X7_part_55 ca, k_X7_part_57 ca, k_X7_part_60 ca, k_X7_part_62 ca, k_X7_part_63 ca, k_X7_part_64 ca, k_X7_part_67 ca, k_X7_part_69 ca, k_X7_part_70 ca, k_X7_part_71 ca, k_X7_part_73 ca, k_X7_part_76 ca, k_X7_part_78 ca, k_X7_part_81 ca, sp_X7_isRoom, sp_X7_isWithin, q1, q2, q3, b2i_f, b2i_t, one0]
        try clear hF hF0 F
        exact k0
      | true =>
        rw [q3, if_pos rfl, Bool.true_and] at hs
        cases q4 : isIn w 0 5 with
        | false =>
          rw [q4, if_neg (by decide)] at hs
          have k0 := hs.1 rfl
          refine goN go (stp []) 160 _ _ _ _ _ _ (fun F hF hF0 => ?_)
          simp only [hF, hF0, ite_not, i_push, i_iload, i_lload, i_aload, i_istore, i_astore, i_lstore, i_iinc, i_bin, i_dv, i_un, i_lbin, i_lsh, i_i2l, i_l2i, i_lcmp, i_dup, i_dup2, i_pop, i_if, i_icmp, i_goto, swG, i_sw, i_getf, i_puti, i_putz, i_putr, i_ald, i_lald, i_aald, i_ast, i_last, i_aast, i_alen, i_new, i_newi, i_newl, i_newq, i_oinit, i_ret, i_zret, i_lret, i_vret, catS, tk, rpush, isO, i_m1, i_m2, i_acopy, i_callV, i_callS, KRet, lget, lput, lputL, lcl0, isL, lv0, List.map_cons, List.map_nil, List.length_cons, List.length_nil, List.cons_append, List.nil_append, Nat.reduceAdd, Nat.reduceSub, Nat.reduceLeDiff, List.replicate_succ, List.replicate_zero, List.getElem?_cons_succ, List.getElem?_cons_zero, List.set_cons_succ, List.set_cons_zero, true_and, and_true, if_true, if_false, ↓reduceIte, Nat.le_refl, Value.category, va_up_app, eq_self, stp, Nat.reduceBEq, Bool.or_false, Bool.false_or, Bool.true_or, Bool.or_true, or_true, true_or, bx_uu, implies_true, true_implies, not_true, not_false_eq_true, false_implies, and_self, Nat.reduceLT, Int32.reduceAdd, Int32.reduceSub, Int32.reduceMul, Int32.reduceLE, Int32.reduceLT, Int32.reduceToNatClampNeg, va_rf_some, Bool.false_eq_true, k_X7_part_0 ca, k_X7_part_1 ca, k_X7_part_4 ca, k_X7_part_7 ca, k_X7_part_8 ca, k_X7_part_9 ca, k_X7_part_11 ca, k_X7_part_14 ca, k_X7_part_17 ca, k_X7_part_18 ca, k_X7_part_19 ca, k_X7_part_20 ca, k_X7_part_23 ca, k_X7_part_26 ca, k_X7_part_28 ca, k_X7_part_29 ca, k_X7_part_30 ca, k_X7_part_33 ca, k_X7_part_36 ca, k_X7_part_38 ca, k_X7_part_39 ca, k_X7_part_40 ca, k_X7_part_43 ca, k_X7_part_46 ca, k_X7_part_47 ca, k_X7_part_48 ca, k_X7_part_50 ca, k_X7_part_52 ca, k_X7_part_55 ca, k_X7_part_57 ca, k_X7_part_60 ca, k_X7_part_62 ca, k_X7_part_63 ca, k_X7_part_64 ca, k_X7_part_67 ca, k_X7_part_69 ca, k_X7_part_70 ca, k_X7_part_71 ca, k_X7_part_73 ca, k_X7_part_76 ca, k_X7_part_78 ca, k_X7_part_81 ca, sp_X7_isRoom, sp_X7_isWithin, q1, q2, q3, q4, b2i_f, b2i_t, one0]
          try clear hF hF0 F
          exact k0
        | true =>
          rw [q4, if_pos rfl, Bool.true_and] at hs
          obtain ⟨X, hX, rfl⟩ := isIn0 (B := 2) rfl q1
          have xx : (nI X).toNatClampNeg = X := tn127 (by omega)
          have vx := vp3 (k := X) (by omega)
          unfold nPt at hs
          rw [xx] at hs
          obtain ⟨hN, hN8⟩ := (hW.k (k := X) (by omega)).n
          generalize hNN : (s (10 + 32 * X)).toNatClampNeg = N at *
          obtain ⟨z0, ⟨z3, z4, z5⟩, -⟩ := hC.2.1.c
          have z6 := z5 X (by omega)
          have z7 := hC.2.1.st (k := X) (by omega)
          rw [hN] at z7
          have elt : (nI N < 8) = (N < 8) := propext (nI_ltI (b := 8) (by omega) (by decide))
          by_cases q5 : N = 8
          · rw [if_pos q5, decide_eq_true q5] at hs
            have k0 := hs.1 rfl
            have e3 : (N < 8) = False := eq_false (by omega)
            refine goN go (stp []) 160 _ _ _ _ _ _ (fun F hF hF0 => ?_)
            simp only [hF, hF0, ite_not, i_push, i_iload, i_lload, i_aload, i_istore, i_astore, i_lstore, i_iinc, i_bin, i_dv, i_un, i_lbin, i_lsh, i_i2l, i_l2i, i_lcmp, i_dup, i_dup2, i_pop, i_if, i_icmp, i_goto, swG, i_sw, i_getf, i_puti, i_putz, i_putr, i_ald, i_lald, i_aald, i_ast, i_last, i_aast, i_alen, i_new, i_newi, i_newl, i_newq, i_oinit, i_ret, i_zret, i_lret, i_vret, catS, tk, rpush, isO, i_m1, i_m2, i_acopy, i_callV, i_callS, KRet, lget, lput, lputL, lcl0, isL, lv0, List.map_cons, List.map_nil, List.length_cons, List.length_nil, List.cons_append, List.nil_append, Nat.reduceAdd, Nat.reduceSub, Nat.reduceLeDiff, List.replicate_succ, List.replicate_zero, List.getElem?_cons_succ, List.getElem?_cons_zero, List.set_cons_succ, List.set_cons_zero, true_and, and_true, if_true, if_false, ↓reduceIte, Nat.le_refl, Value.category, va_up_app, eq_self, stp, Nat.reduceBEq, Bool.or_false, Bool.false_or, Bool.true_or, Bool.or_true, or_true, true_or, bx_uu, implies_true, true_implies, not_true, not_false_eq_true, false_implies, and_self, Nat.reduceLT, Int32.reduceAdd, Int32.reduceSub, Int32.reduceMul, Int32.reduceLE, Int32.reduceLT, Int32.reduceToNatClampNeg, va_rf_some, Bool.false_eq_true, k_X7_part_0 ca, k_X7_part_1 ca, k_X7_part_4 ca, k_X7_part_7 ca, k_X7_part_8 ca, k_X7_part_9 ca, k_X7_part_11 ca, k_X7_part_14 ca, k_X7_part_17 ca, k_X7_part_18 ca, k_X7_part_19 ca, k_X7_part_20 ca, k_X7_part_23 ca, k_X7_part_26 ca, k_X7_part_28 ca, k_X7_part_29 ca, k_X7_part_30 ca, k_X7_part_33 ca, k_X7_part_36 ca, k_X7_part_38 ca, k_X7_part_39 ca, k_X7_part_40 ca, k_X7_part_43 ca, k_X7_part_46 ca, k_X7_part_47 ca, k_X7_part_48 ca, k_X7_part_50 ca, k_X7_part_52 ca, k_X7_part_55 ca, k_X7_part_57 ca, k_X7_part_60 ca, k_X7_part_62 ca, k_X7_part_63 ca, k_X7_part_64 ca, k_X7_part_67 ca, k_X7_part_69 ca, k_X7_part_70 ca, k_X7_part_71 ca, k_X7_part_73 ca, k_X7_part_76 ca, k_X7_part_78 ca, k_X7_part_81 ca, sp_X7_isRoom, sp_X7_isWithin, q1, q2, q3, q4, b2i_t, one0, c0, z0, z4, z6, z7, vx, xx, elt, e3]
            try clear hF hF0 F
            exact k0
          · rw [if_neg q5, decide_eq_false q5] at hs
            have e3 : (N < 8) = True := eq_true (by omega)
            refine goN go (stp [67]) 160 _ _ _ _ _ _ (fun F hF hF0 => ?_)
            simp only [hF, hF0, ite_not, i_push, i_iload, i_lload, i_aload, i_istore, i_astore, i_lstore, i_iinc, i_bin, i_dv, i_un, i_lbin, i_lsh, i_i2l, i_l2i, i_lcmp, i_dup, i_dup2, i_pop, i_if, i_icmp, i_goto, swG, i_sw, i_getf, i_puti, i_putz, i_putr, i_ald, i_lald, i_aald, i_ast, i_last, i_aast, i_alen, i_new, i_newi, i_newl, i_newq, i_oinit, i_ret, i_zret, i_lret, i_vret, catS, tk, rpush, isO, i_m1, i_m2, i_acopy, i_callV, i_callS, KRet, lget, lput, lputL, lcl0, isL, lv0, List.map_cons, List.map_nil, List.length_cons, List.length_nil, List.cons_append, List.nil_append, Nat.reduceAdd, Nat.reduceSub, Nat.reduceLeDiff, List.replicate_succ, List.replicate_zero, List.getElem?_cons_succ, List.getElem?_cons_zero, List.set_cons_succ, List.set_cons_zero, true_and, and_true, if_true, if_false, ↓reduceIte, Nat.le_refl, Value.category, va_up_app, eq_self, stp, Nat.reduceBEq, Bool.or_false, Bool.false_or, Bool.true_or, Bool.or_true, or_true, true_or, bx_uu, implies_true, true_implies, not_true, not_false_eq_true, false_implies, and_self, Nat.reduceLT, Int32.reduceAdd, Int32.reduceSub, Int32.reduceMul, Int32.reduceLE, Int32.reduceLT, Int32.reduceToNatClampNeg, va_rf_some, Bool.false_eq_true, k_X7_part_0 ca, k_X7_part_1 ca, k_X7_part_4 ca, k_X7_part_7 ca, k_X7_part_8 ca, k_X7_part_9 ca, k_X7_part_11 ca, k_X7_part_14 ca, k_X7_part_17 ca, k_X7_part_18 ca, k_X7_part_19 ca, k_X7_part_20 ca, k_X7_part_23 ca, k_X7_part_26 ca, k_X7_part_28 ca, k_X7_part_29 ca, k_X7_part_30 ca, k_X7_part_33 ca, k_X7_part_36 ca, k_X7_part_38 ca, k_X7_part_39 ca, k_X7_part_40 ca, k_X7_part_43 ca, k_X7_part_46 ca, k_X7_part_47 ca, k_X7_part_48 ca, k_X7_part_50 ca, k_X7_part_52 ca, k_X7_part_55 ca, k_X7_part_57 ca, k_X7_part_60 ca, k_X7_part_62 ca, k_X7_part_63 ca, k_X7_part_64 ca, k_X7_part_67 ca, k_X7_part_69 ca, k_X7_part_70 ca, k_X7_part_71 ca, k_X7_part_73 ca, k_X7_part_76 ca, k_X7_part_78 ca, k_X7_part_81 ca, sp_X7_isRoom, sp_X7_isWithin, q1, q2, q3, q4, b2i_t, one0, c0, z0, z4, z6, z7, vx, xx, elt, e3]
            try clear hF hF0 F
            refine rec_of J hC hbo (fun h1 hC1 hm1 => ?_)
            obtain ⟨d1, d2, -⟩ := id hC1
            have e7 := d2.st (k := X) (by omega)
            rw [hN] at e7
            obtain ⟨⟨fl, l1, -⟩, ⟨fu, u1, -⟩, ⟨fw, w1, -⟩⟩ := d2.pl (k := X) (by omega)
            have hS3 := d2.add hb (k := X) (N := N) (x := y) (y := z) (z := w) (by omega) (by omega) l1 u1 w1
            have k0 := hs.2 rfl _ (hC1.now J hS3 (Same_add (by omega))) (hm1.tr (SmC.now (Same_add (by omega))))
            have m1 : (b (8 + 5 * X) = b (9 + 5 * X)) = False := bne hb (by omega)
            have m2 : (b (8 + 5 * X) = b (10 + 5 * X)) = False := bne hb (by omega)
            have m3 : (b (9 + 5 * X) = b (10 + 5 * X)) = False := bne hb (by omega)
            have m4 : (b (8 + 5 * X) = b (7 + 5 * X)) = False := bne hb (by omega)
            have m5 : (b (9 + 5 * X) = b (7 + 5 * X)) = False := bne hb (by omega)
            have m6 : (b (10 + 5 * X) = b (7 + 5 * X)) = False := bne hb (by omega)
            have p0 : (nI N < 0) = False := eq_false (nI_pos (by omega))
            have xn : (nI N).toNatClampNeg = N := nI_clamp (by omega)
            refine goN go (stp []) 160 _ _ _ _ _ _ (fun F hF hF0 => ?_)
            simp only [hF, hF0, ite_not, i_push, i_iload, i_lload, i_aload, i_istore, i_astore, i_lstore, i_iinc, i_bin, i_dv, i_un, i_lbin, i_lsh, i_i2l, i_l2i, i_lcmp, i_dup, i_dup2, i_pop, i_if, i_icmp, i_goto, swG, i_sw, i_getf, i_puti, i_putz, i_putr, i_ald, i_lald, i_aald, i_ast, i_last, i_aast, i_alen, i_new, i_newi, i_newl, i_newq, i_oinit, i_ret, i_zret, i_lret, i_vret, catS, tk, rpush, isO, i_m1, i_m2, i_acopy, i_callV, i_callS, KRet, lget, lput, lputL, lcl0, isL, lv0, List.map_cons, List.map_nil, List.length_cons, List.length_nil, List.cons_append, List.nil_append, Nat.reduceAdd, Nat.reduceSub, Nat.reduceLeDiff, List.replicate_succ, List.replicate_zero, List.getElem?_cons_succ, List.getElem?_cons_zero, List.set_cons_succ, List.set_cons_zero, true_and, and_true, if_true, if_false, ↓reduceIte, Nat.le_refl, Value.category, va_up_app, eq_self, stp, Nat.reduceBEq, Bool.or_false, Bool.false_or, Bool.true_or, Bool.or_true, or_true, true_or, bx_uu, implies_true, true_implies, not_true, not_false_eq_true, false_implies, and_self, Nat.reduceLT, Int32.reduceAdd, Int32.reduceSub, Int32.reduceMul, Int32.reduceLE, Int32.reduceLT, Int32.reduceToNatClampNeg, va_rf_some, Bool.false_eq_true, k_X7_part_0 ca, k_X7_part_1 ca, k_X7_part_4 ca, k_X7_part_7 ca, k_X7_part_8 ca, k_X7_part_9 ca, k_X7_part_11 ca, k_X7_part_14 ca, k_X7_part_17 ca, k_X7_part_18 ca, k_X7_part_19 ca, k_X7_part_20 ca, k_X7_part_23 ca, k_X7_part_26 ca, k_X7_part_28 ca, k_X7_part_29 ca, k_X7_part_30 ca, k_X7_part_33 ca, k_X7_part_36 ca, k_X7_part_38 ca, k_X7_part_39 ca, k_X7_part_40 ca, k_X7_part_43 ca, k_X7_part_46 ca, k_X7_part_47 ca, k_X7_part_48 ca, k_X7_part_50 ca, k_X7_part_52 ca, k_X7_part_55 ca, k_X7_part_57 ca, k_X7_part_60 ca, k_X7_part_62 ca, k_X7_part_63 ca, k_X7_part_64 ca, k_X7_part_67 ca, k_X7_part_69 ca, k_X7_part_70 ca, k_X7_part_71 ca, k_X7_part_73 ca, k_X7_part_76 ca, k_X7_part_78 ca, k_X7_part_81 ca, e7, l1, u1, w1, sp_X5_addPart, p0, elt, e3, xn, m1, m2, m3, m4, m5, m6, a_1]
            try clear hF hF0 F
            exact k0
def tkD (s r : Nat → Int32) : Nat → Nat → Int32
  | 0 => s
  | n + 1 => tkS (tkD s r n) r
def tkE (s r : Nat → Int32) : Nat → Int32
  | 0 => 0
  | n + 1 => tkE s r n + tkN (tkD s r n) r
def aTickC (s : Nat → Int32) (x : Int32) : Int32 := if isIn x 1 200 = true then tkE s (rts s) x.toNatClampNeg else -10000001
def sp_X7_tick (ca : Nat → ClassId) : SPEC := fun av h post => ∃ o b qh qa B x3 x4 x5 lk s oo ss S x, av = [.ref o, .int x] ∧ DJ o b qh qa B ∧ CN ca h o b qh qa B x3 x4 x5 lk s oo ss S ∧ BoS s ∧ WfS s ∧ actC ca h o b qh qa B x3 x4 x5 s oo ss S post (isIn x 1 200) (aTickC s x) (tkD s (rts s) x.toNatClampNeg)
def k_X7_tick (ca : Nat → ClassId) : Nat → IT := fun pc => lk pc [(0, i_iload 1 1),
  (1, i_push (.int 1) 2),
  (2, i_push (.int 200) 5),
  (5, i_callS 3 0 0 0 0 (sp_X7_isWithin ca) 8),
  (8, i_if (fun x => ¬ x = 0) 14 11),
  (11, i_push (.int (-10000001)) 13),
  (13, i_ret),
  (14, i_aload 0 15),
  (15, i_callV 7 0 0 0 0 0 (sp_X7_recordChange ca) 18),
  (18, i_aload 0 19),
  (19, i_getf 7 0 22),
  (22, i_callV 4 0 0 0 0 0 (sp_X4_sumRates ca) 25),
  (25, i_push (.int 0) 26),
  (26, i_istore 2 27),
  (27, i_push (.int 0) 28),
  (28, i_istore 3 29),
  (29, i_iload 3 30),
  (30, i_iload 1 31),
  (31, i_icmp (fun x y => y ≤ x) 50 34),
  (34, i_iload 2 35),
  (35, i_aload 0 36),
  (36, i_getf 7 0 39),
  (39, i_callV 4 0 0 0 0 0 (sp_X4_passTick ca) 42),
  (42, i_bin (fun x y => x + y) 43),
  (43, i_istore 2 44),
  (44, i_iinc 3 1 47),
  (47, i_goto 29),
  (50, i_iload 2 51),
  (51, i_ret)]
set_option maxRecDepth 20000 in
theorem t_X7_tick : Tb k_X7_tick yX7_tick cX7_tick 4 (some .int) 5 0 0 := by
  intro l D ca A p e s m args below meth c post X
  unfold k_X7_tick
  refine snd_cons (snd_iload_n X dX7_tick_0 rfl) ?_
  refine snd_cons (snd_iconst X dX7_tick_1 (by decide)) ?_
  refine snd_cons (snd_sipush X dX7_tick_2 (by decide)) ?_
  refine snd_cons (snd_callS X (ok_X7_isWithin l D ca) rfl rfl w_281 w_282 w_1 w_283 (by decide) (by decide) dX7_tick_5) ?_
  refine snd_cons (snd_if_ne X dX7_tick_8 (by decide)) ?_
  refine snd_cons (snd_ldc X w_284 dX7_tick_11) ?_
  refine snd_cons (snd_ret X dX7_tick_13) ?_
  refine snd_cons (snd_aload_n X dX7_tick_14 rfl) ?_
  refine snd_cons (snd_callV X Fk7 (ok_X7_recordChange l D ca) rfl rfl w_474 w_476 wp_4 w_1 w_477 (by decide) (by decide) dX7_tick_15) ?_
  refine snd_cons (snd_aload_n X dX7_tick_18 rfl) ?_
  refine snd_cons (snd_getf X Fk7 0 (by decide) w_250 dX7_tick_19) ?_
  refine snd_cons (snd_callV X Fk4 (ok_X4_sumRates l D ca) rfl rfl w_539 w_408 w_409 w_2 w_410 (by decide) (by decide) dX7_tick_22) ?_
  refine snd_cons (snd_iconst X dX7_tick_25 (by decide)) ?_
  refine snd_cons (snd_istore_n X dX7_tick_26 rfl (by decide)) ?_
  refine snd_cons (snd_iconst X dX7_tick_27 (by decide)) ?_
  refine snd_cons (snd_istore_n X dX7_tick_28 rfl (by decide)) ?_
  refine snd_cons (snd_iload_n X dX7_tick_29 rfl) ?_
  refine snd_cons (snd_iload_n X dX7_tick_30 rfl) ?_
  refine snd_cons (snd_icmp_ge X dX7_tick_31 (by decide)) ?_
  refine snd_cons (snd_iload_n X dX7_tick_34 rfl) ?_
  refine snd_cons (snd_aload_n X dX7_tick_35 rfl) ?_
  refine snd_cons (snd_getf X Fk7 0 (by decide) w_250 dX7_tick_36) ?_
  refine snd_cons (snd_callV X Fk4 (ok_X4_passTick l D ca) rfl rfl w_540 w_426 w_427 w_2 w_428 (by decide) (by decide) dX7_tick_39) ?_
  refine snd_cons (snd_iadd X dX7_tick_42) ?_
  refine snd_cons (snd_istore_n X dX7_tick_43 rfl (by decide)) ?_
  refine snd_cons (snd_iinc X dX7_tick_44 (by decide) (by decide)) ?_
  refine snd_cons (snd_goto X dX7_tick_47 (by decide)) ?_
  refine snd_cons (snd_iload_n X dX7_tick_50 rfl) ?_
  refine snd_cons (snd_ret X dX7_tick_51) ?_
  exact snd_nil
theorem k_X7_tick_0 (ca : Nat → ClassId) : k_X7_tick ca 0 = i_iload 1 1 := rfl
theorem k_X7_tick_1 (ca : Nat → ClassId) : k_X7_tick ca 1 = i_push (.int 1) 2 := rfl
theorem k_X7_tick_2 (ca : Nat → ClassId) : k_X7_tick ca 2 = i_push (.int 200) 5 := rfl
theorem k_X7_tick_5 (ca : Nat → ClassId) : k_X7_tick ca 5 = i_callS 3 0 0 0 0 (sp_X7_isWithin ca) 8 := rfl
theorem k_X7_tick_8 (ca : Nat → ClassId) : k_X7_tick ca 8 = i_if (fun x => ¬ x = 0) 14 11 := rfl
theorem k_X7_tick_11 (ca : Nat → ClassId) : k_X7_tick ca 11 = i_push (.int (-10000001)) 13 := rfl
theorem k_X7_tick_13 (ca : Nat → ClassId) : k_X7_tick ca 13 = i_ret := rfl
theorem k_X7_tick_14 (ca : Nat → ClassId) : k_X7_tick ca 14 = i_aload 0 15 := rfl
theorem k_X7_tick_15 (ca : Nat → ClassId) : k_X7_tick ca 15 = i_callV 7 0 0 0 0 0 (sp_X7_recordChange ca) 18 := rfl
theorem k_X7_tick_18 (ca : Nat → ClassId) : k_X7_tick ca 18 = i_aload 0 19 := rfl
theorem k_X7_tick_19 (ca : Nat → ClassId) : k_X7_tick ca 19 = i_getf 7 0 22 := rfl
theorem k_X7_tick_22 (ca : Nat → ClassId) : k_X7_tick ca 22 = i_callV 4 0 0 0 0 0 (sp_X4_sumRates ca) 25 := rfl
theorem k_X7_tick_25 (ca : Nat → ClassId) : k_X7_tick ca 25 = i_push (.int 0) 26 := rfl
theorem k_X7_tick_26 (ca : Nat → ClassId) : k_X7_tick ca 26 = i_istore 2 27 := rfl
theorem k_X7_tick_27 (ca : Nat → ClassId) : k_X7_tick ca 27 = i_push (.int 0) 28 := rfl
theorem k_X7_tick_28 (ca : Nat → ClassId) : k_X7_tick ca 28 = i_istore 3 29 := rfl
theorem k_X7_tick_29 (ca : Nat → ClassId) : k_X7_tick ca 29 = i_iload 3 30 := rfl
theorem k_X7_tick_30 (ca : Nat → ClassId) : k_X7_tick ca 30 = i_iload 1 31 := rfl
theorem k_X7_tick_31 (ca : Nat → ClassId) : k_X7_tick ca 31 = i_icmp (fun x y => y ≤ x) 50 34 := rfl
theorem k_X7_tick_34 (ca : Nat → ClassId) : k_X7_tick ca 34 = i_iload 2 35 := rfl
theorem k_X7_tick_35 (ca : Nat → ClassId) : k_X7_tick ca 35 = i_aload 0 36 := rfl
theorem k_X7_tick_36 (ca : Nat → ClassId) : k_X7_tick ca 36 = i_getf 7 0 39 := rfl
theorem k_X7_tick_39 (ca : Nat → ClassId) : k_X7_tick ca 39 = i_callV 4 0 0 0 0 0 (sp_X4_passTick ca) 42 := rfl
theorem k_X7_tick_42 (ca : Nat → ClassId) : k_X7_tick ca 42 = i_bin (fun x y => x + y) 43 := rfl
theorem k_X7_tick_43 (ca : Nat → ClassId) : k_X7_tick ca 43 = i_istore 2 44 := rfl
theorem k_X7_tick_44 (ca : Nat → ClassId) : k_X7_tick ca 44 = i_iinc 3 1 47 := rfl
theorem k_X7_tick_47 (ca : Nat → ClassId) : k_X7_tick ca 47 = i_goto 29 := rfl
theorem k_X7_tick_50 (ca : Nat → ClassId) : k_X7_tick ca 50 = i_iload 2 51 := rfl
theorem k_X7_tick_51 (ca : Nat → ClassId) : k_X7_tick ca 51 = i_ret := rfl
set_option maxHeartbeats 4000000 in
set_option maxRecDepth 20000 in
theorem ok_X7_tick (l : Launch) (D : va_G) (ca : Nat → ClassId) : OkAll l D ca yX7_tick cX7_tick 4 (some .int) 5 0 0 (sp_X7_tick ca) := by
  intro av h post hs
  obtain ⟨o, b, qh, qa, B, x3, x4, x5, lk, s, oo, ss, S, x, rfl, J, hC, hbo, hW, hs⟩ := hs
  have hb := J.1
  have c0 := hC.1
  unfold aTickC at hs
  refine okM_of t_X7_tick (by decide +kernel) (c1_ref (c1_int c1_nil)) (Nat.le_of_ble_eq_true rfl) ?_
  intro K go
  cases q1 : isIn x 1 200 with
  | false =>
    rw [q1, if_neg (by decide)] at hs
    have k0 := hs.1 rfl
    refine goN go (stp []) 160 _ _ _ _ _ _ (fun F hF hF0 => ?_)
    simp only [hF, hF0, ite_not, i_push, i_iload, i_lload, i_aload, i_istore, i_astore, i_lstore, i_iinc, i_bin, i_dv, i_un, i_lbin, i_lsh, i_i2l, i_l2i, i_lcmp, i_dup, i_dup2, i_pop, i_if, i_icmp, i_goto, swG, i_sw, i_getf, i_puti, i_putz, i_putr, i_ald, i_lald, i_aald, i_ast, i_last, i_aast, i_alen, i_new, i_newi, i_newl, i_newq, i_oinit, i_ret, i_zret, i_lret, i_vret, catS, tk, rpush, isO, i_m1, i_m2, i_acopy, i_callV, i_callS, KRet, lget, lput, lputL, lcl0, isL, lv0, List.map_cons, List.map_nil, List.length_cons, List.length_nil, List.cons_append, List.nil_append, Nat.reduceAdd, Nat.reduceSub, Nat.reduceLeDiff, List.replicate_succ, List.replicate_zero, List.getElem?_cons_succ, List.getElem?_cons_zero, List.set_cons_succ, List.set_cons_zero, true_and, and_true, if_true, if_false, ↓reduceIte, Nat.le_refl, Value.category, va_up_app, eq_self, stp, Nat.reduceBEq, Bool.or_false, Bool.false_or, Bool.true_or, Bool.or_true, or_true, true_or, bx_uu, implies_true, true_implies, not_true, not_false_eq_true, false_implies, and_self, Nat.reduceLT, Int32.reduceAdd, Int32.reduceSub, Int32.reduceMul, Int32.reduceLE, Int32.reduceLT, Int32.reduceToNatClampNeg, va_rf_some, Bool.false_eq_true, k_X7_tick_0 ca, k_X7_tick_1 ca, k_X7_tick_2 ca, k_X7_tick_5 ca, k_X7_tick_8 ca, k_X7_tick_11 ca, k_X7_tick_13 ca, k_X7_tick_14 ca, k_X7_tick_15 ca, k_X7_tick_18 ca, k_X7_tick_19 ca, k_X7_tick_22 ca, k_X7_tick_25 ca, k_X7_tick_26 ca, k_X7_tick_27 ca, k_X7_tick_28 ca, k_X7_tick_29 ca, k_X7_tick_30 ca, k_X7_tick_31 ca, k_X7_tick_34 ca, k_X7_tick_35 ca, k_X7_tick_36 ca, k_X7_tick_39 ca, k_X7_tick_42 ca, k_X7_tick_43 ca, k_X7_tick_44 ca, k_X7_tick_47 ca, k_X7_tick_50 ca, k_X7_tick_51 ca, sp_X7_isWithin, q1, b2i_f]
    try clear hF hF0 F
    exact k0
  | true =>
    rw [q1, if_pos rfl] at hs
    obtain ⟨N, hN, rfl⟩ := isIn1 (B := 200) (by decide) rfl q1
    have xx : (nI N).toNatClampNeg = N := nI_clamp (by omega)
    rw [xx] at hs
    refine goN go (stp [18]) 160 _ _ _ _ _ _ (fun F hF hF0 => ?_)
    simp only [hF, hF0, ite_not, i_push, i_iload, i_lload, i_aload, i_istore, i_astore, i_lstore, i_iinc, i_bin, i_dv, i_un, i_lbin, i_lsh, i_i2l, i_l2i, i_lcmp, i_dup, i_dup2, i_pop, i_if, i_icmp, i_goto, swG, i_sw, i_getf, i_puti, i_putz, i_putr, i_ald, i_lald, i_aald, i_ast, i_last, i_aast, i_alen, i_new, i_newi, i_newl, i_newq, i_oinit, i_ret, i_zret, i_lret, i_vret, catS, tk, rpush, isO, i_m1, i_m2, i_acopy, i_callV, i_callS, KRet, lget, lput, lputL, lcl0, isL, lv0, List.map_cons, List.map_nil, List.length_cons, List.length_nil, List.cons_append, List.nil_append, Nat.reduceAdd, Nat.reduceSub, Nat.reduceLeDiff, List.replicate_succ, List.replicate_zero, List.getElem?_cons_succ, List.getElem?_cons_zero, List.set_cons_succ, List.set_cons_zero, true_and, and_true, if_true, if_false, ↓reduceIte, Nat.le_refl, Value.category, va_up_app, eq_self, stp, Nat.reduceBEq, Bool.or_false, Bool.false_or, Bool.true_or, Bool.or_true, or_true, true_or, bx_uu, implies_true, true_implies, not_true, not_false_eq_true, false_implies, and_self, Nat.reduceLT, Int32.reduceAdd, Int32.reduceSub, Int32.reduceMul, Int32.reduceLE, Int32.reduceLT, Int32.reduceToNatClampNeg, va_rf_some, Bool.false_eq_true, k_X7_tick_0 ca, k_X7_tick_1 ca, k_X7_tick_2 ca, k_X7_tick_5 ca, k_X7_tick_8 ca, k_X7_tick_11 ca, k_X7_tick_13 ca, k_X7_tick_14 ca, k_X7_tick_15 ca, k_X7_tick_18 ca, k_X7_tick_19 ca, k_X7_tick_22 ca, k_X7_tick_25 ca, k_X7_tick_26 ca, k_X7_tick_27 ca, k_X7_tick_28 ca, k_X7_tick_29 ca, k_X7_tick_30 ca, k_X7_tick_31 ca, k_X7_tick_34 ca, k_X7_tick_35 ca, k_X7_tick_36 ca, k_X7_tick_39 ca, k_X7_tick_42 ca, k_X7_tick_43 ca, k_X7_tick_44 ca, k_X7_tick_47 ca, k_X7_tick_50 ca, k_X7_tick_51 ca, sp_X7_isWithin, q1, b2i_t, one0, c0]
    try clear hF hF0 F
    refine rec_of J hC hbo (fun h1 hC1 hm1 => ?_)
    obtain ⟨d1, d2, -⟩ := id hC1
    have d20 := d2.c.1
    have key : ∀ j i, i + j = N → ∀ H, CN ca H o b qh qa B x3 x4 x5 0 (tkD s (rts s) i) (hiO oo ss) (hiZ ss) (hiS oo ss S s) → Ar H (b 5) (ca 0) 3 (rts s) → SmC o b qh B h H → K 0 0 29 [some (.ref o), some (.int (nI N)), some (.int (tkE s (rts s) i)), some (.int (nI i))] [] H := by
      intro j
      induction j with
      | zero =>
        intro i hi H hCi hA hm
        have hi : i = N := hi
        subst hi
        have k0 := hs.2 rfl H hCi hm
        refine goN go (stp []) 160 _ _ _ _ _ _ (fun F hF hF0 => ?_)
        simp only [hF, hF0, ite_not, i_push, i_iload, i_lload, i_aload, i_istore, i_astore, i_lstore, i_iinc, i_bin, i_dv, i_un, i_lbin, i_lsh, i_i2l, i_l2i, i_lcmp, i_dup, i_dup2, i_pop, i_if, i_icmp, i_goto, swG, i_sw, i_getf, i_puti, i_putz, i_putr, i_ald, i_lald, i_aald, i_ast, i_last, i_aast, i_alen, i_new, i_newi, i_newl, i_newq, i_oinit, i_ret, i_zret, i_lret, i_vret, catS, tk, rpush, isO, i_m1, i_m2, i_acopy, i_callV, i_callS, KRet, lget, lput, lputL, lcl0, isL, lv0, List.map_cons, List.map_nil, List.length_cons, List.length_nil, List.cons_append, List.nil_append, Nat.reduceAdd, Nat.reduceSub, Nat.reduceLeDiff, List.replicate_succ, List.replicate_zero, List.getElem?_cons_succ, List.getElem?_cons_zero, List.set_cons_succ, List.set_cons_zero, true_and, and_true, if_true, if_false, ↓reduceIte, Nat.le_refl, Value.category, va_up_app, eq_self, stp, Nat.reduceBEq, Bool.or_false, Bool.false_or, Bool.true_or, Bool.or_true, or_true, true_or, bx_uu, implies_true, true_implies, not_true, not_false_eq_true, false_implies, and_self, Nat.reduceLT, Int32.reduceAdd, Int32.reduceSub, Int32.reduceMul, Int32.reduceLE, Int32.reduceLT, Int32.reduceToNatClampNeg, va_rf_some, Bool.false_eq_true, k_X7_tick_0 ca, k_X7_tick_1 ca, k_X7_tick_2 ca, k_X7_tick_5 ca, k_X7_tick_8 ca, k_X7_tick_11 ca, k_X7_tick_13 ca, k_X7_tick_14 ca, k_X7_tick_15 ca, k_X7_tick_18 ca, k_X7_tick_19 ca, k_X7_tick_22 ca, k_X7_tick_25 ca, k_X7_tick_26 ca, k_X7_tick_27 ca, k_X7_tick_28 ca, k_X7_tick_29 ca, k_X7_tick_30 ca, k_X7_tick_31 ca, k_X7_tick_34 ca, k_X7_tick_35 ca, k_X7_tick_36 ca, k_X7_tick_39 ca, k_X7_tick_42 ca, k_X7_tick_43 ca, k_X7_tick_44 ca, k_X7_tick_47 ca, k_X7_tick_50 ca, k_X7_tick_51 ca, Int32.le_refl]
        try clear hF hF0 F
        exact k0
      | succ j ih =>
        intro i hi H hCi hA hm
        have g1 : ¬ nI N ≤ nI i := nI_ge (by omega) (by omega)
        obtain ⟨p1, p2, -⟩ := id hCi
        have p3 := p2.c.1
        refine goN go (stp [42]) 160 _ _ _ _ _ _ (fun F hF hF0 => ?_)
        simp only [hF, hF0, ite_not, i_push, i_iload, i_lload, i_aload, i_istore, i_astore, i_lstore, i_iinc, i_bin, i_dv, i_un, i_lbin, i_lsh, i_i2l, i_l2i, i_lcmp, i_dup, i_dup2, i_pop, i_if, i_icmp, i_goto, swG, i_sw, i_getf, i_puti, i_putz, i_putr, i_ald, i_lald, i_aald, i_ast, i_last, i_aast, i_alen, i_new, i_newi, i_newl, i_newq, i_oinit, i_ret, i_zret, i_lret, i_vret, catS, tk, rpush, isO, i_m1, i_m2, i_acopy, i_callV, i_callS, KRet, lget, lput, lputL, lcl0, isL, lv0, List.map_cons, List.map_nil, List.length_cons, List.length_nil, List.cons_append, List.nil_append, Nat.reduceAdd, Nat.reduceSub, Nat.reduceLeDiff, List.replicate_succ, List.replicate_zero, List.getElem?_cons_succ, List.getElem?_cons_zero, List.set_cons_succ, List.set_cons_zero, true_and, and_true, if_true, if_false, ↓reduceIte, Nat.le_refl, Value.category, va_up_app, eq_self, stp, Nat.reduceBEq, Bool.or_false, Bool.false_or, Bool.true_or, Bool.or_true, or_true, true_or, bx_uu, implies_true, true_implies, not_true, not_false_eq_true, false_implies, and_self, Nat.reduceLT, Int32.reduceAdd, Int32.reduceSub, Int32.reduceMul, Int32.reduceLE, Int32.reduceLT, Int32.reduceToNatClampNeg, va_rf_some, Bool.false_eq_true, k_X7_tick_0 ca, k_X7_tick_1 ca, k_X7_tick_2 ca, k_X7_tick_5 ca, k_X7_tick_8 ca, k_X7_tick_11 ca, k_X7_tick_13 ca, k_X7_tick_14 ca, k_X7_tick_15 ca, k_X7_tick_18 ca, k_X7_tick_19 ca, k_X7_tick_22 ca, k_X7_tick_25 ca, k_X7_tick_26 ca, k_X7_tick_27 ca, k_X7_tick_28 ca, k_X7_tick_29 ca, k_X7_tick_30 ca, k_X7_tick_31 ca, k_X7_tick_34 ca, k_X7_tick_35 ca, k_X7_tick_36 ca, k_X7_tick_39 ca, k_X7_tick_42 ca, k_X7_tick_43 ca, k_X7_tick_44 ca, k_X7_tick_47 ca, k_X7_tick_50 ca, k_X7_tick_51 ca, g1, p1, p3]
        try clear hF hF0 F
        refine ⟨b, _, _, rfl, hb, p2, hA, fun h' r1 r2 r3 => ?_⟩
        have k0 := ih (i + 1) (by omega) h' (hCi.now J r1 r3) r2 (hm.tr (SmC.now r3))
        refine goN go (stp [29]) 160 _ _ _ _ _ _ (fun F hF hF0 => ?_)
        simp only [hF, hF0, ite_not, i_push, i_iload, i_lload, i_aload, i_istore, i_astore, i_lstore, i_iinc, i_bin, i_dv, i_un, i_lbin, i_lsh, i_i2l, i_l2i, i_lcmp, i_dup, i_dup2, i_pop, i_if, i_icmp, i_goto, swG, i_sw, i_getf, i_puti, i_putz, i_putr, i_ald, i_lald, i_aald, i_ast, i_last, i_aast, i_alen, i_new, i_newi, i_newl, i_newq, i_oinit, i_ret, i_zret, i_lret, i_vret, catS, tk, rpush, isO, i_m1, i_m2, i_acopy, i_callV, i_callS, KRet, lget, lput, lputL, lcl0, isL, lv0, List.map_cons, List.map_nil, List.length_cons, List.length_nil, List.cons_append, List.nil_append, Nat.reduceAdd, Nat.reduceSub, Nat.reduceLeDiff, List.replicate_succ, List.replicate_zero, List.getElem?_cons_succ, List.getElem?_cons_zero, List.set_cons_succ, List.set_cons_zero, true_and, and_true, if_true, if_false, ↓reduceIte, Nat.le_refl, Value.category, va_up_app, eq_self, stp, Nat.reduceBEq, Bool.or_false, Bool.false_or, Bool.true_or, Bool.or_true, or_true, true_or, bx_uu, implies_true, true_implies, not_true, not_false_eq_true, false_implies, and_self, Nat.reduceLT, Int32.reduceAdd, Int32.reduceSub, Int32.reduceMul, Int32.reduceLE, Int32.reduceLT, Int32.reduceToNatClampNeg, va_rf_some, Bool.false_eq_true, k_X7_tick_0 ca, k_X7_tick_1 ca, k_X7_tick_2 ca, k_X7_tick_5 ca, k_X7_tick_8 ca, k_X7_tick_11 ca, k_X7_tick_13 ca, k_X7_tick_14 ca, k_X7_tick_15 ca, k_X7_tick_18 ca, k_X7_tick_19 ca, k_X7_tick_22 ca, k_X7_tick_25 ca, k_X7_tick_26 ca, k_X7_tick_27 ca, k_X7_tick_28 ca, k_X7_tick_29 ca, k_X7_tick_30 ca, k_X7_tick_31 ca, k_X7_tick_34 ca, k_X7_tick_35 ca, k_X7_tick_36 ca, k_X7_tick_39 ca, k_X7_tick_42 ca, k_X7_tick_43 ca, k_X7_tick_44 ca, k_X7_tick_47 ca, k_X7_tick_50 ca, k_X7_tick_51 ca, a_1]
        try clear hF hF0 F
        exact k0
    refine goN go (stp [25]) 160 _ _ _ _ _ _ (fun F hF hF0 => ?_)
    simp only [hF, hF0, ite_not, i_push, i_iload, i_lload, i_aload, i_istore, i_astore, i_lstore, i_iinc, i_bin, i_dv, i_un, i_lbin, i_lsh, i_i2l, i_l2i, i_lcmp, i_dup, i_dup2, i_pop, i_if, i_icmp, i_goto, swG, i_sw, i_getf, i_puti, i_putz, i_putr, i_ald, i_lald, i_aald, i_ast, i_last, i_aast, i_alen, i_new, i_newi, i_newl, i_newq, i_oinit, i_ret, i_zret, i_lret, i_vret, catS, tk, rpush, isO, i_m1, i_m2, i_acopy, i_callV, i_callS, KRet, lget, lput, lputL, lcl0, isL, lv0, List.map_cons, List.map_nil, List.length_cons, List.length_nil, List.cons_append, List.nil_append, Nat.reduceAdd, Nat.reduceSub, Nat.reduceLeDiff, List.replicate_succ, List.replicate_zero, List.getElem?_cons_succ, List.getElem?_cons_zero, List.set_cons_succ, List.set_cons_zero, true_and, and_true, if_true, if_false, ↓reduceIte, Nat.le_refl, Value.category, va_up_app, eq_self, stp, Nat.reduceBEq, Bool.or_false, Bool.false_or, Bool.true_or, Bool.or_true, or_true, true_or, bx_uu, implies_true, true_implies, not_true, not_false_eq_true, false_implies, and_self, Nat.reduceLT, Int32.reduceAdd, Int32.reduceSub, Int32.reduceMul, Int32.reduceLE, Int32.reduceLT, Int32.reduceToNatClampNeg, va_rf_some, Bool.false_eq_true, k_X7_tick_0 ca, k_X7_tick_1 ca, k_X7_tick_2 ca, k_X7_tick_5 ca, k_X7_tick_8 ca, k_X7_tick_11 ca, k_X7_tick_13 ca, k_X7_tick_14 ca, k_X7_tick_15 ca, k_X7_tick_18 ca, k_X7_tick_19 ca, k_X7_tick_22 ca, k_X7_tick_25 ca, k_X7_tick_26 ca, k_X7_tick_27 ca, k_X7_tick_28 ca, k_X7_tick_29 ca, k_X7_tick_30 ca, k_X7_tick_31 ca, k_X7_tick_34 ca, k_X7_tick_35 ca, k_X7_tick_36 ca, k_X7_tick_39 ca, k_X7_tick_42 ca, k_X7_tick_43 ca, k_X7_tick_44 ca, k_X7_tick_47 ca, k_X7_tick_50 ca, k_X7_tick_51 ca, d1, d20]
    try clear hF hF0 F
    refine ⟨b, s, rfl, hb, d2, hW, fun h' r1 r2 r3 => ?_⟩
    have hsm : Same b h1 h' := fun x hx => r3 x (hx 5 (by decide))
    have k0 := key N 0 (by omega) h' (hC1.now J r1 hsm) r2 (hm1.tr (SmC.now hsm))
    rw [nI_0] at k0
    refine goN go (stp [29]) 160 _ _ _ _ _ _ (fun F hF hF0 => ?_)
    simp only [hF, hF0, ite_not, i_push, i_iload, i_lload, i_aload, i_istore, i_astore, i_lstore, i_iinc, i_bin, i_dv, i_un, i_lbin, i_lsh, i_i2l, i_l2i, i_lcmp, i_dup, i_dup2, i_pop, i_if, i_icmp, i_goto, swG, i_sw, i_getf, i_puti, i_putz, i_putr, i_ald, i_lald, i_aald, i_ast, i_last, i_aast, i_alen, i_new, i_newi, i_newl, i_newq, i_oinit, i_ret, i_zret, i_lret, i_vret, catS, tk, rpush, isO, i_m1, i_m2, i_acopy, i_callV, i_callS, KRet, lget, lput, lputL, lcl0, isL, lv0, List.map_cons, List.map_nil, List.length_cons, List.length_nil, List.cons_append, List.nil_append, Nat.reduceAdd, Nat.reduceSub, Nat.reduceLeDiff, List.replicate_succ, List.replicate_zero, List.getElem?_cons_succ, List.getElem?_cons_zero, List.set_cons_succ, List.set_cons_zero, true_and, and_true, if_true, if_false, ↓reduceIte, Nat.le_refl, Value.category, va_up_app, eq_self, stp, Nat.reduceBEq, Bool.or_false, Bool.false_or, Bool.true_or, Bool.or_true, or_true, true_or, bx_uu, implies_true, true_implies, not_true, not_false_eq_true, false_implies, and_self, Nat.reduceLT, Int32.reduceAdd, Int32.reduceSub, Int32.reduceMul, Int32.reduceLE, Int32.reduceLT, Int32.reduceToNatClampNeg, va_rf_some, Bool.false_eq_true, k_X7_tick_0 ca, k_X7_tick_1 ca, k_X7_tick_2 ca, k_X7_tick_5 ca, k_X7_tick_8 ca, k_X7_tick_11 ca, k_X7_tick_13 ca, k_X7_tick_14 ca, k_X7_tick_15 ca, k_X7_tick_18 ca, k_X7_tick_19 ca, k_X7_tick_22 ca, k_X7_tick_25 ca, k_X7_tick_26 ca, k_X7_tick_27 ca, k_X7_tick_28 ca, k_X7_tick_29 ca, k_X7_tick_30 ca, k_X7_tick_31 ca, k_X7_tick_34 ca, k_X7_tick_35 ca, k_X7_tick_36 ca, k_X7_tick_39 ca, k_X7_tick_42 ca, k_X7_tick_43 ca, k_X7_tick_44 ca, k_X7_tick_47 ca, k_X7_tick_50 ca, k_X7_tick_51 ca]
    try clear hF hF0 F
    exact k0
def rdC (s f : Nat → Int32) (k : Nat) : Nat → Nat → Int32
  | 0 => upd s (10 + 32 * k) (nI 0)
  | i + 1 => fPart (rdC s f k i) k i (f (4 * i) - 48) (f (4 * i + 1) - 97) (f (4 * i + 2) - 97)
theorem rdC_0 {s f : Nat → Int32} {k : Nat} : ∀ i, rdC s f k i (10 + 32 * k) = nI i
  | 0 => by unfold rdC; rw [pk_us]
  | i + 1 => by unfold rdC; exact fPart_0
theorem place_n {f : Nat → Int32} {n : Nat} (h : placeF f n = -1) : n ≤ 32 := by
  unfold placeF at h
  split at h
  · rename_i i hi
    have hp : ∀ r k, fpG f r k = some i → i < k + r := by
      intro r
      induction r with
      | zero => intro k hk; cases hk
      | succ r ih =>
        intro k hk
        rw [show fpG f (r + 1) k = if canF f k = true then fpG f r (k + 1) else some k from rfl] at hk
        split at hk
        · have := ih _ hk; omega
        · cases hk; omega
    have h1 := hp _ _ hi
    have h2 : i < 32 := by split at h1 <;> omega
    exact absurd h (fun z => by
      have h3 : ¬ nI i < 0 := nI_pos (by omega)
      rw [z] at h3
      exact h3 (by decide))
  · split at h
    · exact absurd h (by decide)
    · omega
def vRead (f : Nat → Int32) (n : Nat) (x : Int32) : Bool := isIn x 0 2 && decide (placeF f n = -1)
def aReadC (f : Nat → Int32) (n : Nat) (x : Int32) : Int32 := if isIn x 0 2 = true then (if placeF f n = -1 then nI ((n + 1) / 4) else -10000002) else -10000001
def sp_X7_read (ca : Nat → ClassId) : SPEC := fun av h post => ∃ o b qh qa B x3 x4 x5 lk s oo ss S x qc n f, av = [.ref o, .int x] ∧ DJ o b qh qa B ∧ CN ca h o b qh qa B x3 x4 x5 lk s oo ss S ∧ BoS s ∧ XAt ca h x3 qc n f ∧ (∀ h', SmC o b qh B h h' → XAt ca h' x3 qc n f) ∧ actC ca h o b qh qa B x3 x4 x5 s oo ss S post (vRead f n x) (aReadC f n x) (rdC s f x.toNatClampNeg ((n + 1) / 4))
def k_X7_read (ca : Nat → ClassId) : Nat → IT := fun pc => lk pc [(0, i_iload 1 1),
  (1, i_callS 1 0 0 0 0 (sp_X7_isRoom ca) 4),
  (4, i_if (fun x => ¬ x = 0) 10 7),
  (7, i_push (.int (-10000001)) 9),
  (9, i_ret),
  (10, i_aload 0 11),
  (11, i_getf 7 2 14),
  (14, i_callV 6 0 0 0 0 0 (sp_X6_faultyPlace ca) 17),
  (17, i_push (.int (-1)) 18),
  (18, i_icmp (fun x y => x = y) 24 21),
  (21, i_push (.int (-10000002)) 23),
  (23, i_ret),
  (24, i_aload 0 25),
  (25, i_callV 7 0 0 0 0 0 (sp_X7_recordChange ca) 28),
  (28, i_aload 0 29),
  (29, i_getf 7 0 32),
  (32, i_getf 4 2 35),
  (35, i_iload 1 36),
  (36, i_aald (ca 6) 37),
  (37, i_astore 2 38),
  (38, i_aload 2 39),
  (39, i_push (.int 0) 40),
  (40, i_puti 5 3 43),
  (43, i_push (.int 0) 44),
  (44, i_istore 3 45),
  (45, i_iload 3 46),
  (46, i_aload 0 47),
  (47, i_getf 7 2 50),
  (50, i_callV 6 0 0 0 0 0 (sp_X6_parts ca) 53),
  (53, i_icmp (fun x y => y ≤ x) 90 56),
  (56, i_aload 2 57),
  (57, i_aload 0 58),
  (58, i_getf 7 2 61),
  (61, i_iload 3 62),
  (62, i_callV 6 1 0 0 0 0 (sp_X6_lengthOfPart ca) 65),
  (65, i_aload 0 66),
  (66, i_getf 7 2 69),
  (69, i_iload 3 70),
  (70, i_callV 6 1 0 0 0 0 (sp_X6_upperOfPart ca) 73),
  (73, i_aload 0 74),
  (74, i_getf 7 2 77),
  (77, i_iload 3 78),
  (78, i_callV 6 1 0 0 0 0 (sp_X6_lowerOfPart ca) 81),
  (81, i_callV 5 3 0 0 0 0 (sp_X5_addPart ca) 84),
  (84, i_iinc 3 1 87),
  (87, i_goto 45),
  (90, i_aload 2 91),
  (91, i_getf 5 3 94),
  (94, i_ret)]
set_option maxRecDepth 20000 in
theorem t_X7_read : Tb k_X7_read yX7_read cX7_read 4 (some .int) 5 0 0 := by
  intro l D ca A p e s m args below meth c post X
  unfold k_X7_read
  refine snd_cons (snd_iload_n X dX7_read_0 rfl) ?_
  refine snd_cons (snd_callS X (ok_X7_isRoom l D ca) rfl rfl w_327 w_328 w_1 w_329 (by decide) (by decide) dX7_read_1) ?_
  refine snd_cons (snd_if_ne X dX7_read_4 (by decide)) ?_
  refine snd_cons (snd_ldc X w_284 dX7_read_7) ?_
  refine snd_cons (snd_ret X dX7_read_9) ?_
  refine snd_cons (snd_aload_n X dX7_read_10 rfl) ?_
  refine snd_cons (snd_getf X Fk7 2 (by decide) w_252 dX7_read_11) ?_
  refine snd_cons (snd_callV X Fk6 (ok_X6_faultyPlace l D ca) rfl rfl w_563 w_564 w_565 w_6 w_566 (by decide) (by decide) dX7_read_14) ?_
  refine snd_cons (snd_iconst X dX7_read_17 (by decide)) ?_
  refine snd_cons (snd_icmp_eq X dX7_read_18 (by decide)) ?_
  refine snd_cons (snd_ldc X w_289 dX7_read_21) ?_
  refine snd_cons (snd_ret X dX7_read_23) ?_
  refine snd_cons (snd_aload_n X dX7_read_24 rfl) ?_
  refine snd_cons (snd_callV X Fk7 (ok_X7_recordChange l D ca) rfl rfl w_474 w_476 wp_4 w_1 w_477 (by decide) (by decide) dX7_read_25) ?_
  refine snd_cons (snd_aload_n X dX7_read_28 rfl) ?_
  refine snd_cons (snd_getf X Fk7 0 (by decide) w_250 dX7_read_29) ?_
  refine snd_cons (snd_getf X Fk4 2 (by decide) w_128 dX7_read_32) ?_
  refine snd_cons (snd_iload_n X dX7_read_35 rfl) ?_
  refine snd_cons (snd_aaload X 6 rfl dX7_read_36) ?_
  refine snd_cons (snd_astore_n X dX7_read_37 rfl (by decide)) ?_
  refine snd_cons (snd_aload_n X dX7_read_38 rfl) ?_
  refine snd_cons (snd_iconst X dX7_read_39 (by decide)) ?_
  refine snd_cons (snd_puti X Fk5 3 (by decide) rfl rfl w_42 dX7_read_40) ?_
  refine snd_cons (snd_iconst X dX7_read_43 (by decide)) ?_
  refine snd_cons (snd_istore_n X dX7_read_44 rfl (by decide)) ?_
  refine snd_cons (snd_iload_n X dX7_read_45 rfl) ?_
  refine snd_cons (snd_aload_n X dX7_read_46 rfl) ?_
  refine snd_cons (snd_getf X Fk7 2 (by decide) w_252 dX7_read_47) ?_
  refine snd_cons (snd_callV X Fk6 (ok_X6_parts l D ca) rfl rfl w_581 w_582 w_583 w_6 w_584 (by decide) (by decide) dX7_read_50) ?_
  refine snd_cons (snd_icmp_ge X dX7_read_53 (by decide)) ?_
  refine snd_cons (snd_aload_n X dX7_read_56 rfl) ?_
  refine snd_cons (snd_aload_n X dX7_read_57 rfl) ?_
  refine snd_cons (snd_getf X Fk7 2 (by decide) w_252 dX7_read_58) ?_
  refine snd_cons (snd_iload_n X dX7_read_61 rfl) ?_
  refine snd_cons (snd_callV X Fk6 (ok_X6_lengthOfPart l D ca) rfl rfl w_585 w_586 w_587 w_6 w_588 (by decide) (by decide) dX7_read_62) ?_
  refine snd_cons (snd_aload_n X dX7_read_65 rfl) ?_
  refine snd_cons (snd_getf X Fk7 2 (by decide) w_252 dX7_read_66) ?_
  refine snd_cons (snd_iload_n X dX7_read_69 rfl) ?_
  refine snd_cons (snd_callV X Fk6 (ok_X6_upperOfPart l D ca) rfl rfl w_589 w_590 w_591 w_6 w_592 (by decide) (by decide) dX7_read_70) ?_
  refine snd_cons (snd_aload_n X dX7_read_73 rfl) ?_
  refine snd_cons (snd_getf X Fk7 2 (by decide) w_252 dX7_read_74) ?_
  refine snd_cons (snd_iload_n X dX7_read_77 rfl) ?_
  refine snd_cons (snd_callV X Fk6 (ok_X6_lowerOfPart l D ca) rfl rfl w_593 w_594 w_595 w_6 w_596 (by decide) (by decide) dX7_read_78) ?_
  refine snd_cons (snd_callV X Fk5 (ok_X5_addPart l D ca) rfl rfl w_482 w_483 w_484 w_3 w_485 (by decide) (by decide) dX7_read_81) ?_
  refine snd_cons (snd_iinc X dX7_read_84 (by decide) (by decide)) ?_
  refine snd_cons (snd_goto X dX7_read_87 (by decide)) ?_
  refine snd_cons (snd_aload_n X dX7_read_90 rfl) ?_
  refine snd_cons (snd_getf X Fk5 3 (by decide) w_42 dX7_read_91) ?_
  refine snd_cons (snd_ret X dX7_read_94) ?_
  exact snd_nil
theorem k_X7_read_0 (ca : Nat → ClassId) : k_X7_read ca 0 = i_iload 1 1 := rfl
theorem k_X7_read_1 (ca : Nat → ClassId) : k_X7_read ca 1 = i_callS 1 0 0 0 0 (sp_X7_isRoom ca) 4 := rfl
theorem k_X7_read_4 (ca : Nat → ClassId) : k_X7_read ca 4 = i_if (fun x => ¬ x = 0) 10 7 := rfl
theorem k_X7_read_7 (ca : Nat → ClassId) : k_X7_read ca 7 = i_push (.int (-10000001)) 9 := rfl
theorem k_X7_read_9 (ca : Nat → ClassId) : k_X7_read ca 9 = i_ret := rfl
theorem k_X7_read_10 (ca : Nat → ClassId) : k_X7_read ca 10 = i_aload 0 11 := rfl
theorem k_X7_read_11 (ca : Nat → ClassId) : k_X7_read ca 11 = i_getf 7 2 14 := rfl
theorem k_X7_read_14 (ca : Nat → ClassId) : k_X7_read ca 14 = i_callV 6 0 0 0 0 0 (sp_X6_faultyPlace ca) 17 := rfl
theorem k_X7_read_17 (ca : Nat → ClassId) : k_X7_read ca 17 = i_push (.int (-1)) 18 := rfl
theorem k_X7_read_18 (ca : Nat → ClassId) : k_X7_read ca 18 = i_icmp (fun x y => x = y) 24 21 := rfl
theorem k_X7_read_21 (ca : Nat → ClassId) : k_X7_read ca 21 = i_push (.int (-10000002)) 23 := rfl
theorem k_X7_read_23 (ca : Nat → ClassId) : k_X7_read ca 23 = i_ret := rfl
theorem k_X7_read_24 (ca : Nat → ClassId) : k_X7_read ca 24 = i_aload 0 25 := rfl
theorem k_X7_read_25 (ca : Nat → ClassId) : k_X7_read ca 25 = i_callV 7 0 0 0 0 0 (sp_X7_recordChange ca) 28 := rfl
theorem k_X7_read_28 (ca : Nat → ClassId) : k_X7_read ca 28 = i_aload 0 29 := rfl
theorem k_X7_read_29 (ca : Nat → ClassId) : k_X7_read ca 29 = i_getf 7 0 32 := rfl
theorem k_X7_read_32 (ca : Nat → ClassId) : k_X7_read ca 32 = i_getf 4 2 35 := rfl
theorem k_X7_read_35 (ca : Nat → ClassId) : k_X7_read ca 35 = i_iload 1 36 := rfl
theorem k_X7_read_36 (ca : Nat → ClassId) : k_X7_read ca 36 = i_aald (ca 6) 37 := rfl
theorem k_X7_read_37 (ca : Nat → ClassId) : k_X7_read ca 37 = i_astore 2 38 := rfl
theorem k_X7_read_38 (ca : Nat → ClassId) : k_X7_read ca 38 = i_aload 2 39 := rfl
theorem k_X7_read_39 (ca : Nat → ClassId) : k_X7_read ca 39 = i_push (.int 0) 40 := rfl
theorem k_X7_read_40 (ca : Nat → ClassId) : k_X7_read ca 40 = i_puti 5 3 43 := rfl
theorem k_X7_read_43 (ca : Nat → ClassId) : k_X7_read ca 43 = i_push (.int 0) 44 := rfl
theorem k_X7_read_44 (ca : Nat → ClassId) : k_X7_read ca 44 = i_istore 3 45 := rfl
theorem k_X7_read_45 (ca : Nat → ClassId) : k_X7_read ca 45 = i_iload 3 46 := rfl
theorem k_X7_read_46 (ca : Nat → ClassId) : k_X7_read ca 46 = i_aload 0 47 := rfl
theorem k_X7_read_47 (ca : Nat → ClassId) : k_X7_read ca 47 = i_getf 7 2 50 := rfl
theorem k_X7_read_50 (ca : Nat → ClassId) : k_X7_read ca 50 = i_callV 6 0 0 0 0 0 (sp_X6_parts ca) 53 := rfl
theorem k_X7_read_53 (ca : Nat → ClassId) : k_X7_read ca 53 = i_icmp (fun x y => y ≤ x) 90 56 := rfl
theorem k_X7_read_56 (ca : Nat → ClassId) : k_X7_read ca 56 = i_aload 2 57 := rfl
theorem k_X7_read_57 (ca : Nat → ClassId) : k_X7_read ca 57 = i_aload 0 58 := rfl
theorem k_X7_read_58 (ca : Nat → ClassId) : k_X7_read ca 58 = i_getf 7 2 61 := rfl
theorem k_X7_read_61 (ca : Nat → ClassId) : k_X7_read ca 61 = i_iload 3 62 := rfl
theorem k_X7_read_62 (ca : Nat → ClassId) : k_X7_read ca 62 = i_callV 6 1 0 0 0 0 (sp_X6_lengthOfPart ca) 65 := rfl
theorem k_X7_read_65 (ca : Nat → ClassId) : k_X7_read ca 65 = i_aload 0 66 := rfl
theorem k_X7_read_66 (ca : Nat → ClassId) : k_X7_read ca 66 = i_getf 7 2 69 := rfl
theorem k_X7_read_69 (ca : Nat → ClassId) : k_X7_read ca 69 = i_iload 3 70 := rfl
theorem k_X7_read_70 (ca : Nat → ClassId) : k_X7_read ca 70 = i_callV 6 1 0 0 0 0 (sp_X6_upperOfPart ca) 73 := rfl
theorem k_X7_read_73 (ca : Nat → ClassId) : k_X7_read ca 73 = i_aload 0 74 := rfl
theorem k_X7_read_74 (ca : Nat → ClassId) : k_X7_read ca 74 = i_getf 7 2 77 := rfl
theorem k_X7_read_77 (ca : Nat → ClassId) : k_X7_read ca 77 = i_iload 3 78 := rfl
theorem k_X7_read_78 (ca : Nat → ClassId) : k_X7_read ca 78 = i_callV 6 1 0 0 0 0 (sp_X6_lowerOfPart ca) 81 := rfl
theorem k_X7_read_81 (ca : Nat → ClassId) : k_X7_read ca 81 = i_callV 5 3 0 0 0 0 (sp_X5_addPart ca) 84 := rfl
theorem k_X7_read_84 (ca : Nat → ClassId) : k_X7_read ca 84 = i_iinc 3 1 87 := rfl
theorem k_X7_read_87 (ca : Nat → ClassId) : k_X7_read ca 87 = i_goto 45 := rfl
theorem k_X7_read_90 (ca : Nat → ClassId) : k_X7_read ca 90 = i_aload 2 91 := rfl
theorem k_X7_read_91 (ca : Nat → ClassId) : k_X7_read ca 91 = i_getf 5 3 94 := rfl
theorem k_X7_read_94 (ca : Nat → ClassId) : k_X7_read ca 94 = i_ret := rfl
set_option maxHeartbeats 4000000 in
set_option maxRecDepth 20000 in
theorem ok_X7_read (l : Launch) (D : va_G) (ca : Nat → ClassId) : OkAll l D ca yX7_read cX7_read 4 (some .int) 5 0 0 (sp_X7_read ca) := by
  intro av h post hs
  obtain ⟨o, b, qh, qa, B, x3, x4, x5, lk, s, oo, ss, S, x, qc, n, f, rfl, J, hC, hbo, hX, hXm, hs⟩ := hs
  have hb := J.1
  have c0 := hC.1
  have vX0 := hX.1
  unfold aReadC vRead at hs
  refine okM_of t_X7_read (by decide +kernel) (c1_ref (c1_int c1_nil)) (Nat.le_of_ble_eq_true rfl) ?_
  intro K go
  cases q1 : isIn x 0 2 with
  | false =>
    rw [q1, if_neg (by decide)] at hs
    have k0 := hs.1 rfl
    refine goN go (stp []) 160 _ _ _ _ _ _ (fun F hF hF0 => ?_)
    simp only [hF, hF0, ite_not, i_push, i_iload, i_lload, i_aload, i_istore, i_astore, i_lstore, i_iinc, i_bin, i_dv, i_un, i_lbin, i_lsh, i_i2l, i_l2i, i_lcmp, i_dup, i_dup2, i_pop, i_if, i_icmp, i_goto, swG, i_sw, i_getf, i_puti, i_putz, i_putr, i_ald, i_lald, i_aald, i_ast, i_last, i_aast, i_alen, i_new, i_newi, i_newl, i_newq, i_oinit, i_ret, i_zret, i_lret, i_vret, catS, tk, rpush, isO, i_m1, i_m2, i_acopy, i_callV, i_callS, KRet, lget, lput, lputL, lcl0, isL, lv0, List.map_cons, List.map_nil, List.length_cons, List.length_nil, List.cons_append, List.nil_append, Nat.reduceAdd, Nat.reduceSub, Nat.reduceLeDiff, List.replicate_succ, List.replicate_zero, List.getElem?_cons_succ, List.getElem?_cons_zero, List.set_cons_succ, List.set_cons_zero, true_and, and_true, if_true, if_false, ↓reduceIte, Nat.le_refl, Value.category, va_up_app, eq_self, stp, Nat.reduceBEq, Bool.or_false, Bool.false_or, Bool.true_or, Bool.or_true, or_true, true_or, bx_uu, implies_true, true_implies, not_true, not_false_eq_true, false_implies, and_self, Nat.reduceLT, Int32.reduceAdd, Int32.reduceSub, Int32.reduceMul, Int32.reduceLE, Int32.reduceLT, Int32.reduceToNatClampNeg, va_rf_some, Bool.false_eq_true, k_X7_read_0 ca, k_X7_read_1 ca, k_X7_read_4 ca, k_X7_read_7 ca, k_X7_read_9 ca, k_X7_read_10 ca, k_X7_read_11 ca, k_X7_read_14 ca, k_X7_read_17 ca, k_X7_read_18 ca, k_X7_read_21 ca, k_X7_read_23 ca, k_X7_read_24 ca, k_X7_read_25 ca, k_X7_read_28 ca, k_X7_read_29 ca, k_X7_read_32 ca, k_X7_read_35 ca, k_X7_read_36 ca, k_X7_read_37 ca, k_X7_read_38 ca, k_X7_read_39 ca, k_X7_read_40 ca, k_X7_read_43 ca, k_X7_read_44 ca, k_X7_read_45 ca, k_X7_read_46 ca, k_X7_read_47 ca, k_X7_read_50 ca, k_X7_read_53 ca, k_X7_read_56 ca, k_X7_read_57 ca, k_X7_read_58 ca, k_X7_read_61 ca, k_X7_read_62 ca, k_X7_read_65 ca, k_X7_read_66 ca, k_X7_read_69 ca, k_X7_read_70 ca, k_X7_read_73 ca, k_X7_read_74 ca, k_X7_read_77 ca, k_X7_read_78 ca, k_X7_read_81 ca, k_X7_read_84 ca, k_X7_read_87 ca, k_X7_read_90 ca, k_X7_read_91 ca, k_X7_read_94 ca, sp_X7_isRoom, q1, b2i_f]
    try clear hF hF0 F
    exact k0
  | true =>
    rw [q1, if_pos rfl, Bool.true_and] at hs
    refine goN go (stp [17]) 160 _ _ _ _ _ _ (fun F hF hF0 => ?_)
    simp only [hF, hF0, ite_not, i_push, i_iload, i_lload, i_aload, i_istore, i_astore, i_lstore, i_iinc, i_bin, i_dv, i_un, i_lbin, i_lsh, i_i2l, i_l2i, i_lcmp, i_dup, i_dup2, i_pop, i_if, i_icmp, i_goto, swG, i_sw, i_getf, i_puti, i_putz, i_putr, i_ald, i_lald, i_aald, i_ast, i_last, i_aast, i_alen, i_new, i_newi, i_newl, i_newq, i_oinit, i_ret, i_zret, i_lret, i_vret, catS, tk, rpush, isO, i_m1, i_m2, i_acopy, i_callV, i_callS, KRet, lget, lput, lputL, lcl0, isL, lv0, List.map_cons, List.map_nil, List.length_cons, List.length_nil, List.cons_append, List.nil_append, Nat.reduceAdd, Nat.reduceSub, Nat.reduceLeDiff, List.replicate_succ, List.replicate_zero, List.getElem?_cons_succ, List.getElem?_cons_zero, List.set_cons_succ, List.set_cons_zero, true_and, and_true, if_true, if_false, ↓reduceIte, Nat.le_refl, Value.category, va_up_app, eq_self, stp, Nat.reduceBEq, Bool.or_false, Bool.false_or, Bool.true_or, Bool.or_true, or_true, true_or, bx_uu, implies_true, true_implies, not_true, not_false_eq_true, false_implies, and_self, Nat.reduceLT, Int32.reduceAdd, Int32.reduceSub, Int32.reduceMul, Int32.reduceLE, Int32.reduceLT, Int32.reduceToNatClampNeg, va_rf_some, Bool.false_eq_true, k_X7_read_0 ca, k_X7_read_1 ca, k_X7_read_4 ca, k_X7_read_7 ca, k_X7_read_9 ca, k_X7_read_10 ca, k_X7_read_11 ca, k_X7_read_14 ca, k_X7_read_17 ca, k_X7_read_18 ca, k_X7_read_21 ca, k_X7_read_23 ca, k_X7_read_24 ca, k_X7_read_25 ca, k_X7_read_28 ca, k_X7_read_29 ca, k_X7_read_32 ca, k_X7_read_35 ca, k_X7_read_36 ca, k_X7_read_37 ca, k_X7_read_38 ca, k_X7_read_39 ca, k_X7_read_40 ca, k_X7_read_43 ca, k_X7_read_44 ca, k_X7_read_45 ca, k_X7_read_46 ca, k_X7_read_47 ca, k_X7_read_50 ca, k_X7_read_53 ca, k_X7_read_56 ca, k_X7_read_57 ca, k_X7_read_58 ca, k_X7_read_61 ca, k_X7_read_62 ca, k_X7_read_65 ca, k_X7_read_66 ca, k_X7_read_69 ca, k_X7_read_70 ca, k_X7_read_73 ca, k_X7_read_74 ca, k_X7_read_77 ca, k_X7_read_78 ca, k_X7_read_81 ca, k_X7_read_84 ca, k_X7_read_87 ca, k_X7_read_90 ca, k_X7_read_91 ca, k_X7_read_94 ca, sp_X7_isRoom, q1, b2i_t, one0, c0, vX0]
    try clear hF hF0 F
    refine ⟨x3, qc, n, f, rfl, hX, ?_⟩
    by_cases q2 : placeF f n = -1
    · rw [if_pos q2, decide_eq_true q2] at hs
      rw [q2]
      have hn := place_n q2
      obtain ⟨X, hX2, rfl⟩ := isIn0 (B := 2) rfl q1
      have xx : (nI X).toNatClampNeg = X := tn127 (by omega)
      have vx := vp3 (k := X) (by omega)
      rw [xx] at hs
      refine goN go (stp [28]) 160 _ _ _ _ _ _ (fun F hF hF0 => ?_)
      simp only [hF, hF0, ite_not, i_push, i_iload, i_lload, i_aload, i_istore, i_astore, i_lstore, i_iinc, i_bin, i_dv, i_un, i_lbin, i_lsh, i_i2l, i_l2i, i_lcmp, i_dup, i_dup2, i_pop, i_if, i_icmp, i_goto, swG, i_sw, i_getf, i_puti, i_putz, i_putr, i_ald, i_lald, i_aald, i_ast, i_last, i_aast, i_alen, i_new, i_newi, i_newl, i_newq, i_oinit, i_ret, i_zret, i_lret, i_vret, catS, tk, rpush, isO, i_m1, i_m2, i_acopy, i_callV, i_callS, KRet, lget, lput, lputL, lcl0, isL, lv0, List.map_cons, List.map_nil, List.length_cons, List.length_nil, List.cons_append, List.nil_append, Nat.reduceAdd, Nat.reduceSub, Nat.reduceLeDiff, List.replicate_succ, List.replicate_zero, List.getElem?_cons_succ, List.getElem?_cons_zero, List.set_cons_succ, List.set_cons_zero, true_and, and_true, if_true, if_false, ↓reduceIte, Nat.le_refl, Value.category, va_up_app, eq_self, stp, Nat.reduceBEq, Bool.or_false, Bool.false_or, Bool.true_or, Bool.or_true, or_true, true_or, bx_uu, implies_true, true_implies, not_true, not_false_eq_true, false_implies, and_self, Nat.reduceLT, Int32.reduceAdd, Int32.reduceSub, Int32.reduceMul, Int32.reduceLE, Int32.reduceLT, Int32.reduceToNatClampNeg, va_rf_some, Bool.false_eq_true, k_X7_read_0 ca, k_X7_read_1 ca, k_X7_read_4 ca, k_X7_read_7 ca, k_X7_read_9 ca, k_X7_read_10 ca, k_X7_read_11 ca, k_X7_read_14 ca, k_X7_read_17 ca, k_X7_read_18 ca, k_X7_read_21 ca, k_X7_read_23 ca, k_X7_read_24 ca, k_X7_read_25 ca, k_X7_read_28 ca, k_X7_read_29 ca, k_X7_read_32 ca, k_X7_read_35 ca, k_X7_read_36 ca, k_X7_read_37 ca, k_X7_read_38 ca, k_X7_read_39 ca, k_X7_read_40 ca, k_X7_read_43 ca, k_X7_read_44 ca, k_X7_read_45 ca, k_X7_read_46 ca, k_X7_read_47 ca, k_X7_read_50 ca, k_X7_read_53 ca, k_X7_read_56 ca, k_X7_read_57 ca, k_X7_read_58 ca, k_X7_read_61 ca, k_X7_read_62 ca, k_X7_read_65 ca, k_X7_read_66 ca, k_X7_read_69 ca, k_X7_read_70 ca, k_X7_read_73 ca, k_X7_read_74 ca, k_X7_read_77 ca, k_X7_read_78 ca, k_X7_read_81 ca, k_X7_read_84 ca, k_X7_read_87 ca, k_X7_read_90 ca, k_X7_read_91 ca, k_X7_read_94 ca, c0]
      try clear hF hF0 F
      refine rec_of J hC hbo (fun h1 hC1 hm1 => ?_)
      obtain ⟨d1, d2, -⟩ := id hC1
      obtain ⟨e0, ⟨f3, e4, e5⟩, -⟩ := d2.c
      have e6 := e5 X (by omega)
      have e7 := d2.st (k := X) (by omega)
      generalize hM : (n + 1) / 4 = M at *
      have key : ∀ j i, i + j = M → ∀ H, CN ca H o b qh qa B x3 x4 x5 0 (rdC s f X i) (hiO oo ss) (hiZ ss) (hiS oo ss S s) → SmC o b qh B h H → K 0 0 45 [some (.ref o), some (.int (nI X)), some (.ref (b (7 + 5 * X))), some (.int (nI i))] [] H := by
        intro j
        induction j with
        | zero =>
          intro i hi H hCi hm
          have hi : i = M := hi
          subst hi
          obtain ⟨p1, p2, -⟩ := id hCi
          have p4 := p2.st (k := X) (by omega)
          rw [rdC_0] at p4
          have hXH := hXm H hm
          have vXH := hXH.1
          have k0 := hs.2 rfl H hCi hm
          refine goN go (stp [53]) 160 _ _ _ _ _ _ (fun F hF hF0 => ?_)
          simp only [hF, hF0, ite_not, i_push, i_iload, i_lload, i_aload, i_istore, i_astore, i_lstore, i_iinc, i_bin, i_dv, i_un, i_lbin, i_lsh, i_i2l, i_l2i, i_lcmp, i_dup, i_dup2, i_pop, i_if, i_icmp, i_goto, swG, i_sw, i_getf, i_puti, i_putz, i_putr, i_ald, i_lald, i_aald, i_ast, i_last, i_aast, i_alen, i_new, i_newi, i_newl, i_newq, i_oinit, i_ret, i_zret, i_lret, i_vret, catS, tk, rpush, isO, i_m1, i_m2, i_acopy, i_callV, i_callS, KRet, lget, lput, lputL, lcl0, isL, lv0, List.map_cons, List.map_nil, List.length_cons, List.length_nil, List.cons_append, List.nil_append, Nat.reduceAdd, Nat.reduceSub, Nat.reduceLeDiff, List.replicate_succ, List.replicate_zero, List.getElem?_cons_succ, List.getElem?_cons_zero, List.set_cons_succ, List.set_cons_zero, true_and, and_true, if_true, if_false, ↓reduceIte, Nat.le_refl, Value.category, va_up_app, eq_self, stp, Nat.reduceBEq, Bool.or_false, Bool.false_or, Bool.true_or, Bool.or_true, or_true, true_or, bx_uu, implies_true, true_implies, not_true, not_false_eq_true, false_implies, and_self, Nat.reduceLT, Int32.reduceAdd, Int32.reduceSub, Int32.reduceMul, Int32.reduceLE, Int32.reduceLT, Int32.reduceToNatClampNeg, va_rf_some, Bool.false_eq_true, k_X7_read_0 ca, k_X7_read_1 ca, k_X7_read_4 ca, k_X7_read_7 ca, k_X7_read_9 ca, k_X7_read_10 ca, k_X7_read_11 ca, k_X7_read_14 ca, k_X7_read_17 ca, k_X7_read_18 ca, k_X7_read_21 ca, k_X7_read_23 ca, k_X7_read_24 ca, k_X7_read_25 ca, k_X7_read_28 ca, k_X7_read_29 ca, k_X7_read_32 ca, k_X7_read_35 ca, k_X7_read_36 ca, k_X7_read_37 ca, k_X7_read_38 ca, k_X7_read_39 ca, k_X7_read_40 ca, k_X7_read_43 ca, k_X7_read_44 ca, k_X7_read_45 ca, k_X7_read_46 ca, k_X7_read_47 ca, k_X7_read_50 ca, k_X7_read_53 ca, k_X7_read_56 ca, k_X7_read_57 ca, k_X7_read_58 ca, k_X7_read_61 ca, k_X7_read_62 ca, k_X7_read_65 ca, k_X7_read_66 ca, k_X7_read_69 ca, k_X7_read_70 ca, k_X7_read_73 ca, k_X7_read_74 ca, k_X7_read_77 ca, k_X7_read_78 ca, k_X7_read_81 ca, k_X7_read_84 ca, k_X7_read_87 ca, k_X7_read_90 ca, k_X7_read_91 ca, k_X7_read_94 ca, p1, vXH]
          try clear hF hF0 F
          refine ⟨x3, qc, n, f, rfl, hXH, ?_⟩
          rw [hM]
          refine goN go (stp []) 160 _ _ _ _ _ _ (fun F hF hF0 => ?_)
          simp only [hF, hF0, ite_not, i_push, i_iload, i_lload, i_aload, i_istore, i_astore, i_lstore, i_iinc, i_bin, i_dv, i_un, i_lbin, i_lsh, i_i2l, i_l2i, i_lcmp, i_dup, i_dup2, i_pop, i_if, i_icmp, i_goto, swG, i_sw, i_getf, i_puti, i_putz, i_putr, i_ald, i_lald, i_aald, i_ast, i_last, i_aast, i_alen, i_new, i_newi, i_newl, i_newq, i_oinit, i_ret, i_zret, i_lret, i_vret, catS, tk, rpush, isO, i_m1, i_m2, i_acopy, i_callV, i_callS, KRet, lget, lput, lputL, lcl0, isL, lv0, List.map_cons, List.map_nil, List.length_cons, List.length_nil, List.cons_append, List.nil_append, Nat.reduceAdd, Nat.reduceSub, Nat.reduceLeDiff, List.replicate_succ, List.replicate_zero, List.getElem?_cons_succ, List.getElem?_cons_zero, List.set_cons_succ, List.set_cons_zero, true_and, and_true, if_true, if_false, ↓reduceIte, Nat.le_refl, Value.category, va_up_app, eq_self, stp, Nat.reduceBEq, Bool.or_false, Bool.false_or, Bool.true_or, Bool.or_true, or_true, true_or, bx_uu, implies_true, true_implies, not_true, not_false_eq_true, false_implies, and_self, Nat.reduceLT, Int32.reduceAdd, Int32.reduceSub, Int32.reduceMul, Int32.reduceLE, Int32.reduceLT, Int32.reduceToNatClampNeg, va_rf_some, Bool.false_eq_true, k_X7_read_0 ca, k_X7_read_1 ca, k_X7_read_4 ca, k_X7_read_7 ca, k_X7_read_9 ca, k_X7_read_10 ca, k_X7_read_11 ca, k_X7_read_14 ca, k_X7_read_17 ca, k_X7_read_18 ca, k_X7_read_21 ca, k_X7_read_23 ca, k_X7_read_24 ca, k_X7_read_25 ca, k_X7_read_28 ca, k_X7_read_29 ca, k_X7_read_32 ca, k_X7_read_35 ca, k_X7_read_36 ca, k_X7_read_37 ca, k_X7_read_38 ca, k_X7_read_39 ca, k_X7_read_40 ca, k_X7_read_43 ca, k_X7_read_44 ca, k_X7_read_45 ca, k_X7_read_46 ca, k_X7_read_47 ca, k_X7_read_50 ca, k_X7_read_53 ca, k_X7_read_56 ca, k_X7_read_57 ca, k_X7_read_58 ca, k_X7_read_61 ca, k_X7_read_62 ca, k_X7_read_65 ca, k_X7_read_66 ca, k_X7_read_69 ca, k_X7_read_70 ca, k_X7_read_73 ca, k_X7_read_74 ca, k_X7_read_77 ca, k_X7_read_78 ca, k_X7_read_81 ca, k_X7_read_84 ca, k_X7_read_87 ca, k_X7_read_90 ca, k_X7_read_91 ca, k_X7_read_94 ca, Int32.le_refl, p4]
          try clear hF hF0 F
          exact k0
        | succ j ih =>
          intro i hi H hCi hm
          obtain ⟨p1, p2, -⟩ := id hCi
          have p4 := p2.st (k := X) (by omega)
          rw [rdC_0] at p4
          have hXH := hXm H hm
          have vXH := hXH.1
          have g1 : ¬ nI M ≤ nI i := nI_ge (by omega) (by omega)
          have p0 : (nI i < 0) = False := eq_false (nI_pos (by omega))
          have elt : (nI i < 8) = True := eq_true (nI_lt (b := 8) (by omega) (by decide))
          have xn : (nI i).toNatClampNeg = i := nI_clamp (by omega)
          obtain ⟨⟨fl, l1, -⟩, ⟨fu, u1, -⟩, ⟨fw, w1, -⟩⟩ := p2.pl (k := X) (by omega)
          have hS3 := p2.add hb (k := X) (N := i) (x := f (4 * i) - 48) (y := f (4 * i + 1) - 97) (z := f (4 * i + 2) - 97) (by omega) (by omega) l1 u1 w1
          have m1 : (b (8 + 5 * X) = b (9 + 5 * X)) = False := bne hb (by omega)
          have m2 : (b (8 + 5 * X) = b (10 + 5 * X)) = False := bne hb (by omega)
          have m3 : (b (9 + 5 * X) = b (10 + 5 * X)) = False := bne hb (by omega)
          have m4 : (b (8 + 5 * X) = b (7 + 5 * X)) = False := bne hb (by omega)
          have m5 : (b (9 + 5 * X) = b (7 + 5 * X)) = False := bne hb (by omega)
          have m6 : (b (10 + 5 * X) = b (7 + 5 * X)) = False := bne hb (by omega)
          have k0 := ih (i + 1) (by omega) _ (hCi.now J hS3 (Same_add (by omega))) (hm.tr (SmC.now (Same_add (by omega))))
          refine goN go (stp [53]) 160 _ _ _ _ _ _ (fun F hF hF0 => ?_)
          simp only [hF, hF0, ite_not, i_push, i_iload, i_lload, i_aload, i_istore, i_astore, i_lstore, i_iinc, i_bin, i_dv, i_un, i_lbin, i_lsh, i_i2l, i_l2i, i_lcmp, i_dup, i_dup2, i_pop, i_if, i_icmp, i_goto, swG, i_sw, i_getf, i_puti, i_putz, i_putr, i_ald, i_lald, i_aald, i_ast, i_last, i_aast, i_alen, i_new, i_newi, i_newl, i_newq, i_oinit, i_ret, i_zret, i_lret, i_vret, catS, tk, rpush, isO, i_m1, i_m2, i_acopy, i_callV, i_callS, KRet, lget, lput, lputL, lcl0, isL, lv0, List.map_cons, List.map_nil, List.length_cons, List.length_nil, List.cons_append, List.nil_append, Nat.reduceAdd, Nat.reduceSub, Nat.reduceLeDiff, List.replicate_succ, List.replicate_zero, List.getElem?_cons_succ, List.getElem?_cons_zero, List.set_cons_succ, List.set_cons_zero, true_and, and_true, if_true, if_false, ↓reduceIte, Nat.le_refl, Value.category, va_up_app, eq_self, stp, Nat.reduceBEq, Bool.or_false, Bool.false_or, Bool.true_or, Bool.or_true, or_true, true_or, bx_uu, implies_true, true_implies, not_true, not_false_eq_true, false_implies, and_self, Nat.reduceLT, Int32.reduceAdd, Int32.reduceSub, Int32.reduceMul, Int32.reduceLE, Int32.reduceLT, Int32.reduceToNatClampNeg, va_rf_some, Bool.false_eq_true, k_X7_read_0 ca, k_X7_read_1 ca, k_X7_read_4 ca, k_X7_read_7 ca, k_X7_read_9 ca, k_X7_read_10 ca, k_X7_read_11 ca, k_X7_read_14 ca, k_X7_read_17 ca, k_X7_read_18 ca, k_X7_read_21 ca, k_X7_read_23 ca, k_X7_read_24 ca, k_X7_read_25 ca, k_X7_read_28 ca, k_X7_read_29 ca, k_X7_read_32 ca, k_X7_read_35 ca, k_X7_read_36 ca, k_X7_read_37 ca, k_X7_read_38 ca, k_X7_read_39 ca, k_X7_read_40 ca, k_X7_read_43 ca, k_X7_read_44 ca, k_X7_read_45 ca, k_X7_read_46 ca, k_X7_read_47 ca, k_X7_read_50 ca, k_X7_read_53 ca, k_X7_read_56 ca, k_X7_read_57 ca, k_X7_read_58 ca, k_X7_read_61 ca, k_X7_read_62 ca, k_X7_read_65 ca, k_X7_read_66 ca, k_X7_read_69 ca, k_X7_read_70 ca, k_X7_read_73 ca, k_X7_read_74 ca, k_X7_read_77 ca, k_X7_read_78 ca, k_X7_read_81 ca, k_X7_read_84 ca, k_X7_read_87 ca, k_X7_read_90 ca, k_X7_read_91 ca, k_X7_read_94 ca, p1, vXH]
          try clear hF hF0 F
          refine ⟨x3, qc, n, f, rfl, hXH, ?_⟩
          rw [hM]
          refine goN go (stp [65]) 160 _ _ _ _ _ _ (fun F hF hF0 => ?_)
          simp only [hF, hF0, ite_not, i_push, i_iload, i_lload, i_aload, i_istore, i_astore, i_lstore, i_iinc, i_bin, i_dv, i_un, i_lbin, i_lsh, i_i2l, i_l2i, i_lcmp, i_dup, i_dup2, i_pop, i_if, i_icmp, i_goto, swG, i_sw, i_getf, i_puti, i_putz, i_putr, i_ald, i_lald, i_aald, i_ast, i_last, i_aast, i_alen, i_new, i_newi, i_newl, i_newq, i_oinit, i_ret, i_zret, i_lret, i_vret, catS, tk, rpush, isO, i_m1, i_m2, i_acopy, i_callV, i_callS, KRet, lget, lput, lputL, lcl0, isL, lv0, List.map_cons, List.map_nil, List.length_cons, List.length_nil, List.cons_append, List.nil_append, Nat.reduceAdd, Nat.reduceSub, Nat.reduceLeDiff, List.replicate_succ, List.replicate_zero, List.getElem?_cons_succ, List.getElem?_cons_zero, List.set_cons_succ, List.set_cons_zero, true_and, and_true, if_true, if_false, ↓reduceIte, Nat.le_refl, Value.category, va_up_app, eq_self, stp, Nat.reduceBEq, Bool.or_false, Bool.false_or, Bool.true_or, Bool.or_true, or_true, true_or, bx_uu, implies_true, true_implies, not_true, not_false_eq_true, false_implies, and_self, Nat.reduceLT, Int32.reduceAdd, Int32.reduceSub, Int32.reduceMul, Int32.reduceLE, Int32.reduceLT, Int32.reduceToNatClampNeg, va_rf_some, Bool.false_eq_true, k_X7_read_0 ca, k_X7_read_1 ca, k_X7_read_4 ca, k_X7_read_7 ca, k_X7_read_9 ca, k_X7_read_10 ca, k_X7_read_11 ca, k_X7_read_14 ca, k_X7_read_17 ca, k_X7_read_18 ca, k_X7_read_21 ca, k_X7_read_23 ca, k_X7_read_24 ca, k_X7_read_25 ca, k_X7_read_28 ca, k_X7_read_29 ca, k_X7_read_32 ca, k_X7_read_35 ca, k_X7_read_36 ca, k_X7_read_37 ca, k_X7_read_38 ca, k_X7_read_39 ca, k_X7_read_40 ca, k_X7_read_43 ca, k_X7_read_44 ca, k_X7_read_45 ca, k_X7_read_46 ca, k_X7_read_47 ca, k_X7_read_50 ca, k_X7_read_53 ca, k_X7_read_56 ca, k_X7_read_57 ca, k_X7_read_58 ca, k_X7_read_61 ca, k_X7_read_62 ca, k_X7_read_65 ca, k_X7_read_66 ca, k_X7_read_69 ca, k_X7_read_70 ca, k_X7_read_73 ca, k_X7_read_74 ca, k_X7_read_77 ca, k_X7_read_78 ca, k_X7_read_81 ca, k_X7_read_84 ca, k_X7_read_87 ca, k_X7_read_90 ca, k_X7_read_91 ca, k_X7_read_94 ca, g1, p1, vXH]
          try clear hF hF0 F
          refine ⟨x3, qc, n, f, i, rfl, hXH, by omega, ?_⟩
          refine goN go (stp [73]) 160 _ _ _ _ _ _ (fun F hF hF0 => ?_)
          simp only [hF, hF0, ite_not, i_push, i_iload, i_lload, i_aload, i_istore, i_astore, i_lstore, i_iinc, i_bin, i_dv, i_un, i_lbin, i_lsh, i_i2l, i_l2i, i_lcmp, i_dup, i_dup2, i_pop, i_if, i_icmp, i_goto, swG, i_sw, i_getf, i_puti, i_putz, i_putr, i_ald, i_lald, i_aald, i_ast, i_last, i_aast, i_alen, i_new, i_newi, i_newl, i_newq, i_oinit, i_ret, i_zret, i_lret, i_vret, catS, tk, rpush, isO, i_m1, i_m2, i_acopy, i_callV, i_callS, KRet, lget, lput, lputL, lcl0, isL, lv0, List.map_cons, List.map_nil, List.length_cons, List.length_nil, List.cons_append, List.nil_append, Nat.reduceAdd, Nat.reduceSub, Nat.reduceLeDiff, List.replicate_succ, List.replicate_zero, List.getElem?_cons_succ, List.getElem?_cons_zero, List.set_cons_succ, List.set_cons_zero, true_and, and_true, if_true, if_false, ↓reduceIte, Nat.le_refl, Value.category, va_up_app, eq_self, stp, Nat.reduceBEq, Bool.or_false, Bool.false_or, Bool.true_or, Bool.or_true, or_true, true_or, bx_uu, implies_true, true_implies, not_true, not_false_eq_true, false_implies, and_self, Nat.reduceLT, Int32.reduceAdd, Int32.reduceSub, Int32.reduceMul, Int32.reduceLE, Int32.reduceLT, Int32.reduceToNatClampNeg, va_rf_some, Bool.false_eq_true, k_X7_read_0 ca, k_X7_read_1 ca, k_X7_read_4 ca, k_X7_read_7 ca, k_X7_read_9 ca, k_X7_read_10 ca, k_X7_read_11 ca, k_X7_read_14 ca, k_X7_read_17 ca, k_X7_read_18 ca, k_X7_read_21 ca, k_X7_read_23 ca, k_X7_read_24 ca, k_X7_read_25 ca, k_X7_read_28 ca, k_X7_read_29 ca, k_X7_read_32 ca, k_X7_read_35 ca, k_X7_read_36 ca, k_X7_read_37 ca, k_X7_read_38 ca, k_X7_read_39 ca, k_X7_read_40 ca, k_X7_read_43 ca, k_X7_read_44 ca, k_X7_read_45 ca, k_X7_read_46 ca, k_X7_read_47 ca, k_X7_read_50 ca, k_X7_read_53 ca, k_X7_read_56 ca, k_X7_read_57 ca, k_X7_read_58 ca, k_X7_read_61 ca, k_X7_read_62 ca, k_X7_read_65 ca, k_X7_read_66 ca, k_X7_read_69 ca, k_X7_read_70 ca, k_X7_read_73 ca, k_X7_read_74 ca, k_X7_read_77 ca, k_X7_read_78 ca, k_X7_read_81 ca, k_X7_read_84 ca, k_X7_read_87 ca, k_X7_read_90 ca, k_X7_read_91 ca, k_X7_read_94 ca, p1, vXH]
          try clear hF hF0 F
          refine ⟨x3, qc, n, f, i, rfl, hXH, by omega, ?_⟩
          refine goN go (stp [81]) 160 _ _ _ _ _ _ (fun F hF hF0 => ?_)
          simp only [hF, hF0, ite_not, i_push, i_iload, i_lload, i_aload, i_istore, i_astore, i_lstore, i_iinc, i_bin, i_dv, i_un, i_lbin, i_lsh, i_i2l, i_l2i, i_lcmp, i_dup, i_dup2, i_pop, i_if, i_icmp, i_goto, swG, i_sw, i_getf, i_puti, i_putz, i_putr, i_ald, i_lald, i_aald, i_ast, i_last, i_aast, i_alen, i_new, i_newi, i_newl, i_newq, i_oinit, i_ret, i_zret, i_lret, i_vret, catS, tk, rpush, isO, i_m1, i_m2, i_acopy, i_callV, i_callS, KRet, lget, lput, lputL, lcl0, isL, lv0, List.map_cons, List.map_nil, List.length_cons, List.length_nil, List.cons_append, List.nil_append, Nat.reduceAdd, Nat.reduceSub, Nat.reduceLeDiff, List.replicate_succ, List.replicate_zero, List.getElem?_cons_succ, List.getElem?_cons_zero, List.set_cons_succ, List.set_cons_zero, true_and, and_true, if_true, if_false, ↓reduceIte, Nat.le_refl, Value.category, va_up_app, eq_self, stp, Nat.reduceBEq, Bool.or_false, Bool.false_or, Bool.true_or, Bool.or_true, or_true, true_or, bx_uu, implies_true, true_implies, not_true, not_false_eq_true, false_implies, and_self, Nat.reduceLT, Int32.reduceAdd, Int32.reduceSub, Int32.reduceMul, Int32.reduceLE, Int32.reduceLT, Int32.reduceToNatClampNeg, va_rf_some, Bool.false_eq_true, k_X7_read_0 ca, k_X7_read_1 ca, k_X7_read_4 ca, k_X7_read_7 ca, k_X7_read_9 ca, k_X7_read_10 ca, k_X7_read_11 ca, k_X7_read_14 ca, k_X7_read_17 ca, k_X7_read_18 ca, k_X7_read_21 ca, k_X7_read_23 ca, k_X7_read_24 ca, k_X7_read_25 ca, k_X7_read_28 ca, k_X7_read_29 ca, k_X7_read_32 ca, k_X7_read_35 ca, k_X7_read_36 ca, k_X7_read_37 ca, k_X7_read_38 ca, k_X7_read_39 ca, k_X7_read_40 ca, k_X7_read_43 ca, k_X7_read_44 ca, k_X7_read_45 ca, k_X7_read_46 ca, k_X7_read_47 ca, k_X7_read_50 ca, k_X7_read_53 ca, k_X7_read_56 ca, k_X7_read_57 ca, k_X7_read_58 ca, k_X7_read_61 ca, k_X7_read_62 ca, k_X7_read_65 ca, k_X7_read_66 ca, k_X7_read_69 ca, k_X7_read_70 ca, k_X7_read_73 ca, k_X7_read_74 ca, k_X7_read_77 ca, k_X7_read_78 ca, k_X7_read_81 ca, k_X7_read_84 ca, k_X7_read_87 ca, k_X7_read_90 ca, k_X7_read_91 ca, k_X7_read_94 ca, p1, vXH]
          try clear hF hF0 F
          refine ⟨x3, qc, n, f, i, rfl, hXH, by omega, ?_⟩
          refine goN go (stp [45]) 160 _ _ _ _ _ _ (fun F hF hF0 => ?_)
          simp only [hF, hF0, ite_not, i_push, i_iload, i_lload, i_aload, i_istore, i_astore, i_lstore, i_iinc, i_bin, i_dv, i_un, i_lbin, i_lsh, i_i2l, i_l2i, i_lcmp, i_dup, i_dup2, i_pop, i_if, i_icmp, i_goto, swG, i_sw, i_getf, i_puti, i_putz, i_putr, i_ald, i_lald, i_aald, i_ast, i_last, i_aast, i_alen, i_new, i_newi, i_newl, i_newq, i_oinit, i_ret, i_zret, i_lret, i_vret, catS, tk, rpush, isO, i_m1, i_m2, i_acopy, i_callV, i_callS, KRet, lget, lput, lputL, lcl0, isL, lv0, List.map_cons, List.map_nil, List.length_cons, List.length_nil, List.cons_append, List.nil_append, Nat.reduceAdd, Nat.reduceSub, Nat.reduceLeDiff, List.replicate_succ, List.replicate_zero, List.getElem?_cons_succ, List.getElem?_cons_zero, List.set_cons_succ, List.set_cons_zero, true_and, and_true, if_true, if_false, ↓reduceIte, Nat.le_refl, Value.category, va_up_app, eq_self, stp, Nat.reduceBEq, Bool.or_false, Bool.false_or, Bool.true_or, Bool.or_true, or_true, true_or, bx_uu, implies_true, true_implies, not_true, not_false_eq_true, false_implies, and_self, Nat.reduceLT, Int32.reduceAdd, Int32.reduceSub, Int32.reduceMul, Int32.reduceLE, Int32.reduceLT, Int32.reduceToNatClampNeg, va_rf_some, Bool.false_eq_true, k_X7_read_0 ca, k_X7_read_1 ca, k_X7_read_4 ca, k_X7_read_7 ca, k_X7_read_9 ca, k_X7_read_10 ca, k_X7_read_11 ca, k_X7_read_14 ca, k_X7_read_17 ca, k_X7_read_18 ca, k_X7_read_21 ca, k_X7_read_23 ca, k_X7_read_24 ca, k_X7_read_25 ca, k_X7_read_28 ca, k_X7_read_29 ca, k_X7_read_32 ca, k_X7_read_35 ca, k_X7_read_36 ca, k_X7_read_37 ca, k_X7_read_38 ca, k_X7_read_39 ca, k_X7_read_40 ca, k_X7_read_43 ca, k_X7_read_44 ca, k_X7_read_45 ca, k_X7_read_46 ca, k_X7_read_47 ca, k_X7_read_50 ca, k_X7_read_53 ca, k_X7_read_56 ca, k_X7_read_57 ca, k_X7_read_58 ca, k_X7_read_61 ca, k_X7_read_62 ca, k_X7_read_65 ca, k_X7_read_66 ca, k_X7_read_69 ca, k_X7_read_70 ca, k_X7_read_73 ca, k_X7_read_74 ca, k_X7_read_77 ca, k_X7_read_78 ca, k_X7_read_81 ca, k_X7_read_84 ca, k_X7_read_87 ca, k_X7_read_90 ca, k_X7_read_91 ca, k_X7_read_94 ca, p4, l1, u1, w1, sp_X5_addPart, p0, elt, xn, m1, m2, m3, m4, m5, m6, a_1]
          try clear hF hF0 F
          exact k0
      have hS3 := d2.ssF hb (k := X) (F := upd s (10 + 32 * X) (nI 0)) (by omega) (fun j hj => by rw [upd_app, if_neg (by omega)])
      have k0 := key M 0 (by omega) _ (hC1.now J hS3 (Same_up (by omega) _)) (hm1.tr (SmC.now (Same_up (by omega) _)))
      rw [show upd s (10 + 32 * X) (nI 0) (10 + 32 * X) = (nI 0) by rw [upd_app, if_pos rfl], show upd s (10 + 32 * X) (nI 0) (10 + 32 * X + 1) = s (10 + 32 * X + 1) by rw [upd_app, if_neg (by omega)], show upd s (10 + 32 * X) (nI 0) (10 + 32 * X + 2) = s (10 + 32 * X + 2) by rw [upd_app, if_neg (by omega)], show upd s (10 + 32 * X) (nI 0) (10 + 32 * X + 3) = s (10 + 32 * X + 3) by rw [upd_app, if_neg (by omega)], show upd s (10 + 32 * X) (nI 0) (10 + 32 * X + 5) = s (10 + 32 * X + 5) by rw [upd_app, if_neg (by omega)], show upd s (10 + 32 * X) (nI 0) (10 + 32 * X + 6) = s (10 + 32 * X + 6) by rw [upd_app, if_neg (by omega)], show upd s (10 + 32 * X) (nI 0) (10 + 32 * X + 7) = s (10 + 32 * X + 7) by rw [upd_app, if_neg (by omega)], show upd s (10 + 32 * X) (nI 0) (10 + 32 * X + 4) = s (10 + 32 * X + 4) by rw [upd_app, if_neg (by omega)], nI_0] at k0
      refine goN go (stp [45]) 160 _ _ _ _ _ _ (fun F hF hF0 => ?_)
      simp only [hF, hF0, ite_not, i_push, i_iload, i_lload, i_aload, i_istore, i_astore, i_lstore, i_iinc, i_bin, i_dv, i_un, i_lbin, i_lsh, i_i2l, i_l2i, i_lcmp, i_dup, i_dup2, i_pop, i_if, i_icmp, i_goto, swG, i_sw, i_getf, i_puti, i_putz, i_putr, i_ald, i_lald, i_aald, i_ast, i_last, i_aast, i_alen, i_new, i_newi, i_newl, i_newq, i_oinit, i_ret, i_zret, i_lret, i_vret, catS, tk, rpush, isO, i_m1, i_m2, i_acopy, i_callV, i_callS, KRet, lget, lput, lputL, lcl0, isL, lv0, List.map_cons, List.map_nil, List.length_cons, List.length_nil, List.cons_append, List.nil_append, Nat.reduceAdd, Nat.reduceSub, Nat.reduceLeDiff, List.replicate_succ, List.replicate_zero, List.getElem?_cons_succ, List.getElem?_cons_zero, List.set_cons_succ, List.set_cons_zero, true_and, and_true, if_true, if_false, ↓reduceIte, Nat.le_refl, Value.category, va_up_app, eq_self, stp, Nat.reduceBEq, Bool.or_false, Bool.false_or, Bool.true_or, Bool.or_true, or_true, true_or, bx_uu, implies_true, true_implies, not_true, not_false_eq_true, false_implies, and_self, Nat.reduceLT, Int32.reduceAdd, Int32.reduceSub, Int32.reduceMul, Int32.reduceLE, Int32.reduceLT, Int32.reduceToNatClampNeg, va_rf_some, Bool.false_eq_true, k_X7_read_0 ca, k_X7_read_1 ca, k_X7_read_4 ca, k_X7_read_7 ca, k_X7_read_9 ca, k_X7_read_10 ca, k_X7_read_11 ca, k_X7_read_14 ca, k_X7_read_17 ca, k_X7_read_18 ca, k_X7_read_21 ca, k_X7_read_23 ca, k_X7_read_24 ca, k_X7_read_25 ca, k_X7_read_28 ca, k_X7_read_29 ca, k_X7_read_32 ca, k_X7_read_35 ca, k_X7_read_36 ca, k_X7_read_37 ca, k_X7_read_38 ca, k_X7_read_39 ca, k_X7_read_40 ca, k_X7_read_43 ca, k_X7_read_44 ca, k_X7_read_45 ca, k_X7_read_46 ca, k_X7_read_47 ca, k_X7_read_50 ca, k_X7_read_53 ca, k_X7_read_56 ca, k_X7_read_57 ca, k_X7_read_58 ca, k_X7_read_61 ca, k_X7_read_62 ca, k_X7_read_65 ca, k_X7_read_66 ca, k_X7_read_69 ca, k_X7_read_70 ca, k_X7_read_73 ca, k_X7_read_74 ca, k_X7_read_77 ca, k_X7_read_78 ca, k_X7_read_81 ca, k_X7_read_84 ca, k_X7_read_87 ca, k_X7_read_90 ca, k_X7_read_91 ca, k_X7_read_94 ca, d1, e0, e4, e6, e7, vx, xx]
      try clear hF hF0 F
      exact k0
    · rw [if_neg q2, decide_eq_false q2] at hs
      have k0 := hs.1 rfl
      refine goN go (stp []) 160 _ _ _ _ _ _ (fun F hF hF0 => ?_)
      simp only [hF, hF0, ite_not, i_push, i_iload, i_lload, i_aload, i_istore, i_astore, i_lstore, i_iinc, i_bin, i_dv, i_un, i_lbin, i_lsh, i_i2l, i_l2i, i_lcmp, i_dup, i_dup2, i_pop, i_if, i_icmp, i_goto, swG, i_sw, i_getf, i_puti, i_putz, i_putr, i_ald, i_lald, i_aald, i_ast, i_last, i_aast, i_alen, i_new, i_newi, i_newl, i_newq, i_oinit, i_ret, i_zret, i_lret, i_vret, catS, tk, rpush, isO, i_m1, i_m2, i_acopy, i_callV, i_callS, KRet, lget, lput, lputL, lcl0, isL, lv0, List.map_cons, List.map_nil, List.length_cons, List.length_nil, List.cons_append, List.nil_append, Nat.reduceAdd, Nat.reduceSub, Nat.reduceLeDiff, List.replicate_succ, List.replicate_zero, List.getElem?_cons_succ, List.getElem?_cons_zero, List.set_cons_succ, List.set_cons_zero, true_and, and_true, if_true, if_false, ↓reduceIte, Nat.le_refl, Value.category, va_up_app, eq_self, stp, Nat.reduceBEq, Bool.or_false, Bool.false_or, Bool.true_or, Bool.or_true, or_true, true_or, bx_uu, implies_true, true_implies, not_true, not_false_eq_true, false_implies, and_self, Nat.reduceLT, Int32.reduceAdd, Int32.reduceSub, Int32.reduceMul, Int32.reduceLE, Int32.reduceLT, Int32.reduceToNatClampNeg, va_rf_some, Bool.false_eq_true, k_X7_read_0 ca, k_X7_read_1 ca, k_X7_read_4 ca, k_X7_read_7 ca, k_X7_read_9 ca, k_X7_read_10 ca, k_X7_read_11 ca, k_X7_read_14 ca, k_X7_read_17 ca, k_X7_read_18 ca, k_X7_read_21 ca, k_X7_read_23 ca, k_X7_read_24 ca, k_X7_read_25 ca, k_X7_read_28 ca, k_X7_read_29 ca, k_X7_read_32 ca, k_X7_read_35 ca, k_X7_read_36 ca, k_X7_read_37 ca, k_X7_read_38 ca, k_X7_read_39 ca, k_X7_read_40 ca, k_X7_read_43 ca, k_X7_read_44 ca, k_X7_read_45 ca, k_X7_read_46 ca, k_X7_read_47 ca, k_X7_read_50 ca, k_X7_read_53 ca, k_X7_read_56 ca, k_X7_read_57 ca, k_X7_read_58 ca, k_X7_read_61 ca, k_X7_read_62 ca, k_X7_read_65 ca, k_X7_read_66 ca, k_X7_read_69 ca, k_X7_read_70 ca, k_X7_read_73 ca, k_X7_read_74 ca, k_X7_read_77 ca, k_X7_read_78 ca, k_X7_read_81 ca, k_X7_read_84 ca, k_X7_read_87 ca, k_X7_read_90 ca, k_X7_read_91 ca, k_X7_read_94 ca, q2]
      try clear hF hF0 F
      exact k0

