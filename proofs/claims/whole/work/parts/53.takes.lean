/-! SnapStacksModel: takes -/
def takB (f : Nat → Int32) (n p : Nat) (lo hi : Int32) : Bool := decide (p < n) && isIn (f p) lo hi
def sp_X8_takes (ca : Nat → ClassId) : SPEC := fun av h post => ∃ m a st n fm p re f lo hi, av = [.ref m, .int lo, .int hi] ∧ h m = some (eMod a st (nI n) fm (nI p) re) ∧ h (a 3) = some (.inl (ca 0, 60, .inl f)) ∧ n ≤ 60 ∧ p ≤ 60 ∧ post (some (.int (b2i (takB f n p lo hi)))) (va_up h m (some (eMod a st (nI n) fm (nI (p + (if takB f n p lo hi = true then 1 else 0))) re)))
def k_X8_takes (ca : Nat → ClassId) : Nat → IT := fun pc => lk pc [(0, i_aload 0 1),
  (1, i_getf 8 13 4),
  (4, i_aload 0 5),
  (5, i_getf 8 5 8),
  (8, i_icmp (fun x y => y ≤ x) 32 11),
  (11, i_aload 0 12),
  (12, i_getf 8 4 15),
  (15, i_aload 0 16),
  (16, i_getf 8 13 19),
  (19, i_ald (ca 0) 20),
  (20, i_iload 1 21),
  (21, i_iload 2 22),
  (22, i_callS 3 0 0 0 0 (sp_X8_in ca) 25),
  (25, i_if (fun x => x = 0) 32 28),
  (28, i_push (.int 1) 29),
  (29, i_goto 33),
  (32, i_push (.int 0) 33),
  (33, i_istore 3 34),
  (34, i_aload 0 35),
  (35, i_dup 36),
  (36, i_getf 8 13 39),
  (39, i_iload 3 40),
  (40, i_if (fun x => x = 0) 47 43),
  (43, i_push (.int 1) 44),
  (44, i_goto 48),
  (47, i_push (.int 0) 48),
  (48, i_bin (fun x y => x + y) 49),
  (49, i_puti 8 13 52),
  (52, i_iload 3 53),
  (53, i_zret)]
set_option maxRecDepth 20000 in
theorem t_X8_takes : Tb k_X8_takes yX8_takes cX8_takes 4 (some .boolean) 1 0 0 := by
  intro l D ca A p e s m args below meth c post X
  unfold k_X8_takes
  refine snd_cons (snd_aload_n X dX8_takes_0 rfl) ?_
  refine snd_cons (snd_getf X Fk8 13 (by decide) w_660 dX8_takes_1) ?_
  refine snd_cons (snd_aload_n X dX8_takes_4 rfl) ?_
  refine snd_cons (snd_getf X Fk8 5 (by decide) w_652 dX8_takes_5) ?_
  refine snd_cons (snd_icmp_ge X dX8_takes_8 (by decide)) ?_
  refine snd_cons (snd_aload_n X dX8_takes_11 rfl) ?_
  refine snd_cons (snd_getf X Fk8 4 (by decide) w_651 dX8_takes_12) ?_
  refine snd_cons (snd_aload_n X dX8_takes_15 rfl) ?_
  refine snd_cons (snd_getf X Fk8 13 (by decide) w_660 dX8_takes_16) ?_
  refine snd_cons (snd_iaload X dX8_takes_19) ?_
  refine snd_cons (snd_iload_n X dX8_takes_20 rfl) ?_
  refine snd_cons (snd_iload_n X dX8_takes_21 rfl) ?_
  refine snd_cons (snd_callS X (ok_X8_in l D ca) rfl rfl w_702 w_703 w_9 w_704 (by decide) (by decide) dX8_takes_22) ?_
  refine snd_cons (snd_if_eq X dX8_takes_25 (by decide)) ?_
  refine snd_cons (snd_iconst X dX8_takes_28 (by decide)) ?_
  refine snd_cons (snd_goto X dX8_takes_29 (by decide)) ?_
  refine snd_cons (snd_iconst X dX8_takes_32 (by decide)) ?_
  refine snd_cons (snd_istore_n X dX8_takes_33 rfl (by decide)) ?_
  refine snd_cons (snd_aload_n X dX8_takes_34 rfl) ?_
  refine snd_cons (snd_dup X dX8_takes_35) ?_
  refine snd_cons (snd_getf X Fk8 13 (by decide) w_660 dX8_takes_36) ?_
  refine snd_cons (snd_iload_n X dX8_takes_39 rfl) ?_
  refine snd_cons (snd_if_eq X dX8_takes_40 (by decide)) ?_
  refine snd_cons (snd_iconst X dX8_takes_43 (by decide)) ?_
  refine snd_cons (snd_goto X dX8_takes_44 (by decide)) ?_
  refine snd_cons (snd_iconst X dX8_takes_47 (by decide)) ?_
  refine snd_cons (snd_iadd X dX8_takes_48) ?_
  refine snd_cons (snd_puti X Fk8 13 (by decide) rfl rfl w_660 dX8_takes_49) ?_
  refine snd_cons (snd_iload_n X dX8_takes_52 rfl) ?_
  refine snd_cons (snd_zret X dX8_takes_53) ?_
  exact snd_nil
theorem k_X8_takes_0 (ca : Nat → ClassId) : k_X8_takes ca 0 = i_aload 0 1 := rfl
theorem k_X8_takes_1 (ca : Nat → ClassId) : k_X8_takes ca 1 = i_getf 8 13 4 := rfl
theorem k_X8_takes_4 (ca : Nat → ClassId) : k_X8_takes ca 4 = i_aload 0 5 := rfl
theorem k_X8_takes_5 (ca : Nat → ClassId) : k_X8_takes ca 5 = i_getf 8 5 8 := rfl
theorem k_X8_takes_8 (ca : Nat → ClassId) : k_X8_takes ca 8 = i_icmp (fun x y => y ≤ x) 32 11 := rfl
theorem k_X8_takes_11 (ca : Nat → ClassId) : k_X8_takes ca 11 = i_aload 0 12 := rfl
theorem k_X8_takes_12 (ca : Nat → ClassId) : k_X8_takes ca 12 = i_getf 8 4 15 := rfl
theorem k_X8_takes_15 (ca : Nat → ClassId) : k_X8_takes ca 15 = i_aload 0 16 := rfl
theorem k_X8_takes_16 (ca : Nat → ClassId) : k_X8_takes ca 16 = i_getf 8 13 19 := rfl
theorem k_X8_takes_19 (ca : Nat → ClassId) : k_X8_takes ca 19 = i_ald (ca 0) 20 := rfl
theorem k_X8_takes_20 (ca : Nat → ClassId) : k_X8_takes ca 20 = i_iload 1 21 := rfl
theorem k_X8_takes_21 (ca : Nat → ClassId) : k_X8_takes ca 21 = i_iload 2 22 := rfl
theorem k_X8_takes_22 (ca : Nat → ClassId) : k_X8_takes ca 22 = i_callS 3 0 0 0 0 (sp_X8_in ca) 25 := rfl
theorem k_X8_takes_25 (ca : Nat → ClassId) : k_X8_takes ca 25 = i_if (fun x => x = 0) 32 28 := rfl
theorem k_X8_takes_28 (ca : Nat → ClassId) : k_X8_takes ca 28 = i_push (.int 1) 29 := rfl
theorem k_X8_takes_29 (ca : Nat → ClassId) : k_X8_takes ca 29 = i_goto 33 := rfl
theorem k_X8_takes_32 (ca : Nat → ClassId) : k_X8_takes ca 32 = i_push (.int 0) 33 := rfl
theorem k_X8_takes_33 (ca : Nat → ClassId) : k_X8_takes ca 33 = i_istore 3 34 := rfl
theorem k_X8_takes_34 (ca : Nat → ClassId) : k_X8_takes ca 34 = i_aload 0 35 := rfl
theorem k_X8_takes_35 (ca : Nat → ClassId) : k_X8_takes ca 35 = i_dup 36 := rfl
theorem k_X8_takes_36 (ca : Nat → ClassId) : k_X8_takes ca 36 = i_getf 8 13 39 := rfl
theorem k_X8_takes_39 (ca : Nat → ClassId) : k_X8_takes ca 39 = i_iload 3 40 := rfl
theorem k_X8_takes_40 (ca : Nat → ClassId) : k_X8_takes ca 40 = i_if (fun x => x = 0) 47 43 := rfl
theorem k_X8_takes_43 (ca : Nat → ClassId) : k_X8_takes ca 43 = i_push (.int 1) 44 := rfl
theorem k_X8_takes_44 (ca : Nat → ClassId) : k_X8_takes ca 44 = i_goto 48 := rfl
theorem k_X8_takes_47 (ca : Nat → ClassId) : k_X8_takes ca 47 = i_push (.int 0) 48 := rfl
theorem k_X8_takes_48 (ca : Nat → ClassId) : k_X8_takes ca 48 = i_bin (fun x y => x + y) 49 := rfl
theorem k_X8_takes_49 (ca : Nat → ClassId) : k_X8_takes ca 49 = i_puti 8 13 52 := rfl
theorem k_X8_takes_52 (ca : Nat → ClassId) : k_X8_takes ca 52 = i_iload 3 53 := rfl
theorem k_X8_takes_53 (ca : Nat → ClassId) : k_X8_takes ca 53 = i_zret := rfl
set_option maxHeartbeats 4000000 in
set_option maxRecDepth 20000 in
theorem ok_X8_takes (l : Launch) (D : va_G) (ca : Nat → ClassId) : OkAll l D ca yX8_takes cX8_takes 4 (some .boolean) 1 0 0 (sp_X8_takes ca) := by
  intro av h post hs
  obtain ⟨m, a, st, n, fm, p, re, f, lo, hi, rfl, hm, h3, hn, hp, hs⟩ := hs
  have hm' := hm
  unfold eMod at hm'
  refine okM_of t_X8_takes (by decide +kernel) (c1_ref (c1_int (c1_int c1_nil))) (Nat.le_of_ble_eq_true rfl) ?_
  intro K go
  have fin : ∀ b : Bool, takB f n p lo hi = b → K 0 0 33 [some (.ref m), some (.int lo), some (.int hi), none] [.int (b2i b)] h := by
    intro b hb
    rw [hb] at hs
    cases b with
    | true =>
      simp only [b2i_t, if_true] at hs ⊢
      refine go (stp []) 16 _ _ _ _ _ _ ?_
      simp only [wpS, ite_not, i_push, i_iload, i_lload, i_aload, i_istore, i_astore, i_lstore, i_iinc, i_bin, i_dv, i_un, i_lbin, i_lsh, i_i2l, i_l2i, i_lcmp, i_dup, i_dup2, i_pop, i_if, i_icmp, i_goto, swG, i_sw, i_getf, i_puti, i_putz, i_putr, i_ald, i_lald, i_aald, i_ast, i_last, i_aast, i_alen, i_new, i_newi, i_newl, i_newq, i_oinit, i_ret, i_zret, i_lret, i_vret, catS, tk, rpush, isO, i_m1, i_m2, i_acopy, i_callV, i_callS, KRet, lget, lput, lputL, lcl0, isL, lv0, List.map_cons, List.map_nil, List.length_cons, List.length_nil, List.cons_append, List.nil_append, Nat.reduceAdd, Nat.reduceSub, Nat.reduceLeDiff, List.replicate_succ, List.replicate_zero, List.getElem?_cons_succ, List.getElem?_cons_zero, List.set_cons_succ, List.set_cons_zero, true_and, and_true, if_true, if_false, reduceIte, Nat.le_refl, Value.category, va_up_app, eq_self, stp, Nat.reduceBEq, Bool.or_false, Bool.false_or, Bool.true_or, Bool.or_true, or_true, true_or, bx_uu, implies_true, true_implies, not_true, not_false_eq_true, false_implies, and_self, Nat.reduceLT, Int32.reduceAdd, Int32.reduceSub, Int32.reduceMul, Int32.reduceLE, Int32.reduceLT, Int32.reduceToNatClampNeg, va_rf_some, Bool.false_eq_true, k_X8_takes_0 ca, k_X8_takes_1 ca, k_X8_takes_4 ca, k_X8_takes_5 ca, k_X8_takes_8 ca, k_X8_takes_11 ca, k_X8_takes_12 ca, k_X8_takes_15 ca, k_X8_takes_16 ca, k_X8_takes_19 ca, k_X8_takes_20 ca, k_X8_takes_21 ca, k_X8_takes_22 ca, k_X8_takes_25 ca, k_X8_takes_28 ca, k_X8_takes_29 ca, k_X8_takes_32 ca, k_X8_takes_33 ca, k_X8_takes_34 ca, k_X8_takes_35 ca, k_X8_takes_36 ca, k_X8_takes_39 ca, k_X8_takes_40 ca, k_X8_takes_43 ca, k_X8_takes_44 ca, k_X8_takes_47 ca, k_X8_takes_48 ca, k_X8_takes_49 ca, k_X8_takes_52 ca, k_X8_takes_53 ca, hm', one0, a_1]
      exact hs
    | false =>
      simp only [b2i_f, Bool.false_eq_true, if_false] at hs ⊢
      refine go (stp []) 16 _ _ _ _ _ _ ?_
      simp only [wpS, ite_not, i_push, i_iload, i_lload, i_aload, i_istore, i_astore, i_lstore, i_iinc, i_bin, i_dv, i_un, i_lbin, i_lsh, i_i2l, i_l2i, i_lcmp, i_dup, i_dup2, i_pop, i_if, i_icmp, i_goto, swG, i_sw, i_getf, i_puti, i_putz, i_putr, i_ald, i_lald, i_aald, i_ast, i_last, i_aast, i_alen, i_new, i_newi, i_newl, i_newq, i_oinit, i_ret, i_zret, i_lret, i_vret, catS, tk, rpush, isO, i_m1, i_m2, i_acopy, i_callV, i_callS, KRet, lget, lput, lputL, lcl0, isL, lv0, List.map_cons, List.map_nil, List.length_cons, List.length_nil, List.cons_append, List.nil_append, Nat.reduceAdd, Nat.reduceSub, Nat.reduceLeDiff, List.replicate_succ, List.replicate_zero, List.getElem?_cons_succ, List.getElem?_cons_zero, List.set_cons_succ, List.set_cons_zero, true_and, and_true, if_true, if_false, reduceIte, Nat.le_refl, Value.category, va_up_app, eq_self, stp, Nat.reduceBEq, Bool.or_false, Bool.false_or, Bool.true_or, Bool.or_true, or_true, true_or, bx_uu, implies_true, true_implies, not_true, not_false_eq_true, false_implies, and_self, Nat.reduceLT, Int32.reduceAdd, Int32.reduceSub, Int32.reduceMul, Int32.reduceLE, Int32.reduceLT, Int32.reduceToNatClampNeg, va_rf_some, Bool.false_eq_true, k_X8_takes_0 ca, k_X8_takes_1 ca, k_X8_takes_4 ca, k_X8_takes_5 ca, k_X8_takes_8 ca, k_X8_takes_11 ca, k_X8_takes_12 ca, k_X8_takes_15 ca, k_X8_takes_16 ca, k_X8_takes_19 ca, k_X8_takes_20 ca, k_X8_takes_21 ca, k_X8_takes_22 ca, k_X8_takes_25 ca, k_X8_takes_28 ca, k_X8_takes_29 ca, k_X8_takes_32 ca, k_X8_takes_33 ca, k_X8_takes_34 ca, k_X8_takes_35 ca, k_X8_takes_36 ca, k_X8_takes_39 ca, k_X8_takes_40 ca, k_X8_takes_43 ca, k_X8_takes_44 ca, k_X8_takes_47 ca, k_X8_takes_48 ca, k_X8_takes_49 ca, k_X8_takes_52 ca, k_X8_takes_53 ca, hm', a_0]
      exact hs
  by_cases q : p < n
  · have g1 : ¬ nI n ≤ nI p := nI_ge q (by omega)
    have z0 : vp_in (nI p) 60 := vp_in_nI (by omega) (by decide)
    have z1 : (nI p).toNatClampNeg = p := nI_clamp (by omega)
    have eb : takB f n p lo hi = isIn (f p) lo hi := by unfold takB; rw [decide_eq_true q, Bool.true_and]
    cases hq : isIn (f p) lo hi with
    | true =>
      have k0 := fin true (eb.trans hq)
      rw [b2i_t] at k0
      refine go (stp [33]) 16 _ _ _ _ _ _ ?_
      simp only [wpS, ite_not, i_push, i_iload, i_lload, i_aload, i_istore, i_astore, i_lstore, i_iinc, i_bin, i_dv, i_un, i_lbin, i_lsh, i_i2l, i_l2i, i_lcmp, i_dup, i_dup2, i_pop, i_if, i_icmp, i_goto, swG, i_sw, i_getf, i_puti, i_putz, i_putr, i_ald, i_lald, i_aald, i_ast, i_last, i_aast, i_alen, i_new, i_newi, i_newl, i_newq, i_oinit, i_ret, i_zret, i_lret, i_vret, catS, tk, rpush, isO, i_m1, i_m2, i_acopy, i_callV, i_callS, KRet, lget, lput, lputL, lcl0, isL, lv0, List.map_cons, List.map_nil, List.length_cons, List.length_nil, List.cons_append, List.nil_append, Nat.reduceAdd, Nat.reduceSub, Nat.reduceLeDiff, List.replicate_succ, List.replicate_zero, List.getElem?_cons_succ, List.getElem?_cons_zero, List.set_cons_succ, List.set_cons_zero, true_and, and_true, if_true, if_false, reduceIte, Nat.le_refl, Value.category, va_up_app, eq_self, stp, Nat.reduceBEq, Bool.or_false, Bool.false_or, Bool.true_or, Bool.or_true, or_true, true_or, bx_uu, implies_true, true_implies, not_true, not_false_eq_true, false_implies, and_self, Nat.reduceLT, Int32.reduceAdd, Int32.reduceSub, Int32.reduceMul, Int32.reduceLE, Int32.reduceLT, Int32.reduceToNatClampNeg, va_rf_some, Bool.false_eq_true, k_X8_takes_0 ca, k_X8_takes_1 ca, k_X8_takes_4 ca, k_X8_takes_5 ca, k_X8_takes_8 ca, k_X8_takes_11 ca, k_X8_takes_12 ca, k_X8_takes_15 ca, k_X8_takes_16 ca, k_X8_takes_19 ca, k_X8_takes_20 ca, k_X8_takes_21 ca, k_X8_takes_22 ca, k_X8_takes_25 ca, k_X8_takes_28 ca, k_X8_takes_29 ca, k_X8_takes_32 ca, k_X8_takes_33 ca, k_X8_takes_34 ca, k_X8_takes_35 ca, k_X8_takes_36 ca, k_X8_takes_39 ca, k_X8_takes_40 ca, k_X8_takes_43 ca, k_X8_takes_44 ca, k_X8_takes_47 ca, k_X8_takes_48 ca, k_X8_takes_49 ca, k_X8_takes_52 ca, k_X8_takes_53 ca, hm', h3, g1, z0, z1, sp_X8_in, sp_X7_isWithin, hq, b2i_t, one0]
      exact k0
    | false =>
      have k0 := fin false (eb.trans hq)
      rw [b2i_f] at k0
      refine go (stp [33]) 16 _ _ _ _ _ _ ?_
      simp only [wpS, ite_not, i_push, i_iload, i_lload, i_aload, i_istore, i_astore, i_lstore, i_iinc, i_bin, i_dv, i_un, i_lbin, i_lsh, i_i2l, i_l2i, i_lcmp, i_dup, i_dup2, i_pop, i_if, i_icmp, i_goto, swG, i_sw, i_getf, i_puti, i_putz, i_putr, i_ald, i_lald, i_aald, i_ast, i_last, i_aast, i_alen, i_new, i_newi, i_newl, i_newq, i_oinit, i_ret, i_zret, i_lret, i_vret, catS, tk, rpush, isO, i_m1, i_m2, i_acopy, i_callV, i_callS, KRet, lget, lput, lputL, lcl0, isL, lv0, List.map_cons, List.map_nil, List.length_cons, List.length_nil, List.cons_append, List.nil_append, Nat.reduceAdd, Nat.reduceSub, Nat.reduceLeDiff, List.replicate_succ, List.replicate_zero, List.getElem?_cons_succ, List.getElem?_cons_zero, List.set_cons_succ, List.set_cons_zero, true_and, and_true, if_true, if_false, reduceIte, Nat.le_refl, Value.category, va_up_app, eq_self, stp, Nat.reduceBEq, Bool.or_false, Bool.false_or, Bool.true_or, Bool.or_true, or_true, true_or, bx_uu, implies_true, true_implies, not_true, not_false_eq_true, false_implies, and_self, Nat.reduceLT, Int32.reduceAdd, Int32.reduceSub, Int32.reduceMul, Int32.reduceLE, Int32.reduceLT, Int32.reduceToNatClampNeg, va_rf_some, Bool.false_eq_true, k_X8_takes_0 ca, k_X8_takes_1 ca, k_X8_takes_4 ca, k_X8_takes_5 ca, k_X8_takes_8 ca, k_X8_takes_11 ca, k_X8_takes_12 ca, k_X8_takes_15 ca, k_X8_takes_16 ca, k_X8_takes_19 ca, k_X8_takes_20 ca, k_X8_takes_21 ca, k_X8_takes_22 ca, k_X8_takes_25 ca, k_X8_takes_28 ca, k_X8_takes_29 ca, k_X8_takes_32 ca, k_X8_takes_33 ca, k_X8_takes_34 ca, k_X8_takes_35 ca, k_X8_takes_36 ca, k_X8_takes_39 ca, k_X8_takes_40 ca, k_X8_takes_43 ca, k_X8_takes_44 ca, k_X8_takes_47 ca, k_X8_takes_48 ca, k_X8_takes_49 ca, k_X8_takes_52 ca, k_X8_takes_53 ca, hm', h3, g1, z0, z1, sp_X8_in, sp_X7_isWithin, hq, b2i_f]
      exact k0
  · have g1 : nI n ≤ nI p := nI_le (by omega) (by omega)
    have k0 := fin false (by unfold takB; rw [decide_eq_false q, Bool.false_and])
    rw [b2i_f] at k0
    have g2 : (nI n ≤ nI p) = True := eq_true g1
    refine go (stp [33]) 8 _ _ _ _ _ _ ?_
    simp only [wpS, ite_not, i_push, i_iload, i_lload, i_aload, i_istore, i_astore, i_lstore, i_iinc, i_bin, i_dv, i_un, i_lbin, i_lsh, i_i2l, i_l2i, i_lcmp, i_dup, i_dup2, i_pop, i_if, i_icmp, i_goto, swG, i_sw, i_getf, i_puti, i_putz, i_putr, i_ald, i_lald, i_aald, i_ast, i_last, i_aast, i_alen, i_new, i_newi, i_newl, i_newq, i_oinit, i_ret, i_zret, i_lret, i_vret, catS, tk, rpush, isO, i_m1, i_m2, i_acopy, i_callV, i_callS, KRet, lget, lput, lputL, lcl0, isL, lv0, List.map_cons, List.map_nil, List.length_cons, List.length_nil, List.cons_append, List.nil_append, Nat.reduceAdd, Nat.reduceSub, Nat.reduceLeDiff, List.replicate_succ, List.replicate_zero, List.getElem?_cons_succ, List.getElem?_cons_zero, List.set_cons_succ, List.set_cons_zero, true_and, and_true, if_true, if_false, reduceIte, Nat.le_refl, Value.category, va_up_app, eq_self, stp, Nat.reduceBEq, Bool.or_false, Bool.false_or, Bool.true_or, Bool.or_true, or_true, true_or, bx_uu, implies_true, true_implies, not_true, not_false_eq_true, false_implies, and_self, Nat.reduceLT, Int32.reduceAdd, Int32.reduceSub, Int32.reduceMul, Int32.reduceLE, Int32.reduceLT, Int32.reduceToNatClampNeg, va_rf_some, Bool.false_eq_true, k_X8_takes_0 ca, k_X8_takes_1 ca, k_X8_takes_4 ca, k_X8_takes_5 ca, k_X8_takes_8 ca, k_X8_takes_11 ca, k_X8_takes_12 ca, k_X8_takes_15 ca, k_X8_takes_16 ca, k_X8_takes_19 ca, k_X8_takes_20 ca, k_X8_takes_21 ca, k_X8_takes_22 ca, k_X8_takes_25 ca, k_X8_takes_28 ca, k_X8_takes_29 ca, k_X8_takes_32 ca, k_X8_takes_33 ca, k_X8_takes_34 ca, k_X8_takes_35 ca, k_X8_takes_36 ca, k_X8_takes_39 ca, k_X8_takes_40 ca, k_X8_takes_43 ca, k_X8_takes_44 ca, k_X8_takes_47 ca, k_X8_takes_48 ca, k_X8_takes_49 ca, k_X8_takes_52 ca, k_X8_takes_53 ca, hm', g2]
    exact k0
