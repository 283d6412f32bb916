/-! SnapStacksModel: isPart -/
def prtN (f : Nat → Int32) (n p : Nat) : Nat := if takB f n p 49 57 = true then (if takB f n (p + 1) 97 102 = true then (if takB f n (p + 2) 97 102 = true then 3 else 2) else 1) else 0
theorem takB_lt {f : Nat → Int32} {n p : Nat} {lo hi : Int32} (h : takB f n p lo hi = true) : p < n := by
  unfold takB at h
  rw [Bool.and_eq_true] at h
  exact of_decide_eq_true h.1
def sp_X8_isPart (ca : Nat → ClassId) : SPEC := fun av h post => ∃ m a st n fm p re f, av = [.ref m] ∧ h m = some (eMod a st (nI n) fm (nI p) re) ∧ h (a 3) = some (.inl (ca 0, 60, .inl f)) ∧ ¬ a 3 = m ∧ n ≤ 60 ∧ p ≤ 60 ∧ post (some (.int (b2i (decide (prtN f n p = 3))))) (va_up h m (some (eMod a st (nI n) fm (nI (p + prtN f n p)) re)))
def k_X8_isPart (ca : Nat → ClassId) : Nat → IT := fun pc => lk pc [(0, i_aload 0 1),
  (1, i_push (.int 49) 3),
  (3, i_push (.int 57) 5),
  (5, i_callV 8 2 0 0 0 0 (sp_X8_takes ca) 8),
  (8, i_if (fun x => x = 0) 37 11),
  (11, i_aload 0 12),
  (12, i_push (.int 97) 14),
  (14, i_push (.int 102) 16),
  (16, i_callV 8 2 0 0 0 0 (sp_X8_takes ca) 19),
  (19, i_if (fun x => x = 0) 37 22),
  (22, i_aload 0 23),
  (23, i_push (.int 97) 25),
  (25, i_push (.int 102) 27),
  (27, i_callV 8 2 0 0 0 0 (sp_X8_takes ca) 30),
  (30, i_if (fun x => x = 0) 37 33),
  (33, i_push (.int 1) 34),
  (34, i_goto 38),
  (37, i_push (.int 0) 38),
  (38, i_zret)]
set_option maxRecDepth 20000 in
theorem t_X8_isPart : Tb k_X8_isPart yX8_isPart cX8_isPart 1 (some .boolean) 2 0 0 := by
  intro l D ca A p e s m args below meth c post X
  unfold k_X8_isPart
  refine snd_cons (snd_aload_n X dX8_isPart_0 rfl) ?_
  refine snd_cons (snd_bipush X dX8_isPart_1 (by decide)) ?_
  refine snd_cons (snd_bipush X dX8_isPart_3 (by decide)) ?_
  refine snd_cons (snd_callV X Fk8 (ok_X8_takes l D ca) rfl rfl w_957 w_959 wp_52 w_9 w_960 (by decide) (by decide) dX8_isPart_5) ?_
  refine snd_cons (snd_if_eq X dX8_isPart_8 (by decide)) ?_
  refine snd_cons (snd_aload_n X dX8_isPart_11 rfl) ?_
  refine snd_cons (snd_bipush X dX8_isPart_12 (by decide)) ?_
  refine snd_cons (snd_bipush X dX8_isPart_14 (by decide)) ?_
  refine snd_cons (snd_callV X Fk8 (ok_X8_takes l D ca) rfl rfl w_957 w_959 wp_52 w_9 w_960 (by decide) (by decide) dX8_isPart_16) ?_
  refine snd_cons (snd_if_eq X dX8_isPart_19 (by decide)) ?_
  refine snd_cons (snd_aload_n X dX8_isPart_22 rfl) ?_
  refine snd_cons (snd_bipush X dX8_isPart_23 (by decide)) ?_
  refine snd_cons (snd_bipush X dX8_isPart_25 (by decide)) ?_
  refine snd_cons (snd_callV X Fk8 (ok_X8_takes l D ca) rfl rfl w_957 w_959 wp_52 w_9 w_960 (by decide) (by decide) dX8_isPart_27) ?_
  refine snd_cons (snd_if_eq X dX8_isPart_30 (by decide)) ?_
  refine snd_cons (snd_iconst X dX8_isPart_33 (by decide)) ?_
  refine snd_cons (snd_goto X dX8_isPart_34 (by decide)) ?_
  refine snd_cons (snd_iconst X dX8_isPart_37 (by decide)) ?_
  refine snd_cons (snd_zret X dX8_isPart_38) ?_
  exact snd_nil
theorem k_X8_isPart_0 (ca : Nat → ClassId) : k_X8_isPart ca 0 = i_aload 0 1 := rfl
theorem k_X8_isPart_1 (ca : Nat → ClassId) : k_X8_isPart ca 1 = i_push (.int 49) 3 := rfl
theorem k_X8_isPart_3 (ca : Nat → ClassId) : k_X8_isPart ca 3 = i_push (.int 57) 5 := rfl
theorem k_X8_isPart_5 (ca : Nat → ClassId) : k_X8_isPart ca 5 = i_callV 8 2 0 0 0 0 (sp_X8_takes ca) 8 := rfl
theorem k_X8_isPart_8 (ca : Nat → ClassId) : k_X8_isPart ca 8 = i_if (fun x => x = 0) 37 11 := rfl
theorem k_X8_isPart_11 (ca : Nat → ClassId) : k_X8_isPart ca 11 = i_aload 0 12 := rfl
theorem k_X8_isPart_12 (ca : Nat → ClassId) : k_X8_isPart ca 12 = i_push (.int 97) 14 := rfl
theorem k_X8_isPart_14 (ca : Nat → ClassId) : k_X8_isPart ca 14 = i_push (.int 102) 16 := rfl
theorem k_X8_isPart_16 (ca : Nat → ClassId) : k_X8_isPart ca 16 = i_callV 8 2 0 0 0 0 (sp_X8_takes ca) 19 := rfl
theorem k_X8_isPart_19 (ca : Nat → ClassId) : k_X8_isPart ca 19 = i_if (fun x => x = 0) 37 22 := rfl
theorem k_X8_isPart_22 (ca : Nat → ClassId) : k_X8_isPart ca 22 = i_aload 0 23 := rfl
theorem k_X8_isPart_23 (ca : Nat → ClassId) : k_X8_isPart ca 23 = i_push (.int 97) 25 := rfl
theorem k_X8_isPart_25 (ca : Nat → ClassId) : k_X8_isPart ca 25 = i_push (.int 102) 27 := rfl
theorem k_X8_isPart_27 (ca : Nat → ClassId) : k_X8_isPart ca 27 = i_callV 8 2 0 0 0 0 (sp_X8_takes ca) 30 := rfl
theorem k_X8_isPart_30 (ca : Nat → ClassId) : k_X8_isPart ca 30 = i_if (fun x => x = 0) 37 33 := rfl
theorem k_X8_isPart_33 (ca : Nat → ClassId) : k_X8_isPart ca 33 = i_push (.int 1) 34 := rfl
theorem k_X8_isPart_34 (ca : Nat → ClassId) : k_X8_isPart ca 34 = i_goto 38 := rfl
theorem k_X8_isPart_37 (ca : Nat → ClassId) : k_X8_isPart ca 37 = i_push (.int 0) 38 := rfl
theorem k_X8_isPart_38 (ca : Nat → ClassId) : k_X8_isPart ca 38 = i_zret := rfl
set_option maxHeartbeats 4000000 in
set_option maxRecDepth 20000 in
theorem ok_X8_isPart (l : Launch) (D : va_G) (ca : Nat → ClassId) : OkAll l D ca yX8_isPart cX8_isPart 1 (some .boolean) 2 0 0 (sp_X8_isPart ca) := by
  intro av h post hs
  obtain ⟨m, a, st, n, fm, p, re, f, rfl, hm, h3, hd, hn, hp, hs⟩ := hs
  unfold prtN at hs
  refine okM_of t_X8_isPart (by decide +kernel) (c1_ref c1_nil) (Nat.le_of_ble_eq_true rfl) ?_
  intro K go
  have e0 : h m = some (.inr (8, [.ref (a 0), .ref (a 1), .ref (a 2), .int st, .ref (a 3), .int (nI n), .ref (a 4), .ref (a 5), .ref (a 6), .ref (a 7), .ref (a 8), .ref (a 9), .int fm, .int (nI p), .int re])) := hm
  refine go (stp [8]) 5 _ _ _ _ _ _ ?_
  simp only [wpS, ite_not, i_push, i_iload, i_lload, i_aload, i_istore, i_astore, i_lstore, i_iinc, i_bin, i_dv, i_un, i_lbin, i_lsh, i_i2l, i_l2i, i_lcmp, i_dup, i_dup2, i_pop, i_if, i_icmp, i_goto, swG, i_sw, i_getf, i_puti, i_putz, i_putr, i_ald, i_lald, i_aald, i_ast, i_last, i_aast, i_alen, i_new, i_newi, i_newl, i_newq, i_oinit, i_ret, i_zret, i_lret, i_vret, catS, tk, rpush, isO, i_m1, i_m2, i_acopy, i_callV, i_callS, KRet, lget, lput, lputL, lcl0, isL, lv0, List.map_cons, List.map_nil, List.length_cons, List.length_nil, List.cons_append, List.nil_append, Nat.reduceAdd, Nat.reduceSub, Nat.reduceLeDiff, List.replicate_succ, List.replicate_zero, List.getElem?_cons_succ, List.getElem?_cons_zero, List.set_cons_succ, List.set_cons_zero, true_and, and_true, if_true, if_false, reduceIte, Nat.le_refl, Value.category, va_up_app, eq_self, stp, Nat.reduceBEq, Bool.or_false, Bool.false_or, Bool.true_or, Bool.or_true, or_true, true_or, bx_uu, implies_true, true_implies, not_true, not_false_eq_true, false_implies, and_self, Nat.reduceLT, Int32.reduceAdd, Int32.reduceSub, Int32.reduceMul, Int32.reduceLE, Int32.reduceLT, Int32.reduceToNatClampNeg, va_rf_some, Bool.false_eq_true, k_X8_isPart_0 ca, k_X8_isPart_1 ca, k_X8_isPart_3 ca, k_X8_isPart_5 ca, k_X8_isPart_8 ca, k_X8_isPart_11 ca, k_X8_isPart_12 ca, k_X8_isPart_14 ca, k_X8_isPart_16 ca, k_X8_isPart_19 ca, k_X8_isPart_22 ca, k_X8_isPart_23 ca, k_X8_isPart_25 ca, k_X8_isPart_27 ca, k_X8_isPart_30 ca, k_X8_isPart_33 ca, k_X8_isPart_34 ca, k_X8_isPart_37 ca, k_X8_isPart_38 ca, e0]
  refine ⟨m, a, st, n, fm, p, re, f, 49, 57, rfl, hm, h3, hn, hp, ?_⟩
  cases q1 : takB f n p 49 57 with
  | false =>
    rw [q1] at hs
    simp only [Bool.false_eq_true, if_false, b2i_f] at hs ⊢
    refine go (stp []) 5 _ _ _ _ _ _ ?_
    simp only [wpS, ite_not, i_push, i_iload, i_lload, i_aload, i_istore, i_astore, i_lstore, i_iinc, i_bin, i_dv, i_un, i_lbin, i_lsh, i_i2l, i_l2i, i_lcmp, i_dup, i_dup2, i_pop, i_if, i_icmp, i_goto, swG, i_sw, i_getf, i_puti, i_putz, i_putr, i_ald, i_lald, i_aald, i_ast, i_last, i_aast, i_alen, i_new, i_newi, i_newl, i_newq, i_oinit, i_ret, i_zret, i_lret, i_vret, catS, tk, rpush, isO, i_m1, i_m2, i_acopy, i_callV, i_callS, KRet, lget, lput, lputL, lcl0, isL, lv0, List.map_cons, List.map_nil, List.length_cons, List.length_nil, List.cons_append, List.nil_append, Nat.reduceAdd, Nat.reduceSub, Nat.reduceLeDiff, List.replicate_succ, List.replicate_zero, List.getElem?_cons_succ, List.getElem?_cons_zero, List.set_cons_succ, List.set_cons_zero, true_and, and_true, if_true, if_false, reduceIte, Nat.le_refl, Value.category, va_up_app, eq_self, stp, Nat.reduceBEq, Bool.or_false, Bool.false_or, Bool.true_or, Bool.or_true, or_true, true_or, bx_uu, implies_true, true_implies, not_true, not_false_eq_true, false_implies, and_self, Nat.reduceLT, Int32.reduceAdd, Int32.reduceSub, Int32.reduceMul, Int32.reduceLE, Int32.reduceLT, Int32.reduceToNatClampNeg, va_rf_some, Bool.false_eq_true, k_X8_isPart_0 ca, k_X8_isPart_1 ca, k_X8_isPart_3 ca, k_X8_isPart_5 ca, k_X8_isPart_8 ca, k_X8_isPart_11 ca, k_X8_isPart_12 ca, k_X8_isPart_14 ca, k_X8_isPart_16 ca, k_X8_isPart_19 ca, k_X8_isPart_22 ca, k_X8_isPart_23 ca, k_X8_isPart_25 ca, k_X8_isPart_27 ca, k_X8_isPart_30 ca, k_X8_isPart_33 ca, k_X8_isPart_34 ca, k_X8_isPart_37 ca, k_X8_isPart_38 ca]
    exact hs
  | true =>
    rw [q1] at hs
    simp only [if_true, b2i_t] at hs ⊢
    have l1 := takB_lt q1
    refine go (stp [19]) 7 _ _ _ _ _ _ ?_
    simp only [wpS, ite_not, i_push, i_iload, i_lload, i_aload, i_istore, i_astore, i_lstore, i_iinc, i_bin, i_dv, i_un, i_lbin, i_lsh, i_i2l, i_l2i, i_lcmp, i_dup, i_dup2, i_pop, i_if, i_icmp, i_goto, swG, i_sw, i_getf, i_puti, i_putz, i_putr, i_ald, i_lald, i_aald, i_ast, i_last, i_aast, i_alen, i_new, i_newi, i_newl, i_newq, i_oinit, i_ret, i_zret, i_lret, i_vret, catS, tk, rpush, isO, i_m1, i_m2, i_acopy, i_callV, i_callS, KRet, lget, lput, lputL, lcl0, isL, lv0, List.map_cons, List.map_nil, List.length_cons, List.length_nil, List.cons_append, List.nil_append, Nat.reduceAdd, Nat.reduceSub, Nat.reduceLeDiff, List.replicate_succ, List.replicate_zero, List.getElem?_cons_succ, List.getElem?_cons_zero, List.set_cons_succ, List.set_cons_zero, true_and, and_true, if_true, if_false, reduceIte, Nat.le_refl, Value.category, va_up_app, eq_self, stp, Nat.reduceBEq, Bool.or_false, Bool.false_or, Bool.true_or, Bool.or_true, or_true, true_or, bx_uu, implies_true, true_implies, not_true, not_false_eq_true, false_implies, and_self, Nat.reduceLT, Int32.reduceAdd, Int32.reduceSub, Int32.reduceMul, Int32.reduceLE, Int32.reduceLT, Int32.reduceToNatClampNeg, va_rf_some, Bool.false_eq_true, k_X8_isPart_0 ca, k_X8_isPart_1 ca, k_X8_isPart_3 ca, k_X8_isPart_5 ca, k_X8_isPart_8 ca, k_X8_isPart_11 ca, k_X8_isPart_12 ca, k_X8_isPart_14 ca, k_X8_isPart_16 ca, k_X8_isPart_19 ca, k_X8_isPart_22 ca, k_X8_isPart_23 ca, k_X8_isPart_25 ca, k_X8_isPart_27 ca, k_X8_isPart_30 ca, k_X8_isPart_33 ca, k_X8_isPart_34 ca, k_X8_isPart_37 ca, k_X8_isPart_38 ca, one0, eMod]
    refine ⟨m, a, st, n, fm, p + 1, re, f, 97, 102, rfl, va_up_self _ _ _, (va_up_ne _ _ hd).trans h3, hn, by omega, ?_⟩
    rw [bx_uu]
    cases q2 : takB f n (p + 1) 97 102 with
    | false =>
      rw [q2] at hs
      simp only [Bool.false_eq_true, if_false, b2i_f] at hs ⊢
      refine go (stp []) 5 _ _ _ _ _ _ ?_
      simp only [wpS, ite_not, i_push, i_iload, i_lload, i_aload, i_istore, i_astore, i_lstore, i_iinc, i_bin, i_dv, i_un, i_lbin, i_lsh, i_i2l, i_l2i, i_lcmp, i_dup, i_dup2, i_pop, i_if, i_icmp, i_goto, swG, i_sw, i_getf, i_puti, i_putz, i_putr, i_ald, i_lald, i_aald, i_ast, i_last, i_aast, i_alen, i_new, i_newi, i_newl, i_newq, i_oinit, i_ret, i_zret, i_lret, i_vret, catS, tk, rpush, isO, i_m1, i_m2, i_acopy, i_callV, i_callS, KRet, lget, lput, lputL, lcl0, isL, lv0, List.map_cons, List.map_nil, List.length_cons, List.length_nil, List.cons_append, List.nil_append, Nat.reduceAdd, Nat.reduceSub, Nat.reduceLeDiff, List.replicate_succ, List.replicate_zero, List.getElem?_cons_succ, List.getElem?_cons_zero, List.set_cons_succ, List.set_cons_zero, true_and, and_true, if_true, if_false, reduceIte, Nat.le_refl, Value.category, va_up_app, eq_self, stp, Nat.reduceBEq, Bool.or_false, Bool.false_or, Bool.true_or, Bool.or_true, or_true, true_or, bx_uu, implies_true, true_implies, not_true, not_false_eq_true, false_implies, and_self, Nat.reduceLT, Int32.reduceAdd, Int32.reduceSub, Int32.reduceMul, Int32.reduceLE, Int32.reduceLT, Int32.reduceToNatClampNeg, va_rf_some, Bool.false_eq_true, k_X8_isPart_0 ca, k_X8_isPart_1 ca, k_X8_isPart_3 ca, k_X8_isPart_5 ca, k_X8_isPart_8 ca, k_X8_isPart_11 ca, k_X8_isPart_12 ca, k_X8_isPart_14 ca, k_X8_isPart_16 ca, k_X8_isPart_19 ca, k_X8_isPart_22 ca, k_X8_isPart_23 ca, k_X8_isPart_25 ca, k_X8_isPart_27 ca, k_X8_isPart_30 ca, k_X8_isPart_33 ca, k_X8_isPart_34 ca, k_X8_isPart_37 ca, k_X8_isPart_38 ca]
      exact hs
    | true =>
      rw [q2] at hs
      simp only [if_true, b2i_t] at hs ⊢
      have l2 := takB_lt q2
      refine go (stp [30]) 7 _ _ _ _ _ _ ?_
      simp only [wpS, ite_not, i_push, i_iload, i_lload, i_aload, i_istore, i_astore, i_lstore, i_iinc, i_bin, i_dv, i_un, i_lbin, i_lsh, i_i2l, i_l2i, i_lcmp, i_dup, i_dup2, i_pop, i_if, i_icmp, i_goto, swG, i_sw, i_getf, i_puti, i_putz, i_putr, i_ald, i_lald, i_aald, i_ast, i_last, i_aast, i_alen, i_new, i_newi, i_newl, i_newq, i_oinit, i_ret, i_zret, i_lret, i_vret, catS, tk, rpush, isO, i_m1, i_m2, i_acopy, i_callV, i_callS, KRet, lget, lput, lputL, lcl0, isL, lv0, List.map_cons, List.map_nil, List.length_cons, List.length_nil, List.cons_append, List.nil_append, Nat.reduceAdd, Nat.reduceSub, Nat.reduceLeDiff, List.replicate_succ, List.replicate_zero, List.getElem?_cons_succ, List.getElem?_cons_zero, List.set_cons_succ, List.set_cons_zero, true_and, and_true, if_true, if_false, reduceIte, Nat.le_refl, Value.category, va_up_app, eq_self, stp, Nat.reduceBEq, Bool.or_false, Bool.false_or, Bool.true_or, Bool.or_true, or_true, true_or, bx_uu, implies_true, true_implies, not_true, not_false_eq_true, false_implies, and_self, Nat.reduceLT, Int32.reduceAdd, Int32.reduceSub, Int32.reduceMul, Int32.reduceLE, Int32.reduceLT, Int32.reduceToNatClampNeg, va_rf_some, Bool.false_eq_true, k_X8_isPart_0 ca, k_X8_isPart_1 ca, k_X8_isPart_3 ca, k_X8_isPart_5 ca, k_X8_isPart_8 ca, k_X8_isPart_11 ca, k_X8_isPart_12 ca, k_X8_isPart_14 ca, k_X8_isPart_16 ca, k_X8_isPart_19 ca, k_X8_isPart_22 ca, k_X8_isPart_23 ca, k_X8_isPart_25 ca, k_X8_isPart_27 ca, k_X8_isPart_30 ca, k_X8_isPart_33 ca, k_X8_isPart_34 ca, k_X8_isPart_37 ca, k_X8_isPart_38 ca, one0, eMod]
      refine ⟨m, a, st, n, fm, p + 1 + 1, re, f, 97, 102, rfl, va_up_self _ _ _, (va_up_ne _ _ hd).trans h3, hn, by omega, ?_⟩
      rw [bx_uu]
      cases q3 : takB f n (p + 1 + 1) 97 102 with
      | false =>
        rw [show p + 2 = p + 1 + 1 from rfl, q3] at hs
        simp only [Bool.false_eq_true, if_false, b2i_f] at hs ⊢
        refine go (stp []) 5 _ _ _ _ _ _ ?_
        simp only [wpS, ite_not, i_push, i_iload, i_lload, i_aload, i_istore, i_astore, i_lstore, i_iinc, i_bin, i_dv, i_un, i_lbin, i_lsh, i_i2l, i_l2i, i_lcmp, i_dup, i_dup2, i_pop, i_if, i_icmp, i_goto, swG, i_sw, i_getf, i_puti, i_putz, i_putr, i_ald, i_lald, i_aald, i_ast, i_last, i_aast, i_alen, i_new, i_newi, i_newl, i_newq, i_oinit, i_ret, i_zret, i_lret, i_vret, catS, tk, rpush, isO, i_m1, i_m2, i_acopy, i_callV, i_callS, KRet, lget, lput, lputL, lcl0, isL, lv0, List.map_cons, List.map_nil, List.length_cons, List.length_nil, List.cons_append, List.nil_append, Nat.reduceAdd, Nat.reduceSub, Nat.reduceLeDiff, List.replicate_succ, List.replicate_zero, List.getElem?_cons_succ, List.getElem?_cons_zero, List.set_cons_succ, List.set_cons_zero, true_and, and_true, if_true, if_false, reduceIte, Nat.le_refl, Value.category, va_up_app, eq_self, stp, Nat.reduceBEq, Bool.or_false, Bool.false_or, Bool.true_or, Bool.or_true, or_true, true_or, bx_uu, implies_true, true_implies, not_true, not_false_eq_true, false_implies, and_self, Nat.reduceLT, Int32.reduceAdd, Int32.reduceSub, Int32.reduceMul, Int32.reduceLE, Int32.reduceLT, Int32.reduceToNatClampNeg, va_rf_some, Bool.false_eq_true, k_X8_isPart_0 ca, k_X8_isPart_1 ca, k_X8_isPart_3 ca, k_X8_isPart_5 ca, k_X8_isPart_8 ca, k_X8_isPart_11 ca, k_X8_isPart_12 ca, k_X8_isPart_14 ca, k_X8_isPart_16 ca, k_X8_isPart_19 ca, k_X8_isPart_22 ca, k_X8_isPart_23 ca, k_X8_isPart_25 ca, k_X8_isPart_27 ca, k_X8_isPart_30 ca, k_X8_isPart_33 ca, k_X8_isPart_34 ca, k_X8_isPart_37 ca, k_X8_isPart_38 ca]
        exact hs
      | true =>
        rw [show p + 2 = p + 1 + 1 from rfl, q3] at hs
        simp only [if_true, b2i_t] at hs ⊢
        refine go (stp []) 5 _ _ _ _ _ _ ?_
        simp only [wpS, ite_not, i_push, i_iload, i_lload, i_aload, i_istore, i_astore, i_lstore, i_iinc, i_bin, i_dv, i_un, i_lbin, i_lsh, i_i2l, i_l2i, i_lcmp, i_dup, i_dup2, i_pop, i_if, i_icmp, i_goto, swG, i_sw, i_getf, i_puti, i_putz, i_putr, i_ald, i_lald, i_aald, i_ast, i_last, i_aast, i_alen, i_new, i_newi, i_newl, i_newq, i_oinit, i_ret, i_zret, i_lret, i_vret, catS, tk, rpush, isO, i_m1, i_m2, i_acopy, i_callV, i_callS, KRet, lget, lput, lputL, lcl0, isL, lv0, List.map_cons, List.map_nil, List.length_cons, List.length_nil, List.cons_append, List.nil_append, Nat.reduceAdd, Nat.reduceSub, Nat.reduceLeDiff, List.replicate_succ, List.replicate_zero, List.getElem?_cons_succ, List.getElem?_cons_zero, List.set_cons_succ, List.set_cons_zero, true_and, and_true, if_true, if_false, reduceIte, Nat.le_refl, Value.category, va_up_app, eq_self, stp, Nat.reduceBEq, Bool.or_false, Bool.false_or, Bool.true_or, Bool.or_true, or_true, true_or, bx_uu, implies_true, true_implies, not_true, not_false_eq_true, false_implies, and_self, Nat.reduceLT, Int32.reduceAdd, Int32.reduceSub, Int32.reduceMul, Int32.reduceLE, Int32.reduceLT, Int32.reduceToNatClampNeg, va_rf_some, Bool.false_eq_true, k_X8_isPart_0 ca, k_X8_isPart_1 ca, k_X8_isPart_3 ca, k_X8_isPart_5 ca, k_X8_isPart_8 ca, k_X8_isPart_11 ca, k_X8_isPart_12 ca, k_X8_isPart_14 ca, k_X8_isPart_16 ca, k_X8_isPart_19 ca, k_X8_isPart_22 ca, k_X8_isPart_23 ca, k_X8_isPart_25 ca, k_X8_isPart_27 ca, k_X8_isPart_30 ca, k_X8_isPart_33 ca, k_X8_isPart_34 ca, k_X8_isPart_37 ca, k_X8_isPart_38 ca, one0]
        exact hs
