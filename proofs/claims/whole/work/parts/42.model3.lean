/-! SnapStacksModel: begins, returns, acted -/
def flo (f g : Nat → Int32) (n : Nat) : Nat → Int32 := fun j => if j < n then f j else g j
theorem flo_0 {f g : Nat → Int32} : flo f g 0 = g := by funext j; unfold flo; rw [if_neg (by omega)]
theorem flo_s {f g : Nat → Int32} {n : Nat} : upd (flo f g n) n (f n) = flo f g (n + 1) := by
  funext j
  by_cases q : j = n
  · subst q; rw [pk_us]; unfold flo; rw [if_pos (by omega)]
  · rw [pk_un q]; unfold flo
    by_cases q2 : j < n
    · rw [if_pos q2, if_pos (by omega)]
    · rw [if_neg q2, if_neg (by omega)]
theorem flo_in {f g : Nat → Int32} {n j : Nat} (h : j < n) : flo f g n j = f j := by unfold flo; rw [if_pos h]
def sp_X8_begins (ca : Nat → ClassId) : SPEC := fun av h post => ∃ m a0 a1 r s g, av = [.ref m] ∧ h m = some (.inr (8, .ref a0 :: .ref a1 :: r)) ∧ h a0 = some (.inl (ca 0, 127, .inl s)) ∧ h a1 = some (.inl (ca 0, 127, .inl g)) ∧ ¬ a0 = a1 ∧ ¬ m = a1 ∧ post none (va_up h a1 (some (.inl (ca 0, 127, .inl (flo s g 127)))))
def k_X8_begins (ca : Nat → ClassId) : Nat → IT := fun pc => lk pc [(0, i_push (.int 0) 1),
  (1, i_istore 1 2),
  (2, i_iload 1 3),
  (3, i_push (.int 127) 5),
  (5, i_icmp (fun x y => y ≤ x) 26 8),
  (8, i_aload 0 9),
  (9, i_getf 8 1 12),
  (12, i_iload 1 13),
  (13, i_aload 0 14),
  (14, i_getf 8 0 17),
  (17, i_iload 1 18),
  (18, i_ald (ca 0) 19),
  (19, i_ast (fun x => x) (ca 0) 20),
  (20, i_iinc 1 1 23),
  (23, i_goto 2),
  (26, i_vret)]
set_option maxRecDepth 20000 in
theorem t_X8_begins : Tb k_X8_begins yX8_begins cX8_begins 2 none 0 0 0 := by
  intro l D ca A p e s m args below meth c post X
  unfold k_X8_begins
  refine snd_cons (snd_iconst X dX8_begins_0 (by decide)) ?_
  refine snd_cons (snd_istore_n X dX8_begins_1 rfl (by decide)) ?_
  refine snd_cons (snd_iload_n X dX8_begins_2 rfl) ?_
  refine snd_cons (snd_bipush X dX8_begins_3 (by decide)) ?_
  refine snd_cons (snd_icmp_ge X dX8_begins_5 (by decide)) ?_
  refine snd_cons (snd_aload_n X dX8_begins_8 rfl) ?_
  refine snd_cons (snd_getf X Fk8 1 (by decide) w_648 dX8_begins_9) ?_
  refine snd_cons (snd_iload_n X dX8_begins_12 rfl) ?_
  refine snd_cons (snd_aload_n X dX8_begins_13 rfl) ?_
  refine snd_cons (snd_getf X Fk8 0 (by decide) w_647 dX8_begins_14) ?_
  refine snd_cons (snd_iload_n X dX8_begins_17 rfl) ?_
  refine snd_cons (snd_iaload X dX8_begins_18) ?_
  refine snd_cons (snd_iastore X dX8_begins_19) ?_
  refine snd_cons (snd_iinc X dX8_begins_20 (by decide) (by decide)) ?_
  refine snd_cons (snd_goto X dX8_begins_23 (by decide)) ?_
  refine snd_cons (snd_vret X dX8_begins_26) ?_
  exact snd_nil
theorem k_X8_begins_0 (ca : Nat → ClassId) : k_X8_begins ca 0 = i_push (.int 0) 1 := rfl
theorem k_X8_begins_1 (ca : Nat → ClassId) : k_X8_begins ca 1 = i_istore 1 2 := rfl
theorem k_X8_begins_2 (ca : Nat → ClassId) : k_X8_begins ca 2 = i_iload 1 3 := rfl
theorem k_X8_begins_3 (ca : Nat → ClassId) : k_X8_begins ca 3 = i_push (.int 127) 5 := rfl
theorem k_X8_begins_5 (ca : Nat → ClassId) : k_X8_begins ca 5 = i_icmp (fun x y => y ≤ x) 26 8 := rfl
theorem k_X8_begins_8 (ca : Nat → ClassId) : k_X8_begins ca 8 = i_aload 0 9 := rfl
theorem k_X8_begins_9 (ca : Nat → ClassId) : k_X8_begins ca 9 = i_getf 8 1 12 := rfl
theorem k_X8_begins_12 (ca : Nat → ClassId) : k_X8_begins ca 12 = i_iload 1 13 := rfl
theorem k_X8_begins_13 (ca : Nat → ClassId) : k_X8_begins ca 13 = i_aload 0 14 := rfl
theorem k_X8_begins_14 (ca : Nat → ClassId) : k_X8_begins ca 14 = i_getf 8 0 17 := rfl
theorem k_X8_begins_17 (ca : Nat → ClassId) : k_X8_begins ca 17 = i_iload 1 18 := rfl
theorem k_X8_begins_18 (ca : Nat → ClassId) : k_X8_begins ca 18 = i_ald (ca 0) 19 := rfl
theorem k_X8_begins_19 (ca : Nat → ClassId) : k_X8_begins ca 19 = i_ast (fun x => x) (ca 0) 20 := rfl
theorem k_X8_begins_20 (ca : Nat → ClassId) : k_X8_begins ca 20 = i_iinc 1 1 23 := rfl
theorem k_X8_begins_23 (ca : Nat → ClassId) : k_X8_begins ca 23 = i_goto 2 := rfl
theorem k_X8_begins_26 (ca : Nat → ClassId) : k_X8_begins ca 26 = i_vret := rfl
set_option maxHeartbeats 4000000 in
set_option maxRecDepth 20000 in
theorem ok_X8_begins (l : Launch) (D : va_G) (ca : Nat → ClassId) : OkAll l D ca yX8_begins cX8_begins 2 none 0 0 0 (sp_X8_begins ca) := by
  intro av h post hs
  obtain ⟨m, a0, a1, r, s, g, rfl, hm, h0, h1, d1, d2, hs⟩ := hs
  refine okM_of t_X8_begins (by decide +kernel) (c1_ref c1_nil) (Nat.le_of_ble_eq_true rfl) ?_
  intro K go
  have key : ∀ r i, i + r = 127 → K 0 0 2 [some (.ref m), some (.int (nI i))] [] (va_up h a1 (some (.inl (ca 0, 127, .inl (flo s g i))))) := by
    intro r
    induction r with
    | zero =>
      intro i hi
      have hi : i = 127 := hi
      subst hi
      have e : nI 127 = 127 := rfl
      refine go (stp [2]) 6 _ _ _ _ _ _ ?_
      simp only [wpS, ite_not, i_push, i_iload, i_lload, i_aload, i_istore, i_astore, i_lstore, i_iinc, i_bin, i_dv, i_un, i_lbin, i_lsh, i_i2l, i_l2i, i_lcmp, i_dup, i_dup2, i_pop, i_if, i_icmp, i_goto, swG, i_sw, i_getf, i_puti, i_putz, i_putr, i_ald, i_lald, i_aald, i_ast, i_last, i_aast, i_alen, i_new, i_newi, i_newl, i_newq, i_oinit, i_ret, i_zret, i_lret, i_vret, catS, tk, rpush, isO, i_m1, i_m2, i_acopy, i_callV, i_callS, KRet, lget, lput, lputL, lcl0, isL, lv0, List.map_cons, List.map_nil, List.length_cons, List.length_nil, List.cons_append, List.nil_append, Nat.reduceAdd, Nat.reduceSub, Nat.reduceLeDiff, List.replicate_succ, List.replicate_zero, List.getElem?_cons_succ, List.getElem?_cons_zero, List.set_cons_succ, List.set_cons_zero, true_and, and_true, if_true, if_false, reduceIte, Nat.le_refl, Value.category, va_up_app, eq_self, stp, Nat.reduceBEq, Bool.or_false, Bool.false_or, Bool.true_or, Bool.or_true, or_true, true_or, bx_uu, implies_true, true_implies, not_true, not_false_eq_true, false_implies, and_self, Nat.reduceLT, Int32.reduceAdd, Int32.reduceSub, Int32.reduceMul, Int32.reduceLE, Int32.reduceLT, Int32.reduceToNatClampNeg, va_rf_some, Bool.false_eq_true, k_X8_begins_0 ca, k_X8_begins_1 ca, k_X8_begins_2 ca, k_X8_begins_3 ca, k_X8_begins_5 ca, k_X8_begins_8 ca, k_X8_begins_9 ca, k_X8_begins_12 ca, k_X8_begins_13 ca, k_X8_begins_14 ca, k_X8_begins_17 ca, k_X8_begins_18 ca, k_X8_begins_19 ca, k_X8_begins_20 ca, k_X8_begins_23 ca, k_X8_begins_26 ca, e]
      exact hs
    | succ r ih =>
      intro i hi
      have g1 : ¬ 127 ≤ nI i := nI_ge (b := 127) (by omega) (by decide)
      have z0 : vp_in (nI i) 127 := vp127 (by omega)
      have z1 : (nI i).toNatClampNeg = i := tn127 (by omega)
      refine go (stp [2]) 14 _ _ _ _ _ _ ?_
      simp only [wpS, ite_not, i_push, i_iload, i_lload, i_aload, i_istore, i_astore, i_lstore, i_iinc, i_bin, i_dv, i_un, i_lbin, i_lsh, i_i2l, i_l2i, i_lcmp, i_dup, i_dup2, i_pop, i_if, i_icmp, i_goto, swG, i_sw, i_getf, i_puti, i_putz, i_putr, i_ald, i_lald, i_aald, i_ast, i_last, i_aast, i_alen, i_new, i_newi, i_newl, i_newq, i_oinit, i_ret, i_zret, i_lret, i_vret, catS, tk, rpush, isO, i_m1, i_m2, i_acopy, i_callV, i_callS, KRet, lget, lput, lputL, lcl0, isL, lv0, List.map_cons, List.map_nil, List.length_cons, List.length_nil, List.cons_append, List.nil_append, Nat.reduceAdd, Nat.reduceSub, Nat.reduceLeDiff, List.replicate_succ, List.replicate_zero, List.getElem?_cons_succ, List.getElem?_cons_zero, List.set_cons_succ, List.set_cons_zero, true_and, and_true, if_true, if_false, reduceIte, Nat.le_refl, Value.category, va_up_app, eq_self, stp, Nat.reduceBEq, Bool.or_false, Bool.false_or, Bool.true_or, Bool.or_true, or_true, true_or, bx_uu, implies_true, true_implies, not_true, not_false_eq_true, false_implies, and_self, Nat.reduceLT, Int32.reduceAdd, Int32.reduceSub, Int32.reduceMul, Int32.reduceLE, Int32.reduceLT, Int32.reduceToNatClampNeg, va_rf_some, Bool.false_eq_true, k_X8_begins_0 ca, k_X8_begins_1 ca, k_X8_begins_2 ca, k_X8_begins_3 ca, k_X8_begins_5 ca, k_X8_begins_8 ca, k_X8_begins_9 ca, k_X8_begins_12 ca, k_X8_begins_13 ca, k_X8_begins_14 ca, k_X8_begins_17 ca, k_X8_begins_18 ca, k_X8_begins_19 ca, k_X8_begins_20 ca, k_X8_begins_23 ca, k_X8_begins_26 ca, hm, h0, h1, d1, d2, g1, z0, z1, a_1, flo_s]
      exact ih (i + 1) (by omega)
  have k0 := key 127 0 (by omega)
  rw [flo_0, up_id h1] at k0
  refine go (stp [2]) 4 _ _ _ _ _ _ ?_
  simp only [wpS, ite_not, i_push, i_iload, i_lload, i_aload, i_istore, i_astore, i_lstore, i_iinc, i_bin, i_dv, i_un, i_lbin, i_lsh, i_i2l, i_l2i, i_lcmp, i_dup, i_dup2, i_pop, i_if, i_icmp, i_goto, swG, i_sw, i_getf, i_puti, i_putz, i_putr, i_ald, i_lald, i_aald, i_ast, i_last, i_aast, i_alen, i_new, i_newi, i_newl, i_newq, i_oinit, i_ret, i_zret, i_lret, i_vret, catS, tk, rpush, isO, i_m1, i_m2, i_acopy, i_callV, i_callS, KRet, lget, lput, lputL, lcl0, isL, lv0, List.map_cons, List.map_nil, List.length_cons, List.length_nil, List.cons_append, List.nil_append, Nat.reduceAdd, Nat.reduceSub, Nat.reduceLeDiff, List.replicate_succ, List.replicate_zero, List.getElem?_cons_succ, List.getElem?_cons_zero, List.set_cons_succ, List.set_cons_zero, true_and, and_true, if_true, if_false, reduceIte, Nat.le_refl, Value.category, va_up_app, eq_self, stp, Nat.reduceBEq, Bool.or_false, Bool.false_or, Bool.true_or, Bool.or_true, or_true, true_or, bx_uu, implies_true, true_implies, not_true, not_false_eq_true, false_implies, and_self, Nat.reduceLT, Int32.reduceAdd, Int32.reduceSub, Int32.reduceMul, Int32.reduceLE, Int32.reduceLT, Int32.reduceToNatClampNeg, va_rf_some, Bool.false_eq_true, k_X8_begins_0 ca, k_X8_begins_1 ca, k_X8_begins_2 ca, k_X8_begins_3 ca, k_X8_begins_5 ca, k_X8_begins_8 ca, k_X8_begins_9 ca, k_X8_begins_12 ca, k_X8_begins_13 ca, k_X8_begins_14 ca, k_X8_begins_17 ca, k_X8_begins_18 ca, k_X8_begins_19 ca, k_X8_begins_20 ca, k_X8_begins_23 ca, k_X8_begins_26 ca]
  exact k0
def sp_X8_returns (ca : Nat → ClassId) : SPEC := fun av h post => ∃ m a0 a1 r s g, av = [.ref m] ∧ h m = some (.inr (8, .ref a0 :: .ref a1 :: r)) ∧ h a0 = some (.inl (ca 0, 127, .inl s)) ∧ h a1 = some (.inl (ca 0, 127, .inl g)) ∧ ¬ a0 = a1 ∧ ¬ m = a0 ∧ post none (va_up h a0 (some (.inl (ca 0, 127, .inl (flo g s 127)))))
def k_X8_returns (ca : Nat → ClassId) : Nat → IT := fun pc => lk pc [(0, i_push (.int 0) 1),
  (1, i_istore 1 2),
  (2, i_iload 1 3),
  (3, i_push (.int 127) 5),
  (5, i_icmp (fun x y => y ≤ x) 26 8),
  (8, i_aload 0 9),
  (9, i_getf 8 0 12),
  (12, i_iload 1 13),
  (13, i_aload 0 14),
  (14, i_getf 8 1 17),
  (17, i_iload 1 18),
  (18, i_ald (ca 0) 19),
  (19, i_ast (fun x => x) (ca 0) 20),
  (20, i_iinc 1 1 23),
  (23, i_goto 2),
  (26, i_vret)]
set_option maxRecDepth 20000 in
theorem t_X8_returns : Tb k_X8_returns yX8_returns cX8_returns 2 none 0 0 0 := by
  intro l D ca A p e s m args below meth c post X
  unfold k_X8_returns
  refine snd_cons (snd_iconst X dX8_returns_0 (by decide)) ?_
  refine snd_cons (snd_istore_n X dX8_returns_1 rfl (by decide)) ?_
  refine snd_cons (snd_iload_n X dX8_returns_2 rfl) ?_
  refine snd_cons (snd_bipush X dX8_returns_3 (by decide)) ?_
  refine snd_cons (snd_icmp_ge X dX8_returns_5 (by decide)) ?_
  refine snd_cons (snd_aload_n X dX8_returns_8 rfl) ?_
  refine snd_cons (snd_getf X Fk8 0 (by decide) w_647 dX8_returns_9) ?_
  refine snd_cons (snd_iload_n X dX8_returns_12 rfl) ?_
  refine snd_cons (snd_aload_n X dX8_returns_13 rfl) ?_
  refine snd_cons (snd_getf X Fk8 1 (by decide) w_648 dX8_returns_14) ?_
  refine snd_cons (snd_iload_n X dX8_returns_17 rfl) ?_
  refine snd_cons (snd_iaload X dX8_returns_18) ?_
  refine snd_cons (snd_iastore X dX8_returns_19) ?_
  refine snd_cons (snd_iinc X dX8_returns_20 (by decide) (by decide)) ?_
  refine snd_cons (snd_goto X dX8_returns_23 (by decide)) ?_
  refine snd_cons (snd_vret X dX8_returns_26) ?_
  exact snd_nil
theorem k_X8_returns_0 (ca : Nat → ClassId) : k_X8_returns ca 0 = i_push (.int 0) 1 := rfl
theorem k_X8_returns_1 (ca : Nat → ClassId) : k_X8_returns ca 1 = i_istore 1 2 := rfl
theorem k_X8_returns_2 (ca : Nat → ClassId) : k_X8_returns ca 2 = i_iload 1 3 := rfl
theorem k_X8_returns_3 (ca : Nat → ClassId) : k_X8_returns ca 3 = i_push (.int 127) 5 := rfl
theorem k_X8_returns_5 (ca : Nat → ClassId) : k_X8_returns ca 5 = i_icmp (fun x y => y ≤ x) 26 8 := rfl
theorem k_X8_returns_8 (ca : Nat → ClassId) : k_X8_returns ca 8 = i_aload 0 9 := rfl
theorem k_X8_returns_9 (ca : Nat → ClassId) : k_X8_returns ca 9 = i_getf 8 0 12 := rfl
theorem k_X8_returns_12 (ca : Nat → ClassId) : k_X8_returns ca 12 = i_iload 1 13 := rfl
theorem k_X8_returns_13 (ca : Nat → ClassId) : k_X8_returns ca 13 = i_aload 0 14 := rfl
theorem k_X8_returns_14 (ca : Nat → ClassId) : k_X8_returns ca 14 = i_getf 8 1 17 := rfl
theorem k_X8_returns_17 (ca : Nat → ClassId) : k_X8_returns ca 17 = i_iload 1 18 := rfl
theorem k_X8_returns_18 (ca : Nat → ClassId) : k_X8_returns ca 18 = i_ald (ca 0) 19 := rfl
theorem k_X8_returns_19 (ca : Nat → ClassId) : k_X8_returns ca 19 = i_ast (fun x => x) (ca 0) 20 := rfl
theorem k_X8_returns_20 (ca : Nat → ClassId) : k_X8_returns ca 20 = i_iinc 1 1 23 := rfl
theorem k_X8_returns_23 (ca : Nat → ClassId) : k_X8_returns ca 23 = i_goto 2 := rfl
theorem k_X8_returns_26 (ca : Nat → ClassId) : k_X8_returns ca 26 = i_vret := rfl
set_option maxHeartbeats 4000000 in
set_option maxRecDepth 20000 in
theorem ok_X8_returns (l : Launch) (D : va_G) (ca : Nat → ClassId) : OkAll l D ca yX8_returns cX8_returns 2 none 0 0 0 (sp_X8_returns ca) := by
  intro av h post hs
  obtain ⟨m, a0, a1, r, s, g, rfl, hm, h0, h1, d1, d2, hs⟩ := hs
  have d1' : ¬ a1 = a0 := fun z => d1 z.symm
  refine okM_of t_X8_returns (by decide +kernel) (c1_ref c1_nil) (Nat.le_of_ble_eq_true rfl) ?_
  intro K go
  have key : ∀ r i, i + r = 127 → K 0 0 2 [some (.ref m), some (.int (nI i))] [] (va_up h a0 (some (.inl (ca 0, 127, .inl (flo g s i))))) := by
    intro r
    induction r with
    | zero =>
      intro i hi
      have hi : i = 127 := hi
      subst hi
      have e : nI 127 = 127 := rfl
      refine go (stp [2]) 6 _ _ _ _ _ _ ?_
      simp only [wpS, ite_not, i_push, i_iload, i_lload, i_aload, i_istore, i_astore, i_lstore, i_iinc, i_bin, i_dv, i_un, i_lbin, i_lsh, i_i2l, i_l2i, i_lcmp, i_dup, i_dup2, i_pop, i_if, i_icmp, i_goto, swG, i_sw, i_getf, i_puti, i_putz, i_putr, i_ald, i_lald, i_aald, i_ast, i_last, i_aast, i_alen, i_new, i_newi, i_newl, i_newq, i_oinit, i_ret, i_zret, i_lret, i_vret, catS, tk, rpush, isO, i_m1, i_m2, i_acopy, i_callV, i_callS, KRet, lget, lput, lputL, lcl0, isL, lv0, List.map_cons, List.map_nil, List.length_cons, List.length_nil, List.cons_append, List.nil_append, Nat.reduceAdd, Nat.reduceSub, Nat.reduceLeDiff, List.replicate_succ, List.replicate_zero, List.getElem?_cons_succ, List.getElem?_cons_zero, List.set_cons_succ, List.set_cons_zero, true_and, and_true, if_true, if_false, reduceIte, Nat.le_refl, Value.category, va_up_app, eq_self, stp, Nat.reduceBEq, Bool.or_false, Bool.false_or, Bool.true_or, Bool.or_true, or_true, true_or, bx_uu, implies_true, true_implies, not_true, not_false_eq_true, false_implies, and_self, Nat.reduceLT, Int32.reduceAdd, Int32.reduceSub, Int32.reduceMul, Int32.reduceLE, Int32.reduceLT, Int32.reduceToNatClampNeg, va_rf_some, Bool.false_eq_true, k_X8_returns_0 ca, k_X8_returns_1 ca, k_X8_returns_2 ca, k_X8_returns_3 ca, k_X8_returns_5 ca, k_X8_returns_8 ca, k_X8_returns_9 ca, k_X8_returns_12 ca, k_X8_returns_13 ca, k_X8_returns_14 ca, k_X8_returns_17 ca, k_X8_returns_18 ca, k_X8_returns_19 ca, k_X8_returns_20 ca, k_X8_returns_23 ca, k_X8_returns_26 ca, e]
      exact hs
    | succ r ih =>
      intro i hi
      have g1 : ¬ 127 ≤ nI i := nI_ge (b := 127) (by omega) (by decide)
      have z0 : vp_in (nI i) 127 := vp127 (by omega)
      have z1 : (nI i).toNatClampNeg = i := tn127 (by omega)
      refine go (stp [2]) 14 _ _ _ _ _ _ ?_
      simp only [wpS, ite_not, i_push, i_iload, i_lload, i_aload, i_istore, i_astore, i_lstore, i_iinc, i_bin, i_dv, i_un, i_lbin, i_lsh, i_i2l, i_l2i, i_lcmp, i_dup, i_dup2, i_pop, i_if, i_icmp, i_goto, swG, i_sw, i_getf, i_puti, i_putz, i_putr, i_ald, i_lald, i_aald, i_ast, i_last, i_aast, i_alen, i_new, i_newi, i_newl, i_newq, i_oinit, i_ret, i_zret, i_lret, i_vret, catS, tk, rpush, isO, i_m1, i_m2, i_acopy, i_callV, i_callS, KRet, lget, lput, lputL, lcl0, isL, lv0, List.map_cons, List.map_nil, List.length_cons, List.length_nil, List.cons_append, List.nil_append, Nat.reduceAdd, Nat.reduceSub, Nat.reduceLeDiff, List.replicate_succ, List.replicate_zero, List.getElem?_cons_succ, List.getElem?_cons_zero, List.set_cons_succ, List.set_cons_zero, true_and, and_true, if_true, if_false, reduceIte, Nat.le_refl, Value.category, va_up_app, eq_self, stp, Nat.reduceBEq, Bool.or_false, Bool.false_or, Bool.true_or, Bool.or_true, or_true, true_or, bx_uu, implies_true, true_implies, not_true, not_false_eq_true, false_implies, and_self, Nat.reduceLT, Int32.reduceAdd, Int32.reduceSub, Int32.reduceMul, Int32.reduceLE, Int32.reduceLT, Int32.reduceToNatClampNeg, va_rf_some, Bool.false_eq_true, k_X8_returns_0 ca, k_X8_returns_1 ca, k_X8_returns_2 ca, k_X8_returns_3 ca, k_X8_returns_5 ca, k_X8_returns_8 ca, k_X8_returns_9 ca, k_X8_returns_12 ca, k_X8_returns_13 ca, k_X8_returns_14 ca, k_X8_returns_17 ca, k_X8_returns_18 ca, k_X8_returns_19 ca, k_X8_returns_20 ca, k_X8_returns_23 ca, k_X8_returns_26 ca, hm, h0, h1, d1', d2, g1, z0, z1, a_1, flo_s]
      exact ih (i + 1) (by omega)
  have k0 := key 127 0 (by omega)
  rw [flo_0, up_id h0] at k0
  refine go (stp [2]) 4 _ _ _ _ _ _ ?_
  simp only [wpS, ite_not, i_push, i_iload, i_lload, i_aload, i_istore, i_astore, i_lstore, i_iinc, i_bin, i_dv, i_un, i_lbin, i_lsh, i_i2l, i_l2i, i_lcmp, i_dup, i_dup2, i_pop, i_if, i_icmp, i_goto, swG, i_sw, i_getf, i_puti, i_putz, i_putr, i_ald, i_lald, i_aald, i_ast, i_last, i_aast, i_alen, i_new, i_newi, i_newl, i_newq, i_oinit, i_ret, i_zret, i_lret, i_vret, catS, tk, rpush, isO, i_m1, i_m2, i_acopy, i_callV, i_callS, KRet, lget, lput, lputL, lcl0, isL, lv0, List.map_cons, List.map_nil, List.length_cons, List.length_nil, List.cons_append, List.nil_append, Nat.reduceAdd, Nat.reduceSub, Nat.reduceLeDiff, List.replicate_succ, List.replicate_zero, List.getElem?_cons_succ, List.getElem?_cons_zero, List.set_cons_succ, List.set_cons_zero, true_and, and_true, if_true, if_false, reduceIte, Nat.le_refl, Value.category, va_up_app, eq_self, stp, Nat.reduceBEq, Bool.or_false, Bool.false_or, Bool.true_or, Bool.or_true, or_true, true_or, bx_uu, implies_true, true_implies, not_true, not_false_eq_true, false_implies, and_self, Nat.reduceLT, Int32.reduceAdd, Int32.reduceSub, Int32.reduceMul, Int32.reduceLE, Int32.reduceLT, Int32.reduceToNatClampNeg, va_rf_some, Bool.false_eq_true, k_X8_returns_0 ca, k_X8_returns_1 ca, k_X8_returns_2 ca, k_X8_returns_3 ca, k_X8_returns_5 ca, k_X8_returns_8 ca, k_X8_returns_9 ca, k_X8_returns_12 ca, k_X8_returns_13 ca, k_X8_returns_14 ca, k_X8_returns_17 ca, k_X8_returns_18 ca, k_X8_returns_19 ca, k_X8_returns_20 ca, k_X8_returns_23 ca, k_X8_returns_26 ca]
  exact k0
def eMod (a : Nat → Nat) (st len fm at' re : Int32) : va_E := .inr (8, [.ref (a 0), .ref (a 1), .ref (a 2), .int st, .ref (a 3), .int len, .ref (a 4), .ref (a 5), .ref (a 6), .ref (a 7), .ref (a 8), .ref (a 9), .int fm, .int at', .int re])
/-- a stretch of a row, n numbers from lo on, laid from f -/
def lay (p f : Nat → Int32) (lo n : Nat) : Nat → Int32 := fun j => if lo ≤ j ∧ j < lo + n then f (j - lo) else p j
theorem lay_0 {p f : Nat → Int32} {lo : Nat} : lay p f lo 0 = p := by funext j; unfold lay; rw [if_neg (by omega)]
theorem lay_s {p f : Nat → Int32} {lo n : Nat} : upd (lay p f lo n) (lo + n) (f n) = lay p f lo (n + 1) := by
  funext j
  by_cases q : j = lo + n
  · subst q
    rw [pk_us]; unfold lay
    rw [if_pos (by omega)]
    exact congrArg f (by omega)
  · rw [pk_un q]; unfold lay
    by_cases q2 : lo ≤ j ∧ j < lo + n
    · rw [if_pos q2, if_pos (by omega)]
    · rw [if_neg q2, if_neg (by omega)]
/-- the reference's past behind an act: t states before -/
def pastT (t : Nat) : Nat := if t = 4 then 4 else t + 1
def pastF (p g : Nat → Int32) (t : Nat) : Nat → Int32 := if t = 4 then lay (flo (fun j => p (j + 127)) p 381) g 381 127 else lay p g (127 * t) 127
def sp_X8_acted (ca : Nat → ClassId) : SPEC := fun av h post => ∃ m a t len fm at' re s g p x, av = [.ref m, .int x] ∧ h m = some (eMod a (nI t) len fm at' re) ∧ t ≤ 4 ∧ h (a 0) = some (.inl (ca 0, 127, .inl s)) ∧ h (a 1) = some (.inl (ca 0, 127, .inl g)) ∧ h (a 2) = some (.inl (ca 0, 508, .inl p)) ∧ Inj a ∧ (∀ i, ¬ m = a i) ∧
  (x ≤ -10000001 → post (some (.int x)) (va_up h (a 0) (some (.inl (ca 0, 127, .inl (flo g s 127)))))) ∧
  (¬ x ≤ -10000001 → post (some (.int x)) (va_up (va_up h (a 2) (some (.inl (ca 0, 508, .inl (pastF p g t))))) m (some (eMod a (nI (pastT t)) len fm at' re))))
theorem up_comm {h : PH} {a b : Nat} {x y : Option va_E} (hab : ¬ a = b) : va_up (va_up h a x) b y = va_up (va_up h b y) a x := by
  funext j
  by_cases q : j = b
  · subst q
    rw [va_up_self, va_up_ne _ _ (fun z => hab z.symm), va_up_self]
  · rw [va_up_ne _ _ q]
    by_cases q2 : j = a
    · subst q2; rw [va_up_self, va_up_self]
    · rw [va_up_ne _ _ q2, va_up_ne _ _ q2, va_up_ne _ _ q]
def k_X8_acted (ca : Nat → ClassId) : Nat → IT := fun pc => lk pc [(0, i_iload 1 1),
  (1, i_push (.int (-10000001)) 3),
  (3, i_icmp (fun x y => y < x) 12 6),
  (6, i_aload 0 7),
  (7, i_callV 8 0 0 0 0 0 (sp_X8_returns ca) 10),
  (10, i_iload 1 11),
  (11, i_ret),
  (12, i_aload 0 13),
  (13, i_getf 8 3 16),
  (16, i_push (.int 4) 17),
  (17, i_icmp (fun x y => ¬ x = y) 60 20),
  (20, i_push (.int 0) 21),
  (21, i_istore 2 22),
  (22, i_iload 2 23),
  (23, i_push (.int 381) 26),
  (26, i_icmp (fun x y => y ≤ x) 50 29),
  (29, i_aload 0 30),
  (30, i_getf 8 2 33),
  (33, i_iload 2 34),
  (34, i_aload 0 35),
  (35, i_getf 8 2 38),
  (38, i_iload 2 39),
  (39, i_push (.int 127) 41),
  (41, i_bin (fun x y => x + y) 42),
  (42, i_ald (ca 0) 43),
  (43, i_ast (fun x => x) (ca 0) 44),
  (44, i_iinc 2 1 47),
  (47, i_goto 22),
  (50, i_aload 0 51),
  (51, i_dup 52),
  (52, i_getf 8 3 55),
  (55, i_push (.int 1) 56),
  (56, i_bin (fun x y => x - y) 57),
  (57, i_puti 8 3 60),
  (60, i_push (.int 0) 61),
  (61, i_istore 2 62),
  (62, i_iload 2 63),
  (63, i_push (.int 127) 65),
  (65, i_icmp (fun x y => y ≤ x) 94 68),
  (68, i_aload 0 69),
  (69, i_getf 8 2 72),
  (72, i_push (.int 127) 74),
  (74, i_aload 0 75),
  (75, i_getf 8 3 78),
  (78, i_bin (fun x y => x * y) 79),
  (79, i_iload 2 80),
  (80, i_bin (fun x y => x + y) 81),
  (81, i_aload 0 82),
  (82, i_getf 8 1 85),
  (85, i_iload 2 86),
  (86, i_ald (ca 0) 87),
  (87, i_ast (fun x => x) (ca 0) 88),
  (88, i_iinc 2 1 91),
  (91, i_goto 62),
  (94, i_aload 0 95),
  (95, i_dup 96),
  (96, i_getf 8 3 99),
  (99, i_push (.int 1) 100),
  (100, i_bin (fun x y => x + y) 101),
  (101, i_puti 8 3 104),
  (104, i_iload 1 105),
  (105, i_ret)]
set_option maxRecDepth 20000 in
theorem t_X8_acted : Tb k_X8_acted yX8_acted cX8_acted 3 (some .int) 1 0 0 := by
  intro l D ca A p e s m args below meth c post X
  unfold k_X8_acted
  refine snd_cons (snd_iload_n X dX8_acted_0 rfl) ?_
  refine snd_cons (snd_ldc X w_709 dX8_acted_1) ?_
  refine snd_cons (snd_icmp_gt X dX8_acted_3 (by decide)) ?_
  refine snd_cons (snd_aload_n X dX8_acted_6 rfl) ?_
  refine snd_cons (snd_callV X Fk8 (ok_X8_returns l D ca) rfl rfl w_714 w_716 wp_19 w_9 w_717 (by decide) (by decide) dX8_acted_7) ?_
  refine snd_cons (snd_iload_n X dX8_acted_10 rfl) ?_
  refine snd_cons (snd_ret X dX8_acted_11) ?_
  refine snd_cons (snd_aload_n X dX8_acted_12 rfl) ?_
  refine snd_cons (snd_getf X Fk8 3 (by decide) w_650 dX8_acted_13) ?_
  refine snd_cons (snd_iconst X dX8_acted_16 (by decide)) ?_
  refine snd_cons (snd_icmp_ne X dX8_acted_17 (by decide)) ?_
  refine snd_cons (snd_iconst X dX8_acted_20 (by decide)) ?_
  refine snd_cons (snd_istore_n X dX8_acted_21 rfl (by decide)) ?_
  refine snd_cons (snd_iload_n X dX8_acted_22 rfl) ?_
  refine snd_cons (snd_sipush X dX8_acted_23 (by decide)) ?_
  refine snd_cons (snd_icmp_ge X dX8_acted_26 (by decide)) ?_
  refine snd_cons (snd_aload_n X dX8_acted_29 rfl) ?_
  refine snd_cons (snd_getf X Fk8 2 (by decide) w_649 dX8_acted_30) ?_
  refine snd_cons (snd_iload_n X dX8_acted_33 rfl) ?_
  refine snd_cons (snd_aload_n X dX8_acted_34 rfl) ?_
  refine snd_cons (snd_getf X Fk8 2 (by decide) w_649 dX8_acted_35) ?_
  refine snd_cons (snd_iload_n X dX8_acted_38 rfl) ?_
  refine snd_cons (snd_bipush X dX8_acted_39 (by decide)) ?_
  refine snd_cons (snd_iadd X dX8_acted_41) ?_
  refine snd_cons (snd_iaload X dX8_acted_42) ?_
  refine snd_cons (snd_iastore X dX8_acted_43) ?_
  refine snd_cons (snd_iinc X dX8_acted_44 (by decide) (by decide)) ?_
  refine snd_cons (snd_goto X dX8_acted_47 (by decide)) ?_
  refine snd_cons (snd_aload_n X dX8_acted_50 rfl) ?_
  refine snd_cons (snd_dup X dX8_acted_51) ?_
  refine snd_cons (snd_getf X Fk8 3 (by decide) w_650 dX8_acted_52) ?_
  refine snd_cons (snd_iconst X dX8_acted_55 (by decide)) ?_
  refine snd_cons (snd_isub X dX8_acted_56) ?_
  refine snd_cons (snd_puti X Fk8 3 (by decide) rfl rfl w_650 dX8_acted_57) ?_
  refine snd_cons (snd_iconst X dX8_acted_60 (by decide)) ?_
  refine snd_cons (snd_istore_n X dX8_acted_61 rfl (by decide)) ?_
  refine snd_cons (snd_iload_n X dX8_acted_62 rfl) ?_
  refine snd_cons (snd_bipush X dX8_acted_63 (by decide)) ?_
  refine snd_cons (snd_icmp_ge X dX8_acted_65 (by decide)) ?_
  refine snd_cons (snd_aload_n X dX8_acted_68 rfl) ?_
  refine snd_cons (snd_getf X Fk8 2 (by decide) w_649 dX8_acted_69) ?_
  refine snd_cons (snd_bipush X dX8_acted_72 (by decide)) ?_
  refine snd_cons (snd_aload_n X dX8_acted_74 rfl) ?_
  refine snd_cons (snd_getf X Fk8 3 (by decide) w_650 dX8_acted_75) ?_
  refine snd_cons (snd_imul X dX8_acted_78) ?_
  refine snd_cons (snd_iload_n X dX8_acted_79 rfl) ?_
  refine snd_cons (snd_iadd X dX8_acted_80) ?_
  refine snd_cons (snd_aload_n X dX8_acted_81 rfl) ?_
  refine snd_cons (snd_getf X Fk8 1 (by decide) w_648 dX8_acted_82) ?_
  refine snd_cons (snd_iload_n X dX8_acted_85 rfl) ?_
  refine snd_cons (snd_iaload X dX8_acted_86) ?_
  refine snd_cons (snd_iastore X dX8_acted_87) ?_
  refine snd_cons (snd_iinc X dX8_acted_88 (by decide) (by decide)) ?_
  refine snd_cons (snd_goto X dX8_acted_91 (by decide)) ?_
  refine snd_cons (snd_aload_n X dX8_acted_94 rfl) ?_
  refine snd_cons (snd_dup X dX8_acted_95) ?_
  refine snd_cons (snd_getf X Fk8 3 (by decide) w_650 dX8_acted_96) ?_
  refine snd_cons (snd_iconst X dX8_acted_99 (by decide)) ?_
  refine snd_cons (snd_iadd X dX8_acted_100) ?_
  refine snd_cons (snd_puti X Fk8 3 (by decide) rfl rfl w_650 dX8_acted_101) ?_
  refine snd_cons (snd_iload_n X dX8_acted_104 rfl) ?_
  refine snd_cons (snd_ret X dX8_acted_105) ?_
  exact snd_nil
theorem k_X8_acted_0 (ca : Nat → ClassId) : k_X8_acted ca 0 = i_iload 1 1 := rfl
theorem k_X8_acted_1 (ca : Nat → ClassId) : k_X8_acted ca 1 = i_push (.int (-10000001)) 3 := rfl
theorem k_X8_acted_3 (ca : Nat → ClassId) : k_X8_acted ca 3 = i_icmp (fun x y => y < x) 12 6 := rfl
theorem k_X8_acted_6 (ca : Nat → ClassId) : k_X8_acted ca 6 = i_aload 0 7 := rfl
theorem k_X8_acted_7 (ca : Nat → ClassId) : k_X8_acted ca 7 = i_callV 8 0 0 0 0 0 (sp_X8_returns ca) 10 := rfl
theorem k_X8_acted_10 (ca : Nat → ClassId) : k_X8_acted ca 10 = i_iload 1 11 := rfl
theorem k_X8_acted_11 (ca : Nat → ClassId) : k_X8_acted ca 11 = i_ret := rfl
theorem k_X8_acted_12 (ca : Nat → ClassId) : k_X8_acted ca 12 = i_aload 0 13 := rfl
theorem k_X8_acted_13 (ca : Nat → ClassId) : k_X8_acted ca 13 = i_getf 8 3 16 := rfl
theorem k_X8_acted_16 (ca : Nat → ClassId) : k_X8_acted ca 16 = i_push (.int 4) 17 := rfl
theorem k_X8_acted_17 (ca : Nat → ClassId) : k_X8_acted ca 17 = i_icmp (fun x y => ¬ x = y) 60 20 := rfl
theorem k_X8_acted_20 (ca : Nat → ClassId) : k_X8_acted ca 20 = i_push (.int 0) 21 := rfl
theorem k_X8_acted_21 (ca : Nat → ClassId) : k_X8_acted ca 21 = i_istore 2 22 := rfl
theorem k_X8_acted_22 (ca : Nat → ClassId) : k_X8_acted ca 22 = i_iload 2 23 := rfl
theorem k_X8_acted_23 (ca : Nat → ClassId) : k_X8_acted ca 23 = i_push (.int 381) 26 := rfl
theorem k_X8_acted_26 (ca : Nat → ClassId) : k_X8_acted ca 26 = i_icmp (fun x y => y ≤ x) 50 29 := rfl
theorem k_X8_acted_29 (ca : Nat → ClassId) : k_X8_acted ca 29 = i_aload 0 30 := rfl
theorem k_X8_acted_30 (ca : Nat → ClassId) : k_X8_acted ca 30 = i_getf 8 2 33 := rfl
theorem k_X8_acted_33 (ca : Nat → ClassId) : k_X8_acted ca 33 = i_iload 2 34 := rfl
theorem k_X8_acted_34 (ca : Nat → ClassId) : k_X8_acted ca 34 = i_aload 0 35 := rfl
theorem k_X8_acted_35 (ca : Nat → ClassId) : k_X8_acted ca 35 = i_getf 8 2 38 := rfl
theorem k_X8_acted_38 (ca : Nat → ClassId) : k_X8_acted ca 38 = i_iload 2 39 := rfl
theorem k_X8_acted_39 (ca : Nat → ClassId) : k_X8_acted ca 39 = i_push (.int 127) 41 := rfl
theorem k_X8_acted_41 (ca : Nat → ClassId) : k_X8_acted ca 41 = i_bin (fun x y => x + y) 42 := rfl
theorem k_X8_acted_42 (ca : Nat → ClassId) : k_X8_acted ca 42 = i_ald (ca 0) 43 := rfl
theorem k_X8_acted_43 (ca : Nat → ClassId) : k_X8_acted ca 43 = i_ast (fun x => x) (ca 0) 44 := rfl
theorem k_X8_acted_44 (ca : Nat → ClassId) : k_X8_acted ca 44 = i_iinc 2 1 47 := rfl
theorem k_X8_acted_47 (ca : Nat → ClassId) : k_X8_acted ca 47 = i_goto 22 := rfl
theorem k_X8_acted_50 (ca : Nat → ClassId) : k_X8_acted ca 50 = i_aload 0 51 := rfl
theorem k_X8_acted_51 (ca : Nat → ClassId) : k_X8_acted ca 51 = i_dup 52 := rfl
theorem k_X8_acted_52 (ca : Nat → ClassId) : k_X8_acted ca 52 = i_getf 8 3 55 := rfl
theorem k_X8_acted_55 (ca : Nat → ClassId) : k_X8_acted ca 55 = i_push (.int 1) 56 := rfl
theorem k_X8_acted_56 (ca : Nat → ClassId) : k_X8_acted ca 56 = i_bin (fun x y => x - y) 57 := rfl
theorem k_X8_acted_57 (ca : Nat → ClassId) : k_X8_acted ca 57 = i_puti 8 3 60 := rfl
theorem k_X8_acted_60 (ca : Nat → ClassId) : k_X8_acted ca 60 = i_push (.int 0) 61 := rfl
theorem k_X8_acted_61 (ca : Nat → ClassId) : k_X8_acted ca 61 = i_istore 2 62 := rfl
theorem k_X8_acted_62 (ca : Nat → ClassId) : k_X8_acted ca 62 = i_iload 2 63 := rfl
theorem k_X8_acted_63 (ca : Nat → ClassId) : k_X8_acted ca 63 = i_push (.int 127) 65 := rfl
theorem k_X8_acted_65 (ca : Nat → ClassId) : k_X8_acted ca 65 = i_icmp (fun x y => y ≤ x) 94 68 := rfl
theorem k_X8_acted_68 (ca : Nat → ClassId) : k_X8_acted ca 68 = i_aload 0 69 := rfl
theorem k_X8_acted_69 (ca : Nat → ClassId) : k_X8_acted ca 69 = i_getf 8 2 72 := rfl
theorem k_X8_acted_72 (ca : Nat → ClassId) : k_X8_acted ca 72 = i_push (.int 127) 74 := rfl
theorem k_X8_acted_74 (ca : Nat → ClassId) : k_X8_acted ca 74 = i_aload 0 75 := rfl
theorem k_X8_acted_75 (ca : Nat → ClassId) : k_X8_acted ca 75 = i_getf 8 3 78 := rfl
theorem k_X8_acted_78 (ca : Nat → ClassId) : k_X8_acted ca 78 = i_bin (fun x y => x * y) 79 := rfl
theorem k_X8_acted_79 (ca : Nat → ClassId) : k_X8_acted ca 79 = i_iload 2 80 := rfl
theorem k_X8_acted_80 (ca : Nat → ClassId) : k_X8_acted ca 80 = i_bin (fun x y => x + y) 81 := rfl
theorem k_X8_acted_81 (ca : Nat → ClassId) : k_X8_acted ca 81 = i_aload 0 82 := rfl
theorem k_X8_acted_82 (ca : Nat → ClassId) : k_X8_acted ca 82 = i_getf 8 1 85 := rfl
theorem k_X8_acted_85 (ca : Nat → ClassId) : k_X8_acted ca 85 = i_iload 2 86 := rfl
theorem k_X8_acted_86 (ca : Nat → ClassId) : k_X8_acted ca 86 = i_ald (ca 0) 87 := rfl
theorem k_X8_acted_87 (ca : Nat → ClassId) : k_X8_acted ca 87 = i_ast (fun x => x) (ca 0) 88 := rfl
theorem k_X8_acted_88 (ca : Nat → ClassId) : k_X8_acted ca 88 = i_iinc 2 1 91 := rfl
theorem k_X8_acted_91 (ca : Nat → ClassId) : k_X8_acted ca 91 = i_goto 62 := rfl
theorem k_X8_acted_94 (ca : Nat → ClassId) : k_X8_acted ca 94 = i_aload 0 95 := rfl
theorem k_X8_acted_95 (ca : Nat → ClassId) : k_X8_acted ca 95 = i_dup 96 := rfl
theorem k_X8_acted_96 (ca : Nat → ClassId) : k_X8_acted ca 96 = i_getf 8 3 99 := rfl
theorem k_X8_acted_99 (ca : Nat → ClassId) : k_X8_acted ca 99 = i_push (.int 1) 100 := rfl
theorem k_X8_acted_100 (ca : Nat → ClassId) : k_X8_acted ca 100 = i_bin (fun x y => x + y) 101 := rfl
theorem k_X8_acted_101 (ca : Nat → ClassId) : k_X8_acted ca 101 = i_puti 8 3 104 := rfl
theorem k_X8_acted_104 (ca : Nat → ClassId) : k_X8_acted ca 104 = i_iload 1 105 := rfl
theorem k_X8_acted_105 (ca : Nat → ClassId) : k_X8_acted ca 105 = i_ret := rfl
set_option maxHeartbeats 4000000 in
set_option maxRecDepth 20000 in
theorem ok_X8_acted (l : Launch) (D : va_G) (ca : Nat → ClassId) : OkAll l D ca yX8_acted cX8_acted 3 (some .int) 1 0 0 (sp_X8_acted ca) := by
  intro av h post hs
  obtain ⟨m, a, t, len, fm, at', re, s, g, p, x, rfl, hm, ht, h0, h1, h2, hI, hd, hsA, hsB⟩ := hs
  unfold eMod at hm
  have hie : ∀ i j, (a i = a j) = (i = j) := fun i j => propext (hI i j)
  have hdE : ∀ i, (m = a i) = False := fun i => propext ⟨hd i, False.elim⟩
  have hdE' : ∀ i, (a i = m) = False := fun i => propext ⟨fun z => hd i z.symm, False.elim⟩
  refine okM_of t_X8_acted (by decide +kernel) (c1_ref (c1_int c1_nil)) (Nat.le_of_ble_eq_true rfl) ?_
  intro K go
  by_cases hx : x ≤ -10000001
  · have hx' : ¬ -10000001 < x := Int32.not_lt.mpr hx
    refine go (stp [10]) 5 _ _ _ _ _ _ ?_
    simp only [wpS, ite_not, i_push, i_iload, i_lload, i_aload, i_istore, i_astore, i_lstore, i_iinc, i_bin, i_dv, i_un, i_lbin, i_lsh, i_i2l, i_l2i, i_lcmp, i_dup, i_dup2, i_pop, i_if, i_icmp, i_goto, swG, i_sw, i_getf, i_puti, i_putz, i_putr, i_ald, i_lald, i_aald, i_ast, i_last, i_aast, i_alen, i_new, i_newi, i_newl, i_newq, i_oinit, i_ret, i_zret, i_lret, i_vret, catS, tk, rpush, isO, i_m1, i_m2, i_acopy, i_callV, i_callS, KRet, lget, lput, lputL, lcl0, isL, lv0, List.map_cons, List.map_nil, List.length_cons, List.length_nil, List.cons_append, List.nil_append, Nat.reduceAdd, Nat.reduceSub, Nat.reduceLeDiff, List.replicate_succ, List.replicate_zero, List.getElem?_cons_succ, List.getElem?_cons_zero, List.set_cons_succ, List.set_cons_zero, true_and, and_true, if_true, if_false, reduceIte, Nat.le_refl, Value.category, va_up_app, eq_self, stp, Nat.reduceBEq, Bool.or_false, Bool.false_or, Bool.true_or, Bool.or_true, or_true, true_or, bx_uu, implies_true, true_implies, not_true, not_false_eq_true, false_implies, and_self, Nat.reduceLT, Int32.reduceAdd, Int32.reduceSub, Int32.reduceMul, Int32.reduceLE, Int32.reduceLT, Int32.reduceToNatClampNeg, va_rf_some, Bool.false_eq_true, k_X8_acted_0 ca, k_X8_acted_1 ca, k_X8_acted_3 ca, k_X8_acted_6 ca, k_X8_acted_7 ca, k_X8_acted_10 ca, k_X8_acted_11 ca, k_X8_acted_12 ca, k_X8_acted_13 ca, k_X8_acted_16 ca, k_X8_acted_17 ca, k_X8_acted_20 ca, k_X8_acted_21 ca, k_X8_acted_22 ca, k_X8_acted_23 ca, k_X8_acted_26 ca, k_X8_acted_29 ca, k_X8_acted_30 ca, k_X8_acted_33 ca, k_X8_acted_34 ca, k_X8_acted_35 ca, k_X8_acted_38 ca, k_X8_acted_39 ca, k_X8_acted_41 ca, k_X8_acted_42 ca, k_X8_acted_43 ca, k_X8_acted_44 ca, k_X8_acted_47 ca, k_X8_acted_50 ca, k_X8_acted_51 ca, k_X8_acted_52 ca, k_X8_acted_55 ca, k_X8_acted_56 ca, k_X8_acted_57 ca, k_X8_acted_60 ca, k_X8_acted_61 ca, k_X8_acted_62 ca, k_X8_acted_63 ca, k_X8_acted_65 ca, k_X8_acted_68 ca, k_X8_acted_69 ca, k_X8_acted_72 ca, k_X8_acted_74 ca, k_X8_acted_75 ca, k_X8_acted_78 ca, k_X8_acted_79 ca, k_X8_acted_80 ca, k_X8_acted_81 ca, k_X8_acted_82 ca, k_X8_acted_85 ca, k_X8_acted_86 ca, k_X8_acted_87 ca, k_X8_acted_88 ca, k_X8_acted_91 ca, k_X8_acted_94 ca, k_X8_acted_95 ca, k_X8_acted_96 ca, k_X8_acted_99 ca, k_X8_acted_100 ca, k_X8_acted_101 ca, k_X8_acted_104 ca, k_X8_acted_105 ca, hm, hx']
    refine ⟨m, a 0, a 1, _, s, g, rfl, hm, h0, h1, fun z => absurd ((hI 0 1).mp z) (by decide), hd 0, ?_⟩
    refine go (stp []) 3 _ _ _ _ _ _ ?_
    simp only [wpS, ite_not, i_push, i_iload, i_lload, i_aload, i_istore, i_astore, i_lstore, i_iinc, i_bin, i_dv, i_un, i_lbin, i_lsh, i_i2l, i_l2i, i_lcmp, i_dup, i_dup2, i_pop, i_if, i_icmp, i_goto, swG, i_sw, i_getf, i_puti, i_putz, i_putr, i_ald, i_lald, i_aald, i_ast, i_last, i_aast, i_alen, i_new, i_newi, i_newl, i_newq, i_oinit, i_ret, i_zret, i_lret, i_vret, catS, tk, rpush, isO, i_m1, i_m2, i_acopy, i_callV, i_callS, KRet, lget, lput, lputL, lcl0, isL, lv0, List.map_cons, List.map_nil, List.length_cons, List.length_nil, List.cons_append, List.nil_append, Nat.reduceAdd, Nat.reduceSub, Nat.reduceLeDiff, List.replicate_succ, List.replicate_zero, List.getElem?_cons_succ, List.getElem?_cons_zero, List.set_cons_succ, List.set_cons_zero, true_and, and_true, if_true, if_false, reduceIte, Nat.le_refl, Value.category, va_up_app, eq_self, stp, Nat.reduceBEq, Bool.or_false, Bool.false_or, Bool.true_or, Bool.or_true, or_true, true_or, bx_uu, implies_true, true_implies, not_true, not_false_eq_true, false_implies, and_self, Nat.reduceLT, Int32.reduceAdd, Int32.reduceSub, Int32.reduceMul, Int32.reduceLE, Int32.reduceLT, Int32.reduceToNatClampNeg, va_rf_some, Bool.false_eq_true, k_X8_acted_0 ca, k_X8_acted_1 ca, k_X8_acted_3 ca, k_X8_acted_6 ca, k_X8_acted_7 ca, k_X8_acted_10 ca, k_X8_acted_11 ca, k_X8_acted_12 ca, k_X8_acted_13 ca, k_X8_acted_16 ca, k_X8_acted_17 ca, k_X8_acted_20 ca, k_X8_acted_21 ca, k_X8_acted_22 ca, k_X8_acted_23 ca, k_X8_acted_26 ca, k_X8_acted_29 ca, k_X8_acted_30 ca, k_X8_acted_33 ca, k_X8_acted_34 ca, k_X8_acted_35 ca, k_X8_acted_38 ca, k_X8_acted_39 ca, k_X8_acted_41 ca, k_X8_acted_42 ca, k_X8_acted_43 ca, k_X8_acted_44 ca, k_X8_acted_47 ca, k_X8_acted_50 ca, k_X8_acted_51 ca, k_X8_acted_52 ca, k_X8_acted_55 ca, k_X8_acted_56 ca, k_X8_acted_57 ca, k_X8_acted_60 ca, k_X8_acted_61 ca, k_X8_acted_62 ca, k_X8_acted_63 ca, k_X8_acted_65 ca, k_X8_acted_68 ca, k_X8_acted_69 ca, k_X8_acted_72 ca, k_X8_acted_74 ca, k_X8_acted_75 ca, k_X8_acted_78 ca, k_X8_acted_79 ca, k_X8_acted_80 ca, k_X8_acted_81 ca, k_X8_acted_82 ca, k_X8_acted_85 ca, k_X8_acted_86 ca, k_X8_acted_87 ca, k_X8_acted_88 ca, k_X8_acted_91 ca, k_X8_acted_94 ca, k_X8_acted_95 ca, k_X8_acted_96 ca, k_X8_acted_99 ca, k_X8_acted_100 ca, k_X8_acted_101 ca, k_X8_acted_104 ca, k_X8_acted_105 ca]
    exact hsA hx
  · have hx' : -10000001 < x := Int32.not_le.mp hx
    have hs := hsB hx
    clear hsA hsB
    -- the second loop, over a past p1 with u states in it
    have two : ∀ (p1 : Nat → Int32) (u : Nat), u < 4 → (post (some (.int x)) (va_up (va_up h (a 2) (some (.inl (ca 0, 508, .inl (lay p1 g (127 * u) 127))))) m (some (eMod a (nI (u + 1)) len fm at' re)))) → K 0 0 62 [some (.ref m), some (.int x), some (.int (nI 0))] [] (va_up (va_up h (a 2) (some (.inl (ca 0, 508, .inl p1)))) m (some (eMod a (nI u) len fm at' re))) := by
      intro p1 u hu hp
      have key : ∀ r i, i + r = 127 → K 0 0 62 [some (.ref m), some (.int x), some (.int (nI i))] [] (va_up (va_up h (a 2) (some (.inl (ca 0, 508, .inl (lay p1 g (127 * u) i))))) m (some (eMod a (nI u) len fm at' re))) := by
        intro r
        induction r with
        | zero =>
          intro i hi
          have hi : i = 127 := hi
          subst hi
          have e : nI 127 = 127 := rfl
          refine go (stp [62]) 16 _ _ _ _ _ _ ?_
          simp only [wpS, ite_not, i_push, i_iload, i_lload, i_aload, i_istore, i_astore, i_lstore, i_iinc, i_bin, i_dv, i_un, i_lbin, i_lsh, i_i2l, i_l2i, i_lcmp, i_dup, i_dup2, i_pop, i_if, i_icmp, i_goto, swG, i_sw, i_getf, i_puti, i_putz, i_putr, i_ald, i_lald, i_aald, i_ast, i_last, i_aast, i_alen, i_new, i_newi, i_newl, i_newq, i_oinit, i_ret, i_zret, i_lret, i_vret, catS, tk, rpush, isO, i_m1, i_m2, i_acopy, i_callV, i_callS, KRet, lget, lput, lputL, lcl0, isL, lv0, List.map_cons, List.map_nil, List.length_cons, List.length_nil, List.cons_append, List.nil_append, Nat.reduceAdd, Nat.reduceSub, Nat.reduceLeDiff, List.replicate_succ, List.replicate_zero, List.getElem?_cons_succ, List.getElem?_cons_zero, List.set_cons_succ, List.set_cons_zero, true_and, and_true, if_true, if_false, reduceIte, Nat.le_refl, Value.category, va_up_app, eq_self, stp, Nat.reduceBEq, Bool.or_false, Bool.false_or, Bool.true_or, Bool.or_true, or_true, true_or, bx_uu, implies_true, true_implies, not_true, not_false_eq_true, false_implies, and_self, Nat.reduceLT, Int32.reduceAdd, Int32.reduceSub, Int32.reduceMul, Int32.reduceLE, Int32.reduceLT, Int32.reduceToNatClampNeg, va_rf_some, Bool.false_eq_true, k_X8_acted_0 ca, k_X8_acted_1 ca, k_X8_acted_3 ca, k_X8_acted_6 ca, k_X8_acted_7 ca, k_X8_acted_10 ca, k_X8_acted_11 ca, k_X8_acted_12 ca, k_X8_acted_13 ca, k_X8_acted_16 ca, k_X8_acted_17 ca, k_X8_acted_20 ca, k_X8_acted_21 ca, k_X8_acted_22 ca, k_X8_acted_23 ca, k_X8_acted_26 ca, k_X8_acted_29 ca, k_X8_acted_30 ca, k_X8_acted_33 ca, k_X8_acted_34 ca, k_X8_acted_35 ca, k_X8_acted_38 ca, k_X8_acted_39 ca, k_X8_acted_41 ca, k_X8_acted_42 ca, k_X8_acted_43 ca, k_X8_acted_44 ca, k_X8_acted_47 ca, k_X8_acted_50 ca, k_X8_acted_51 ca, k_X8_acted_52 ca, k_X8_acted_55 ca, k_X8_acted_56 ca, k_X8_acted_57 ca, k_X8_acted_60 ca, k_X8_acted_61 ca, k_X8_acted_62 ca, k_X8_acted_63 ca, k_X8_acted_65 ca, k_X8_acted_68 ca, k_X8_acted_69 ca, k_X8_acted_72 ca, k_X8_acted_74 ca, k_X8_acted_75 ca, k_X8_acted_78 ca, k_X8_acted_79 ca, k_X8_acted_80 ca, k_X8_acted_81 ca, k_X8_acted_82 ca, k_X8_acted_85 ca, k_X8_acted_86 ca, k_X8_acted_87 ca, k_X8_acted_88 ca, k_X8_acted_91 ca, k_X8_acted_94 ca, k_X8_acted_95 ca, k_X8_acted_96 ca, k_X8_acted_99 ca, k_X8_acted_100 ca, k_X8_acted_101 ca, k_X8_acted_104 ca, k_X8_acted_105 ca, e, eMod, a_1]
          exact hp
        | succ r ih =>
          intro i hi
          have g1 : ¬ 127 ≤ nI i := nI_ge (b := 127) (by omega) (by decide)
          have z0 : vp_in (nI i) 127 := vp127 (by omega)
          have z1 : (nI i).toNatClampNeg = i := tn127 (by omega)
          have z2 : (127 : Int32) * nI u = nI (127 * u) := by rw [show (127 : Int32) = nI 127 from rfl, pk_mul]
          have z3 : vp_in (nI (127 * u + i)) 508 := vp_in_nI (by omega) (by decide)
          have z4 : (nI (127 * u + i)).toNatClampNeg = 127 * u + i := nI_clamp (by omega)
          have ih2 := ih (i + 1) (by omega)
          rw [← lay_s] at ih2
          refine go (stp [62]) 20 _ _ _ _ _ _ ?_
          simp only [wpS, ite_not, i_push, i_iload, i_lload, i_aload, i_istore, i_astore, i_lstore, i_iinc, i_bin, i_dv, i_un, i_lbin, i_lsh, i_i2l, i_l2i, i_lcmp, i_dup, i_dup2, i_pop, i_if, i_icmp, i_goto, swG, i_sw, i_getf, i_puti, i_putz, i_putr, i_ald, i_lald, i_aald, i_ast, i_last, i_aast, i_alen, i_new, i_newi, i_newl, i_newq, i_oinit, i_ret, i_zret, i_lret, i_vret, catS, tk, rpush, isO, i_m1, i_m2, i_acopy, i_callV, i_callS, KRet, lget, lput, lputL, lcl0, isL, lv0, List.map_cons, List.map_nil, List.length_cons, List.length_nil, List.cons_append, List.nil_append, Nat.reduceAdd, Nat.reduceSub, Nat.reduceLeDiff, List.replicate_succ, List.replicate_zero, List.getElem?_cons_succ, List.getElem?_cons_zero, List.set_cons_succ, List.set_cons_zero, true_and, and_true, if_true, if_false, reduceIte, Nat.le_refl, Value.category, va_up_app, eq_self, stp, Nat.reduceBEq, Bool.or_false, Bool.false_or, Bool.true_or, Bool.or_true, or_true, true_or, bx_uu, implies_true, true_implies, not_true, not_false_eq_true, false_implies, and_self, Nat.reduceLT, Int32.reduceAdd, Int32.reduceSub, Int32.reduceMul, Int32.reduceLE, Int32.reduceLT, Int32.reduceToNatClampNeg, va_rf_some, Bool.false_eq_true, k_X8_acted_0 ca, k_X8_acted_1 ca, k_X8_acted_3 ca, k_X8_acted_6 ca, k_X8_acted_7 ca, k_X8_acted_10 ca, k_X8_acted_11 ca, k_X8_acted_12 ca, k_X8_acted_13 ca, k_X8_acted_16 ca, k_X8_acted_17 ca, k_X8_acted_20 ca, k_X8_acted_21 ca, k_X8_acted_22 ca, k_X8_acted_23 ca, k_X8_acted_26 ca, k_X8_acted_29 ca, k_X8_acted_30 ca, k_X8_acted_33 ca, k_X8_acted_34 ca, k_X8_acted_35 ca, k_X8_acted_38 ca, k_X8_acted_39 ca, k_X8_acted_41 ca, k_X8_acted_42 ca, k_X8_acted_43 ca, k_X8_acted_44 ca, k_X8_acted_47 ca, k_X8_acted_50 ca, k_X8_acted_51 ca, k_X8_acted_52 ca, k_X8_acted_55 ca, k_X8_acted_56 ca, k_X8_acted_57 ca, k_X8_acted_60 ca, k_X8_acted_61 ca, k_X8_acted_62 ca, k_X8_acted_63 ca, k_X8_acted_65 ca, k_X8_acted_68 ca, k_X8_acted_69 ca, k_X8_acted_72 ca, k_X8_acted_74 ca, k_X8_acted_75 ca, k_X8_acted_78 ca, k_X8_acted_79 ca, k_X8_acted_80 ca, k_X8_acted_81 ca, k_X8_acted_82 ca, k_X8_acted_85 ca, k_X8_acted_86 ca, k_X8_acted_87 ca, k_X8_acted_88 ca, k_X8_acted_91 ca, k_X8_acted_94 ca, k_X8_acted_95 ca, k_X8_acted_96 ca, k_X8_acted_99 ca, k_X8_acted_100 ca, k_X8_acted_101 ca, k_X8_acted_104 ca, k_X8_acted_105 ca, eMod, h1, g1, z0, z1, z2, z3, z4, nI_add, a_1, hie, hdE, hdE', Nat.reduceEqDiff]
          rw [up_comm (fun z => hd 2 z), bx_uu]
          exact ih2
      have := key 127 0 (by omega)
      rw [lay_0] at this
      exact this
    by_cases h4 : t = 4
    · subst h4
      unfold pastF pastT at hs
      rw [if_pos rfl, if_pos rfl] at hs
      rw [n4] at hm
      have key : ∀ r i, i + r = 381 → K 0 0 22 [some (.ref m), some (.int x), some (.int (nI i))] [] (va_up h (a 2) (some (.inl (ca 0, 508, .inl (flo (fun j => p (j + 127)) p i))))) := by
        intro r
        induction r with
        | zero =>
          intro i hi
          have hi : i = 381 := hi
          subst hi
          have e : nI 381 = 381 := rfl
          have k2 := two (flo (fun j => p (j + 127)) p 381) 3 (by omega) hs
          have e3 : nI 3 = 3 := rfl
          unfold eMod at k2
          rw [e3, nI_0] at k2
          refine go (stp [62]) 14 _ _ _ _ _ _ ?_
          simp only [wpS, ite_not, i_push, i_iload, i_lload, i_aload, i_istore, i_astore, i_lstore, i_iinc, i_bin, i_dv, i_un, i_lbin, i_lsh, i_i2l, i_l2i, i_lcmp, i_dup, i_dup2, i_pop, i_if, i_icmp, i_goto, swG, i_sw, i_getf, i_puti, i_putz, i_putr, i_ald, i_lald, i_aald, i_ast, i_last, i_aast, i_alen, i_new, i_newi, i_newl, i_newq, i_oinit, i_ret, i_zret, i_lret, i_vret, catS, tk, rpush, isO, i_m1, i_m2, i_acopy, i_callV, i_callS, KRet, lget, lput, lputL, lcl0, isL, lv0, List.map_cons, List.map_nil, List.length_cons, List.length_nil, List.cons_append, List.nil_append, Nat.reduceAdd, Nat.reduceSub, Nat.reduceLeDiff, List.replicate_succ, List.replicate_zero, List.getElem?_cons_succ, List.getElem?_cons_zero, List.set_cons_succ, List.set_cons_zero, true_and, and_true, if_true, if_false, reduceIte, Nat.le_refl, Value.category, va_up_app, eq_self, stp, Nat.reduceBEq, Bool.or_false, Bool.false_or, Bool.true_or, Bool.or_true, or_true, true_or, bx_uu, implies_true, true_implies, not_true, not_false_eq_true, false_implies, and_self, Nat.reduceLT, Int32.reduceAdd, Int32.reduceSub, Int32.reduceMul, Int32.reduceLE, Int32.reduceLT, Int32.reduceToNatClampNeg, va_rf_some, Bool.false_eq_true, k_X8_acted_0 ca, k_X8_acted_1 ca, k_X8_acted_3 ca, k_X8_acted_6 ca, k_X8_acted_7 ca, k_X8_acted_10 ca, k_X8_acted_11 ca, k_X8_acted_12 ca, k_X8_acted_13 ca, k_X8_acted_16 ca, k_X8_acted_17 ca, k_X8_acted_20 ca, k_X8_acted_21 ca, k_X8_acted_22 ca, k_X8_acted_23 ca, k_X8_acted_26 ca, k_X8_acted_29 ca, k_X8_acted_30 ca, k_X8_acted_33 ca, k_X8_acted_34 ca, k_X8_acted_35 ca, k_X8_acted_38 ca, k_X8_acted_39 ca, k_X8_acted_41 ca, k_X8_acted_42 ca, k_X8_acted_43 ca, k_X8_acted_44 ca, k_X8_acted_47 ca, k_X8_acted_50 ca, k_X8_acted_51 ca, k_X8_acted_52 ca, k_X8_acted_55 ca, k_X8_acted_56 ca, k_X8_acted_57 ca, k_X8_acted_60 ca, k_X8_acted_61 ca, k_X8_acted_62 ca, k_X8_acted_63 ca, k_X8_acted_65 ca, k_X8_acted_68 ca, k_X8_acted_69 ca, k_X8_acted_72 ca, k_X8_acted_74 ca, k_X8_acted_75 ca, k_X8_acted_78 ca, k_X8_acted_79 ca, k_X8_acted_80 ca, k_X8_acted_81 ca, k_X8_acted_82 ca, k_X8_acted_85 ca, k_X8_acted_86 ca, k_X8_acted_87 ca, k_X8_acted_88 ca, k_X8_acted_91 ca, k_X8_acted_94 ca, k_X8_acted_95 ca, k_X8_acted_96 ca, k_X8_acted_99 ca, k_X8_acted_100 ca, k_X8_acted_101 ca, k_X8_acted_104 ca, k_X8_acted_105 ca, e, hm, hdE]
          exact k2
        | succ r ih =>
          intro i hi
          have g1 : ¬ 381 ≤ nI i := nI_ge (b := 381) (by omega) (by decide)
          have z0 : vp_in (nI i) 508 := vp_in_nI (by omega) (by decide)
          have z1 : (nI i).toNatClampNeg = i := nI_clamp (by omega)
          have z2 : nI i + 127 = nI (i + 127) := nI_add i 127
          have z3 : vp_in (nI (i + 127)) 508 := vp_in_nI (by omega) (by decide)
          have z4 : (nI (i + 127)).toNatClampNeg = i + 127 := nI_clamp (by omega)
          have z5 : flo (fun j => p (j + 127)) p i (i + 127) = p (i + 127) := by unfold flo; rw [if_neg (by omega)]
          have ih2 := ih (i + 1) (by omega)
          rw [← flo_s] at ih2
          refine go (stp [22]) 20 _ _ _ _ _ _ ?_
          simp only [wpS, ite_not, i_push, i_iload, i_lload, i_aload, i_istore, i_astore, i_lstore, i_iinc, i_bin, i_dv, i_un, i_lbin, i_lsh, i_i2l, i_l2i, i_lcmp, i_dup, i_dup2, i_pop, i_if, i_icmp, i_goto, swG, i_sw, i_getf, i_puti, i_putz, i_putr, i_ald, i_lald, i_aald, i_ast, i_last, i_aast, i_alen, i_new, i_newi, i_newl, i_newq, i_oinit, i_ret, i_zret, i_lret, i_vret, catS, tk, rpush, isO, i_m1, i_m2, i_acopy, i_callV, i_callS, KRet, lget, lput, lputL, lcl0, isL, lv0, List.map_cons, List.map_nil, List.length_cons, List.length_nil, List.cons_append, List.nil_append, Nat.reduceAdd, Nat.reduceSub, Nat.reduceLeDiff, List.replicate_succ, List.replicate_zero, List.getElem?_cons_succ, List.getElem?_cons_zero, List.set_cons_succ, List.set_cons_zero, true_and, and_true, if_true, if_false, reduceIte, Nat.le_refl, Value.category, va_up_app, eq_self, stp, Nat.reduceBEq, Bool.or_false, Bool.false_or, Bool.true_or, Bool.or_true, or_true, true_or, bx_uu, implies_true, true_implies, not_true, not_false_eq_true, false_implies, and_self, Nat.reduceLT, Int32.reduceAdd, Int32.reduceSub, Int32.reduceMul, Int32.reduceLE, Int32.reduceLT, Int32.reduceToNatClampNeg, va_rf_some, Bool.false_eq_true, k_X8_acted_0 ca, k_X8_acted_1 ca, k_X8_acted_3 ca, k_X8_acted_6 ca, k_X8_acted_7 ca, k_X8_acted_10 ca, k_X8_acted_11 ca, k_X8_acted_12 ca, k_X8_acted_13 ca, k_X8_acted_16 ca, k_X8_acted_17 ca, k_X8_acted_20 ca, k_X8_acted_21 ca, k_X8_acted_22 ca, k_X8_acted_23 ca, k_X8_acted_26 ca, k_X8_acted_29 ca, k_X8_acted_30 ca, k_X8_acted_33 ca, k_X8_acted_34 ca, k_X8_acted_35 ca, k_X8_acted_38 ca, k_X8_acted_39 ca, k_X8_acted_41 ca, k_X8_acted_42 ca, k_X8_acted_43 ca, k_X8_acted_44 ca, k_X8_acted_47 ca, k_X8_acted_50 ca, k_X8_acted_51 ca, k_X8_acted_52 ca, k_X8_acted_55 ca, k_X8_acted_56 ca, k_X8_acted_57 ca, k_X8_acted_60 ca, k_X8_acted_61 ca, k_X8_acted_62 ca, k_X8_acted_63 ca, k_X8_acted_65 ca, k_X8_acted_68 ca, k_X8_acted_69 ca, k_X8_acted_72 ca, k_X8_acted_74 ca, k_X8_acted_75 ca, k_X8_acted_78 ca, k_X8_acted_79 ca, k_X8_acted_80 ca, k_X8_acted_81 ca, k_X8_acted_82 ca, k_X8_acted_85 ca, k_X8_acted_86 ca, k_X8_acted_87 ca, k_X8_acted_88 ca, k_X8_acted_91 ca, k_X8_acted_94 ca, k_X8_acted_95 ca, k_X8_acted_96 ca, k_X8_acted_99 ca, k_X8_acted_100 ca, k_X8_acted_101 ca, k_X8_acted_104 ca, k_X8_acted_105 ca, hm, hdE, g1, z0, z1, z2, z3, z4, z5, a_1]
          exact ih2
      have k0 := key 381 0 (by omega)
      rw [flo_0, up_id h2, nI_0] at k0
      refine go (stp [22]) 9 _ _ _ _ _ _ ?_
      simp only [wpS, ite_not, i_push, i_iload, i_lload, i_aload, i_istore, i_astore, i_lstore, i_iinc, i_bin, i_dv, i_un, i_lbin, i_lsh, i_i2l, i_l2i, i_lcmp, i_dup, i_dup2, i_pop, i_if, i_icmp, i_goto, swG, i_sw, i_getf, i_puti, i_putz, i_putr, i_ald, i_lald, i_aald, i_ast, i_last, i_aast, i_alen, i_new, i_newi, i_newl, i_newq, i_oinit, i_ret, i_zret, i_lret, i_vret, catS, tk, rpush, isO, i_m1, i_m2, i_acopy, i_callV, i_callS, KRet, lget, lput, lputL, lcl0, isL, lv0, List.map_cons, List.map_nil, List.length_cons, List.length_nil, List.cons_append, List.nil_append, Nat.reduceAdd, Nat.reduceSub, Nat.reduceLeDiff, List.replicate_succ, List.replicate_zero, List.getElem?_cons_succ, List.getElem?_cons_zero, List.set_cons_succ, List.set_cons_zero, true_and, and_true, if_true, if_false, reduceIte, Nat.le_refl, Value.category, va_up_app, eq_self, stp, Nat.reduceBEq, Bool.or_false, Bool.false_or, Bool.true_or, Bool.or_true, or_true, true_or, bx_uu, implies_true, true_implies, not_true, not_false_eq_true, false_implies, and_self, Nat.reduceLT, Int32.reduceAdd, Int32.reduceSub, Int32.reduceMul, Int32.reduceLE, Int32.reduceLT, Int32.reduceToNatClampNeg, va_rf_some, Bool.false_eq_true, k_X8_acted_0 ca, k_X8_acted_1 ca, k_X8_acted_3 ca, k_X8_acted_6 ca, k_X8_acted_7 ca, k_X8_acted_10 ca, k_X8_acted_11 ca, k_X8_acted_12 ca, k_X8_acted_13 ca, k_X8_acted_16 ca, k_X8_acted_17 ca, k_X8_acted_20 ca, k_X8_acted_21 ca, k_X8_acted_22 ca, k_X8_acted_23 ca, k_X8_acted_26 ca, k_X8_acted_29 ca, k_X8_acted_30 ca, k_X8_acted_33 ca, k_X8_acted_34 ca, k_X8_acted_35 ca, k_X8_acted_38 ca, k_X8_acted_39 ca, k_X8_acted_41 ca, k_X8_acted_42 ca, k_X8_acted_43 ca, k_X8_acted_44 ca, k_X8_acted_47 ca, k_X8_acted_50 ca, k_X8_acted_51 ca, k_X8_acted_52 ca, k_X8_acted_55 ca, k_X8_acted_56 ca, k_X8_acted_57 ca, k_X8_acted_60 ca, k_X8_acted_61 ca, k_X8_acted_62 ca, k_X8_acted_63 ca, k_X8_acted_65 ca, k_X8_acted_68 ca, k_X8_acted_69 ca, k_X8_acted_72 ca, k_X8_acted_74 ca, k_X8_acted_75 ca, k_X8_acted_78 ca, k_X8_acted_79 ca, k_X8_acted_80 ca, k_X8_acted_81 ca, k_X8_acted_82 ca, k_X8_acted_85 ca, k_X8_acted_86 ca, k_X8_acted_87 ca, k_X8_acted_88 ca, k_X8_acted_91 ca, k_X8_acted_94 ca, k_X8_acted_95 ca, k_X8_acted_96 ca, k_X8_acted_99 ca, k_X8_acted_100 ca, k_X8_acted_101 ca, k_X8_acted_104 ca, k_X8_acted_105 ca, hm, hx']
      exact k0
    · unfold pastF pastT at hs
      rw [if_neg h4, if_neg h4] at hs
      have k2 := two p t (by omega) hs
      rw [up_id h2] at k2
      unfold eMod at k2
      rw [up_id hm, nI_0] at k2
      have n4' : ¬ nI t = 4 := fun z => h4 ((nI_eq (b := 4) (by omega) (by decide)).mp z)
      refine go (stp [62]) 11 _ _ _ _ _ _ ?_
      simp only [wpS, ite_not, i_push, i_iload, i_lload, i_aload, i_istore, i_astore, i_lstore, i_iinc, i_bin, i_dv, i_un, i_lbin, i_lsh, i_i2l, i_l2i, i_lcmp, i_dup, i_dup2, i_pop, i_if, i_icmp, i_goto, swG, i_sw, i_getf, i_puti, i_putz, i_putr, i_ald, i_lald, i_aald, i_ast, i_last, i_aast, i_alen, i_new, i_newi, i_newl, i_newq, i_oinit, i_ret, i_zret, i_lret, i_vret, catS, tk, rpush, isO, i_m1, i_m2, i_acopy, i_callV, i_callS, KRet, lget, lput, lputL, lcl0, isL, lv0, List.map_cons, List.map_nil, List.length_cons, List.length_nil, List.cons_append, List.nil_append, Nat.reduceAdd, Nat.reduceSub, Nat.reduceLeDiff, List.replicate_succ, List.replicate_zero, List.getElem?_cons_succ, List.getElem?_cons_zero, List.set_cons_succ, List.set_cons_zero, true_and, and_true, if_true, if_false, reduceIte, Nat.le_refl, Value.category, va_up_app, eq_self, stp, Nat.reduceBEq, Bool.or_false, Bool.false_or, Bool.true_or, Bool.or_true, or_true, true_or, bx_uu, implies_true, true_implies, not_true, not_false_eq_true, false_implies, and_self, Nat.reduceLT, Int32.reduceAdd, Int32.reduceSub, Int32.reduceMul, Int32.reduceLE, Int32.reduceLT, Int32.reduceToNatClampNeg, va_rf_some, Bool.false_eq_true, k_X8_acted_0 ca, k_X8_acted_1 ca, k_X8_acted_3 ca, k_X8_acted_6 ca, k_X8_acted_7 ca, k_X8_acted_10 ca, k_X8_acted_11 ca, k_X8_acted_12 ca, k_X8_acted_13 ca, k_X8_acted_16 ca, k_X8_acted_17 ca, k_X8_acted_20 ca, k_X8_acted_21 ca, k_X8_acted_22 ca, k_X8_acted_23 ca, k_X8_acted_26 ca, k_X8_acted_29 ca, k_X8_acted_30 ca, k_X8_acted_33 ca, k_X8_acted_34 ca, k_X8_acted_35 ca, k_X8_acted_38 ca, k_X8_acted_39 ca, k_X8_acted_41 ca, k_X8_acted_42 ca, k_X8_acted_43 ca, k_X8_acted_44 ca, k_X8_acted_47 ca, k_X8_acted_50 ca, k_X8_acted_51 ca, k_X8_acted_52 ca, k_X8_acted_55 ca, k_X8_acted_56 ca, k_X8_acted_57 ca, k_X8_acted_60 ca, k_X8_acted_61 ca, k_X8_acted_62 ca, k_X8_acted_63 ca, k_X8_acted_65 ca, k_X8_acted_68 ca, k_X8_acted_69 ca, k_X8_acted_72 ca, k_X8_acted_74 ca, k_X8_acted_75 ca, k_X8_acted_78 ca, k_X8_acted_79 ca, k_X8_acted_80 ca, k_X8_acted_81 ca, k_X8_acted_82 ca, k_X8_acted_85 ca, k_X8_acted_86 ca, k_X8_acted_87 ca, k_X8_acted_88 ca, k_X8_acted_91 ca, k_X8_acted_94 ca, k_X8_acted_95 ca, k_X8_acted_96 ca, k_X8_acted_99 ca, k_X8_acted_100 ca, k_X8_acted_101 ca, k_X8_acted_104 ca, k_X8_acted_105 ca, hm, hx', n4']
      exact k2
