/-! SnapStacksModel: accessors of its row of numbers -/
def sp_X8_many (ca : Nat → ClassId) : SPEC := fun av h post => match av with
  | [.ref m, .int k] => (match h m with
    | some (.inr (8, .ref a0 :: _)) => (match h a0 with
      | some (.inl (c0, n0, .inl s)) => c0 = ca 0 ∧ n0 = 127 ∧ vp_in (10 + 32 * k + 0) 127 ∧ post (some (.int (s (10 + 32 * k + 0).toNatClampNeg))) h
      | _ => False)
    | _ => False)
  | _ => False
def k_X8_many (ca : Nat → ClassId) : Nat → IT := fun pc => lk pc [(0, i_aload 0 1),
  (1, i_getf 8 0 4),
  (4, i_iload 1 5),
  (5, i_callS 1 0 0 0 0 (sp_X8_stripAt ca) 8),
  (8, i_push (.int 0) 9),
  (9, i_bin (fun x y => x + y) 10),
  (10, i_ald (ca 0) 11),
  (11, i_ret)]
set_option maxRecDepth 20000 in
theorem t_X8_many : Tb k_X8_many yX8_many cX8_many 2 (some .int) 1 0 0 := by
  intro l D ca A p e s m args below meth c post X
  unfold k_X8_many
  refine snd_cons (snd_aload_n X dX8_many_0 rfl) ?_
  refine snd_cons (snd_getf X Fk8 0 (by decide) w_647 dX8_many_1) ?_
  refine snd_cons (snd_iload_n X dX8_many_4 rfl) ?_
  refine snd_cons (snd_callS X (ok_X8_stripAt l D ca) rfl rfl w_641 w_642 w_9 w_643 (by decide) (by decide) dX8_many_5) ?_
  refine snd_cons (snd_iconst X dX8_many_8 (by decide)) ?_
  refine snd_cons (snd_iadd X dX8_many_9) ?_
  refine snd_cons (snd_iaload X dX8_many_10) ?_
  refine snd_cons (snd_ret X dX8_many_11) ?_
  exact snd_nil
theorem k_X8_many_0 (ca : Nat → ClassId) : k_X8_many ca 0 = i_aload 0 1 := rfl
theorem k_X8_many_1 (ca : Nat → ClassId) : k_X8_many ca 1 = i_getf 8 0 4 := rfl
theorem k_X8_many_4 (ca : Nat → ClassId) : k_X8_many ca 4 = i_iload 1 5 := rfl
theorem k_X8_many_5 (ca : Nat → ClassId) : k_X8_many ca 5 = i_callS 1 0 0 0 0 (sp_X8_stripAt ca) 8 := rfl
theorem k_X8_many_8 (ca : Nat → ClassId) : k_X8_many ca 8 = i_push (.int 0) 9 := rfl
theorem k_X8_many_9 (ca : Nat → ClassId) : k_X8_many ca 9 = i_bin (fun x y => x + y) 10 := rfl
theorem k_X8_many_10 (ca : Nat → ClassId) : k_X8_many ca 10 = i_ald (ca 0) 11 := rfl
theorem k_X8_many_11 (ca : Nat → ClassId) : k_X8_many ca 11 = i_ret := rfl
set_option maxHeartbeats 4000000 in
set_option maxRecDepth 20000 in
theorem ok_X8_many (l : Launch) (D : va_G) (ca : Nat → ClassId) : OkAll l D ca yX8_many cX8_many 2 (some .int) 1 0 0 (sp_X8_many ca) := by
  intro av h post hs
  unfold sp_X8_many at hs
  split at hs
  · split at hs
    · rename_i hm
      split at hs
      · rename_i c0 n0 s hs0
        obtain ⟨rfl, rfl, hs⟩ := hs
        refine okM_of t_X8_many (by decide +kernel) (c1_ref (c1_int c1_nil)) (Nat.le_of_ble_eq_true rfl) ?_
        intro K go
        refine go (stp []) 10 _ _ _ _ _ _ ?_
        simp only [wpS, ite_not, i_push, i_iload, i_lload, i_aload, i_istore, i_astore, i_lstore, i_iinc, i_bin, i_dv, i_un, i_lbin, i_lsh, i_i2l, i_l2i, i_lcmp, i_dup, i_dup2, i_pop, i_if, i_icmp, i_goto, swG, i_sw, i_getf, i_puti, i_putz, i_putr, i_ald, i_lald, i_aald, i_ast, i_last, i_aast, i_alen, i_new, i_newi, i_newl, i_newq, i_oinit, i_ret, i_zret, i_lret, i_vret, catS, tk, rpush, isO, i_m1, i_m2, i_acopy, i_callV, i_callS, KRet, lget, lput, lputL, lcl0, isL, lv0, List.map_cons, List.map_nil, List.length_cons, List.length_nil, List.cons_append, List.nil_append, Nat.reduceAdd, Nat.reduceSub, Nat.reduceLeDiff, List.replicate_succ, List.replicate_zero, List.getElem?_cons_succ, List.getElem?_cons_zero, List.set_cons_succ, List.set_cons_zero, true_and, and_true, if_true, if_false, reduceIte, Nat.le_refl, Value.category, va_up_app, eq_self, stp, Nat.reduceBEq, Bool.or_false, Bool.false_or, Bool.true_or, Bool.or_true, or_true, true_or, bx_uu, implies_true, true_implies, not_true, not_false_eq_true, false_implies, and_self, Nat.reduceLT, Int32.reduceAdd, Int32.reduceSub, Int32.reduceMul, Int32.reduceLE, Int32.reduceLT, Int32.reduceToNatClampNeg, va_rf_some, Bool.false_eq_true, k_X8_many_0 ca, k_X8_many_1 ca, k_X8_many_4 ca, k_X8_many_5 ca, k_X8_many_8 ca, k_X8_many_9 ca, k_X8_many_10 ca, k_X8_many_11 ca, hm, hs0, sp_X8_stripAt]
        exact hs
      · exact hs.elim
    · exact hs.elim
  · exact hs.elim
def sp_X8_partOfStrip (ca : Nat → ClassId) : SPEC := fun av h post => match av with
  | [.ref m, .int k, .int i, .int w] => (match h m with
    | some (.inr (8, .ref a0 :: _)) => (match h a0 with
      | some (.inl (c0, n0, .inl s)) => c0 = ca 0 ∧ n0 = 127 ∧ vp_in (10 + 32 * k + 8 + 3 * i + w) 127 ∧ post (some (.int (s (10 + 32 * k + 8 + 3 * i + w).toNatClampNeg))) h
      | _ => False)
    | _ => False)
  | _ => False
def k_X8_partOfStrip (ca : Nat → ClassId) : Nat → IT := fun pc => lk pc [(0, i_aload 0 1),
  (1, i_getf 8 0 4),
  (4, i_iload 1 5),
  (5, i_callS 1 0 0 0 0 (sp_X8_stripAt ca) 8),
  (8, i_push (.int 8) 10),
  (10, i_bin (fun x y => x + y) 11),
  (11, i_push (.int 3) 12),
  (12, i_iload 2 13),
  (13, i_bin (fun x y => x * y) 14),
  (14, i_bin (fun x y => x + y) 15),
  (15, i_iload 3 16),
  (16, i_bin (fun x y => x + y) 17),
  (17, i_ald (ca 0) 18),
  (18, i_ret)]
set_option maxRecDepth 20000 in
theorem t_X8_partOfStrip : Tb k_X8_partOfStrip yX8_partOfStrip cX8_partOfStrip 4 (some .int) 1 0 0 := by
  intro l D ca A p e s m args below meth c post X
  unfold k_X8_partOfStrip
  refine snd_cons (snd_aload_n X dX8_partOfStrip_0 rfl) ?_
  refine snd_cons (snd_getf X Fk8 0 (by decide) w_647 dX8_partOfStrip_1) ?_
  refine snd_cons (snd_iload_n X dX8_partOfStrip_4 rfl) ?_
  refine snd_cons (snd_callS X (ok_X8_stripAt l D ca) rfl rfl w_641 w_642 w_9 w_643 (by decide) (by decide) dX8_partOfStrip_5) ?_
  refine snd_cons (snd_bipush X dX8_partOfStrip_8 (by decide)) ?_
  refine snd_cons (snd_iadd X dX8_partOfStrip_10) ?_
  refine snd_cons (snd_iconst X dX8_partOfStrip_11 (by decide)) ?_
  refine snd_cons (snd_iload_n X dX8_partOfStrip_12 rfl) ?_
  refine snd_cons (snd_imul X dX8_partOfStrip_13) ?_
  refine snd_cons (snd_iadd X dX8_partOfStrip_14) ?_
  refine snd_cons (snd_iload_n X dX8_partOfStrip_15 rfl) ?_
  refine snd_cons (snd_iadd X dX8_partOfStrip_16) ?_
  refine snd_cons (snd_iaload X dX8_partOfStrip_17) ?_
  refine snd_cons (snd_ret X dX8_partOfStrip_18) ?_
  exact snd_nil
theorem k_X8_partOfStrip_0 (ca : Nat → ClassId) : k_X8_partOfStrip ca 0 = i_aload 0 1 := rfl
theorem k_X8_partOfStrip_1 (ca : Nat → ClassId) : k_X8_partOfStrip ca 1 = i_getf 8 0 4 := rfl
theorem k_X8_partOfStrip_4 (ca : Nat → ClassId) : k_X8_partOfStrip ca 4 = i_iload 1 5 := rfl
theorem k_X8_partOfStrip_5 (ca : Nat → ClassId) : k_X8_partOfStrip ca 5 = i_callS 1 0 0 0 0 (sp_X8_stripAt ca) 8 := rfl
theorem k_X8_partOfStrip_8 (ca : Nat → ClassId) : k_X8_partOfStrip ca 8 = i_push (.int 8) 10 := rfl
theorem k_X8_partOfStrip_10 (ca : Nat → ClassId) : k_X8_partOfStrip ca 10 = i_bin (fun x y => x + y) 11 := rfl
theorem k_X8_partOfStrip_11 (ca : Nat → ClassId) : k_X8_partOfStrip ca 11 = i_push (.int 3) 12 := rfl
theorem k_X8_partOfStrip_12 (ca : Nat → ClassId) : k_X8_partOfStrip ca 12 = i_iload 2 13 := rfl
theorem k_X8_partOfStrip_13 (ca : Nat → ClassId) : k_X8_partOfStrip ca 13 = i_bin (fun x y => x * y) 14 := rfl
theorem k_X8_partOfStrip_14 (ca : Nat → ClassId) : k_X8_partOfStrip ca 14 = i_bin (fun x y => x + y) 15 := rfl
theorem k_X8_partOfStrip_15 (ca : Nat → ClassId) : k_X8_partOfStrip ca 15 = i_iload 3 16 := rfl
theorem k_X8_partOfStrip_16 (ca : Nat → ClassId) : k_X8_partOfStrip ca 16 = i_bin (fun x y => x + y) 17 := rfl
theorem k_X8_partOfStrip_17 (ca : Nat → ClassId) : k_X8_partOfStrip ca 17 = i_ald (ca 0) 18 := rfl
theorem k_X8_partOfStrip_18 (ca : Nat → ClassId) : k_X8_partOfStrip ca 18 = i_ret := rfl
set_option maxHeartbeats 4000000 in
set_option maxRecDepth 20000 in
theorem ok_X8_partOfStrip (l : Launch) (D : va_G) (ca : Nat → ClassId) : OkAll l D ca yX8_partOfStrip cX8_partOfStrip 4 (some .int) 1 0 0 (sp_X8_partOfStrip ca) := by
  intro av h post hs
  unfold sp_X8_partOfStrip at hs
  split at hs
  · split at hs
    · rename_i hm
      split at hs
      · rename_i c0 n0 s hs0
        obtain ⟨rfl, rfl, hs⟩ := hs
        refine okM_of t_X8_partOfStrip (by decide +kernel) (c1_ref (c1_int (c1_int (c1_int c1_nil)))) (Nat.le_of_ble_eq_true rfl) ?_
        intro K go
        refine go (stp []) 14 _ _ _ _ _ _ ?_
        simp only [wpS, ite_not, i_push, i_iload, i_lload, i_aload, i_istore, i_astore, i_lstore, i_iinc, i_bin, i_dv, i_un, i_lbin, i_lsh, i_i2l, i_l2i, i_lcmp, i_dup, i_dup2, i_pop, i_if, i_icmp, i_goto, swG, i_sw, i_getf, i_puti, i_putz, i_putr, i_ald, i_lald, i_aald, i_ast, i_last, i_aast, i_alen, i_new, i_newi, i_newl, i_newq, i_oinit, i_ret, i_zret, i_lret, i_vret, catS, tk, rpush, isO, i_m1, i_m2, i_acopy, i_callV, i_callS, KRet, lget, lput, lputL, lcl0, isL, lv0, List.map_cons, List.map_nil, List.length_cons, List.length_nil, List.cons_append, List.nil_append, Nat.reduceAdd, Nat.reduceSub, Nat.reduceLeDiff, List.replicate_succ, List.replicate_zero, List.getElem?_cons_succ, List.getElem?_cons_zero, List.set_cons_succ, List.set_cons_zero, true_and, and_true, if_true, if_false, reduceIte, Nat.le_refl, Value.category, va_up_app, eq_self, stp, Nat.reduceBEq, Bool.or_false, Bool.false_or, Bool.true_or, Bool.or_true, or_true, true_or, bx_uu, implies_true, true_implies, not_true, not_false_eq_true, false_implies, and_self, Nat.reduceLT, Int32.reduceAdd, Int32.reduceSub, Int32.reduceMul, Int32.reduceLE, Int32.reduceLT, Int32.reduceToNatClampNeg, va_rf_some, Bool.false_eq_true, k_X8_partOfStrip_0 ca, k_X8_partOfStrip_1 ca, k_X8_partOfStrip_4 ca, k_X8_partOfStrip_5 ca, k_X8_partOfStrip_8 ca, k_X8_partOfStrip_10 ca, k_X8_partOfStrip_11 ca, k_X8_partOfStrip_12 ca, k_X8_partOfStrip_13 ca, k_X8_partOfStrip_14 ca, k_X8_partOfStrip_15 ca, k_X8_partOfStrip_16 ca, k_X8_partOfStrip_17 ca, k_X8_partOfStrip_18 ca, hm, hs0, sp_X8_stripAt]
        exact hs
      · exact hs.elim
    · exact hs.elim
  · exact hs.elim
def sp_X8_isSnapped (ca : Nat → ClassId) : SPEC := fun av h post => match av with
  | [.ref m, .int k] => (match h m with
    | some (.inr (8, .ref a0 :: _)) => (match h a0 with
      | some (.inl (c0, n0, .inl s)) => c0 = ca 0 ∧ n0 = 127 ∧ vp_in (10 + 32 * k + 4) 127 ∧ post (some (.int (b2i (decide (s (10 + 32 * k + 4).toNatClampNeg = 1))))) h
      | _ => False)
    | _ => False)
  | _ => False
def k_X8_isSnapped (ca : Nat → ClassId) : Nat → IT := fun pc => lk pc [(0, i_aload 0 1),
  (1, i_getf 8 0 4),
  (4, i_iload 1 5),
  (5, i_callS 1 0 0 0 0 (sp_X8_stripAt ca) 8),
  (8, i_push (.int 4) 9),
  (9, i_bin (fun x y => x + y) 10),
  (10, i_ald (ca 0) 11),
  (11, i_push (.int 1) 12),
  (12, i_icmp (fun x y => ¬ x = y) 19 15),
  (15, i_push (.int 1) 16),
  (16, i_goto 20),
  (19, i_push (.int 0) 20),
  (20, i_zret)]
set_option maxRecDepth 20000 in
theorem t_X8_isSnapped : Tb k_X8_isSnapped yX8_isSnapped cX8_isSnapped 2 (some .boolean) 1 0 0 := by
  intro l D ca A p e s m args below meth c post X
  unfold k_X8_isSnapped
  refine snd_cons (snd_aload_n X dX8_isSnapped_0 rfl) ?_
  refine snd_cons (snd_getf X Fk8 0 (by decide) w_647 dX8_isSnapped_1) ?_
  refine snd_cons (snd_iload_n X dX8_isSnapped_4 rfl) ?_
  refine snd_cons (snd_callS X (ok_X8_stripAt l D ca) rfl rfl w_641 w_642 w_9 w_643 (by decide) (by decide) dX8_isSnapped_5) ?_
  refine snd_cons (snd_iconst X dX8_isSnapped_8 (by decide)) ?_
  refine snd_cons (snd_iadd X dX8_isSnapped_9) ?_
  refine snd_cons (snd_iaload X dX8_isSnapped_10) ?_
  refine snd_cons (snd_iconst X dX8_isSnapped_11 (by decide)) ?_
  refine snd_cons (snd_icmp_ne X dX8_isSnapped_12 (by decide)) ?_
  refine snd_cons (snd_iconst X dX8_isSnapped_15 (by decide)) ?_
  refine snd_cons (snd_goto X dX8_isSnapped_16 (by decide)) ?_
  refine snd_cons (snd_iconst X dX8_isSnapped_19 (by decide)) ?_
  refine snd_cons (snd_zret X dX8_isSnapped_20) ?_
  exact snd_nil
theorem k_X8_isSnapped_0 (ca : Nat → ClassId) : k_X8_isSnapped ca 0 = i_aload 0 1 := rfl
theorem k_X8_isSnapped_1 (ca : Nat → ClassId) : k_X8_isSnapped ca 1 = i_getf 8 0 4 := rfl
theorem k_X8_isSnapped_4 (ca : Nat → ClassId) : k_X8_isSnapped ca 4 = i_iload 1 5 := rfl
theorem k_X8_isSnapped_5 (ca : Nat → ClassId) : k_X8_isSnapped ca 5 = i_callS 1 0 0 0 0 (sp_X8_stripAt ca) 8 := rfl
theorem k_X8_isSnapped_8 (ca : Nat → ClassId) : k_X8_isSnapped ca 8 = i_push (.int 4) 9 := rfl
theorem k_X8_isSnapped_9 (ca : Nat → ClassId) : k_X8_isSnapped ca 9 = i_bin (fun x y => x + y) 10 := rfl
theorem k_X8_isSnapped_10 (ca : Nat → ClassId) : k_X8_isSnapped ca 10 = i_ald (ca 0) 11 := rfl
theorem k_X8_isSnapped_11 (ca : Nat → ClassId) : k_X8_isSnapped ca 11 = i_push (.int 1) 12 := rfl
theorem k_X8_isSnapped_12 (ca : Nat → ClassId) : k_X8_isSnapped ca 12 = i_icmp (fun x y => ¬ x = y) 19 15 := rfl
theorem k_X8_isSnapped_15 (ca : Nat → ClassId) : k_X8_isSnapped ca 15 = i_push (.int 1) 16 := rfl
theorem k_X8_isSnapped_16 (ca : Nat → ClassId) : k_X8_isSnapped ca 16 = i_goto 20 := rfl
theorem k_X8_isSnapped_19 (ca : Nat → ClassId) : k_X8_isSnapped ca 19 = i_push (.int 0) 20 := rfl
theorem k_X8_isSnapped_20 (ca : Nat → ClassId) : k_X8_isSnapped ca 20 = i_zret := rfl
set_option maxHeartbeats 4000000 in
set_option maxRecDepth 20000 in
theorem ok_X8_isSnapped (l : Launch) (D : va_G) (ca : Nat → ClassId) : OkAll l D ca yX8_isSnapped cX8_isSnapped 2 (some .boolean) 1 0 0 (sp_X8_isSnapped ca) := by
  intro av h post hs
  unfold sp_X8_isSnapped at hs
  split at hs
  · split at hs
    · rename_i hm
      split at hs
      · rename_i c0 n0 s hs0
        obtain ⟨rfl, rfl, hs⟩ := hs
        refine okM_of t_X8_isSnapped (by decide +kernel) (c1_ref (c1_int c1_nil)) (Nat.le_of_ble_eq_true rfl) ?_
        intro K go
        refine go (stp []) 14 _ _ _ _ _ _ ?_
        simp only [wpS, ite_not, i_push, i_iload, i_lload, i_aload, i_istore, i_astore, i_lstore, i_iinc, i_bin, i_dv, i_un, i_lbin, i_lsh, i_i2l, i_l2i, i_lcmp, i_dup, i_dup2, i_pop, i_if, i_icmp, i_goto, swG, i_sw, i_getf, i_puti, i_putz, i_putr, i_ald, i_lald, i_aald, i_ast, i_last, i_aast, i_alen, i_new, i_newi, i_newl, i_newq, i_oinit, i_ret, i_zret, i_lret, i_vret, catS, tk, rpush, isO, i_m1, i_m2, i_acopy, i_callV, i_callS, KRet, lget, lput, lputL, lcl0, isL, lv0, List.map_cons, List.map_nil, List.length_cons, List.length_nil, List.cons_append, List.nil_append, Nat.reduceAdd, Nat.reduceSub, Nat.reduceLeDiff, List.replicate_succ, List.replicate_zero, List.getElem?_cons_succ, List.getElem?_cons_zero, List.set_cons_succ, List.set_cons_zero, true_and, and_true, if_true, if_false, reduceIte, Nat.le_refl, Value.category, va_up_app, eq_self, stp, Nat.reduceBEq, Bool.or_false, Bool.false_or, Bool.true_or, Bool.or_true, or_true, true_or, bx_uu, implies_true, true_implies, not_true, not_false_eq_true, false_implies, and_self, Nat.reduceLT, Int32.reduceAdd, Int32.reduceSub, Int32.reduceMul, Int32.reduceLE, Int32.reduceLT, Int32.reduceToNatClampNeg, va_rf_some, Bool.false_eq_true, k_X8_isSnapped_0 ca, k_X8_isSnapped_1 ca, k_X8_isSnapped_4 ca, k_X8_isSnapped_5 ca, k_X8_isSnapped_8 ca, k_X8_isSnapped_9 ca, k_X8_isSnapped_10 ca, k_X8_isSnapped_11 ca, k_X8_isSnapped_12 ca, k_X8_isSnapped_15 ca, k_X8_isSnapped_16 ca, k_X8_isSnapped_19 ca, k_X8_isSnapped_20 ca, hm, hs0, sp_X8_stripAt]
        obtain ⟨hv, hs⟩ := hs
        refine ⟨hv, ifp (fun z => ?_) (fun z => ?_)⟩
        · rw [decide_eq_false z] at hs; exact hs
        · rw [decide_eq_true (Classical.not_not.mp z)] at hs; exact hs
      · exact hs.elim
    · exact hs.elim
  · exact hs.elim
def sp_X8_isOpen (ca : Nat → ClassId) : SPEC := fun av h post => match av with
  | [.ref m, .int k] => (match h m with
    | some (.inr (8, .ref a0 :: _)) => (match h a0 with
      | some (.inl (c0, n0, .inl s)) => c0 = ca 0 ∧ n0 = 127 ∧ vp_in (106 + 7 * k + 3) 127 ∧ post (some (.int (b2i (decide (s (106 + 7 * k + 3).toNatClampNeg = 1))))) h
      | _ => False)
    | _ => False)
  | _ => False
def k_X8_isOpen (ca : Nat → ClassId) : Nat → IT := fun pc => lk pc [(0, i_aload 0 1),
  (1, i_getf 8 0 4),
  (4, i_iload 1 5),
  (5, i_callS 1 0 0 0 0 (sp_X8_roomAt ca) 8),
  (8, i_push (.int 3) 9),
  (9, i_bin (fun x y => x + y) 10),
  (10, i_ald (ca 0) 11),
  (11, i_push (.int 1) 12),
  (12, i_icmp (fun x y => ¬ x = y) 19 15),
  (15, i_push (.int 1) 16),
  (16, i_goto 20),
  (19, i_push (.int 0) 20),
  (20, i_zret)]
set_option maxRecDepth 20000 in
theorem t_X8_isOpen : Tb k_X8_isOpen yX8_isOpen cX8_isOpen 2 (some .boolean) 1 0 0 := by
  intro l D ca A p e s m args below meth c post X
  unfold k_X8_isOpen
  refine snd_cons (snd_aload_n X dX8_isOpen_0 rfl) ?_
  refine snd_cons (snd_getf X Fk8 0 (by decide) w_647 dX8_isOpen_1) ?_
  refine snd_cons (snd_iload_n X dX8_isOpen_4 rfl) ?_
  refine snd_cons (snd_callS X (ok_X8_roomAt l D ca) rfl rfl w_644 w_645 w_9 w_646 (by decide) (by decide) dX8_isOpen_5) ?_
  refine snd_cons (snd_iconst X dX8_isOpen_8 (by decide)) ?_
  refine snd_cons (snd_iadd X dX8_isOpen_9) ?_
  refine snd_cons (snd_iaload X dX8_isOpen_10) ?_
  refine snd_cons (snd_iconst X dX8_isOpen_11 (by decide)) ?_
  refine snd_cons (snd_icmp_ne X dX8_isOpen_12 (by decide)) ?_
  refine snd_cons (snd_iconst X dX8_isOpen_15 (by decide)) ?_
  refine snd_cons (snd_goto X dX8_isOpen_16 (by decide)) ?_
  refine snd_cons (snd_iconst X dX8_isOpen_19 (by decide)) ?_
  refine snd_cons (snd_zret X dX8_isOpen_20) ?_
  exact snd_nil
theorem k_X8_isOpen_0 (ca : Nat → ClassId) : k_X8_isOpen ca 0 = i_aload 0 1 := rfl
theorem k_X8_isOpen_1 (ca : Nat → ClassId) : k_X8_isOpen ca 1 = i_getf 8 0 4 := rfl
theorem k_X8_isOpen_4 (ca : Nat → ClassId) : k_X8_isOpen ca 4 = i_iload 1 5 := rfl
theorem k_X8_isOpen_5 (ca : Nat → ClassId) : k_X8_isOpen ca 5 = i_callS 1 0 0 0 0 (sp_X8_roomAt ca) 8 := rfl
theorem k_X8_isOpen_8 (ca : Nat → ClassId) : k_X8_isOpen ca 8 = i_push (.int 3) 9 := rfl
theorem k_X8_isOpen_9 (ca : Nat → ClassId) : k_X8_isOpen ca 9 = i_bin (fun x y => x + y) 10 := rfl
theorem k_X8_isOpen_10 (ca : Nat → ClassId) : k_X8_isOpen ca 10 = i_ald (ca 0) 11 := rfl
theorem k_X8_isOpen_11 (ca : Nat → ClassId) : k_X8_isOpen ca 11 = i_push (.int 1) 12 := rfl
theorem k_X8_isOpen_12 (ca : Nat → ClassId) : k_X8_isOpen ca 12 = i_icmp (fun x y => ¬ x = y) 19 15 := rfl
theorem k_X8_isOpen_15 (ca : Nat → ClassId) : k_X8_isOpen ca 15 = i_push (.int 1) 16 := rfl
theorem k_X8_isOpen_16 (ca : Nat → ClassId) : k_X8_isOpen ca 16 = i_goto 20 := rfl
theorem k_X8_isOpen_19 (ca : Nat → ClassId) : k_X8_isOpen ca 19 = i_push (.int 0) 20 := rfl
theorem k_X8_isOpen_20 (ca : Nat → ClassId) : k_X8_isOpen ca 20 = i_zret := rfl
set_option maxHeartbeats 4000000 in
set_option maxRecDepth 20000 in
theorem ok_X8_isOpen (l : Launch) (D : va_G) (ca : Nat → ClassId) : OkAll l D ca yX8_isOpen cX8_isOpen 2 (some .boolean) 1 0 0 (sp_X8_isOpen ca) := by
  intro av h post hs
  unfold sp_X8_isOpen at hs
  split at hs
  · split at hs
    · rename_i hm
      split at hs
      · rename_i c0 n0 s hs0
        obtain ⟨rfl, rfl, hs⟩ := hs
        refine okM_of t_X8_isOpen (by decide +kernel) (c1_ref (c1_int c1_nil)) (Nat.le_of_ble_eq_true rfl) ?_
        intro K go
        refine go (stp []) 14 _ _ _ _ _ _ ?_
        simp only [wpS, ite_not, i_push, i_iload, i_lload, i_aload, i_istore, i_astore, i_lstore, i_iinc, i_bin, i_dv, i_un, i_lbin, i_lsh, i_i2l, i_l2i, i_lcmp, i_dup, i_dup2, i_pop, i_if, i_icmp, i_goto, swG, i_sw, i_getf, i_puti, i_putz, i_putr, i_ald, i_lald, i_aald, i_ast, i_last, i_aast, i_alen, i_new, i_newi, i_newl, i_newq, i_oinit, i_ret, i_zret, i_lret, i_vret, catS, tk, rpush, isO, i_m1, i_m2, i_acopy, i_callV, i_callS, KRet, lget, lput, lputL, lcl0, isL, lv0, List.map_cons, List.map_nil, List.length_cons, List.length_nil, List.cons_append, List.nil_append, Nat.reduceAdd, Nat.reduceSub, Nat.reduceLeDiff, List.replicate_succ, List.replicate_zero, List.getElem?_cons_succ, List.getElem?_cons_zero, List.set_cons_succ, List.set_cons_zero, true_and, and_true, if_true, if_false, reduceIte, Nat.le_refl, Value.category, va_up_app, eq_self, stp, Nat.reduceBEq, Bool.or_false, Bool.false_or, Bool.true_or, Bool.or_true, or_true, true_or, bx_uu, implies_true, true_implies, not_true, not_false_eq_true, false_implies, and_self, Nat.reduceLT, Int32.reduceAdd, Int32.reduceSub, Int32.reduceMul, Int32.reduceLE, Int32.reduceLT, Int32.reduceToNatClampNeg, va_rf_some, Bool.false_eq_true, k_X8_isOpen_0 ca, k_X8_isOpen_1 ca, k_X8_isOpen_4 ca, k_X8_isOpen_5 ca, k_X8_isOpen_8 ca, k_X8_isOpen_9 ca, k_X8_isOpen_10 ca, k_X8_isOpen_11 ca, k_X8_isOpen_12 ca, k_X8_isOpen_15 ca, k_X8_isOpen_16 ca, k_X8_isOpen_19 ca, k_X8_isOpen_20 ca, hm, hs0, sp_X8_roomAt]
        obtain ⟨hv, hs⟩ := hs
        refine ⟨hv, ifp (fun z => ?_) (fun z => ?_)⟩
        · rw [decide_eq_false z] at hs; exact hs
        · rw [decide_eq_true (Classical.not_not.mp z)] at hs; exact hs
      · exact hs.elim
    · exact hs.elim
  · exact hs.elim
def closedM (ki si : Int32) : Bool := decide (b2i (decide (si = 1)) = b2i (decide (ki = 1)))
def sp_X8_isClosed (ca : Nat → ClassId) : SPEC := fun av h post => match av with
  | [.ref m, .int k] => (match h m with
    | some (.inr (8, .ref a0 :: _)) => (match h a0 with
      | some (.inl (c0, n0, .inl s)) => c0 = ca 0 ∧ n0 = 127 ∧ vp_in (10 + 32 * k + 4) 127 ∧ vp_in (10 + 32 * k + 7) 127 ∧ post (some (.int (b2i (closedM (s (10 + 32 * k + 7).toNatClampNeg) (s (10 + 32 * k + 4).toNatClampNeg))))) h
      | _ => False)
    | _ => False)
  | _ => False
def k_X8_isClosed (ca : Nat → ClassId) : Nat → IT := fun pc => lk pc [(0, i_aload 0 1),
  (1, i_iload 1 2),
  (2, i_callV 8 1 0 0 0 0 (sp_X8_isSnapped ca) 5),
  (5, i_aload 0 6),
  (6, i_getf 8 0 9),
  (9, i_iload 1 10),
  (10, i_callS 1 0 0 0 0 (sp_X8_stripAt ca) 13),
  (13, i_push (.int 7) 15),
  (15, i_bin (fun x y => x + y) 16),
  (16, i_ald (ca 0) 17),
  (17, i_push (.int 1) 18),
  (18, i_icmp (fun x y => ¬ x = y) 25 21),
  (21, i_push (.int 1) 22),
  (22, i_goto 26),
  (25, i_push (.int 0) 26),
  (26, i_icmp (fun x y => ¬ x = y) 33 29),
  (29, i_push (.int 1) 30),
  (30, i_goto 34),
  (33, i_push (.int 0) 34),
  (34, i_zret)]
set_option maxRecDepth 20000 in
theorem t_X8_isClosed : Tb k_X8_isClosed yX8_isClosed cX8_isClosed 2 (some .boolean) 2 0 0 := by
  intro l D ca A p e s m args below meth c post X
  unfold k_X8_isClosed
  refine snd_cons (snd_aload_n X dX8_isClosed_0 rfl) ?_
  refine snd_cons (snd_iload_n X dX8_isClosed_1 rfl) ?_
  refine snd_cons (snd_callV X Fk8 (ok_X8_isSnapped l D ca) rfl rfl w_782 w_784 wp_29 w_9 w_785 (by decide) (by decide) dX8_isClosed_2) ?_
  refine snd_cons (snd_aload_n X dX8_isClosed_5 rfl) ?_
  refine snd_cons (snd_getf X Fk8 0 (by decide) w_647 dX8_isClosed_6) ?_
  refine snd_cons (snd_iload_n X dX8_isClosed_9 rfl) ?_
  refine snd_cons (snd_callS X (ok_X8_stripAt l D ca) rfl rfl w_641 w_642 w_9 w_643 (by decide) (by decide) dX8_isClosed_10) ?_
  refine snd_cons (snd_bipush X dX8_isClosed_13 (by decide)) ?_
  refine snd_cons (snd_iadd X dX8_isClosed_15) ?_
  refine snd_cons (snd_iaload X dX8_isClosed_16) ?_
  refine snd_cons (snd_iconst X dX8_isClosed_17 (by decide)) ?_
  refine snd_cons (snd_icmp_ne X dX8_isClosed_18 (by decide)) ?_
  refine snd_cons (snd_iconst X dX8_isClosed_21 (by decide)) ?_
  refine snd_cons (snd_goto X dX8_isClosed_22 (by decide)) ?_
  refine snd_cons (snd_iconst X dX8_isClosed_25 (by decide)) ?_
  refine snd_cons (snd_icmp_ne X dX8_isClosed_26 (by decide)) ?_
  refine snd_cons (snd_iconst X dX8_isClosed_29 (by decide)) ?_
  refine snd_cons (snd_goto X dX8_isClosed_30 (by decide)) ?_
  refine snd_cons (snd_iconst X dX8_isClosed_33 (by decide)) ?_
  refine snd_cons (snd_zret X dX8_isClosed_34) ?_
  exact snd_nil
theorem k_X8_isClosed_0 (ca : Nat → ClassId) : k_X8_isClosed ca 0 = i_aload 0 1 := rfl
theorem k_X8_isClosed_1 (ca : Nat → ClassId) : k_X8_isClosed ca 1 = i_iload 1 2 := rfl
theorem k_X8_isClosed_2 (ca : Nat → ClassId) : k_X8_isClosed ca 2 = i_callV 8 1 0 0 0 0 (sp_X8_isSnapped ca) 5 := rfl
theorem k_X8_isClosed_5 (ca : Nat → ClassId) : k_X8_isClosed ca 5 = i_aload 0 6 := rfl
theorem k_X8_isClosed_6 (ca : Nat → ClassId) : k_X8_isClosed ca 6 = i_getf 8 0 9 := rfl
theorem k_X8_isClosed_9 (ca : Nat → ClassId) : k_X8_isClosed ca 9 = i_iload 1 10 := rfl
theorem k_X8_isClosed_10 (ca : Nat → ClassId) : k_X8_isClosed ca 10 = i_callS 1 0 0 0 0 (sp_X8_stripAt ca) 13 := rfl
theorem k_X8_isClosed_13 (ca : Nat → ClassId) : k_X8_isClosed ca 13 = i_push (.int 7) 15 := rfl
theorem k_X8_isClosed_15 (ca : Nat → ClassId) : k_X8_isClosed ca 15 = i_bin (fun x y => x + y) 16 := rfl
theorem k_X8_isClosed_16 (ca : Nat → ClassId) : k_X8_isClosed ca 16 = i_ald (ca 0) 17 := rfl
theorem k_X8_isClosed_17 (ca : Nat → ClassId) : k_X8_isClosed ca 17 = i_push (.int 1) 18 := rfl
theorem k_X8_isClosed_18 (ca : Nat → ClassId) : k_X8_isClosed ca 18 = i_icmp (fun x y => ¬ x = y) 25 21 := rfl
theorem k_X8_isClosed_21 (ca : Nat → ClassId) : k_X8_isClosed ca 21 = i_push (.int 1) 22 := rfl
theorem k_X8_isClosed_22 (ca : Nat → ClassId) : k_X8_isClosed ca 22 = i_goto 26 := rfl
theorem k_X8_isClosed_25 (ca : Nat → ClassId) : k_X8_isClosed ca 25 = i_push (.int 0) 26 := rfl
theorem k_X8_isClosed_26 (ca : Nat → ClassId) : k_X8_isClosed ca 26 = i_icmp (fun x y => ¬ x = y) 33 29 := rfl
theorem k_X8_isClosed_29 (ca : Nat → ClassId) : k_X8_isClosed ca 29 = i_push (.int 1) 30 := rfl
theorem k_X8_isClosed_30 (ca : Nat → ClassId) : k_X8_isClosed ca 30 = i_goto 34 := rfl
theorem k_X8_isClosed_33 (ca : Nat → ClassId) : k_X8_isClosed ca 33 = i_push (.int 0) 34 := rfl
theorem k_X8_isClosed_34 (ca : Nat → ClassId) : k_X8_isClosed ca 34 = i_zret := rfl
set_option maxHeartbeats 4000000 in
set_option maxRecDepth 20000 in
theorem ok_X8_isClosed (l : Launch) (D : va_G) (ca : Nat → ClassId) : OkAll l D ca yX8_isClosed cX8_isClosed 2 (some .boolean) 2 0 0 (sp_X8_isClosed ca) := by
  intro av h post hs
  unfold sp_X8_isClosed at hs
  split at hs
  · split at hs
    · rename_i hm
      split at hs
      · rename_i c0 n0 s hs0
        obtain ⟨rfl, rfl, hs⟩ := hs
        refine okM_of t_X8_isClosed (by decide +kernel) (c1_ref (c1_int c1_nil)) (Nat.le_of_ble_eq_true rfl) ?_
        intro K go
        refine go (stp []) 26 _ _ _ _ _ _ ?_
        simp only [wpS, ite_not, i_push, i_iload, i_lload, i_aload, i_istore, i_astore, i_lstore, i_iinc, i_bin, i_dv, i_un, i_lbin, i_lsh, i_i2l, i_l2i, i_lcmp, i_dup, i_dup2, i_pop, i_if, i_icmp, i_goto, swG, i_sw, i_getf, i_puti, i_putz, i_putr, i_ald, i_lald, i_aald, i_ast, i_last, i_aast, i_alen, i_new, i_newi, i_newl, i_newq, i_oinit, i_ret, i_zret, i_lret, i_vret, catS, tk, rpush, isO, i_m1, i_m2, i_acopy, i_callV, i_callS, KRet, lget, lput, lputL, lcl0, isL, lv0, List.map_cons, List.map_nil, List.length_cons, List.length_nil, List.cons_append, List.nil_append, Nat.reduceAdd, Nat.reduceSub, Nat.reduceLeDiff, List.replicate_succ, List.replicate_zero, List.getElem?_cons_succ, List.getElem?_cons_zero, List.set_cons_succ, List.set_cons_zero, true_and, and_true, if_true, if_false, reduceIte, Nat.le_refl, Value.category, va_up_app, eq_self, stp, Nat.reduceBEq, Bool.or_false, Bool.false_or, Bool.true_or, Bool.or_true, or_true, true_or, bx_uu, implies_true, true_implies, not_true, not_false_eq_true, false_implies, and_self, Nat.reduceLT, Int32.reduceAdd, Int32.reduceSub, Int32.reduceMul, Int32.reduceLE, Int32.reduceLT, Int32.reduceToNatClampNeg, va_rf_some, Bool.false_eq_true, k_X8_isClosed_0 ca, k_X8_isClosed_1 ca, k_X8_isClosed_2 ca, k_X8_isClosed_5 ca, k_X8_isClosed_6 ca, k_X8_isClosed_9 ca, k_X8_isClosed_10 ca, k_X8_isClosed_13 ca, k_X8_isClosed_15 ca, k_X8_isClosed_16 ca, k_X8_isClosed_17 ca, k_X8_isClosed_18 ca, k_X8_isClosed_21 ca, k_X8_isClosed_22 ca, k_X8_isClosed_25 ca, k_X8_isClosed_26 ca, k_X8_isClosed_29 ca, k_X8_isClosed_30 ca, k_X8_isClosed_33 ca, k_X8_isClosed_34 ca, hm, hs0, sp_X8_stripAt, sp_X8_isSnapped]
        obtain ⟨hv, hv2, hs⟩ := hs
        unfold closedM at hs
        refine ⟨hv, hv2, ifp (fun z => ?_) (fun z => ?_)⟩
        · rw [decide_eq_false z, b2i_f] at hs
          refine ifp (fun z2 => ?_) (fun z2 => ?_)
          · rw [decide_eq_false z2] at hs; exact hs
          · rw [decide_eq_true (Classical.not_not.mp z2)] at hs; exact hs
        · rw [decide_eq_true (Classical.not_not.mp z), b2i_t] at hs
          refine ifp (fun z2 => ?_) (fun z2 => ?_)
          · rw [decide_eq_false z2] at hs; exact hs
          · rw [decide_eq_true (Classical.not_not.mp z2)] at hs; exact hs
      · exact hs.elim
    · exact hs.elim
  · exact hs.elim
def sp_X8_puts (ca : Nat → ClassId) : SPEC := fun av h post => match av with
  | [.ref m, .int i, .int v] => (match h m with
    | some (.inr (8, .ref a0 :: _)) => (match h a0 with
      | some (.inl (c0, n0, .inl s)) => c0 = ca 0 ∧ n0 = 127 ∧ vp_in i 127 ∧ post (some (.int (s i.toNatClampNeg))) (va_up h a0 (some (.inl (ca 0, 127, .inl (upd s i.toNatClampNeg v)))))
      | _ => False)
    | _ => False)
  | _ => False
def k_X8_puts (ca : Nat → ClassId) : Nat → IT := fun pc => lk pc [(0, i_aload 0 1),
  (1, i_getf 8 0 4),
  (4, i_iload 1 5),
  (5, i_ald (ca 0) 6),
  (6, i_istore 3 7),
  (7, i_aload 0 8),
  (8, i_getf 8 0 11),
  (11, i_iload 1 12),
  (12, i_iload 2 13),
  (13, i_ast (fun x => x) (ca 0) 14),
  (14, i_iload 3 15),
  (15, i_ret)]
set_option maxRecDepth 20000 in
theorem t_X8_puts : Tb k_X8_puts yX8_puts cX8_puts 4 (some .int) 0 0 0 := by
  intro l D ca A p e s m args below meth c post X
  unfold k_X8_puts
  refine snd_cons (snd_aload_n X dX8_puts_0 rfl) ?_
  refine snd_cons (snd_getf X Fk8 0 (by decide) w_647 dX8_puts_1) ?_
  refine snd_cons (snd_iload_n X dX8_puts_4 rfl) ?_
  refine snd_cons (snd_iaload X dX8_puts_5) ?_
  refine snd_cons (snd_istore_n X dX8_puts_6 rfl (by decide)) ?_
  refine snd_cons (snd_aload_n X dX8_puts_7 rfl) ?_
  refine snd_cons (snd_getf X Fk8 0 (by decide) w_647 dX8_puts_8) ?_
  refine snd_cons (snd_iload_n X dX8_puts_11 rfl) ?_
  refine snd_cons (snd_iload_n X dX8_puts_12 rfl) ?_
  refine snd_cons (snd_iastore X dX8_puts_13) ?_
  refine snd_cons (snd_iload_n X dX8_puts_14 rfl) ?_
  refine snd_cons (snd_ret X dX8_puts_15) ?_
  exact snd_nil
theorem k_X8_puts_0 (ca : Nat → ClassId) : k_X8_puts ca 0 = i_aload 0 1 := rfl
theorem k_X8_puts_1 (ca : Nat → ClassId) : k_X8_puts ca 1 = i_getf 8 0 4 := rfl
theorem k_X8_puts_4 (ca : Nat → ClassId) : k_X8_puts ca 4 = i_iload 1 5 := rfl
theorem k_X8_puts_5 (ca : Nat → ClassId) : k_X8_puts ca 5 = i_ald (ca 0) 6 := rfl
theorem k_X8_puts_6 (ca : Nat → ClassId) : k_X8_puts ca 6 = i_istore 3 7 := rfl
theorem k_X8_puts_7 (ca : Nat → ClassId) : k_X8_puts ca 7 = i_aload 0 8 := rfl
theorem k_X8_puts_8 (ca : Nat → ClassId) : k_X8_puts ca 8 = i_getf 8 0 11 := rfl
theorem k_X8_puts_11 (ca : Nat → ClassId) : k_X8_puts ca 11 = i_iload 1 12 := rfl
theorem k_X8_puts_12 (ca : Nat → ClassId) : k_X8_puts ca 12 = i_iload 2 13 := rfl
theorem k_X8_puts_13 (ca : Nat → ClassId) : k_X8_puts ca 13 = i_ast (fun x => x) (ca 0) 14 := rfl
theorem k_X8_puts_14 (ca : Nat → ClassId) : k_X8_puts ca 14 = i_iload 3 15 := rfl
theorem k_X8_puts_15 (ca : Nat → ClassId) : k_X8_puts ca 15 = i_ret := rfl
set_option maxHeartbeats 4000000 in
set_option maxRecDepth 20000 in
theorem ok_X8_puts (l : Launch) (D : va_G) (ca : Nat → ClassId) : OkAll l D ca yX8_puts cX8_puts 4 (some .int) 0 0 0 (sp_X8_puts ca) := by
  intro av h post hs
  unfold sp_X8_puts at hs
  split at hs
  · split at hs
    · rename_i hm
      split at hs
      · rename_i c0 n0 s hs0
        obtain ⟨rfl, rfl, hs⟩ := hs
        refine okM_of t_X8_puts (by decide +kernel) (c1_ref (c1_int (c1_int c1_nil))) (Nat.le_of_ble_eq_true rfl) ?_
        intro K go
        refine go (stp []) 18 _ _ _ _ _ _ ?_
        simp only [wpS, ite_not, i_push, i_iload, i_lload, i_aload, i_istore, i_astore, i_lstore, i_iinc, i_bin, i_dv, i_un, i_lbin, i_lsh, i_i2l, i_l2i, i_lcmp, i_dup, i_dup2, i_pop, i_if, i_icmp, i_goto, swG, i_sw, i_getf, i_puti, i_putz, i_putr, i_ald, i_lald, i_aald, i_ast, i_last, i_aast, i_alen, i_new, i_newi, i_newl, i_newq, i_oinit, i_ret, i_zret, i_lret, i_vret, catS, tk, rpush, isO, i_m1, i_m2, i_acopy, i_callV, i_callS, KRet, lget, lput, lputL, lcl0, isL, lv0, List.map_cons, List.map_nil, List.length_cons, List.length_nil, List.cons_append, List.nil_append, Nat.reduceAdd, Nat.reduceSub, Nat.reduceLeDiff, List.replicate_succ, List.replicate_zero, List.getElem?_cons_succ, List.getElem?_cons_zero, List.set_cons_succ, List.set_cons_zero, true_and, and_true, if_true, if_false, reduceIte, Nat.le_refl, Value.category, va_up_app, eq_self, stp, Nat.reduceBEq, Bool.or_false, Bool.false_or, Bool.true_or, Bool.or_true, or_true, true_or, bx_uu, implies_true, true_implies, not_true, not_false_eq_true, false_implies, and_self, Nat.reduceLT, Int32.reduceAdd, Int32.reduceSub, Int32.reduceMul, Int32.reduceLE, Int32.reduceLT, Int32.reduceToNatClampNeg, va_rf_some, Bool.false_eq_true, k_X8_puts_0 ca, k_X8_puts_1 ca, k_X8_puts_4 ca, k_X8_puts_5 ca, k_X8_puts_6 ca, k_X8_puts_7 ca, k_X8_puts_8 ca, k_X8_puts_11 ca, k_X8_puts_12 ca, k_X8_puts_13 ca, k_X8_puts_14 ca, k_X8_puts_15 ca, hm, hs0]
        exact ⟨hs.1, hs⟩
      · exact hs.elim
    · exact hs.elim
  · exact hs.elim
def sp_X8_bendOfPart (ca : Nat → ClassId) : SPEC := fun av h post => match av with
  | [.ref m, .int k, .int i] => (match h m with
    | some (.inr (8, .ref a0 :: _)) => (match h a0 with
      | some (.inl (c0, n0, .inl s)) => c0 = ca 0 ∧ n0 = 127 ∧ vp_in (10 + 32 * k + 8 + 3 * i + 0) 127 ∧ vp_in (10 + 32 * k + 8 + 3 * i + 1) 127 ∧ vp_in (10 + 32 * k + 8 + 3 * i + 2) 127 ∧ vp_in (0 + s (10 + 32 * k + 8 + 3 * i + 1).toNatClampNeg) 127 ∧ vp_in (0 + s (10 + 32 * k + 8 + 3 * i + 2).toNatClampNeg) 127 ∧ post (some (.int (s (10 + 32 * k + 8 + 3 * i + 0).toNatClampNeg * (s (0 + s (10 + 32 * k + 8 + 3 * i + 1).toNatClampNeg).toNatClampNeg - s (0 + s (10 + 32 * k + 8 + 3 * i + 2).toNatClampNeg).toNatClampNeg)))) h
      | _ => False)
    | _ => False)
  | _ => False
def k_X8_bendOfPart (ca : Nat → ClassId) : Nat → IT := fun pc => lk pc [(0, i_aload 0 1),
  (1, i_iload 1 2),
  (2, i_iload 2 3),
  (3, i_push (.int 0) 4),
  (4, i_callV 8 3 0 0 0 0 (sp_X8_partOfStrip ca) 7),
  (7, i_aload 0 8),
  (8, i_getf 8 0 11),
  (11, i_push (.int 0) 12),
  (12, i_aload 0 13),
  (13, i_iload 1 14),
  (14, i_iload 2 15),
  (15, i_push (.int 1) 16),
  (16, i_callV 8 3 0 0 0 0 (sp_X8_partOfStrip ca) 19),
  (19, i_bin (fun x y => x + y) 20),
  (20, i_ald (ca 0) 21),
  (21, i_aload 0 22),
  (22, i_getf 8 0 25),
  (25, i_push (.int 0) 26),
  (26, i_aload 0 27),
  (27, i_iload 1 28),
  (28, i_iload 2 29),
  (29, i_push (.int 2) 30),
  (30, i_callV 8 3 0 0 0 0 (sp_X8_partOfStrip ca) 33),
  (33, i_bin (fun x y => x + y) 34),
  (34, i_ald (ca 0) 35),
  (35, i_bin (fun x y => x - y) 36),
  (36, i_bin (fun x y => x * y) 37),
  (37, i_ret)]
set_option maxRecDepth 20000 in
theorem t_X8_bendOfPart : Tb k_X8_bendOfPart yX8_bendOfPart cX8_bendOfPart 3 (some .int) 2 0 0 := by
  intro l D ca A p e s m args below meth c post X
  unfold k_X8_bendOfPart
  refine snd_cons (snd_aload_n X dX8_bendOfPart_0 rfl) ?_
  refine snd_cons (snd_iload_n X dX8_bendOfPart_1 rfl) ?_
  refine snd_cons (snd_iload_n X dX8_bendOfPart_2 rfl) ?_
  refine snd_cons (snd_iconst X dX8_bendOfPart_3 (by decide)) ?_
  refine snd_cons (snd_callV X Fk8 (ok_X8_partOfStrip l D ca) rfl rfl w_770 w_772 wp_27 w_9 w_773 (by decide) (by decide) dX8_bendOfPart_4) ?_
  refine snd_cons (snd_aload_n X dX8_bendOfPart_7 rfl) ?_
  refine snd_cons (snd_getf X Fk8 0 (by decide) w_647 dX8_bendOfPart_8) ?_
  refine snd_cons (snd_iconst X dX8_bendOfPart_11 (by decide)) ?_
  refine snd_cons (snd_aload_n X dX8_bendOfPart_12 rfl) ?_
  refine snd_cons (snd_iload_n X dX8_bendOfPart_13 rfl) ?_
  refine snd_cons (snd_iload_n X dX8_bendOfPart_14 rfl) ?_
  refine snd_cons (snd_iconst X dX8_bendOfPart_15 (by decide)) ?_
  refine snd_cons (snd_callV X Fk8 (ok_X8_partOfStrip l D ca) rfl rfl w_770 w_772 wp_27 w_9 w_773 (by decide) (by decide) dX8_bendOfPart_16) ?_
  refine snd_cons (snd_iadd X dX8_bendOfPart_19) ?_
  refine snd_cons (snd_iaload X dX8_bendOfPart_20) ?_
  refine snd_cons (snd_aload_n X dX8_bendOfPart_21 rfl) ?_
  refine snd_cons (snd_getf X Fk8 0 (by decide) w_647 dX8_bendOfPart_22) ?_
  refine snd_cons (snd_iconst X dX8_bendOfPart_25 (by decide)) ?_
  refine snd_cons (snd_aload_n X dX8_bendOfPart_26 rfl) ?_
  refine snd_cons (snd_iload_n X dX8_bendOfPart_27 rfl) ?_
  refine snd_cons (snd_iload_n X dX8_bendOfPart_28 rfl) ?_
  refine snd_cons (snd_iconst X dX8_bendOfPart_29 (by decide)) ?_
  refine snd_cons (snd_callV X Fk8 (ok_X8_partOfStrip l D ca) rfl rfl w_770 w_772 wp_27 w_9 w_773 (by decide) (by decide) dX8_bendOfPart_30) ?_
  refine snd_cons (snd_iadd X dX8_bendOfPart_33) ?_
  refine snd_cons (snd_iaload X dX8_bendOfPart_34) ?_
  refine snd_cons (snd_isub X dX8_bendOfPart_35) ?_
  refine snd_cons (snd_imul X dX8_bendOfPart_36) ?_
  refine snd_cons (snd_ret X dX8_bendOfPart_37) ?_
  exact snd_nil
theorem k_X8_bendOfPart_0 (ca : Nat → ClassId) : k_X8_bendOfPart ca 0 = i_aload 0 1 := rfl
theorem k_X8_bendOfPart_1 (ca : Nat → ClassId) : k_X8_bendOfPart ca 1 = i_iload 1 2 := rfl
theorem k_X8_bendOfPart_2 (ca : Nat → ClassId) : k_X8_bendOfPart ca 2 = i_iload 2 3 := rfl
theorem k_X8_bendOfPart_3 (ca : Nat → ClassId) : k_X8_bendOfPart ca 3 = i_push (.int 0) 4 := rfl
theorem k_X8_bendOfPart_4 (ca : Nat → ClassId) : k_X8_bendOfPart ca 4 = i_callV 8 3 0 0 0 0 (sp_X8_partOfStrip ca) 7 := rfl
theorem k_X8_bendOfPart_7 (ca : Nat → ClassId) : k_X8_bendOfPart ca 7 = i_aload 0 8 := rfl
theorem k_X8_bendOfPart_8 (ca : Nat → ClassId) : k_X8_bendOfPart ca 8 = i_getf 8 0 11 := rfl
theorem k_X8_bendOfPart_11 (ca : Nat → ClassId) : k_X8_bendOfPart ca 11 = i_push (.int 0) 12 := rfl
theorem k_X8_bendOfPart_12 (ca : Nat → ClassId) : k_X8_bendOfPart ca 12 = i_aload 0 13 := rfl
theorem k_X8_bendOfPart_13 (ca : Nat → ClassId) : k_X8_bendOfPart ca 13 = i_iload 1 14 := rfl
theorem k_X8_bendOfPart_14 (ca : Nat → ClassId) : k_X8_bendOfPart ca 14 = i_iload 2 15 := rfl
theorem k_X8_bendOfPart_15 (ca : Nat → ClassId) : k_X8_bendOfPart ca 15 = i_push (.int 1) 16 := rfl
theorem k_X8_bendOfPart_16 (ca : Nat → ClassId) : k_X8_bendOfPart ca 16 = i_callV 8 3 0 0 0 0 (sp_X8_partOfStrip ca) 19 := rfl
theorem k_X8_bendOfPart_19 (ca : Nat → ClassId) : k_X8_bendOfPart ca 19 = i_bin (fun x y => x + y) 20 := rfl
theorem k_X8_bendOfPart_20 (ca : Nat → ClassId) : k_X8_bendOfPart ca 20 = i_ald (ca 0) 21 := rfl
theorem k_X8_bendOfPart_21 (ca : Nat → ClassId) : k_X8_bendOfPart ca 21 = i_aload 0 22 := rfl
theorem k_X8_bendOfPart_22 (ca : Nat → ClassId) : k_X8_bendOfPart ca 22 = i_getf 8 0 25 := rfl
theorem k_X8_bendOfPart_25 (ca : Nat → ClassId) : k_X8_bendOfPart ca 25 = i_push (.int 0) 26 := rfl
theorem k_X8_bendOfPart_26 (ca : Nat → ClassId) : k_X8_bendOfPart ca 26 = i_aload 0 27 := rfl
theorem k_X8_bendOfPart_27 (ca : Nat → ClassId) : k_X8_bendOfPart ca 27 = i_iload 1 28 := rfl
theorem k_X8_bendOfPart_28 (ca : Nat → ClassId) : k_X8_bendOfPart ca 28 = i_iload 2 29 := rfl
theorem k_X8_bendOfPart_29 (ca : Nat → ClassId) : k_X8_bendOfPart ca 29 = i_push (.int 2) 30 := rfl
theorem k_X8_bendOfPart_30 (ca : Nat → ClassId) : k_X8_bendOfPart ca 30 = i_callV 8 3 0 0 0 0 (sp_X8_partOfStrip ca) 33 := rfl
theorem k_X8_bendOfPart_33 (ca : Nat → ClassId) : k_X8_bendOfPart ca 33 = i_bin (fun x y => x + y) 34 := rfl
theorem k_X8_bendOfPart_34 (ca : Nat → ClassId) : k_X8_bendOfPart ca 34 = i_ald (ca 0) 35 := rfl
theorem k_X8_bendOfPart_35 (ca : Nat → ClassId) : k_X8_bendOfPart ca 35 = i_bin (fun x y => x - y) 36 := rfl
theorem k_X8_bendOfPart_36 (ca : Nat → ClassId) : k_X8_bendOfPart ca 36 = i_bin (fun x y => x * y) 37 := rfl
theorem k_X8_bendOfPart_37 (ca : Nat → ClassId) : k_X8_bendOfPart ca 37 = i_ret := rfl
set_option maxHeartbeats 4000000 in
set_option maxRecDepth 20000 in
theorem ok_X8_bendOfPart (l : Launch) (D : va_G) (ca : Nat → ClassId) : OkAll l D ca yX8_bendOfPart cX8_bendOfPart 3 (some .int) 2 0 0 (sp_X8_bendOfPart ca) := by
  intro av h post hs
  unfold sp_X8_bendOfPart at hs
  split at hs
  · split at hs
    · rename_i hm
      split at hs
      · rename_i c0 n0 s hs0
        obtain ⟨rfl, rfl, hs⟩ := hs
        refine okM_of t_X8_bendOfPart (by decide +kernel) (c1_ref (c1_int (c1_int c1_nil))) (Nat.le_of_ble_eq_true rfl) ?_
        intro K go
        refine go (stp []) 30 _ _ _ _ _ _ ?_
        simp only [wpS, ite_not, i_push, i_iload, i_lload, i_aload, i_istore, i_astore, i_lstore, i_iinc, i_bin, i_dv, i_un, i_lbin, i_lsh, i_i2l, i_l2i, i_lcmp, i_dup, i_dup2, i_pop, i_if, i_icmp, i_goto, swG, i_sw, i_getf, i_puti, i_putz, i_putr, i_ald, i_lald, i_aald, i_ast, i_last, i_aast, i_alen, i_new, i_newi, i_newl, i_newq, i_oinit, i_ret, i_zret, i_lret, i_vret, catS, tk, rpush, isO, i_m1, i_m2, i_acopy, i_callV, i_callS, KRet, lget, lput, lputL, lcl0, isL, lv0, List.map_cons, List.map_nil, List.length_cons, List.length_nil, List.cons_append, List.nil_append, Nat.reduceAdd, Nat.reduceSub, Nat.reduceLeDiff, List.replicate_succ, List.replicate_zero, List.getElem?_cons_succ, List.getElem?_cons_zero, List.set_cons_succ, List.set_cons_zero, true_and, and_true, if_true, if_false, reduceIte, Nat.le_refl, Value.category, va_up_app, eq_self, stp, Nat.reduceBEq, Bool.or_false, Bool.false_or, Bool.true_or, Bool.or_true, or_true, true_or, bx_uu, implies_true, true_implies, not_true, not_false_eq_true, false_implies, and_self, Nat.reduceLT, Int32.reduceAdd, Int32.reduceSub, Int32.reduceMul, Int32.reduceLE, Int32.reduceLT, Int32.reduceToNatClampNeg, va_rf_some, Bool.false_eq_true, k_X8_bendOfPart_0 ca, k_X8_bendOfPart_1 ca, k_X8_bendOfPart_2 ca, k_X8_bendOfPart_3 ca, k_X8_bendOfPart_4 ca, k_X8_bendOfPart_7 ca, k_X8_bendOfPart_8 ca, k_X8_bendOfPart_11 ca, k_X8_bendOfPart_12 ca, k_X8_bendOfPart_13 ca, k_X8_bendOfPart_14 ca, k_X8_bendOfPart_15 ca, k_X8_bendOfPart_16 ca, k_X8_bendOfPart_19 ca, k_X8_bendOfPart_20 ca, k_X8_bendOfPart_21 ca, k_X8_bendOfPart_22 ca, k_X8_bendOfPart_25 ca, k_X8_bendOfPart_26 ca, k_X8_bendOfPart_27 ca, k_X8_bendOfPart_28 ca, k_X8_bendOfPart_29 ca, k_X8_bendOfPart_30 ca, k_X8_bendOfPart_33 ca, k_X8_bendOfPart_34 ca, k_X8_bendOfPart_35 ca, k_X8_bendOfPart_36 ca, k_X8_bendOfPart_37 ca, hm, hs0, sp_X8_partOfStrip]
        obtain ⟨v1, v2, v3, v4, v5, hs⟩ := hs
        exact ⟨v1, v2, v4, v3, v5, hs⟩
      · exact hs.elim
    · exact hs.elim
  · exact hs.elim
def pulledM (lo hi si bend : Int32) : Bool := if decide (si = 1) = false then !(decide (bend < hi)) else !(decide (lo < bend))
def sp_X8_isPulled (ca : Nat → ClassId) : SPEC := fun av h post => match av with
  | [.ref m, .int k, .int x] => (match h m with
    | some (.inr (8, .ref a0 :: _)) => (match h a0 with
      | some (.inl (c0, n0, .inl s)) => c0 = ca 0 ∧ n0 = 127 ∧ vp_in (10 + 32 * k + 4) 127 ∧ vp_in (10 + 32 * k + 1) 127 ∧ vp_in (10 + 32 * k + 2) 127 ∧ post (some (.int (b2i (pulledM (s (10 + 32 * k + 1).toNatClampNeg) (s (10 + 32 * k + 2).toNatClampNeg) (s (10 + 32 * k + 4).toNatClampNeg) x)))) h
      | _ => False)
    | _ => False)
  | _ => False
def k_X8_isPulled (ca : Nat → ClassId) : Nat → IT := fun pc => lk pc [(0, i_aload 0 1),
  (1, i_iload 1 2),
  (2, i_callV 8 1 0 0 0 0 (sp_X8_isSnapped ca) 5),
  (5, i_if (fun x => x = 0) 31 8),
  (8, i_iload 2 9),
  (9, i_aload 0 10),
  (10, i_getf 8 0 13),
  (13, i_iload 1 14),
  (14, i_callS 1 0 0 0 0 (sp_X8_stripAt ca) 17),
  (17, i_push (.int 1) 18),
  (18, i_bin (fun x y => x + y) 19),
  (19, i_ald (ca 0) 20),
  (20, i_icmp (fun x y => y < x) 27 23),
  (23, i_push (.int 1) 24),
  (24, i_goto 51),
  (27, i_push (.int 0) 28),
  (28, i_goto 51),
  (31, i_iload 2 32),
  (32, i_aload 0 33),
  (33, i_getf 8 0 36),
  (36, i_iload 1 37),
  (37, i_callS 1 0 0 0 0 (sp_X8_stripAt ca) 40),
  (40, i_push (.int 2) 41),
  (41, i_bin (fun x y => x + y) 42),
  (42, i_ald (ca 0) 43),
  (43, i_icmp (fun x y => x < y) 50 46),
  (46, i_push (.int 1) 47),
  (47, i_goto 51),
  (50, i_push (.int 0) 51),
  (51, i_zret)]
set_option maxRecDepth 20000 in
theorem t_X8_isPulled : Tb k_X8_isPulled yX8_isPulled cX8_isPulled 3 (some .boolean) 2 0 0 := by
  intro l D ca A p e s m args below meth c post X
  unfold k_X8_isPulled
  refine snd_cons (snd_aload_n X dX8_isPulled_0 rfl) ?_
  refine snd_cons (snd_iload_n X dX8_isPulled_1 rfl) ?_
  refine snd_cons (snd_callV X Fk8 (ok_X8_isSnapped l D ca) rfl rfl w_782 w_784 wp_29 w_9 w_785 (by decide) (by decide) dX8_isPulled_2) ?_
  refine snd_cons (snd_if_eq X dX8_isPulled_5 (by decide)) ?_
  refine snd_cons (snd_iload_n X dX8_isPulled_8 rfl) ?_
  refine snd_cons (snd_aload_n X dX8_isPulled_9 rfl) ?_
  refine snd_cons (snd_getf X Fk8 0 (by decide) w_647 dX8_isPulled_10) ?_
  refine snd_cons (snd_iload_n X dX8_isPulled_13 rfl) ?_
  refine snd_cons (snd_callS X (ok_X8_stripAt l D ca) rfl rfl w_641 w_642 w_9 w_643 (by decide) (by decide) dX8_isPulled_14) ?_
  refine snd_cons (snd_iconst X dX8_isPulled_17 (by decide)) ?_
  refine snd_cons (snd_iadd X dX8_isPulled_18) ?_
  refine snd_cons (snd_iaload X dX8_isPulled_19) ?_
  refine snd_cons (snd_icmp_gt X dX8_isPulled_20 (by decide)) ?_
  refine snd_cons (snd_iconst X dX8_isPulled_23 (by decide)) ?_
  refine snd_cons (snd_goto X dX8_isPulled_24 (by decide)) ?_
  refine snd_cons (snd_iconst X dX8_isPulled_27 (by decide)) ?_
  refine snd_cons (snd_goto X dX8_isPulled_28 (by decide)) ?_
  refine snd_cons (snd_iload_n X dX8_isPulled_31 rfl) ?_
  refine snd_cons (snd_aload_n X dX8_isPulled_32 rfl) ?_
  refine snd_cons (snd_getf X Fk8 0 (by decide) w_647 dX8_isPulled_33) ?_
  refine snd_cons (snd_iload_n X dX8_isPulled_36 rfl) ?_
  refine snd_cons (snd_callS X (ok_X8_stripAt l D ca) rfl rfl w_641 w_642 w_9 w_643 (by decide) (by decide) dX8_isPulled_37) ?_
  refine snd_cons (snd_iconst X dX8_isPulled_40 (by decide)) ?_
  refine snd_cons (snd_iadd X dX8_isPulled_41) ?_
  refine snd_cons (snd_iaload X dX8_isPulled_42) ?_
  refine snd_cons (snd_icmp_lt X dX8_isPulled_43 (by decide)) ?_
  refine snd_cons (snd_iconst X dX8_isPulled_46 (by decide)) ?_
  refine snd_cons (snd_goto X dX8_isPulled_47 (by decide)) ?_
  refine snd_cons (snd_iconst X dX8_isPulled_50 (by decide)) ?_
  refine snd_cons (snd_zret X dX8_isPulled_51) ?_
  exact snd_nil
theorem k_X8_isPulled_0 (ca : Nat → ClassId) : k_X8_isPulled ca 0 = i_aload 0 1 := rfl
theorem k_X8_isPulled_1 (ca : Nat → ClassId) : k_X8_isPulled ca 1 = i_iload 1 2 := rfl
theorem k_X8_isPulled_2 (ca : Nat → ClassId) : k_X8_isPulled ca 2 = i_callV 8 1 0 0 0 0 (sp_X8_isSnapped ca) 5 := rfl
theorem k_X8_isPulled_5 (ca : Nat → ClassId) : k_X8_isPulled ca 5 = i_if (fun x => x = 0) 31 8 := rfl
theorem k_X8_isPulled_8 (ca : Nat → ClassId) : k_X8_isPulled ca 8 = i_iload 2 9 := rfl
theorem k_X8_isPulled_9 (ca : Nat → ClassId) : k_X8_isPulled ca 9 = i_aload 0 10 := rfl
theorem k_X8_isPulled_10 (ca : Nat → ClassId) : k_X8_isPulled ca 10 = i_getf 8 0 13 := rfl
theorem k_X8_isPulled_13 (ca : Nat → ClassId) : k_X8_isPulled ca 13 = i_iload 1 14 := rfl
theorem k_X8_isPulled_14 (ca : Nat → ClassId) : k_X8_isPulled ca 14 = i_callS 1 0 0 0 0 (sp_X8_stripAt ca) 17 := rfl
theorem k_X8_isPulled_17 (ca : Nat → ClassId) : k_X8_isPulled ca 17 = i_push (.int 1) 18 := rfl
theorem k_X8_isPulled_18 (ca : Nat → ClassId) : k_X8_isPulled ca 18 = i_bin (fun x y => x + y) 19 := rfl
theorem k_X8_isPulled_19 (ca : Nat → ClassId) : k_X8_isPulled ca 19 = i_ald (ca 0) 20 := rfl
theorem k_X8_isPulled_20 (ca : Nat → ClassId) : k_X8_isPulled ca 20 = i_icmp (fun x y => y < x) 27 23 := rfl
theorem k_X8_isPulled_23 (ca : Nat → ClassId) : k_X8_isPulled ca 23 = i_push (.int 1) 24 := rfl
theorem k_X8_isPulled_24 (ca : Nat → ClassId) : k_X8_isPulled ca 24 = i_goto 51 := rfl
theorem k_X8_isPulled_27 (ca : Nat → ClassId) : k_X8_isPulled ca 27 = i_push (.int 0) 28 := rfl
theorem k_X8_isPulled_28 (ca : Nat → ClassId) : k_X8_isPulled ca 28 = i_goto 51 := rfl
theorem k_X8_isPulled_31 (ca : Nat → ClassId) : k_X8_isPulled ca 31 = i_iload 2 32 := rfl
theorem k_X8_isPulled_32 (ca : Nat → ClassId) : k_X8_isPulled ca 32 = i_aload 0 33 := rfl
theorem k_X8_isPulled_33 (ca : Nat → ClassId) : k_X8_isPulled ca 33 = i_getf 8 0 36 := rfl
theorem k_X8_isPulled_36 (ca : Nat → ClassId) : k_X8_isPulled ca 36 = i_iload 1 37 := rfl
theorem k_X8_isPulled_37 (ca : Nat → ClassId) : k_X8_isPulled ca 37 = i_callS 1 0 0 0 0 (sp_X8_stripAt ca) 40 := rfl
theorem k_X8_isPulled_40 (ca : Nat → ClassId) : k_X8_isPulled ca 40 = i_push (.int 2) 41 := rfl
theorem k_X8_isPulled_41 (ca : Nat → ClassId) : k_X8_isPulled ca 41 = i_bin (fun x y => x + y) 42 := rfl
theorem k_X8_isPulled_42 (ca : Nat → ClassId) : k_X8_isPulled ca 42 = i_ald (ca 0) 43 := rfl
theorem k_X8_isPulled_43 (ca : Nat → ClassId) : k_X8_isPulled ca 43 = i_icmp (fun x y => x < y) 50 46 := rfl
theorem k_X8_isPulled_46 (ca : Nat → ClassId) : k_X8_isPulled ca 46 = i_push (.int 1) 47 := rfl
theorem k_X8_isPulled_47 (ca : Nat → ClassId) : k_X8_isPulled ca 47 = i_goto 51 := rfl
theorem k_X8_isPulled_50 (ca : Nat → ClassId) : k_X8_isPulled ca 50 = i_push (.int 0) 51 := rfl
theorem k_X8_isPulled_51 (ca : Nat → ClassId) : k_X8_isPulled ca 51 = i_zret := rfl
set_option maxHeartbeats 4000000 in
set_option maxRecDepth 20000 in
theorem ok_X8_isPulled (l : Launch) (D : va_G) (ca : Nat → ClassId) : OkAll l D ca yX8_isPulled cX8_isPulled 3 (some .boolean) 2 0 0 (sp_X8_isPulled ca) := by
  intro av h post hs
  unfold sp_X8_isPulled at hs
  split at hs
  · split at hs
    · rename_i hm
      split at hs
      · rename_i c0 n0 s hs0
        obtain ⟨rfl, rfl, hs⟩ := hs
        refine okM_of t_X8_isPulled (by decide +kernel) (c1_ref (c1_int (c1_int c1_nil))) (Nat.le_of_ble_eq_true rfl) ?_
        intro K go
        refine go (stp []) 20 _ _ _ _ _ _ ?_
        simp only [wpS, ite_not, i_push, i_iload, i_lload, i_aload, i_istore, i_astore, i_lstore, i_iinc, i_bin, i_dv, i_un, i_lbin, i_lsh, i_i2l, i_l2i, i_lcmp, i_dup, i_dup2, i_pop, i_if, i_icmp, i_goto, swG, i_sw, i_getf, i_puti, i_putz, i_putr, i_ald, i_lald, i_aald, i_ast, i_last, i_aast, i_alen, i_new, i_newi, i_newl, i_newq, i_oinit, i_ret, i_zret, i_lret, i_vret, catS, tk, rpush, isO, i_m1, i_m2, i_acopy, i_callV, i_callS, KRet, lget, lput, lputL, lcl0, isL, lv0, List.map_cons, List.map_nil, List.length_cons, List.length_nil, List.cons_append, List.nil_append, Nat.reduceAdd, Nat.reduceSub, Nat.reduceLeDiff, List.replicate_succ, List.replicate_zero, List.getElem?_cons_succ, List.getElem?_cons_zero, List.set_cons_succ, List.set_cons_zero, true_and, and_true, if_true, if_false, reduceIte, Nat.le_refl, Value.category, va_up_app, eq_self, stp, Nat.reduceBEq, Bool.or_false, Bool.false_or, Bool.true_or, Bool.or_true, or_true, true_or, bx_uu, implies_true, true_implies, not_true, not_false_eq_true, false_implies, and_self, Nat.reduceLT, Int32.reduceAdd, Int32.reduceSub, Int32.reduceMul, Int32.reduceLE, Int32.reduceLT, Int32.reduceToNatClampNeg, va_rf_some, Bool.false_eq_true, k_X8_isPulled_0 ca, k_X8_isPulled_1 ca, k_X8_isPulled_2 ca, k_X8_isPulled_5 ca, k_X8_isPulled_8 ca, k_X8_isPulled_9 ca, k_X8_isPulled_10 ca, k_X8_isPulled_13 ca, k_X8_isPulled_14 ca, k_X8_isPulled_17 ca, k_X8_isPulled_18 ca, k_X8_isPulled_19 ca, k_X8_isPulled_20 ca, k_X8_isPulled_23 ca, k_X8_isPulled_24 ca, k_X8_isPulled_27 ca, k_X8_isPulled_28 ca, k_X8_isPulled_31 ca, k_X8_isPulled_32 ca, k_X8_isPulled_33 ca, k_X8_isPulled_36 ca, k_X8_isPulled_37 ca, k_X8_isPulled_40 ca, k_X8_isPulled_41 ca, k_X8_isPulled_42 ca, k_X8_isPulled_43 ca, k_X8_isPulled_46 ca, k_X8_isPulled_47 ca, k_X8_isPulled_50 ca, k_X8_isPulled_51 ca, hm, hs0, sp_X8_stripAt, sp_X8_isSnapped, b2i_0]
        obtain ⟨v1, v2, v3, hs⟩ := hs
        unfold pulledM at hs
        refine ⟨v1, ifp (fun z => ?_) (fun z => ?_)⟩
        · rw [if_pos z] at hs
          refine ⟨v3, ifp (fun z2 => ?_) (fun z2 => ?_)⟩
          · rw [decide_eq_true z2] at hs; exact hs
          · rw [decide_eq_false z2] at hs; exact hs
        · rw [if_neg z] at hs
          refine ⟨v2, ifp (fun z2 => ?_) (fun z2 => ?_)⟩
          · rw [decide_eq_true z2] at hs; exact hs
          · rw [decide_eq_false z2] at hs; exact hs
      · exact hs.elim
    · exact hs.elim
  · exact hs.elim
