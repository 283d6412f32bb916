/-! Strip and Room: methods of fields alone -/
def closedF (ki si : Int32) : Bool := decide (si = (if ki = 1 then 1 else 0))
def sp_X5_isClosed (_ : Nat → ClassId) : SPEC := fun av h post => match av with
  | [.ref a] => (match h a with
    | some (.inr (5, [.ref l, .ref u, .ref w, .int n, .int lo, .int hi, .int la, .int pu, .int sn, .int ki, .int si])) => post (some (.int (b2i (closedF ki si)))) h
    | _ => False)
  | _ => False
def k_X5_isClosed (ca : Nat → ClassId) : Nat → IT := fun pc => lk pc [(0, i_aload 0 1),
  (1, i_getf 5 10 4),
  (4, i_aload 0 5),
  (5, i_getf 5 9 8),
  (8, i_push (.int 1) 9),
  (9, i_icmp (fun x y => ¬ x = y) 16 12),
  (12, i_push (.int 1) 13),
  (13, i_goto 17),
  (16, i_push (.int 0) 17),
  (17, i_icmp (fun x y => ¬ x = y) 24 20),
  (20, i_push (.int 1) 21),
  (21, i_goto 25),
  (24, i_push (.int 0) 25),
  (25, i_zret)]
set_option maxRecDepth 20000 in
theorem t_X5_isClosed : Tb k_X5_isClosed yX5_isClosed cX5_isClosed 1 (some .boolean) 0 0 0 := by
  intro l D ca A p e s m args below meth c post X
  unfold k_X5_isClosed
  refine snd_cons (snd_aload_n X dX5_isClosed_0 rfl) ?_
  refine snd_cons (snd_getf X Fk5 10 (by decide) w_57 dX5_isClosed_1) ?_
  refine snd_cons (snd_aload_n X dX5_isClosed_4 rfl) ?_
  refine snd_cons (snd_getf X Fk5 9 (by decide) w_55 dX5_isClosed_5) ?_
  refine snd_cons (snd_iconst X dX5_isClosed_8 (by decide)) ?_
  refine snd_cons (snd_icmp_ne X dX5_isClosed_9 (by decide)) ?_
  refine snd_cons (snd_iconst X dX5_isClosed_12 (by decide)) ?_
  refine snd_cons (snd_goto X dX5_isClosed_13 (by decide)) ?_
  refine snd_cons (snd_iconst X dX5_isClosed_16 (by decide)) ?_
  refine snd_cons (snd_icmp_ne X dX5_isClosed_17 (by decide)) ?_
  refine snd_cons (snd_iconst X dX5_isClosed_20 (by decide)) ?_
  refine snd_cons (snd_goto X dX5_isClosed_21 (by decide)) ?_
  refine snd_cons (snd_iconst X dX5_isClosed_24 (by decide)) ?_
  refine snd_cons (snd_zret X dX5_isClosed_25) ?_
  exact snd_nil
theorem k_X5_isClosed_0 (ca : Nat → ClassId) : k_X5_isClosed ca 0 = i_aload 0 1 := rfl
theorem k_X5_isClosed_1 (ca : Nat → ClassId) : k_X5_isClosed ca 1 = i_getf 5 10 4 := rfl
theorem k_X5_isClosed_4 (ca : Nat → ClassId) : k_X5_isClosed ca 4 = i_aload 0 5 := rfl
theorem k_X5_isClosed_5 (ca : Nat → ClassId) : k_X5_isClosed ca 5 = i_getf 5 9 8 := rfl
theorem k_X5_isClosed_8 (ca : Nat → ClassId) : k_X5_isClosed ca 8 = i_push (.int 1) 9 := rfl
theorem k_X5_isClosed_9 (ca : Nat → ClassId) : k_X5_isClosed ca 9 = i_icmp (fun x y => ¬ x = y) 16 12 := rfl
theorem k_X5_isClosed_12 (ca : Nat → ClassId) : k_X5_isClosed ca 12 = i_push (.int 1) 13 := rfl
theorem k_X5_isClosed_13 (ca : Nat → ClassId) : k_X5_isClosed ca 13 = i_goto 17 := rfl
theorem k_X5_isClosed_16 (ca : Nat → ClassId) : k_X5_isClosed ca 16 = i_push (.int 0) 17 := rfl
theorem k_X5_isClosed_17 (ca : Nat → ClassId) : k_X5_isClosed ca 17 = i_icmp (fun x y => ¬ x = y) 24 20 := rfl
theorem k_X5_isClosed_20 (ca : Nat → ClassId) : k_X5_isClosed ca 20 = i_push (.int 1) 21 := rfl
theorem k_X5_isClosed_21 (ca : Nat → ClassId) : k_X5_isClosed ca 21 = i_goto 25 := rfl
theorem k_X5_isClosed_24 (ca : Nat → ClassId) : k_X5_isClosed ca 24 = i_push (.int 0) 25 := rfl
theorem k_X5_isClosed_25 (ca : Nat → ClassId) : k_X5_isClosed ca 25 = i_zret := rfl
set_option maxHeartbeats 4000000 in
set_option maxRecDepth 20000 in
theorem ok_X5_isClosed (l : Launch) (D : va_G) (ca : Nat → ClassId) : OkAll l D ca yX5_isClosed cX5_isClosed 1 (some .boolean) 0 0 0 (sp_X5_isClosed ca) := by
  intro av h post hs
  unfold sp_X5_isClosed at hs
  split at hs
  · split at hs
    · rename_i ha
      refine okM_of t_X5_isClosed (by decide +kernel) (c1_ref c1_nil) (Nat.le_of_ble_eq_true rfl) ?_
      intro K go
      refine go (stp []) 40 _ _ _ _ _ _ ?_
      simp only [wpS, ite_not, i_push, i_iload, i_lload, i_aload, i_istore, i_astore, i_lstore, i_iinc, i_bin, i_dv, i_un, i_lbin, i_lsh, i_i2l, i_l2i, i_lcmp, i_dup, i_dup2, i_pop, i_if, i_icmp, i_goto, swG, i_sw, i_getf, i_puti, i_putz, i_putr, i_ald, i_lald, i_aald, i_ast, i_last, i_aast, i_alen, i_new, i_newi, i_newl, i_newq, i_oinit, i_ret, i_zret, i_lret, i_vret, catS, tk, rpush, isO, i_m1, i_m2, i_acopy, i_callV, i_callS, KRet, lget, lput, lputL, lcl0, isL, lv0, List.map_cons, List.map_nil, List.length_cons, List.length_nil, List.cons_append, List.nil_append, Nat.reduceAdd, Nat.reduceSub, Nat.reduceLeDiff, List.replicate_succ, List.replicate_zero, List.getElem?_cons_succ, List.getElem?_cons_zero, List.set_cons_succ, List.set_cons_zero, true_and, and_true, if_true, if_false, reduceIte, Nat.le_refl, Value.category, va_up_app, eq_self, stp, Nat.reduceBEq, Bool.or_false, Bool.false_or, Bool.true_or, Bool.or_true, or_true, true_or, bx_uu, implies_true, true_implies, not_true, not_false_eq_true, false_implies, and_self, Nat.reduceLT, Int32.reduceAdd, Int32.reduceSub, Int32.reduceMul, Int32.reduceLE, Int32.reduceLT, Int32.reduceToNatClampNeg, va_rf_some, Bool.false_eq_true, k_X5_isClosed_0 ca, k_X5_isClosed_1 ca, k_X5_isClosed_4 ca, k_X5_isClosed_5 ca, k_X5_isClosed_8 ca, k_X5_isClosed_9 ca, k_X5_isClosed_12 ca, k_X5_isClosed_13 ca, k_X5_isClosed_16 ca, k_X5_isClosed_17 ca, k_X5_isClosed_20 ca, k_X5_isClosed_21 ca, k_X5_isClosed_24 ca, k_X5_isClosed_25 ca, ha]
      clear go
      (repeat' first | intro _ | apply And.intro | apply ifp) <;> first | (simp_all [closedF, b2i, -Int32.not_lt, -Int32.not_le]; done)
    · exact hs.elim
  · exact hs.elim
def pulledF (lo hi si bend : Int32) : Bool := if si = 0 then !(decide (bend < hi)) else !(decide (lo < bend))
def sp_X5_isPulledBy (_ : Nat → ClassId) : SPEC := fun av h post => match av with
  | [.ref a, .int bend] => (match h a with
    | some (.inr (5, [.ref l, .ref u, .ref w, .int n, .int lo, .int hi, .int la, .int pu, .int sn, .int ki, .int si])) => post (some (.int (b2i (pulledF lo hi si bend)))) h
    | _ => False)
  | _ => False
def k_X5_isPulledBy (ca : Nat → ClassId) : Nat → IT := fun pc => lk pc [(0, i_aload 0 1),
  (1, i_getf 5 10 4),
  (4, i_if (fun x => x = 0) 23 7),
  (7, i_iload 1 8),
  (8, i_aload 0 9),
  (9, i_getf 5 4 12),
  (12, i_icmp (fun x y => y < x) 19 15),
  (15, i_push (.int 1) 16),
  (16, i_goto 36),
  (19, i_push (.int 0) 20),
  (20, i_goto 36),
  (23, i_iload 1 24),
  (24, i_aload 0 25),
  (25, i_getf 5 5 28),
  (28, i_icmp (fun x y => x < y) 35 31),
  (31, i_push (.int 1) 32),
  (32, i_goto 36),
  (35, i_push (.int 0) 36),
  (36, i_zret)]
set_option maxRecDepth 20000 in
theorem t_X5_isPulledBy : Tb k_X5_isPulledBy yX5_isPulledBy cX5_isPulledBy 2 (some .boolean) 0 0 0 := by
  intro l D ca A p e s m args below meth c post X
  unfold k_X5_isPulledBy
  refine snd_cons (snd_aload_n X dX5_isPulledBy_0 rfl) ?_
  refine snd_cons (snd_getf X Fk5 10 (by decide) w_57 dX5_isPulledBy_1) ?_
  refine snd_cons (snd_if_eq X dX5_isPulledBy_4 (by decide)) ?_
  refine snd_cons (snd_iload_n X dX5_isPulledBy_7 rfl) ?_
  refine snd_cons (snd_aload_n X dX5_isPulledBy_8 rfl) ?_
  refine snd_cons (snd_getf X Fk5 4 (by decide) w_43 dX5_isPulledBy_9) ?_
  refine snd_cons (snd_icmp_gt X dX5_isPulledBy_12 (by decide)) ?_
  refine snd_cons (snd_iconst X dX5_isPulledBy_15 (by decide)) ?_
  refine snd_cons (snd_goto X dX5_isPulledBy_16 (by decide)) ?_
  refine snd_cons (snd_iconst X dX5_isPulledBy_19 (by decide)) ?_
  refine snd_cons (snd_goto X dX5_isPulledBy_20 (by decide)) ?_
  refine snd_cons (snd_iload_n X dX5_isPulledBy_23 rfl) ?_
  refine snd_cons (snd_aload_n X dX5_isPulledBy_24 rfl) ?_
  refine snd_cons (snd_getf X Fk5 5 (by decide) w_45 dX5_isPulledBy_25) ?_
  refine snd_cons (snd_icmp_lt X dX5_isPulledBy_28 (by decide)) ?_
  refine snd_cons (snd_iconst X dX5_isPulledBy_31 (by decide)) ?_
  refine snd_cons (snd_goto X dX5_isPulledBy_32 (by decide)) ?_
  refine snd_cons (snd_iconst X dX5_isPulledBy_35 (by decide)) ?_
  refine snd_cons (snd_zret X dX5_isPulledBy_36) ?_
  exact snd_nil
theorem k_X5_isPulledBy_0 (ca : Nat → ClassId) : k_X5_isPulledBy ca 0 = i_aload 0 1 := rfl
theorem k_X5_isPulledBy_1 (ca : Nat → ClassId) : k_X5_isPulledBy ca 1 = i_getf 5 10 4 := rfl
theorem k_X5_isPulledBy_4 (ca : Nat → ClassId) : k_X5_isPulledBy ca 4 = i_if (fun x => x = 0) 23 7 := rfl
theorem k_X5_isPulledBy_7 (ca : Nat → ClassId) : k_X5_isPulledBy ca 7 = i_iload 1 8 := rfl
theorem k_X5_isPulledBy_8 (ca : Nat → ClassId) : k_X5_isPulledBy ca 8 = i_aload 0 9 := rfl
theorem k_X5_isPulledBy_9 (ca : Nat → ClassId) : k_X5_isPulledBy ca 9 = i_getf 5 4 12 := rfl
theorem k_X5_isPulledBy_12 (ca : Nat → ClassId) : k_X5_isPulledBy ca 12 = i_icmp (fun x y => y < x) 19 15 := rfl
theorem k_X5_isPulledBy_15 (ca : Nat → ClassId) : k_X5_isPulledBy ca 15 = i_push (.int 1) 16 := rfl
theorem k_X5_isPulledBy_16 (ca : Nat → ClassId) : k_X5_isPulledBy ca 16 = i_goto 36 := rfl
theorem k_X5_isPulledBy_19 (ca : Nat → ClassId) : k_X5_isPulledBy ca 19 = i_push (.int 0) 20 := rfl
theorem k_X5_isPulledBy_20 (ca : Nat → ClassId) : k_X5_isPulledBy ca 20 = i_goto 36 := rfl
theorem k_X5_isPulledBy_23 (ca : Nat → ClassId) : k_X5_isPulledBy ca 23 = i_iload 1 24 := rfl
theorem k_X5_isPulledBy_24 (ca : Nat → ClassId) : k_X5_isPulledBy ca 24 = i_aload 0 25 := rfl
theorem k_X5_isPulledBy_25 (ca : Nat → ClassId) : k_X5_isPulledBy ca 25 = i_getf 5 5 28 := rfl
theorem k_X5_isPulledBy_28 (ca : Nat → ClassId) : k_X5_isPulledBy ca 28 = i_icmp (fun x y => x < y) 35 31 := rfl
theorem k_X5_isPulledBy_31 (ca : Nat → ClassId) : k_X5_isPulledBy ca 31 = i_push (.int 1) 32 := rfl
theorem k_X5_isPulledBy_32 (ca : Nat → ClassId) : k_X5_isPulledBy ca 32 = i_goto 36 := rfl
theorem k_X5_isPulledBy_35 (ca : Nat → ClassId) : k_X5_isPulledBy ca 35 = i_push (.int 0) 36 := rfl
theorem k_X5_isPulledBy_36 (ca : Nat → ClassId) : k_X5_isPulledBy ca 36 = i_zret := rfl
set_option maxHeartbeats 4000000 in
set_option maxRecDepth 20000 in
theorem ok_X5_isPulledBy (l : Launch) (D : va_G) (ca : Nat → ClassId) : OkAll l D ca yX5_isPulledBy cX5_isPulledBy 2 (some .boolean) 0 0 0 (sp_X5_isPulledBy ca) := by
  intro av h post hs
  unfold sp_X5_isPulledBy at hs
  split at hs
  · split at hs
    · rename_i ha
      refine okM_of t_X5_isPulledBy (by decide +kernel) (c1_ref (c1_int c1_nil)) (Nat.le_of_ble_eq_true rfl) ?_
      intro K go
      refine go (stp []) 40 _ _ _ _ _ _ ?_
      simp only [wpS, ite_not, i_push, i_iload, i_lload, i_aload, i_istore, i_astore, i_lstore, i_iinc, i_bin, i_dv, i_un, i_lbin, i_lsh, i_i2l, i_l2i, i_lcmp, i_dup, i_dup2, i_pop, i_if, i_icmp, i_goto, swG, i_sw, i_getf, i_puti, i_putz, i_putr, i_ald, i_lald, i_aald, i_ast, i_last, i_aast, i_alen, i_new, i_newi, i_newl, i_newq, i_oinit, i_ret, i_zret, i_lret, i_vret, catS, tk, rpush, isO, i_m1, i_m2, i_acopy, i_callV, i_callS, KRet, lget, lput, lputL, lcl0, isL, lv0, List.map_cons, List.map_nil, List.length_cons, List.length_nil, List.cons_append, List.nil_append, Nat.reduceAdd, Nat.reduceSub, Nat.reduceLeDiff, List.replicate_succ, List.replicate_zero, List.getElem?_cons_succ, List.getElem?_cons_zero, List.set_cons_succ, List.set_cons_zero, true_and, and_true, if_true, if_false, reduceIte, Nat.le_refl, Value.category, va_up_app, eq_self, stp, Nat.reduceBEq, Bool.or_false, Bool.false_or, Bool.true_or, Bool.or_true, or_true, true_or, bx_uu, implies_true, true_implies, not_true, not_false_eq_true, false_implies, and_self, Nat.reduceLT, Int32.reduceAdd, Int32.reduceSub, Int32.reduceMul, Int32.reduceLE, Int32.reduceLT, Int32.reduceToNatClampNeg, va_rf_some, Bool.false_eq_true, k_X5_isPulledBy_0 ca, k_X5_isPulledBy_1 ca, k_X5_isPulledBy_4 ca, k_X5_isPulledBy_7 ca, k_X5_isPulledBy_8 ca, k_X5_isPulledBy_9 ca, k_X5_isPulledBy_12 ca, k_X5_isPulledBy_15 ca, k_X5_isPulledBy_16 ca, k_X5_isPulledBy_19 ca, k_X5_isPulledBy_20 ca, k_X5_isPulledBy_23 ca, k_X5_isPulledBy_24 ca, k_X5_isPulledBy_25 ca, k_X5_isPulledBy_28 ca, k_X5_isPulledBy_31 ca, k_X5_isPulledBy_32 ca, k_X5_isPulledBy_35 ca, k_X5_isPulledBy_36 ca, ha]
      clear go
      (repeat' first | intro _ | apply And.intro | apply ifp) <;> first | (simp_all [pulledF, b2i, -Int32.not_lt, -Int32.not_le]; done)
    · exact hs.elim
  · exact hs.elim
/-- pulls, snapped, changes -/
def chPu (lo hi la pu si bend : Int32) : Int32 := if pulledF lo hi si bend = false then 0 else if la ≤ pu then 0 else pu + 1
def chSi (lo hi la pu si bend : Int32) : Int32 := if pulledF lo hi si bend = false then si else if la ≤ pu then (if si = 0 then 1 else 0) else si
def chB (lo hi la pu si bend : Int32) : Bool := pulledF lo hi si bend && decide (la ≤ pu)
def sp_X5_changesBy (_ : Nat → ClassId) : SPEC := fun av h post => match av with
  | [.ref a, .int bend] => (match h a with
    | some (.inr (5, [.ref l, .ref u, .ref w, .int n, .int lo, .int hi, .int la, .int pu, .int sn, .int ki, .int si])) => post (some (.int (b2i (chB lo hi la pu si bend)))) (va_up h a (some (.inr (5, [.ref l, .ref u, .ref w, .int n, .int lo, .int hi, .int la, .int (chPu lo hi la pu si bend), .int sn, .int ki, .int (chSi lo hi la pu si bend)]))))
    | _ => False)
  | _ => False
def k_X5_changesBy (ca : Nat → ClassId) : Nat → IT := fun pc => lk pc [(0, i_aload 0 1),
  (1, i_iload 1 2),
  (2, i_callV 5 1 0 0 0 0 (sp_X5_isPulledBy ca) 5),
  (5, i_if (fun x => ¬ x = 0) 15 8),
  (8, i_aload 0 9),
  (9, i_push (.int 0) 10),
  (10, i_puti 5 7 13),
  (13, i_push (.int 0) 14),
  (14, i_zret),
  (15, i_aload 0 16),
  (16, i_getf 5 7 19),
  (19, i_aload 0 20),
  (20, i_getf 5 6 23),
  (23, i_icmp (fun x y => y ≤ x) 38 26),
  (26, i_aload 0 27),
  (27, i_dup 28),
  (28, i_getf 5 7 31),
  (31, i_push (.int 1) 32),
  (32, i_bin (fun x y => x + y) 33),
  (33, i_puti 5 7 36),
  (36, i_push (.int 0) 37),
  (37, i_zret),
  (38, i_aload 0 39),
  (39, i_push (.int 0) 40),
  (40, i_puti 5 7 43),
  (43, i_aload 0 44),
  (44, i_aload 0 45),
  (45, i_getf 5 10 48),
  (48, i_if (fun x => ¬ x = 0) 55 51),
  (51, i_push (.int 1) 52),
  (52, i_goto 56),
  (55, i_push (.int 0) 56),
  (56, i_putz 5 10 59),
  (59, i_push (.int 1) 60),
  (60, i_zret)]
set_option maxRecDepth 20000 in
theorem t_X5_changesBy : Tb k_X5_changesBy yX5_changesBy cX5_changesBy 2 (some .boolean) 1 0 0 := by
  intro l D ca A p e s m args below meth c post X
  unfold k_X5_changesBy
  refine snd_cons (snd_aload_n X dX5_changesBy_0 rfl) ?_
  refine snd_cons (snd_iload_n X dX5_changesBy_1 rfl) ?_
  refine snd_cons (snd_callV X Fk5 (ok_X5_isPulledBy l D ca) rfl rfl w_458 w_459 w_460 w_3 w_461 (by decide) (by decide) dX5_changesBy_2) ?_
  refine snd_cons (snd_if_ne X dX5_changesBy_5 (by decide)) ?_
  refine snd_cons (snd_aload_n X dX5_changesBy_8 rfl) ?_
  refine snd_cons (snd_iconst X dX5_changesBy_9 (by decide)) ?_
  refine snd_cons (snd_puti X Fk5 7 (by decide) rfl rfl w_49 dX5_changesBy_10) ?_
  refine snd_cons (snd_iconst X dX5_changesBy_13 (by decide)) ?_
  refine snd_cons (snd_zret X dX5_changesBy_14) ?_
  refine snd_cons (snd_aload_n X dX5_changesBy_15 rfl) ?_
  refine snd_cons (snd_getf X Fk5 7 (by decide) w_49 dX5_changesBy_16) ?_
  refine snd_cons (snd_aload_n X dX5_changesBy_19 rfl) ?_
  refine snd_cons (snd_getf X Fk5 6 (by decide) w_47 dX5_changesBy_20) ?_
  refine snd_cons (snd_icmp_ge X dX5_changesBy_23 (by decide)) ?_
  refine snd_cons (snd_aload_n X dX5_changesBy_26 rfl) ?_
  refine snd_cons (snd_dup X dX5_changesBy_27) ?_
  refine snd_cons (snd_getf X Fk5 7 (by decide) w_49 dX5_changesBy_28) ?_
  refine snd_cons (snd_iconst X dX5_changesBy_31 (by decide)) ?_
  refine snd_cons (snd_iadd X dX5_changesBy_32) ?_
  refine snd_cons (snd_puti X Fk5 7 (by decide) rfl rfl w_49 dX5_changesBy_33) ?_
  refine snd_cons (snd_iconst X dX5_changesBy_36 (by decide)) ?_
  refine snd_cons (snd_zret X dX5_changesBy_37) ?_
  refine snd_cons (snd_aload_n X dX5_changesBy_38 rfl) ?_
  refine snd_cons (snd_iconst X dX5_changesBy_39 (by decide)) ?_
  refine snd_cons (snd_puti X Fk5 7 (by decide) rfl rfl w_49 dX5_changesBy_40) ?_
  refine snd_cons (snd_aload_n X dX5_changesBy_43 rfl) ?_
  refine snd_cons (snd_aload_n X dX5_changesBy_44 rfl) ?_
  refine snd_cons (snd_getf X Fk5 10 (by decide) w_57 dX5_changesBy_45) ?_
  refine snd_cons (snd_if_ne X dX5_changesBy_48 (by decide)) ?_
  refine snd_cons (snd_iconst X dX5_changesBy_51 (by decide)) ?_
  refine snd_cons (snd_goto X dX5_changesBy_52 (by decide)) ?_
  refine snd_cons (snd_iconst X dX5_changesBy_55 (by decide)) ?_
  refine snd_cons (snd_putz X Fk5 10 (by decide) rfl rfl w_57 dX5_changesBy_56) ?_
  refine snd_cons (snd_iconst X dX5_changesBy_59 (by decide)) ?_
  refine snd_cons (snd_zret X dX5_changesBy_60) ?_
  exact snd_nil
theorem k_X5_changesBy_0 (ca : Nat → ClassId) : k_X5_changesBy ca 0 = i_aload 0 1 := rfl
theorem k_X5_changesBy_1 (ca : Nat → ClassId) : k_X5_changesBy ca 1 = i_iload 1 2 := rfl
theorem k_X5_changesBy_2 (ca : Nat → ClassId) : k_X5_changesBy ca 2 = i_callV 5 1 0 0 0 0 (sp_X5_isPulledBy ca) 5 := rfl
theorem k_X5_changesBy_5 (ca : Nat → ClassId) : k_X5_changesBy ca 5 = i_if (fun x => ¬ x = 0) 15 8 := rfl
theorem k_X5_changesBy_8 (ca : Nat → ClassId) : k_X5_changesBy ca 8 = i_aload 0 9 := rfl
theorem k_X5_changesBy_9 (ca : Nat → ClassId) : k_X5_changesBy ca 9 = i_push (.int 0) 10 := rfl
theorem k_X5_changesBy_10 (ca : Nat → ClassId) : k_X5_changesBy ca 10 = i_puti 5 7 13 := rfl
theorem k_X5_changesBy_13 (ca : Nat → ClassId) : k_X5_changesBy ca 13 = i_push (.int 0) 14 := rfl
theorem k_X5_changesBy_14 (ca : Nat → ClassId) : k_X5_changesBy ca 14 = i_zret := rfl
theorem k_X5_changesBy_15 (ca : Nat → ClassId) : k_X5_changesBy ca 15 = i_aload 0 16 := rfl
theorem k_X5_changesBy_16 (ca : Nat → ClassId) : k_X5_changesBy ca 16 = i_getf 5 7 19 := rfl
theorem k_X5_changesBy_19 (ca : Nat → ClassId) : k_X5_changesBy ca 19 = i_aload 0 20 := rfl
theorem k_X5_changesBy_20 (ca : Nat → ClassId) : k_X5_changesBy ca 20 = i_getf 5 6 23 := rfl
theorem k_X5_changesBy_23 (ca : Nat → ClassId) : k_X5_changesBy ca 23 = i_icmp (fun x y => y ≤ x) 38 26 := rfl
theorem k_X5_changesBy_26 (ca : Nat → ClassId) : k_X5_changesBy ca 26 = i_aload 0 27 := rfl
theorem k_X5_changesBy_27 (ca : Nat → ClassId) : k_X5_changesBy ca 27 = i_dup 28 := rfl
theorem k_X5_changesBy_28 (ca : Nat → ClassId) : k_X5_changesBy ca 28 = i_getf 5 7 31 := rfl
theorem k_X5_changesBy_31 (ca : Nat → ClassId) : k_X5_changesBy ca 31 = i_push (.int 1) 32 := rfl
theorem k_X5_changesBy_32 (ca : Nat → ClassId) : k_X5_changesBy ca 32 = i_bin (fun x y => x + y) 33 := rfl
theorem k_X5_changesBy_33 (ca : Nat → ClassId) : k_X5_changesBy ca 33 = i_puti 5 7 36 := rfl
theorem k_X5_changesBy_36 (ca : Nat → ClassId) : k_X5_changesBy ca 36 = i_push (.int 0) 37 := rfl
theorem k_X5_changesBy_37 (ca : Nat → ClassId) : k_X5_changesBy ca 37 = i_zret := rfl
theorem k_X5_changesBy_38 (ca : Nat → ClassId) : k_X5_changesBy ca 38 = i_aload 0 39 := rfl
theorem k_X5_changesBy_39 (ca : Nat → ClassId) : k_X5_changesBy ca 39 = i_push (.int 0) 40 := rfl
theorem k_X5_changesBy_40 (ca : Nat → ClassId) : k_X5_changesBy ca 40 = i_puti 5 7 43 := rfl
theorem k_X5_changesBy_43 (ca : Nat → ClassId) : k_X5_changesBy ca 43 = i_aload 0 44 := rfl
theorem k_X5_changesBy_44 (ca : Nat → ClassId) : k_X5_changesBy ca 44 = i_aload 0 45 := rfl
theorem k_X5_changesBy_45 (ca : Nat → ClassId) : k_X5_changesBy ca 45 = i_getf 5 10 48 := rfl
theorem k_X5_changesBy_48 (ca : Nat → ClassId) : k_X5_changesBy ca 48 = i_if (fun x => ¬ x = 0) 55 51 := rfl
theorem k_X5_changesBy_51 (ca : Nat → ClassId) : k_X5_changesBy ca 51 = i_push (.int 1) 52 := rfl
theorem k_X5_changesBy_52 (ca : Nat → ClassId) : k_X5_changesBy ca 52 = i_goto 56 := rfl
theorem k_X5_changesBy_55 (ca : Nat → ClassId) : k_X5_changesBy ca 55 = i_push (.int 0) 56 := rfl
theorem k_X5_changesBy_56 (ca : Nat → ClassId) : k_X5_changesBy ca 56 = i_putz 5 10 59 := rfl
theorem k_X5_changesBy_59 (ca : Nat → ClassId) : k_X5_changesBy ca 59 = i_push (.int 1) 60 := rfl
theorem k_X5_changesBy_60 (ca : Nat → ClassId) : k_X5_changesBy ca 60 = i_zret := rfl
set_option maxHeartbeats 4000000 in
set_option maxRecDepth 20000 in
theorem ok_X5_changesBy (l : Launch) (D : va_G) (ca : Nat → ClassId) : OkAll l D ca yX5_changesBy cX5_changesBy 2 (some .boolean) 1 0 0 (sp_X5_changesBy ca) := by
  intro av h post hs
  unfold sp_X5_changesBy at hs
  split at hs
  · split at hs
    · rename_i ha
      refine okM_of t_X5_changesBy (by decide +kernel) (c1_ref (c1_int c1_nil)) (Nat.le_of_ble_eq_true rfl) ?_
      intro K go
      refine go (stp []) 60 _ _ _ _ _ _ ?_
      simp only [wpS, ite_not, i_push, i_iload, i_lload, i_aload, i_istore, i_astore, i_lstore, i_iinc, i_bin, i_dv, i_un, i_lbin, i_lsh, i_i2l, i_l2i, i_lcmp, i_dup, i_dup2, i_pop, i_if, i_icmp, i_goto, swG, i_sw, i_getf, i_puti, i_putz, i_putr, i_ald, i_lald, i_aald, i_ast, i_last, i_aast, i_alen, i_new, i_newi, i_newl, i_newq, i_oinit, i_ret, i_zret, i_lret, i_vret, catS, tk, rpush, isO, i_m1, i_m2, i_acopy, i_callV, i_callS, KRet, lget, lput, lputL, lcl0, isL, lv0, List.map_cons, List.map_nil, List.length_cons, List.length_nil, List.cons_append, List.nil_append, Nat.reduceAdd, Nat.reduceSub, Nat.reduceLeDiff, List.replicate_succ, List.replicate_zero, List.getElem?_cons_succ, List.getElem?_cons_zero, List.set_cons_succ, List.set_cons_zero, true_and, and_true, if_true, if_false, reduceIte, Nat.le_refl, Value.category, va_up_app, eq_self, stp, Nat.reduceBEq, Bool.or_false, Bool.false_or, Bool.true_or, Bool.or_true, or_true, true_or, bx_uu, implies_true, true_implies, not_true, not_false_eq_true, false_implies, and_self, Nat.reduceLT, Int32.reduceAdd, Int32.reduceSub, Int32.reduceMul, Int32.reduceLE, Int32.reduceLT, Int32.reduceToNatClampNeg, va_rf_some, Bool.false_eq_true, k_X5_changesBy_0 ca, k_X5_changesBy_1 ca, k_X5_changesBy_2 ca, k_X5_changesBy_5 ca, k_X5_changesBy_8 ca, k_X5_changesBy_9 ca, k_X5_changesBy_10 ca, k_X5_changesBy_13 ca, k_X5_changesBy_14 ca, k_X5_changesBy_15 ca, k_X5_changesBy_16 ca, k_X5_changesBy_19 ca, k_X5_changesBy_20 ca, k_X5_changesBy_23 ca, k_X5_changesBy_26 ca, k_X5_changesBy_27 ca, k_X5_changesBy_28 ca, k_X5_changesBy_31 ca, k_X5_changesBy_32 ca, k_X5_changesBy_33 ca, k_X5_changesBy_36 ca, k_X5_changesBy_37 ca, k_X5_changesBy_38 ca, k_X5_changesBy_39 ca, k_X5_changesBy_40 ca, k_X5_changesBy_43 ca, k_X5_changesBy_44 ca, k_X5_changesBy_45 ca, k_X5_changesBy_48 ca, k_X5_changesBy_51 ca, k_X5_changesBy_52 ca, k_X5_changesBy_55 ca, k_X5_changesBy_56 ca, k_X5_changesBy_59 ca, k_X5_changesBy_60 ca, ha, sp_X5_isPulledBy, b2i_0, b2i_1]
      clear go
      (repeat' first | intro _ | apply And.intro | apply ifp) <;> first | (simp_all [chPu, chSi, chB, b2i, -Int32.not_lt, -Int32.not_le]; done)
    · exact hs.elim
  · exact hs.elim
def tireF (sn hi lo un by' : Int32) : Int32 := if un ≤ 0 then hi else if ¬ sn - sn / un * un = 0 then hi else if hi - by' ≤ lo then hi else hi - by'
def sp_X5_getTired (_ : Nat → ClassId) : SPEC := fun av h post => match av with
  | [.ref a, .int un, .int by'] => (match h a with
    | some (.inr (5, [.ref l, .ref u, .ref w, .int n, .int lo, .int hi, .int la, .int pu, .int sn, .int ki, .int si])) => post none (va_up h a (some (.inr (5, [.ref l, .ref u, .ref w, .int n, .int lo, .int (tireF sn hi lo un by'), .int la, .int pu, .int sn, .int ki, .int si]))))
    | _ => False)
  | _ => False
theorem up_id {h : PH} {a : Nat} {e : va_E} (ha : h a = some e) : va_up h a (some e) = h := by
  funext b
  by_cases hb : b = a
  · subst hb; rw [va_up_self, ha]
  · rw [va_up_ne _ _ hb]
theorem nle_ne {x : Int32} (h : ¬ x ≤ 0) : ¬ x = 0 := fun z => h (by subst z; decide)
def k_X5_getTired (ca : Nat → ClassId) : Nat → IT := fun pc => lk pc [(0, i_iload 1 1),
  (1, i_if (fun x => x ≤ 0) 36 4),
  (4, i_aload 0 5),
  (5, i_getf 5 8 8),
  (8, i_iload 1 9),
  (9, i_dv (fun x y => x - x / y * y) 10),
  (10, i_if (fun x => ¬ x = 0) 36 13),
  (13, i_aload 0 14),
  (14, i_getf 5 5 17),
  (17, i_iload 2 18),
  (18, i_bin (fun x y => x - y) 19),
  (19, i_aload 0 20),
  (20, i_getf 5 4 23),
  (23, i_icmp (fun x y => x ≤ y) 36 26),
  (26, i_aload 0 27),
  (27, i_dup 28),
  (28, i_getf 5 5 31),
  (31, i_iload 2 32),
  (32, i_bin (fun x y => x - y) 33),
  (33, i_puti 5 5 36),
  (36, i_vret)]
set_option maxRecDepth 20000 in
theorem t_X5_getTired : Tb k_X5_getTired yX5_getTired cX5_getTired 3 none 0 0 0 := by
  intro l D ca A p e s m args below meth c post X
  unfold k_X5_getTired
  refine snd_cons (snd_iload_n X dX5_getTired_0 rfl) ?_
  refine snd_cons (snd_if_le X dX5_getTired_1 (by decide)) ?_
  refine snd_cons (snd_aload_n X dX5_getTired_4 rfl) ?_
  refine snd_cons (snd_getf X Fk5 8 (by decide) w_52 dX5_getTired_5) ?_
  refine snd_cons (snd_iload_n X dX5_getTired_8 rfl) ?_
  refine snd_cons (snd_irem X dX5_getTired_9) ?_
  refine snd_cons (snd_if_ne X dX5_getTired_10 (by decide)) ?_
  refine snd_cons (snd_aload_n X dX5_getTired_13 rfl) ?_
  refine snd_cons (snd_getf X Fk5 5 (by decide) w_45 dX5_getTired_14) ?_
  refine snd_cons (snd_iload_n X dX5_getTired_17 rfl) ?_
  refine snd_cons (snd_isub X dX5_getTired_18) ?_
  refine snd_cons (snd_aload_n X dX5_getTired_19 rfl) ?_
  refine snd_cons (snd_getf X Fk5 4 (by decide) w_43 dX5_getTired_20) ?_
  refine snd_cons (snd_icmp_le X dX5_getTired_23 (by decide)) ?_
  refine snd_cons (snd_aload_n X dX5_getTired_26 rfl) ?_
  refine snd_cons (snd_dup X dX5_getTired_27) ?_
  refine snd_cons (snd_getf X Fk5 5 (by decide) w_45 dX5_getTired_28) ?_
  refine snd_cons (snd_iload_n X dX5_getTired_31 rfl) ?_
  refine snd_cons (snd_isub X dX5_getTired_32) ?_
  refine snd_cons (snd_puti X Fk5 5 (by decide) rfl rfl w_45 dX5_getTired_33) ?_
  refine snd_cons (snd_vret X dX5_getTired_36) ?_
  exact snd_nil
theorem k_X5_getTired_0 (ca : Nat → ClassId) : k_X5_getTired ca 0 = i_iload 1 1 := rfl
theorem k_X5_getTired_1 (ca : Nat → ClassId) : k_X5_getTired ca 1 = i_if (fun x => x ≤ 0) 36 4 := rfl
theorem k_X5_getTired_4 (ca : Nat → ClassId) : k_X5_getTired ca 4 = i_aload 0 5 := rfl
theorem k_X5_getTired_5 (ca : Nat → ClassId) : k_X5_getTired ca 5 = i_getf 5 8 8 := rfl
theorem k_X5_getTired_8 (ca : Nat → ClassId) : k_X5_getTired ca 8 = i_iload 1 9 := rfl
theorem k_X5_getTired_9 (ca : Nat → ClassId) : k_X5_getTired ca 9 = i_dv (fun x y => x - x / y * y) 10 := rfl
theorem k_X5_getTired_10 (ca : Nat → ClassId) : k_X5_getTired ca 10 = i_if (fun x => ¬ x = 0) 36 13 := rfl
theorem k_X5_getTired_13 (ca : Nat → ClassId) : k_X5_getTired ca 13 = i_aload 0 14 := rfl
theorem k_X5_getTired_14 (ca : Nat → ClassId) : k_X5_getTired ca 14 = i_getf 5 5 17 := rfl
theorem k_X5_getTired_17 (ca : Nat → ClassId) : k_X5_getTired ca 17 = i_iload 2 18 := rfl
theorem k_X5_getTired_18 (ca : Nat → ClassId) : k_X5_getTired ca 18 = i_bin (fun x y => x - y) 19 := rfl
theorem k_X5_getTired_19 (ca : Nat → ClassId) : k_X5_getTired ca 19 = i_aload 0 20 := rfl
theorem k_X5_getTired_20 (ca : Nat → ClassId) : k_X5_getTired ca 20 = i_getf 5 4 23 := rfl
theorem k_X5_getTired_23 (ca : Nat → ClassId) : k_X5_getTired ca 23 = i_icmp (fun x y => x ≤ y) 36 26 := rfl
theorem k_X5_getTired_26 (ca : Nat → ClassId) : k_X5_getTired ca 26 = i_aload 0 27 := rfl
theorem k_X5_getTired_27 (ca : Nat → ClassId) : k_X5_getTired ca 27 = i_dup 28 := rfl
theorem k_X5_getTired_28 (ca : Nat → ClassId) : k_X5_getTired ca 28 = i_getf 5 5 31 := rfl
theorem k_X5_getTired_31 (ca : Nat → ClassId) : k_X5_getTired ca 31 = i_iload 2 32 := rfl
theorem k_X5_getTired_32 (ca : Nat → ClassId) : k_X5_getTired ca 32 = i_bin (fun x y => x - y) 33 := rfl
theorem k_X5_getTired_33 (ca : Nat → ClassId) : k_X5_getTired ca 33 = i_puti 5 5 36 := rfl
theorem k_X5_getTired_36 (ca : Nat → ClassId) : k_X5_getTired ca 36 = i_vret := rfl
set_option maxHeartbeats 4000000 in
set_option maxRecDepth 20000 in
theorem ok_X5_getTired (l : Launch) (D : va_G) (ca : Nat → ClassId) : OkAll l D ca yX5_getTired cX5_getTired 3 none 0 0 0 (sp_X5_getTired ca) := by
  intro av h post hs
  unfold sp_X5_getTired at hs
  split at hs
  · split at hs
    · rename_i ha
      refine okM_of t_X5_getTired (by decide +kernel) (c1_ref (c1_int (c1_int c1_nil))) (Nat.le_of_ble_eq_true rfl) ?_
      intro K go
      refine go (stp []) 60 _ _ _ _ _ _ ?_
      simp only [wpS, ite_not, i_push, i_iload, i_lload, i_aload, i_istore, i_astore, i_lstore, i_iinc, i_bin, i_dv, i_un, i_lbin, i_lsh, i_i2l, i_l2i, i_lcmp, i_dup, i_dup2, i_pop, i_if, i_icmp, i_goto, swG, i_sw, i_getf, i_puti, i_putz, i_putr, i_ald, i_lald, i_aald, i_ast, i_last, i_aast, i_alen, i_new, i_newi, i_newl, i_newq, i_oinit, i_ret, i_zret, i_lret, i_vret, catS, tk, rpush, isO, i_m1, i_m2, i_acopy, i_callV, i_callS, KRet, lget, lput, lputL, lcl0, isL, lv0, List.map_cons, List.map_nil, List.length_cons, List.length_nil, List.cons_append, List.nil_append, Nat.reduceAdd, Nat.reduceSub, Nat.reduceLeDiff, List.replicate_succ, List.replicate_zero, List.getElem?_cons_succ, List.getElem?_cons_zero, List.set_cons_succ, List.set_cons_zero, true_and, and_true, if_true, if_false, reduceIte, Nat.le_refl, Value.category, va_up_app, eq_self, stp, Nat.reduceBEq, Bool.or_false, Bool.false_or, Bool.true_or, Bool.or_true, or_true, true_or, bx_uu, implies_true, true_implies, not_true, not_false_eq_true, false_implies, and_self, Nat.reduceLT, Int32.reduceAdd, Int32.reduceSub, Int32.reduceMul, Int32.reduceLE, Int32.reduceLT, Int32.reduceToNatClampNeg, va_rf_some, Bool.false_eq_true, k_X5_getTired_0 ca, k_X5_getTired_1 ca, k_X5_getTired_4 ca, k_X5_getTired_5 ca, k_X5_getTired_8 ca, k_X5_getTired_9 ca, k_X5_getTired_10 ca, k_X5_getTired_13 ca, k_X5_getTired_14 ca, k_X5_getTired_17 ca, k_X5_getTired_18 ca, k_X5_getTired_19 ca, k_X5_getTired_20 ca, k_X5_getTired_23 ca, k_X5_getTired_26 ca, k_X5_getTired_27 ca, k_X5_getTired_28 ca, k_X5_getTired_31 ca, k_X5_getTired_32 ca, k_X5_getTired_33 ca, k_X5_getTired_36 ca, ha]
      have hid := up_id ha
      clear go
      (repeat' first | intro _ | apply And.intro | apply ifp) <;> first | (simp_all [tireF, nle_ne, -Int32.not_lt, -Int32.not_le]; done)
    · exact hs.elim
  · exact hs.elim
def sp_X2_lossTo (_ : Nat → ClassId) : SPEC := fun av h post => match av with
  | [.ref a, .int o] => (match h a with
    | some (.inr (2, [.int wa, .int po, .int di, .int op, .int ct, .int gr, .int le])) => post (some (.int (if di = 0 then 0 else (wa - o) / di))) h
    | _ => False)
  | _ => False
def k_X2_lossTo (ca : Nat → ClassId) : Nat → IT := fun pc => lk pc [(0, i_aload 0 1),
  (1, i_getf 2 2 4),
  (4, i_if (fun x => ¬ x = 0) 11 7),
  (7, i_push (.int 0) 8),
  (8, i_goto 22),
  (11, i_aload 0 12),
  (12, i_getf 2 0 15),
  (15, i_iload 1 16),
  (16, i_bin (fun x y => x - y) 17),
  (17, i_aload 0 18),
  (18, i_getf 2 2 21),
  (21, i_dv (fun x y => x / y) 22),
  (22, i_ret)]
set_option maxRecDepth 20000 in
theorem t_X2_lossTo : Tb k_X2_lossTo yX2_lossTo cX2_lossTo 2 (some .int) 0 0 0 := by
  intro l D ca A p e s m args below meth c post X
  unfold k_X2_lossTo
  refine snd_cons (snd_aload_n X dX2_lossTo_0 rfl) ?_
  refine snd_cons (snd_getf X Fk2 2 (by decide) w_95 dX2_lossTo_1) ?_
  refine snd_cons (snd_if_ne X dX2_lossTo_4 (by decide)) ?_
  refine snd_cons (snd_iconst X dX2_lossTo_7 (by decide)) ?_
  refine snd_cons (snd_goto X dX2_lossTo_8 (by decide)) ?_
  refine snd_cons (snd_aload_n X dX2_lossTo_11 rfl) ?_
  refine snd_cons (snd_getf X Fk2 0 (by decide) w_89 dX2_lossTo_12) ?_
  refine snd_cons (snd_iload_n X dX2_lossTo_15 rfl) ?_
  refine snd_cons (snd_isub X dX2_lossTo_16) ?_
  refine snd_cons (snd_aload_n X dX2_lossTo_17 rfl) ?_
  refine snd_cons (snd_getf X Fk2 2 (by decide) w_95 dX2_lossTo_18) ?_
  refine snd_cons (snd_idiv X dX2_lossTo_21) ?_
  refine snd_cons (snd_ret X dX2_lossTo_22) ?_
  exact snd_nil
theorem k_X2_lossTo_0 (ca : Nat → ClassId) : k_X2_lossTo ca 0 = i_aload 0 1 := rfl
theorem k_X2_lossTo_1 (ca : Nat → ClassId) : k_X2_lossTo ca 1 = i_getf 2 2 4 := rfl
theorem k_X2_lossTo_4 (ca : Nat → ClassId) : k_X2_lossTo ca 4 = i_if (fun x => ¬ x = 0) 11 7 := rfl
theorem k_X2_lossTo_7 (ca : Nat → ClassId) : k_X2_lossTo ca 7 = i_push (.int 0) 8 := rfl
theorem k_X2_lossTo_8 (ca : Nat → ClassId) : k_X2_lossTo ca 8 = i_goto 22 := rfl
theorem k_X2_lossTo_11 (ca : Nat → ClassId) : k_X2_lossTo ca 11 = i_aload 0 12 := rfl
theorem k_X2_lossTo_12 (ca : Nat → ClassId) : k_X2_lossTo ca 12 = i_getf 2 0 15 := rfl
theorem k_X2_lossTo_15 (ca : Nat → ClassId) : k_X2_lossTo ca 15 = i_iload 1 16 := rfl
theorem k_X2_lossTo_16 (ca : Nat → ClassId) : k_X2_lossTo ca 16 = i_bin (fun x y => x - y) 17 := rfl
theorem k_X2_lossTo_17 (ca : Nat → ClassId) : k_X2_lossTo ca 17 = i_aload 0 18 := rfl
theorem k_X2_lossTo_18 (ca : Nat → ClassId) : k_X2_lossTo ca 18 = i_getf 2 2 21 := rfl
theorem k_X2_lossTo_21 (ca : Nat → ClassId) : k_X2_lossTo ca 21 = i_dv (fun x y => x / y) 22 := rfl
theorem k_X2_lossTo_22 (ca : Nat → ClassId) : k_X2_lossTo ca 22 = i_ret := rfl
set_option maxHeartbeats 4000000 in
set_option maxRecDepth 20000 in
theorem ok_X2_lossTo (l : Launch) (D : va_G) (ca : Nat → ClassId) : OkAll l D ca yX2_lossTo cX2_lossTo 2 (some .int) 0 0 0 (sp_X2_lossTo ca) := by
  intro av h post hs
  unfold sp_X2_lossTo at hs
  split at hs
  · split at hs
    · rename_i ha
      refine okM_of t_X2_lossTo (by decide +kernel) (c1_ref (c1_int c1_nil)) (Nat.le_of_ble_eq_true rfl) ?_
      intro K go
      refine go (stp []) 60 _ _ _ _ _ _ ?_
      simp only [wpS, ite_not, i_push, i_iload, i_lload, i_aload, i_istore, i_astore, i_lstore, i_iinc, i_bin, i_dv, i_un, i_lbin, i_lsh, i_i2l, i_l2i, i_lcmp, i_dup, i_dup2, i_pop, i_if, i_icmp, i_goto, swG, i_sw, i_getf, i_puti, i_putz, i_putr, i_ald, i_lald, i_aald, i_ast, i_last, i_aast, i_alen, i_new, i_newi, i_newl, i_newq, i_oinit, i_ret, i_zret, i_lret, i_vret, catS, tk, rpush, isO, i_m1, i_m2, i_acopy, i_callV, i_callS, KRet, lget, lput, lputL, lcl0, isL, lv0, List.map_cons, List.map_nil, List.length_cons, List.length_nil, List.cons_append, List.nil_append, Nat.reduceAdd, Nat.reduceSub, Nat.reduceLeDiff, List.replicate_succ, List.replicate_zero, List.getElem?_cons_succ, List.getElem?_cons_zero, List.set_cons_succ, List.set_cons_zero, true_and, and_true, if_true, if_false, reduceIte, Nat.le_refl, Value.category, va_up_app, eq_self, stp, Nat.reduceBEq, Bool.or_false, Bool.false_or, Bool.true_or, Bool.or_true, or_true, true_or, bx_uu, implies_true, true_implies, not_true, not_false_eq_true, false_implies, and_self, Nat.reduceLT, Int32.reduceAdd, Int32.reduceSub, Int32.reduceMul, Int32.reduceLE, Int32.reduceLT, Int32.reduceToNatClampNeg, va_rf_some, Bool.false_eq_true, k_X2_lossTo_0 ca, k_X2_lossTo_1 ca, k_X2_lossTo_4 ca, k_X2_lossTo_7 ca, k_X2_lossTo_8 ca, k_X2_lossTo_11 ca, k_X2_lossTo_12 ca, k_X2_lossTo_15 ca, k_X2_lossTo_16 ca, k_X2_lossTo_17 ca, k_X2_lossTo_18 ca, k_X2_lossTo_21 ca, k_X2_lossTo_22 ca, ha]
      clear go
      (repeat' first | intro _ | apply And.intro | apply ifp) <;> first | (simp_all [-Int32.not_lt, -Int32.not_le]; done)
    · exact hs.elim
  · exact hs.elim
def isRoomAt (h : PH) (b : Nat) (w : Int32) : Prop := match h b with
  | some (.inr (2, .int wb :: _)) => wb = w
  | _ => False
def sp_X2_lossTo_ (_ : Nat → ClassId) : SPEC := fun av h post => match av with
  | [.ref a, .ref b] => (match h a with
    | some (.inr (2, .int wa :: _)) => (match h b with
      | some (.inr (2, .int wb :: _)) => post (some (.int ((wa - wb) / 10))) h
      | _ => False)
    | _ => False)
  | _ => False
def k_X2_lossTo_ (ca : Nat → ClassId) : Nat → IT := fun pc => lk pc [(0, i_aload 0 1),
  (1, i_getf 2 0 4),
  (4, i_aload 1 5),
  (5, i_getf 2 0 8),
  (8, i_bin (fun x y => x - y) 9),
  (9, i_push (.int 10) 11),
  (11, i_dv (fun x y => x / y) 12),
  (12, i_ret)]
set_option maxRecDepth 20000 in
theorem t_X2_lossTo_ : Tb k_X2_lossTo_ yX2_lossTo_ cX2_lossTo_ 2 (some .int) 0 0 0 := by
  intro l D ca A p e s m args below meth c post X
  unfold k_X2_lossTo_
  refine snd_cons (snd_aload_n X dX2_lossTo__0 rfl) ?_
  refine snd_cons (snd_getf X Fk2 0 (by decide) w_89 dX2_lossTo__1) ?_
  refine snd_cons (snd_aload_n X dX2_lossTo__4 rfl) ?_
  refine snd_cons (snd_getf X Fk2 0 (by decide) w_89 dX2_lossTo__5) ?_
  refine snd_cons (snd_isub X dX2_lossTo__8) ?_
  refine snd_cons (snd_bipush X dX2_lossTo__9 (by decide)) ?_
  refine snd_cons (snd_idiv X dX2_lossTo__11) ?_
  refine snd_cons (snd_ret X dX2_lossTo__12) ?_
  exact snd_nil
theorem k_X2_lossTo__0 (ca : Nat → ClassId) : k_X2_lossTo_ ca 0 = i_aload 0 1 := rfl
theorem k_X2_lossTo__1 (ca : Nat → ClassId) : k_X2_lossTo_ ca 1 = i_getf 2 0 4 := rfl
theorem k_X2_lossTo__4 (ca : Nat → ClassId) : k_X2_lossTo_ ca 4 = i_aload 1 5 := rfl
theorem k_X2_lossTo__5 (ca : Nat → ClassId) : k_X2_lossTo_ ca 5 = i_getf 2 0 8 := rfl
theorem k_X2_lossTo__8 (ca : Nat → ClassId) : k_X2_lossTo_ ca 8 = i_bin (fun x y => x - y) 9 := rfl
theorem k_X2_lossTo__9 (ca : Nat → ClassId) : k_X2_lossTo_ ca 9 = i_push (.int 10) 11 := rfl
theorem k_X2_lossTo__11 (ca : Nat → ClassId) : k_X2_lossTo_ ca 11 = i_dv (fun x y => x / y) 12 := rfl
theorem k_X2_lossTo__12 (ca : Nat → ClassId) : k_X2_lossTo_ ca 12 = i_ret := rfl
set_option maxHeartbeats 4000000 in
set_option maxRecDepth 20000 in
theorem ok_X2_lossTo_ (l : Launch) (D : va_G) (ca : Nat → ClassId) : OkAll l D ca yX2_lossTo_ cX2_lossTo_ 2 (some .int) 0 0 0 (sp_X2_lossTo_ ca) := by
  intro av h post hs
  unfold sp_X2_lossTo_ at hs
  split at hs
  · split at hs
    · rename_i ha
      split at hs
      · rename_i hb
        refine okM_of t_X2_lossTo_ (by decide +kernel) (c1_ref (c1_ref c1_nil)) (Nat.le_of_ble_eq_true rfl) ?_
        intro K go
        refine go (stp []) 60 _ _ _ _ _ _ ?_
        simp only [wpS, ite_not, i_push, i_iload, i_lload, i_aload, i_istore, i_astore, i_lstore, i_iinc, i_bin, i_dv, i_un, i_lbin, i_lsh, i_i2l, i_l2i, i_lcmp, i_dup, i_dup2, i_pop, i_if, i_icmp, i_goto, swG, i_sw, i_getf, i_puti, i_putz, i_putr, i_ald, i_lald, i_aald, i_ast, i_last, i_aast, i_alen, i_new, i_newi, i_newl, i_newq, i_oinit, i_ret, i_zret, i_lret, i_vret, catS, tk, rpush, isO, i_m1, i_m2, i_acopy, i_callV, i_callS, KRet, lget, lput, lputL, lcl0, isL, lv0, List.map_cons, List.map_nil, List.length_cons, List.length_nil, List.cons_append, List.nil_append, Nat.reduceAdd, Nat.reduceSub, Nat.reduceLeDiff, List.replicate_succ, List.replicate_zero, List.getElem?_cons_succ, List.getElem?_cons_zero, List.set_cons_succ, List.set_cons_zero, true_and, and_true, if_true, if_false, reduceIte, Nat.le_refl, Value.category, va_up_app, eq_self, stp, Nat.reduceBEq, Bool.or_false, Bool.false_or, Bool.true_or, Bool.or_true, or_true, true_or, bx_uu, implies_true, true_implies, not_true, not_false_eq_true, false_implies, and_self, Nat.reduceLT, Int32.reduceAdd, Int32.reduceSub, Int32.reduceMul, Int32.reduceLE, Int32.reduceLT, Int32.reduceToNatClampNeg, va_rf_some, Bool.false_eq_true, k_X2_lossTo__0 ca, k_X2_lossTo__1 ca, k_X2_lossTo__4 ca, k_X2_lossTo__5 ca, k_X2_lossTo__8 ca, k_X2_lossTo__9 ca, k_X2_lossTo__11 ca, k_X2_lossTo__12 ca, ha, hb]
        exact ⟨by decide, hs⟩
      · exact hs.elim
    · exact hs.elim
  · exact hs.elim
def maxF (x y : Int32) : Int32 := if x < y then y else x
def minF (x y : Int32) : Int32 := if y < x then y else x
def sp_X2_come (_ : Nat → ClassId) : SPEC := fun av h post => match av with
  | [.ref a, .int v] => (match h a with
    | some (.inr (2, [.int wa, .int po, .int di, .int op, .int ct, .int gr, .int le])) => post none (va_up h a (some (.inr (2, [.int v, .int po, .int di, .int op, .int ct, .int (maxF gr v), .int (minF le v)]))))
    | _ => False)
  | _ => False
def k_X2_come (ca : Nat → ClassId) : Nat → IT := fun pc => lk pc [(0, i_aload 0 1),
  (1, i_iload 1 2),
  (2, i_puti 2 0 5),
  (5, i_aload 0 6),
  (6, i_aload 0 7),
  (7, i_getf 2 5 10),
  (10, i_iload 1 11),
  (11, i_m2 (fun x y => if x < y then y else x) 0 0 14),
  (14, i_puti 2 5 17),
  (17, i_aload 0 18),
  (18, i_aload 0 19),
  (19, i_getf 2 6 22),
  (22, i_iload 1 23),
  (23, i_m2 (fun x y => if y < x then y else x) 0 0 26),
  (26, i_puti 2 6 29),
  (29, i_vret)]
set_option maxRecDepth 20000 in
theorem t_X2_come : Tb k_X2_come yX2_come cX2_come 2 none 1 0 0 := by
  intro l D ca A p e s m args below meth c post X
  unfold k_X2_come
  refine snd_cons (snd_aload_n X dX2_come_0 rfl) ?_
  refine snd_cons (snd_iload_n X dX2_come_1 rfl) ?_
  refine snd_cons (snd_puti X Fk2 0 (by decide) rfl rfl w_89 dX2_come_2) ?_
  refine snd_cons (snd_aload_n X dX2_come_5 rfl) ?_
  refine snd_cons (snd_aload_n X dX2_come_6 rfl) ?_
  refine snd_cons (snd_getf X Fk2 5 (by decide) w_103 dX2_come_7) ?_
  refine snd_cons (snd_iload_n X dX2_come_10 rfl) ?_
  refine snd_cons (snd_mmax X rfl rfl w_448 w_382 w_9 w_383 (by decide) (by decide) dX2_come_11) ?_
  refine snd_cons (snd_puti X Fk2 5 (by decide) rfl rfl w_103 dX2_come_14) ?_
  refine snd_cons (snd_aload_n X dX2_come_17 rfl) ?_
  refine snd_cons (snd_aload_n X dX2_come_18 rfl) ?_
  refine snd_cons (snd_getf X Fk2 6 (by decide) w_105 dX2_come_19) ?_
  refine snd_cons (snd_iload_n X dX2_come_22 rfl) ?_
  refine snd_cons (snd_mmin X rfl rfl w_449 w_388 w_9 w_389 (by decide) (by decide) dX2_come_23) ?_
  refine snd_cons (snd_puti X Fk2 6 (by decide) rfl rfl w_105 dX2_come_26) ?_
  refine snd_cons (snd_vret X dX2_come_29) ?_
  exact snd_nil
theorem k_X2_come_0 (ca : Nat → ClassId) : k_X2_come ca 0 = i_aload 0 1 := rfl
theorem k_X2_come_1 (ca : Nat → ClassId) : k_X2_come ca 1 = i_iload 1 2 := rfl
theorem k_X2_come_2 (ca : Nat → ClassId) : k_X2_come ca 2 = i_puti 2 0 5 := rfl
theorem k_X2_come_5 (ca : Nat → ClassId) : k_X2_come ca 5 = i_aload 0 6 := rfl
theorem k_X2_come_6 (ca : Nat → ClassId) : k_X2_come ca 6 = i_aload 0 7 := rfl
theorem k_X2_come_7 (ca : Nat → ClassId) : k_X2_come ca 7 = i_getf 2 5 10 := rfl
theorem k_X2_come_10 (ca : Nat → ClassId) : k_X2_come ca 10 = i_iload 1 11 := rfl
theorem k_X2_come_11 (ca : Nat → ClassId) : k_X2_come ca 11 = i_m2 (fun x y => if x < y then y else x) 0 0 14 := rfl
theorem k_X2_come_14 (ca : Nat → ClassId) : k_X2_come ca 14 = i_puti 2 5 17 := rfl
theorem k_X2_come_17 (ca : Nat → ClassId) : k_X2_come ca 17 = i_aload 0 18 := rfl
theorem k_X2_come_18 (ca : Nat → ClassId) : k_X2_come ca 18 = i_aload 0 19 := rfl
theorem k_X2_come_19 (ca : Nat → ClassId) : k_X2_come ca 19 = i_getf 2 6 22 := rfl
theorem k_X2_come_22 (ca : Nat → ClassId) : k_X2_come ca 22 = i_iload 1 23 := rfl
theorem k_X2_come_23 (ca : Nat → ClassId) : k_X2_come ca 23 = i_m2 (fun x y => if y < x then y else x) 0 0 26 := rfl
theorem k_X2_come_26 (ca : Nat → ClassId) : k_X2_come ca 26 = i_puti 2 6 29 := rfl
theorem k_X2_come_29 (ca : Nat → ClassId) : k_X2_come ca 29 = i_vret := rfl
set_option maxHeartbeats 4000000 in
set_option maxRecDepth 20000 in
theorem ok_X2_come (l : Launch) (D : va_G) (ca : Nat → ClassId) : OkAll l D ca yX2_come cX2_come 2 none 1 0 0 (sp_X2_come ca) := by
  intro av h post hs
  unfold sp_X2_come at hs
  split at hs
  · split at hs
    · rename_i ha
      refine okM_of t_X2_come (by decide +kernel) (c1_ref (c1_int c1_nil)) (Nat.le_of_ble_eq_true rfl) ?_
      intro K go
      refine go (stp []) 60 _ _ _ _ _ _ ?_
      simp only [wpS, ite_not, i_push, i_iload, i_lload, i_aload, i_istore, i_astore, i_lstore, i_iinc, i_bin, i_dv, i_un, i_lbin, i_lsh, i_i2l, i_l2i, i_lcmp, i_dup, i_dup2, i_pop, i_if, i_icmp, i_goto, swG, i_sw, i_getf, i_puti, i_putz, i_putr, i_ald, i_lald, i_aald, i_ast, i_last, i_aast, i_alen, i_new, i_newi, i_newl, i_newq, i_oinit, i_ret, i_zret, i_lret, i_vret, catS, tk, rpush, isO, i_m1, i_m2, i_acopy, i_callV, i_callS, KRet, lget, lput, lputL, lcl0, isL, lv0, List.map_cons, List.map_nil, List.length_cons, List.length_nil, List.cons_append, List.nil_append, Nat.reduceAdd, Nat.reduceSub, Nat.reduceLeDiff, List.replicate_succ, List.replicate_zero, List.getElem?_cons_succ, List.getElem?_cons_zero, List.set_cons_succ, List.set_cons_zero, true_and, and_true, if_true, if_false, reduceIte, Nat.le_refl, Value.category, va_up_app, eq_self, stp, Nat.reduceBEq, Bool.or_false, Bool.false_or, Bool.true_or, Bool.or_true, or_true, true_or, bx_uu, implies_true, true_implies, not_true, not_false_eq_true, false_implies, and_self, Nat.reduceLT, Int32.reduceAdd, Int32.reduceSub, Int32.reduceMul, Int32.reduceLE, Int32.reduceLT, Int32.reduceToNatClampNeg, va_rf_some, Bool.false_eq_true, k_X2_come_0 ca, k_X2_come_1 ca, k_X2_come_2 ca, k_X2_come_5 ca, k_X2_come_6 ca, k_X2_come_7 ca, k_X2_come_10 ca, k_X2_come_11 ca, k_X2_come_14 ca, k_X2_come_17 ca, k_X2_come_18 ca, k_X2_come_19 ca, k_X2_come_22 ca, k_X2_come_23 ca, k_X2_come_26 ca, k_X2_come_29 ca, ha]
      exact hs
    · exact hs.elim
  · exact hs.elim
def sp_X2_copyFrom (_ : Nat → ClassId) : SPEC := fun av h post => match av with
  | [.ref a, .ref b] => (match h a with
    | some (.inr (2, [.int _, .int _, .int _, .int _, .int _, .int _, .int _])) => (match h b with
      | some (.inr (2, [.int wa, .int po, .int di, .int op, .int ct, .int gr, .int le])) => ¬ a = b ∧ (op = 0 ∨ op = 1) ∧ post none (va_up h a (some (.inr (2, [.int wa, .int po, .int di, .int op, .int ct, .int gr, .int le]))))
      | _ => False)
    | _ => False)
  | _ => False
def k_X2_copyFrom (ca : Nat → ClassId) : Nat → IT := fun pc => lk pc [(0, i_aload 0 1),
  (1, i_aload 1 2),
  (2, i_getf 2 0 5),
  (5, i_puti 2 0 8),
  (8, i_aload 0 9),
  (9, i_aload 1 10),
  (10, i_getf 2 1 13),
  (13, i_puti 2 1 16),
  (16, i_aload 0 17),
  (17, i_aload 1 18),
  (18, i_getf 2 2 21),
  (21, i_puti 2 2 24),
  (24, i_aload 0 25),
  (25, i_aload 1 26),
  (26, i_getf 2 3 29),
  (29, i_putz 2 3 32),
  (32, i_aload 0 33),
  (33, i_aload 1 34),
  (34, i_getf 2 4 37),
  (37, i_puti 2 4 40),
  (40, i_aload 0 41),
  (41, i_aload 1 42),
  (42, i_getf 2 5 45),
  (45, i_puti 2 5 48),
  (48, i_aload 0 49),
  (49, i_aload 1 50),
  (50, i_getf 2 6 53),
  (53, i_puti 2 6 56),
  (56, i_vret)]
set_option maxRecDepth 20000 in
theorem t_X2_copyFrom : Tb k_X2_copyFrom yX2_copyFrom cX2_copyFrom 2 none 0 0 0 := by
  intro l D ca A p e s m args below meth c post X
  unfold k_X2_copyFrom
  refine snd_cons (snd_aload_n X dX2_copyFrom_0 rfl) ?_
  refine snd_cons (snd_aload_n X dX2_copyFrom_1 rfl) ?_
  refine snd_cons (snd_getf X Fk2 0 (by decide) w_89 dX2_copyFrom_2) ?_
  refine snd_cons (snd_puti X Fk2 0 (by decide) rfl rfl w_89 dX2_copyFrom_5) ?_
  refine snd_cons (snd_aload_n X dX2_copyFrom_8 rfl) ?_
  refine snd_cons (snd_aload_n X dX2_copyFrom_9 rfl) ?_
  refine snd_cons (snd_getf X Fk2 1 (by decide) w_92 dX2_copyFrom_10) ?_
  refine snd_cons (snd_puti X Fk2 1 (by decide) rfl rfl w_92 dX2_copyFrom_13) ?_
  refine snd_cons (snd_aload_n X dX2_copyFrom_16 rfl) ?_
  refine snd_cons (snd_aload_n X dX2_copyFrom_17 rfl) ?_
  refine snd_cons (snd_getf X Fk2 2 (by decide) w_95 dX2_copyFrom_18) ?_
  refine snd_cons (snd_puti X Fk2 2 (by decide) rfl rfl w_95 dX2_copyFrom_21) ?_
  refine snd_cons (snd_aload_n X dX2_copyFrom_24 rfl) ?_
  refine snd_cons (snd_aload_n X dX2_copyFrom_25 rfl) ?_
  refine snd_cons (snd_getf X Fk2 3 (by decide) w_97 dX2_copyFrom_26) ?_
  refine snd_cons (snd_putz X Fk2 3 (by decide) rfl rfl w_97 dX2_copyFrom_29) ?_
  refine snd_cons (snd_aload_n X dX2_copyFrom_32 rfl) ?_
  refine snd_cons (snd_aload_n X dX2_copyFrom_33 rfl) ?_
  refine snd_cons (snd_getf X Fk2 4 (by decide) w_100 dX2_copyFrom_34) ?_
  refine snd_cons (snd_puti X Fk2 4 (by decide) rfl rfl w_100 dX2_copyFrom_37) ?_
  refine snd_cons (snd_aload_n X dX2_copyFrom_40 rfl) ?_
  refine snd_cons (snd_aload_n X dX2_copyFrom_41 rfl) ?_
  refine snd_cons (snd_getf X Fk2 5 (by decide) w_103 dX2_copyFrom_42) ?_
  refine snd_cons (snd_puti X Fk2 5 (by decide) rfl rfl w_103 dX2_copyFrom_45) ?_
  refine snd_cons (snd_aload_n X dX2_copyFrom_48 rfl) ?_
  refine snd_cons (snd_aload_n X dX2_copyFrom_49 rfl) ?_
  refine snd_cons (snd_getf X Fk2 6 (by decide) w_105 dX2_copyFrom_50) ?_
  refine snd_cons (snd_puti X Fk2 6 (by decide) rfl rfl w_105 dX2_copyFrom_53) ?_
  refine snd_cons (snd_vret X dX2_copyFrom_56) ?_
  exact snd_nil
theorem k_X2_copyFrom_0 (ca : Nat → ClassId) : k_X2_copyFrom ca 0 = i_aload 0 1 := rfl
theorem k_X2_copyFrom_1 (ca : Nat → ClassId) : k_X2_copyFrom ca 1 = i_aload 1 2 := rfl
theorem k_X2_copyFrom_2 (ca : Nat → ClassId) : k_X2_copyFrom ca 2 = i_getf 2 0 5 := rfl
theorem k_X2_copyFrom_5 (ca : Nat → ClassId) : k_X2_copyFrom ca 5 = i_puti 2 0 8 := rfl
theorem k_X2_copyFrom_8 (ca : Nat → ClassId) : k_X2_copyFrom ca 8 = i_aload 0 9 := rfl
theorem k_X2_copyFrom_9 (ca : Nat → ClassId) : k_X2_copyFrom ca 9 = i_aload 1 10 := rfl
theorem k_X2_copyFrom_10 (ca : Nat → ClassId) : k_X2_copyFrom ca 10 = i_getf 2 1 13 := rfl
theorem k_X2_copyFrom_13 (ca : Nat → ClassId) : k_X2_copyFrom ca 13 = i_puti 2 1 16 := rfl
theorem k_X2_copyFrom_16 (ca : Nat → ClassId) : k_X2_copyFrom ca 16 = i_aload 0 17 := rfl
theorem k_X2_copyFrom_17 (ca : Nat → ClassId) : k_X2_copyFrom ca 17 = i_aload 1 18 := rfl
theorem k_X2_copyFrom_18 (ca : Nat → ClassId) : k_X2_copyFrom ca 18 = i_getf 2 2 21 := rfl
theorem k_X2_copyFrom_21 (ca : Nat → ClassId) : k_X2_copyFrom ca 21 = i_puti 2 2 24 := rfl
theorem k_X2_copyFrom_24 (ca : Nat → ClassId) : k_X2_copyFrom ca 24 = i_aload 0 25 := rfl
theorem k_X2_copyFrom_25 (ca : Nat → ClassId) : k_X2_copyFrom ca 25 = i_aload 1 26 := rfl
theorem k_X2_copyFrom_26 (ca : Nat → ClassId) : k_X2_copyFrom ca 26 = i_getf 2 3 29 := rfl
theorem k_X2_copyFrom_29 (ca : Nat → ClassId) : k_X2_copyFrom ca 29 = i_putz 2 3 32 := rfl
theorem k_X2_copyFrom_32 (ca : Nat → ClassId) : k_X2_copyFrom ca 32 = i_aload 0 33 := rfl
theorem k_X2_copyFrom_33 (ca : Nat → ClassId) : k_X2_copyFrom ca 33 = i_aload 1 34 := rfl
theorem k_X2_copyFrom_34 (ca : Nat → ClassId) : k_X2_copyFrom ca 34 = i_getf 2 4 37 := rfl
theorem k_X2_copyFrom_37 (ca : Nat → ClassId) : k_X2_copyFrom ca 37 = i_puti 2 4 40 := rfl
theorem k_X2_copyFrom_40 (ca : Nat → ClassId) : k_X2_copyFrom ca 40 = i_aload 0 41 := rfl
theorem k_X2_copyFrom_41 (ca : Nat → ClassId) : k_X2_copyFrom ca 41 = i_aload 1 42 := rfl
theorem k_X2_copyFrom_42 (ca : Nat → ClassId) : k_X2_copyFrom ca 42 = i_getf 2 5 45 := rfl
theorem k_X2_copyFrom_45 (ca : Nat → ClassId) : k_X2_copyFrom ca 45 = i_puti 2 5 48 := rfl
theorem k_X2_copyFrom_48 (ca : Nat → ClassId) : k_X2_copyFrom ca 48 = i_aload 0 49 := rfl
theorem k_X2_copyFrom_49 (ca : Nat → ClassId) : k_X2_copyFrom ca 49 = i_aload 1 50 := rfl
theorem k_X2_copyFrom_50 (ca : Nat → ClassId) : k_X2_copyFrom ca 50 = i_getf 2 6 53 := rfl
theorem k_X2_copyFrom_53 (ca : Nat → ClassId) : k_X2_copyFrom ca 53 = i_puti 2 6 56 := rfl
theorem k_X2_copyFrom_56 (ca : Nat → ClassId) : k_X2_copyFrom ca 56 = i_vret := rfl
set_option maxHeartbeats 4000000 in
set_option maxRecDepth 20000 in
theorem ok_X2_copyFrom (l : Launch) (D : va_G) (ca : Nat → ClassId) : OkAll l D ca yX2_copyFrom cX2_copyFrom 2 none 0 0 0 (sp_X2_copyFrom ca) := by
  intro av h post hs
  unfold sp_X2_copyFrom at hs
  split at hs
  · split at hs
    · rename_i ha
      split at hs
      · rename_i hb
        obtain ⟨hab, hop, hs⟩ := hs
        have hba := Ne.symm hab
        refine okM_of t_X2_copyFrom (by decide +kernel) (c1_ref (c1_ref c1_nil)) (Nat.le_of_ble_eq_true rfl) ?_
        intro K go
        refine go (stp []) 60 _ _ _ _ _ _ ?_
        simp only [wpS, ite_not, i_push, i_iload, i_lload, i_aload, i_istore, i_astore, i_lstore, i_iinc, i_bin, i_dv, i_un, i_lbin, i_lsh, i_i2l, i_l2i, i_lcmp, i_dup, i_dup2, i_pop, i_if, i_icmp, i_goto, swG, i_sw, i_getf, i_puti, i_putz, i_putr, i_ald, i_lald, i_aald, i_ast, i_last, i_aast, i_alen, i_new, i_newi, i_newl, i_newq, i_oinit, i_ret, i_zret, i_lret, i_vret, catS, tk, rpush, isO, i_m1, i_m2, i_acopy, i_callV, i_callS, KRet, lget, lput, lputL, lcl0, isL, lv0, List.map_cons, List.map_nil, List.length_cons, List.length_nil, List.cons_append, List.nil_append, Nat.reduceAdd, Nat.reduceSub, Nat.reduceLeDiff, List.replicate_succ, List.replicate_zero, List.getElem?_cons_succ, List.getElem?_cons_zero, List.set_cons_succ, List.set_cons_zero, true_and, and_true, if_true, if_false, reduceIte, Nat.le_refl, Value.category, va_up_app, eq_self, stp, Nat.reduceBEq, Bool.or_false, Bool.false_or, Bool.true_or, Bool.or_true, or_true, true_or, bx_uu, implies_true, true_implies, not_true, not_false_eq_true, false_implies, and_self, Nat.reduceLT, Int32.reduceAdd, Int32.reduceSub, Int32.reduceMul, Int32.reduceLE, Int32.reduceLT, Int32.reduceToNatClampNeg, va_rf_some, Bool.false_eq_true, k_X2_copyFrom_0 ca, k_X2_copyFrom_1 ca, k_X2_copyFrom_2 ca, k_X2_copyFrom_5 ca, k_X2_copyFrom_8 ca, k_X2_copyFrom_9 ca, k_X2_copyFrom_10 ca, k_X2_copyFrom_13 ca, k_X2_copyFrom_16 ca, k_X2_copyFrom_17 ca, k_X2_copyFrom_18 ca, k_X2_copyFrom_21 ca, k_X2_copyFrom_24 ca, k_X2_copyFrom_25 ca, k_X2_copyFrom_26 ca, k_X2_copyFrom_29 ca, k_X2_copyFrom_32 ca, k_X2_copyFrom_33 ca, k_X2_copyFrom_34 ca, k_X2_copyFrom_37 ca, k_X2_copyFrom_40 ca, k_X2_copyFrom_41 ca, k_X2_copyFrom_42 ca, k_X2_copyFrom_45 ca, k_X2_copyFrom_48 ca, k_X2_copyFrom_49 ca, k_X2_copyFrom_50 ca, k_X2_copyFrom_53 ca, k_X2_copyFrom_56 ca, ha, hb, hab, hba, hop]
        exact hs
      · exact hs.elim
    · exact hs.elim
  · exact hs.elim

