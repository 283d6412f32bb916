/-! SnapStacksModel: adds -/
def sp_X8_adds (ca : Nat → ClassId) : SPEC := fun av h post => ∃ m a0 s k x y z N, k < 3 ∧ av = [.ref m, .int (nI k), .int x, .int y, .int z] ∧ MS ca h m a0 s ∧ ¬ m = a0 ∧ s (10 + 32 * k) = nI N ∧ N ≤ 8 ∧ (N = 8 → post (some (.int (-10000003))) h) ∧
  (N < 8 → post (some (.int (nI (N + 1)))) (va_up h a0 (some (.inl (ca 0, 127, .inl (upd (upd (upd (upd s (10 + 32 * k + 8 + 3 * N) x) (10 + 32 * k + 8 + 3 * N + 1) y) (10 + 32 * k + 8 + 3 * N + 2) z) (10 + 32 * k) (nI (N + 1))))))))
theorem n8 : nI 8 = 8 := rfl
def k_X8_adds (ca : Nat → ClassId) : Nat → IT := fun pc => lk pc [(0, i_aload 0 1),
  (1, i_iload 1 2),
  (2, i_callV 8 1 0 0 0 0 (sp_X8_many ca) 5),
  (5, i_push (.int 8) 7),
  (7, i_icmp (fun x y => ¬ x = y) 13 10),
  (10, i_push (.int (-10000003)) 12),
  (12, i_ret),
  (13, i_iload 1 14),
  (14, i_callS 1 0 0 0 0 (sp_X8_stripAt ca) 17),
  (17, i_push (.int 8) 19),
  (19, i_bin (fun x y => x + y) 20),
  (20, i_push (.int 3) 21),
  (21, i_aload 0 22),
  (22, i_iload 1 23),
  (23, i_callV 8 1 0 0 0 0 (sp_X8_many ca) 26),
  (26, i_bin (fun x y => x * y) 27),
  (27, i_bin (fun x y => x + y) 28),
  (28, i_istore 5 30),
  (30, i_aload 0 31),
  (31, i_getf 8 0 34),
  (34, i_iload 5 36),
  (36, i_iload 2 37),
  (37, i_ast (fun x => x) (ca 0) 38),
  (38, i_aload 0 39),
  (39, i_getf 8 0 42),
  (42, i_iload 5 44),
  (44, i_push (.int 1) 45),
  (45, i_bin (fun x y => x + y) 46),
  (46, i_iload 3 47),
  (47, i_ast (fun x => x) (ca 0) 48),
  (48, i_aload 0 49),
  (49, i_getf 8 0 52),
  (52, i_iload 5 54),
  (54, i_push (.int 2) 55),
  (55, i_bin (fun x y => x + y) 56),
  (56, i_iload 4 58),
  (58, i_ast (fun x => x) (ca 0) 59),
  (59, i_aload 0 60),
  (60, i_getf 8 0 63),
  (63, i_iload 1 64),
  (64, i_callS 1 0 0 0 0 (sp_X8_stripAt ca) 67),
  (67, i_push (.int 0) 68),
  (68, i_bin (fun x y => x + y) 69),
  (69, i_dup2 70),
  (70, i_ald (ca 0) 71),
  (71, i_push (.int 1) 72),
  (72, i_bin (fun x y => x + y) 73),
  (73, i_ast (fun x => x) (ca 0) 74),
  (74, i_aload 0 75),
  (75, i_iload 1 76),
  (76, i_callV 8 1 0 0 0 0 (sp_X8_many ca) 79),
  (79, i_ret)]
set_option maxRecDepth 20000 in
theorem t_X8_adds : Tb k_X8_adds yX8_adds cX8_adds 6 (some .int) 2 0 0 := by
  intro l D ca A p e s m args below meth c post X
  unfold k_X8_adds
  refine snd_cons (snd_aload_n X dX8_adds_0 rfl) ?_
  refine snd_cons (snd_iload_n X dX8_adds_1 rfl) ?_
  refine snd_cons (snd_callV X Fk8 (ok_X8_many l D ca) rfl rfl w_732 w_734 wp_21 w_9 w_735 (by decide) (by decide) dX8_adds_2) ?_
  refine snd_cons (snd_bipush X dX8_adds_5 (by decide)) ?_
  refine snd_cons (snd_icmp_ne X dX8_adds_7 (by decide)) ?_
  refine snd_cons (snd_ldc X w_736 dX8_adds_10) ?_
  refine snd_cons (snd_ret X dX8_adds_12) ?_
  refine snd_cons (snd_iload_n X dX8_adds_13 rfl) ?_
  refine snd_cons (snd_callS X (ok_X8_stripAt l D ca) rfl rfl w_641 w_642 w_9 w_643 (by decide) (by decide) dX8_adds_14) ?_
  refine snd_cons (snd_bipush X dX8_adds_17 (by decide)) ?_
  refine snd_cons (snd_iadd X dX8_adds_19) ?_
  refine snd_cons (snd_iconst X dX8_adds_20 (by decide)) ?_
  refine snd_cons (snd_aload_n X dX8_adds_21 rfl) ?_
  refine snd_cons (snd_iload_n X dX8_adds_22 rfl) ?_
  refine snd_cons (snd_callV X Fk8 (ok_X8_many l D ca) rfl rfl w_732 w_734 wp_21 w_9 w_735 (by decide) (by decide) dX8_adds_23) ?_
  refine snd_cons (snd_imul X dX8_adds_26) ?_
  refine snd_cons (snd_iadd X dX8_adds_27) ?_
  refine snd_cons (snd_istore X dX8_adds_28 (by decide)) ?_
  refine snd_cons (snd_aload_n X dX8_adds_30 rfl) ?_
  refine snd_cons (snd_getf X Fk8 0 (by decide) w_647 dX8_adds_31) ?_
  refine snd_cons (snd_iload X dX8_adds_34) ?_
  refine snd_cons (snd_iload_n X dX8_adds_36 rfl) ?_
  refine snd_cons (snd_iastore X dX8_adds_37) ?_
  refine snd_cons (snd_aload_n X dX8_adds_38 rfl) ?_
  refine snd_cons (snd_getf X Fk8 0 (by decide) w_647 dX8_adds_39) ?_
  refine snd_cons (snd_iload X dX8_adds_42) ?_
  refine snd_cons (snd_iconst X dX8_adds_44 (by decide)) ?_
  refine snd_cons (snd_iadd X dX8_adds_45) ?_
  refine snd_cons (snd_iload_n X dX8_adds_46 rfl) ?_
  refine snd_cons (snd_iastore X dX8_adds_47) ?_
  refine snd_cons (snd_aload_n X dX8_adds_48 rfl) ?_
  refine snd_cons (snd_getf X Fk8 0 (by decide) w_647 dX8_adds_49) ?_
  refine snd_cons (snd_iload X dX8_adds_52) ?_
  refine snd_cons (snd_iconst X dX8_adds_54 (by decide)) ?_
  refine snd_cons (snd_iadd X dX8_adds_55) ?_
  refine snd_cons (snd_iload X dX8_adds_56) ?_
  refine snd_cons (snd_iastore X dX8_adds_58) ?_
  refine snd_cons (snd_aload_n X dX8_adds_59 rfl) ?_
  refine snd_cons (snd_getf X Fk8 0 (by decide) w_647 dX8_adds_60) ?_
  refine snd_cons (snd_iload_n X dX8_adds_63 rfl) ?_
  refine snd_cons (snd_callS X (ok_X8_stripAt l D ca) rfl rfl w_641 w_642 w_9 w_643 (by decide) (by decide) dX8_adds_64) ?_
  refine snd_cons (snd_iconst X dX8_adds_67 (by decide)) ?_
  refine snd_cons (snd_iadd X dX8_adds_68) ?_
  refine snd_cons (snd_dup2 X dX8_adds_69) ?_
  refine snd_cons (snd_iaload X dX8_adds_70) ?_
  refine snd_cons (snd_iconst X dX8_adds_71 (by decide)) ?_
  refine snd_cons (snd_iadd X dX8_adds_72) ?_
  refine snd_cons (snd_iastore X dX8_adds_73) ?_
  refine snd_cons (snd_aload_n X dX8_adds_74 rfl) ?_
  refine snd_cons (snd_iload_n X dX8_adds_75 rfl) ?_
  refine snd_cons (snd_callV X Fk8 (ok_X8_many l D ca) rfl rfl w_732 w_734 wp_21 w_9 w_735 (by decide) (by decide) dX8_adds_76) ?_
  refine snd_cons (snd_ret X dX8_adds_79) ?_
  exact snd_nil
theorem k_X8_adds_0 (ca : Nat → ClassId) : k_X8_adds ca 0 = i_aload 0 1 := rfl
theorem k_X8_adds_1 (ca : Nat → ClassId) : k_X8_adds ca 1 = i_iload 1 2 := rfl
theorem k_X8_adds_2 (ca : Nat → ClassId) : k_X8_adds ca 2 = i_callV 8 1 0 0 0 0 (sp_X8_many ca) 5 := rfl
theorem k_X8_adds_5 (ca : Nat → ClassId) : k_X8_adds ca 5 = i_push (.int 8) 7 := rfl
theorem k_X8_adds_7 (ca : Nat → ClassId) : k_X8_adds ca 7 = i_icmp (fun x y => ¬ x = y) 13 10 := rfl
theorem k_X8_adds_10 (ca : Nat → ClassId) : k_X8_adds ca 10 = i_push (.int (-10000003)) 12 := rfl
theorem k_X8_adds_12 (ca : Nat → ClassId) : k_X8_adds ca 12 = i_ret := rfl
theorem k_X8_adds_13 (ca : Nat → ClassId) : k_X8_adds ca 13 = i_iload 1 14 := rfl
theorem k_X8_adds_14 (ca : Nat → ClassId) : k_X8_adds ca 14 = i_callS 1 0 0 0 0 (sp_X8_stripAt ca) 17 := rfl
theorem k_X8_adds_17 (ca : Nat → ClassId) : k_X8_adds ca 17 = i_push (.int 8) 19 := rfl
theorem k_X8_adds_19 (ca : Nat → ClassId) : k_X8_adds ca 19 = i_bin (fun x y => x + y) 20 := rfl
theorem k_X8_adds_20 (ca : Nat → ClassId) : k_X8_adds ca 20 = i_push (.int 3) 21 := rfl
theorem k_X8_adds_21 (ca : Nat → ClassId) : k_X8_adds ca 21 = i_aload 0 22 := rfl
theorem k_X8_adds_22 (ca : Nat → ClassId) : k_X8_adds ca 22 = i_iload 1 23 := rfl
theorem k_X8_adds_23 (ca : Nat → ClassId) : k_X8_adds ca 23 = i_callV 8 1 0 0 0 0 (sp_X8_many ca) 26 := rfl
theorem k_X8_adds_26 (ca : Nat → ClassId) : k_X8_adds ca 26 = i_bin (fun x y => x * y) 27 := rfl
theorem k_X8_adds_27 (ca : Nat → ClassId) : k_X8_adds ca 27 = i_bin (fun x y => x + y) 28 := rfl
theorem k_X8_adds_28 (ca : Nat → ClassId) : k_X8_adds ca 28 = i_istore 5 30 := rfl
theorem k_X8_adds_30 (ca : Nat → ClassId) : k_X8_adds ca 30 = i_aload 0 31 := rfl
theorem k_X8_adds_31 (ca : Nat → ClassId) : k_X8_adds ca 31 = i_getf 8 0 34 := rfl
theorem k_X8_adds_34 (ca : Nat → ClassId) : k_X8_adds ca 34 = i_iload 5 36 := rfl
theorem k_X8_adds_36 (ca : Nat → ClassId) : k_X8_adds ca 36 = i_iload 2 37 := rfl
theorem k_X8_adds_37 (ca : Nat → ClassId) : k_X8_adds ca 37 = i_ast (fun x => x) (ca 0) 38 := rfl
theorem k_X8_adds_38 (ca : Nat → ClassId) : k_X8_adds ca 38 = i_aload 0 39 := rfl
theorem k_X8_adds_39 (ca : Nat → ClassId) : k_X8_adds ca 39 = i_getf 8 0 42 := rfl
theorem k_X8_adds_42 (ca : Nat → ClassId) : k_X8_adds ca 42 = i_iload 5 44 := rfl
theorem k_X8_adds_44 (ca : Nat → ClassId) : k_X8_adds ca 44 = i_push (.int 1) 45 := rfl
theorem k_X8_adds_45 (ca : Nat → ClassId) : k_X8_adds ca 45 = i_bin (fun x y => x + y) 46 := rfl
theorem k_X8_adds_46 (ca : Nat → ClassId) : k_X8_adds ca 46 = i_iload 3 47 := rfl
theorem k_X8_adds_47 (ca : Nat → ClassId) : k_X8_adds ca 47 = i_ast (fun x => x) (ca 0) 48 := rfl
theorem k_X8_adds_48 (ca : Nat → ClassId) : k_X8_adds ca 48 = i_aload 0 49 := rfl
theorem k_X8_adds_49 (ca : Nat → ClassId) : k_X8_adds ca 49 = i_getf 8 0 52 := rfl
theorem k_X8_adds_52 (ca : Nat → ClassId) : k_X8_adds ca 52 = i_iload 5 54 := rfl
theorem k_X8_adds_54 (ca : Nat → ClassId) : k_X8_adds ca 54 = i_push (.int 2) 55 := rfl
theorem k_X8_adds_55 (ca : Nat → ClassId) : k_X8_adds ca 55 = i_bin (fun x y => x + y) 56 := rfl
theorem k_X8_adds_56 (ca : Nat → ClassId) : k_X8_adds ca 56 = i_iload 4 58 := rfl
theorem k_X8_adds_58 (ca : Nat → ClassId) : k_X8_adds ca 58 = i_ast (fun x => x) (ca 0) 59 := rfl
theorem k_X8_adds_59 (ca : Nat → ClassId) : k_X8_adds ca 59 = i_aload 0 60 := rfl
theorem k_X8_adds_60 (ca : Nat → ClassId) : k_X8_adds ca 60 = i_getf 8 0 63 := rfl
theorem k_X8_adds_63 (ca : Nat → ClassId) : k_X8_adds ca 63 = i_iload 1 64 := rfl
theorem k_X8_adds_64 (ca : Nat → ClassId) : k_X8_adds ca 64 = i_callS 1 0 0 0 0 (sp_X8_stripAt ca) 67 := rfl
theorem k_X8_adds_67 (ca : Nat → ClassId) : k_X8_adds ca 67 = i_push (.int 0) 68 := rfl
theorem k_X8_adds_68 (ca : Nat → ClassId) : k_X8_adds ca 68 = i_bin (fun x y => x + y) 69 := rfl
theorem k_X8_adds_69 (ca : Nat → ClassId) : k_X8_adds ca 69 = i_dup2 70 := rfl
theorem k_X8_adds_70 (ca : Nat → ClassId) : k_X8_adds ca 70 = i_ald (ca 0) 71 := rfl
theorem k_X8_adds_71 (ca : Nat → ClassId) : k_X8_adds ca 71 = i_push (.int 1) 72 := rfl
theorem k_X8_adds_72 (ca : Nat → ClassId) : k_X8_adds ca 72 = i_bin (fun x y => x + y) 73 := rfl
theorem k_X8_adds_73 (ca : Nat → ClassId) : k_X8_adds ca 73 = i_ast (fun x => x) (ca 0) 74 := rfl
theorem k_X8_adds_74 (ca : Nat → ClassId) : k_X8_adds ca 74 = i_aload 0 75 := rfl
theorem k_X8_adds_75 (ca : Nat → ClassId) : k_X8_adds ca 75 = i_iload 1 76 := rfl
theorem k_X8_adds_76 (ca : Nat → ClassId) : k_X8_adds ca 76 = i_callV 8 1 0 0 0 0 (sp_X8_many ca) 79 := rfl
theorem k_X8_adds_79 (ca : Nat → ClassId) : k_X8_adds ca 79 = i_ret := rfl
set_option maxHeartbeats 4000000 in
set_option maxRecDepth 20000 in
theorem ok_X8_adds (l : Launch) (D : va_G) (ca : Nat → ClassId) : OkAll l D ca yX8_adds cX8_adds 6 (some .int) 2 0 0 (sp_X8_adds ca) := by
  intro av h post hs
  obtain ⟨m, a0, s, k, x, y, z, N, hk, rfl, ⟨⟨r, hm⟩, hs0⟩, hma, hN, hN8, hA, hB⟩ := hs
  have z0 : vp_in (nI (10 + 32 * k)) 127 := vp127 (by omega)
  have z1 : (nI (10 + 32 * k)).toNatClampNeg = 10 + 32 * k := tn127 (by omega)
  refine okM_of t_X8_adds (by decide +kernel) (c1_ref (c1_int (c1_int (c1_int (c1_int c1_nil))))) (Nat.le_of_ble_eq_true rfl) ?_
  intro K go
  by_cases h8 : N = 8
  · subst h8
    have hs := hA rfl
    rw [n8] at hN
    refine go (stp []) 9 _ _ _ _ _ _ ?_
    simp only [wpS, ite_not, i_push, i_iload, i_lload, i_aload, i_istore, i_astore, i_lstore, i_iinc, i_bin, i_dv, i_un, i_lbin, i_lsh, i_i2l, i_l2i, i_lcmp, i_dup, i_dup2, i_pop, i_if, i_icmp, i_goto, swG, i_sw, i_getf, i_puti, i_putz, i_putr, i_ald, i_lald, i_aald, i_ast, i_last, i_aast, i_alen, i_new, i_newi, i_newl, i_newq, i_oinit, i_ret, i_zret, i_lret, i_vret, catS, tk, rpush, isO, i_m1, i_m2, i_acopy, i_callV, i_callS, KRet, lget, lput, lputL, lcl0, isL, lv0, List.map_cons, List.map_nil, List.length_cons, List.length_nil, List.cons_append, List.nil_append, Nat.reduceAdd, Nat.reduceSub, Nat.reduceLeDiff, List.replicate_succ, List.replicate_zero, List.getElem?_cons_succ, List.getElem?_cons_zero, List.set_cons_succ, List.set_cons_zero, true_and, and_true, if_true, if_false, reduceIte, Nat.le_refl, Value.category, va_up_app, eq_self, stp, Nat.reduceBEq, Bool.or_false, Bool.false_or, Bool.true_or, Bool.or_true, or_true, true_or, bx_uu, implies_true, true_implies, not_true, not_false_eq_true, false_implies, and_self, Nat.reduceLT, Int32.reduceAdd, Int32.reduceSub, Int32.reduceMul, Int32.reduceLE, Int32.reduceLT, Int32.reduceToNatClampNeg, va_rf_some, Bool.false_eq_true, k_X8_adds_0 ca, k_X8_adds_1 ca, k_X8_adds_2 ca, k_X8_adds_5 ca, k_X8_adds_7 ca, k_X8_adds_10 ca, k_X8_adds_12 ca, k_X8_adds_13 ca, k_X8_adds_14 ca, k_X8_adds_17 ca, k_X8_adds_19 ca, k_X8_adds_20 ca, k_X8_adds_21 ca, k_X8_adds_22 ca, k_X8_adds_23 ca, k_X8_adds_26 ca, k_X8_adds_27 ca, k_X8_adds_28 ca, k_X8_adds_30 ca, k_X8_adds_31 ca, k_X8_adds_34 ca, k_X8_adds_36 ca, k_X8_adds_37 ca, k_X8_adds_38 ca, k_X8_adds_39 ca, k_X8_adds_42 ca, k_X8_adds_44 ca, k_X8_adds_45 ca, k_X8_adds_46 ca, k_X8_adds_47 ca, k_X8_adds_48 ca, k_X8_adds_49 ca, k_X8_adds_52 ca, k_X8_adds_54 ca, k_X8_adds_55 ca, k_X8_adds_56 ca, k_X8_adds_58 ca, k_X8_adds_59 ca, k_X8_adds_60 ca, k_X8_adds_63 ca, k_X8_adds_64 ca, k_X8_adds_67 ca, k_X8_adds_68 ca, k_X8_adds_69 ca, k_X8_adds_70 ca, k_X8_adds_71 ca, k_X8_adds_72 ca, k_X8_adds_73 ca, k_X8_adds_74 ca, k_X8_adds_75 ca, k_X8_adds_76 ca, k_X8_adds_79 ca, hm, hs0, sp_X8_many, s10, a_0, z0, z1, hN]
    exact hs
  · have hs := hB (by omega)
    have h88 : ¬ nI N = 8 := fun q => h8 ((nI_eq (b := 8) (by omega) (by decide)).mp q)
    have y1 : vp_in (nI (10 + 32 * k + 8 + 3 * N)) 127 := vp127 (by omega)
    have x1 : (nI (10 + 32 * k + 8 + 3 * N)).toNatClampNeg = 10 + 32 * k + 8 + 3 * N := tn127 (by omega)
    have y2 : vp_in (nI (10 + 32 * k + 8 + 3 * N + 1)) 127 := vp127 (by omega)
    have x2 : (nI (10 + 32 * k + 8 + 3 * N + 1)).toNatClampNeg = 10 + 32 * k + 8 + 3 * N + 1 := tn127 (by omega)
    have y3 : vp_in (nI (10 + 32 * k + 8 + 3 * N + 2)) 127 := vp127 (by omega)
    have x3 : (nI (10 + 32 * k + 8 + 3 * N + 2)).toNatClampNeg = 10 + 32 * k + 8 + 3 * N + 2 := tn127 (by omega)
    have q1 : (10 + 32 * k = 10 + 32 * k + 8 + 3 * N + 2) = False := eq_false (by omega)
    have q2 : (10 + 32 * k = 10 + 32 * k + 8 + 3 * N + 1) = False := eq_false (by omega)
    have q3 : (10 + 32 * k = 10 + 32 * k + 8 + 3 * N) = False := eq_false (by omega)
    generalize hE : 10 + 32 * k + 8 + 3 * N = E at *
    have e0 : 10 + 32 * k + (8 + 3 * N) = E := by omega
    refine go (stp [30]) 15 _ _ _ _ _ _ ?_
    simp only [wpS, ite_not, i_push, i_iload, i_lload, i_aload, i_istore, i_astore, i_lstore, i_iinc, i_bin, i_dv, i_un, i_lbin, i_lsh, i_i2l, i_l2i, i_lcmp, i_dup, i_dup2, i_pop, i_if, i_icmp, i_goto, swG, i_sw, i_getf, i_puti, i_putz, i_putr, i_ald, i_lald, i_aald, i_ast, i_last, i_aast, i_alen, i_new, i_newi, i_newl, i_newq, i_oinit, i_ret, i_zret, i_lret, i_vret, catS, tk, rpush, isO, i_m1, i_m2, i_acopy, i_callV, i_callS, KRet, lget, lput, lputL, lcl0, isL, lv0, List.map_cons, List.map_nil, List.length_cons, List.length_nil, List.cons_append, List.nil_append, Nat.reduceAdd, Nat.reduceSub, Nat.reduceLeDiff, List.replicate_succ, List.replicate_zero, List.getElem?_cons_succ, List.getElem?_cons_zero, List.set_cons_succ, List.set_cons_zero, true_and, and_true, if_true, if_false, reduceIte, Nat.le_refl, Value.category, va_up_app, eq_self, stp, Nat.reduceBEq, Bool.or_false, Bool.false_or, Bool.true_or, Bool.or_true, or_true, true_or, bx_uu, implies_true, true_implies, not_true, not_false_eq_true, false_implies, and_self, Nat.reduceLT, Int32.reduceAdd, Int32.reduceSub, Int32.reduceMul, Int32.reduceLE, Int32.reduceLT, Int32.reduceToNatClampNeg, va_rf_some, Bool.false_eq_true, k_X8_adds_0 ca, k_X8_adds_1 ca, k_X8_adds_2 ca, k_X8_adds_5 ca, k_X8_adds_7 ca, k_X8_adds_10 ca, k_X8_adds_12 ca, k_X8_adds_13 ca, k_X8_adds_14 ca, k_X8_adds_17 ca, k_X8_adds_19 ca, k_X8_adds_20 ca, k_X8_adds_21 ca, k_X8_adds_22 ca, k_X8_adds_23 ca, k_X8_adds_26 ca, k_X8_adds_27 ca, k_X8_adds_28 ca, k_X8_adds_30 ca, k_X8_adds_31 ca, k_X8_adds_34 ca, k_X8_adds_36 ca, k_X8_adds_37 ca, k_X8_adds_38 ca, k_X8_adds_39 ca, k_X8_adds_42 ca, k_X8_adds_44 ca, k_X8_adds_45 ca, k_X8_adds_46 ca, k_X8_adds_47 ca, k_X8_adds_48 ca, k_X8_adds_49 ca, k_X8_adds_52 ca, k_X8_adds_54 ca, k_X8_adds_55 ca, k_X8_adds_56 ca, k_X8_adds_58 ca, k_X8_adds_59 ca, k_X8_adds_60 ca, k_X8_adds_63 ca, k_X8_adds_64 ca, k_X8_adds_67 ca, k_X8_adds_68 ca, k_X8_adds_69 ca, k_X8_adds_70 ca, k_X8_adds_71 ca, k_X8_adds_72 ca, k_X8_adds_73 ca, k_X8_adds_74 ca, k_X8_adds_75 ca, k_X8_adds_76 ca, k_X8_adds_79 ca, hm, hs0, sp_X8_many, sp_X8_stripAt, s10, a_0, a_8, m_3, nI_add, z0, z1, hN, h88, hE, e0]
    refine go (stp [59]) 19 _ _ _ _ _ _ ?_
    simp only [wpS, ite_not, i_push, i_iload, i_lload, i_aload, i_istore, i_astore, i_lstore, i_iinc, i_bin, i_dv, i_un, i_lbin, i_lsh, i_i2l, i_l2i, i_lcmp, i_dup, i_dup2, i_pop, i_if, i_icmp, i_goto, swG, i_sw, i_getf, i_puti, i_putz, i_putr, i_ald, i_lald, i_aald, i_ast, i_last, i_aast, i_alen, i_new, i_newi, i_newl, i_newq, i_oinit, i_ret, i_zret, i_lret, i_vret, catS, tk, rpush, isO, i_m1, i_m2, i_acopy, i_callV, i_callS, KRet, lget, lput, lputL, lcl0, isL, lv0, List.map_cons, List.map_nil, List.length_cons, List.length_nil, List.cons_append, List.nil_append, Nat.reduceAdd, Nat.reduceSub, Nat.reduceLeDiff, List.replicate_succ, List.replicate_zero, List.getElem?_cons_succ, List.getElem?_cons_zero, List.set_cons_succ, List.set_cons_zero, true_and, and_true, if_true, if_false, reduceIte, Nat.le_refl, Value.category, va_up_app, eq_self, stp, Nat.reduceBEq, Bool.or_false, Bool.false_or, Bool.true_or, Bool.or_true, or_true, true_or, bx_uu, implies_true, true_implies, not_true, not_false_eq_true, false_implies, and_self, Nat.reduceLT, Int32.reduceAdd, Int32.reduceSub, Int32.reduceMul, Int32.reduceLE, Int32.reduceLT, Int32.reduceToNatClampNeg, va_rf_some, Bool.false_eq_true, k_X8_adds_0 ca, k_X8_adds_1 ca, k_X8_adds_2 ca, k_X8_adds_5 ca, k_X8_adds_7 ca, k_X8_adds_10 ca, k_X8_adds_12 ca, k_X8_adds_13 ca, k_X8_adds_14 ca, k_X8_adds_17 ca, k_X8_adds_19 ca, k_X8_adds_20 ca, k_X8_adds_21 ca, k_X8_adds_22 ca, k_X8_adds_23 ca, k_X8_adds_26 ca, k_X8_adds_27 ca, k_X8_adds_28 ca, k_X8_adds_30 ca, k_X8_adds_31 ca, k_X8_adds_34 ca, k_X8_adds_36 ca, k_X8_adds_37 ca, k_X8_adds_38 ca, k_X8_adds_39 ca, k_X8_adds_42 ca, k_X8_adds_44 ca, k_X8_adds_45 ca, k_X8_adds_46 ca, k_X8_adds_47 ca, k_X8_adds_48 ca, k_X8_adds_49 ca, k_X8_adds_52 ca, k_X8_adds_54 ca, k_X8_adds_55 ca, k_X8_adds_56 ca, k_X8_adds_58 ca, k_X8_adds_59 ca, k_X8_adds_60 ca, k_X8_adds_63 ca, k_X8_adds_64 ca, k_X8_adds_67 ca, k_X8_adds_68 ca, k_X8_adds_69 ca, k_X8_adds_70 ca, k_X8_adds_71 ca, k_X8_adds_72 ca, k_X8_adds_73 ca, k_X8_adds_74 ca, k_X8_adds_75 ca, k_X8_adds_76 ca, k_X8_adds_79 ca, hm, hs0, hma, a_1, a_2, y1, x1, y2, x2, y3, x3]
    refine go (stp []) 20 _ _ _ _ _ _ ?_
    simp only [wpS, ite_not, i_push, i_iload, i_lload, i_aload, i_istore, i_astore, i_lstore, i_iinc, i_bin, i_dv, i_un, i_lbin, i_lsh, i_i2l, i_l2i, i_lcmp, i_dup, i_dup2, i_pop, i_if, i_icmp, i_goto, swG, i_sw, i_getf, i_puti, i_putz, i_putr, i_ald, i_lald, i_aald, i_ast, i_last, i_aast, i_alen, i_new, i_newi, i_newl, i_newq, i_oinit, i_ret, i_zret, i_lret, i_vret, catS, tk, rpush, isO, i_m1, i_m2, i_acopy, i_callV, i_callS, KRet, lget, lput, lputL, lcl0, isL, lv0, List.map_cons, List.map_nil, List.length_cons, List.length_nil, List.cons_append, List.nil_append, Nat.reduceAdd, Nat.reduceSub, Nat.reduceLeDiff, List.replicate_succ, List.replicate_zero, List.getElem?_cons_succ, List.getElem?_cons_zero, List.set_cons_succ, List.set_cons_zero, true_and, and_true, if_true, if_false, reduceIte, Nat.le_refl, Value.category, va_up_app, eq_self, stp, Nat.reduceBEq, Bool.or_false, Bool.false_or, Bool.true_or, Bool.or_true, or_true, true_or, bx_uu, implies_true, true_implies, not_true, not_false_eq_true, false_implies, and_self, Nat.reduceLT, Int32.reduceAdd, Int32.reduceSub, Int32.reduceMul, Int32.reduceLE, Int32.reduceLT, Int32.reduceToNatClampNeg, va_rf_some, Bool.false_eq_true, k_X8_adds_0 ca, k_X8_adds_1 ca, k_X8_adds_2 ca, k_X8_adds_5 ca, k_X8_adds_7 ca, k_X8_adds_10 ca, k_X8_adds_12 ca, k_X8_adds_13 ca, k_X8_adds_14 ca, k_X8_adds_17 ca, k_X8_adds_19 ca, k_X8_adds_20 ca, k_X8_adds_21 ca, k_X8_adds_22 ca, k_X8_adds_23 ca, k_X8_adds_26 ca, k_X8_adds_27 ca, k_X8_adds_28 ca, k_X8_adds_30 ca, k_X8_adds_31 ca, k_X8_adds_34 ca, k_X8_adds_36 ca, k_X8_adds_37 ca, k_X8_adds_38 ca, k_X8_adds_39 ca, k_X8_adds_42 ca, k_X8_adds_44 ca, k_X8_adds_45 ca, k_X8_adds_46 ca, k_X8_adds_47 ca, k_X8_adds_48 ca, k_X8_adds_49 ca, k_X8_adds_52 ca, k_X8_adds_54 ca, k_X8_adds_55 ca, k_X8_adds_56 ca, k_X8_adds_58 ca, k_X8_adds_59 ca, k_X8_adds_60 ca, k_X8_adds_63 ca, k_X8_adds_64 ca, k_X8_adds_67 ca, k_X8_adds_68 ca, k_X8_adds_69 ca, k_X8_adds_70 ca, k_X8_adds_71 ca, k_X8_adds_72 ca, k_X8_adds_73 ca, k_X8_adds_74 ca, k_X8_adds_75 ca, k_X8_adds_76 ca, k_X8_adds_79 ca, hm, hs0, hma, sp_X8_many, sp_X8_stripAt, s10, a_0, a_1, z0, z1, hN, upd_app, q1, q2, q3]
    exact hs
