/-! SnapStacksModel: sign, snapsOfAll, keeps, loop -/
def sgK (s : Nat → Int32) (k : Nat) (v : Int64) : Int64 := 6 * (2 * (v * 2001 + (s (106 + 7 * k)).toInt64 - -500) + (s (14 + 32 * k)).toInt64) + (s (15 + 32 * k)).toInt64
def sgS (s : Nat → Int32) : Int64 := sgK s 2 (sgK s 1 (sgK s 0 0))
theorem v14 : vp_in 14 127 := vpl (by decide)
theorem v15 : vp_in 15 127 := vpl (by decide)
theorem v46 : vp_in 46 127 := vpl (by decide)
theorem v47 : vp_in 47 127 := vpl (by decide)
theorem v78 : vp_in 78 127 := vpl (by decide)
theorem v79 : vp_in 79 127 := vpl (by decide)
theorem v106 : vp_in 106 127 := vpl (by decide)
theorem v113 : vp_in 113 127 := vpl (by decide)
theorem v120 : vp_in 120 127 := vpl (by decide)
theorem v16 : vp_in 16 127 := vpl (by decide)
theorem v48 : vp_in 48 127 := vpl (by decide)
theorem v80 : vp_in 80 127 := vpl (by decide)
def sp_X8_sign (ca : Nat → ClassId) : SPEC := fun av h post => ∃ m a0 s, av = [.ref m] ∧ MS ca h m a0 s ∧ post (some (.long (sgS s))) h
def k_X8_sign (ca : Nat → ClassId) : Nat → IT := fun pc => lk pc [(0, i_push (.long 0) 1),
  (1, i_lstore 1 2),
  (2, i_push (.int 0) 3),
  (3, i_istore 3 4),
  (4, i_iload 3 5),
  (5, i_push (.int 3) 6),
  (6, i_icmp (fun x y => y ≤ x) 74 9),
  (9, i_lload 1 10),
  (10, i_push (.long 2001) 13),
  (13, i_lbin (fun x y => x * y) 14),
  (14, i_aload 0 15),
  (15, i_getf 8 0 18),
  (18, i_iload 3 19),
  (19, i_callS 1 0 0 0 0 (sp_X8_roomAt ca) 22),
  (22, i_ald (ca 0) 23),
  (23, i_i2l 24),
  (24, i_lbin (fun x y => x + y) 25),
  (25, i_push (.long (-500)) 28),
  (28, i_lbin (fun x y => x - y) 29),
  (29, i_lstore 1 30),
  (30, i_push (.long 2) 33),
  (33, i_lload 1 34),
  (34, i_lbin (fun x y => x * y) 35),
  (35, i_aload 0 36),
  (36, i_getf 8 0 39),
  (39, i_iload 3 40),
  (40, i_callS 1 0 0 0 0 (sp_X8_stripAt ca) 43),
  (43, i_push (.int 4) 44),
  (44, i_bin (fun x y => x + y) 45),
  (45, i_ald (ca 0) 46),
  (46, i_i2l 47),
  (47, i_lbin (fun x y => x + y) 48),
  (48, i_lstore 1 49),
  (49, i_push (.long 6) 52),
  (52, i_lload 1 53),
  (53, i_lbin (fun x y => x * y) 54),
  (54, i_aload 0 55),
  (55, i_getf 8 0 58),
  (58, i_iload 3 59),
  (59, i_callS 1 0 0 0 0 (sp_X8_stripAt ca) 62),
  (62, i_push (.int 5) 63),
  (63, i_bin (fun x y => x + y) 64),
  (64, i_ald (ca 0) 65),
  (65, i_i2l 66),
  (66, i_lbin (fun x y => x + y) 67),
  (67, i_lstore 1 68),
  (68, i_iinc 3 1 71),
  (71, i_goto 4),
  (74, i_lload 1 75),
  (75, i_lret)]
set_option maxRecDepth 20000 in
theorem t_X8_sign : Tb k_X8_sign yX8_sign cX8_sign 4 (some .long) 1 0 0 := by
  intro l D ca A p e s m args below meth c post X
  unfold k_X8_sign
  refine snd_cons (snd_lconst X dX8_sign_0 (by decide)) ?_
  refine snd_cons (snd_lstore_n X dX8_sign_1 rfl (by decide)) ?_
  refine snd_cons (snd_iconst X dX8_sign_2 (by decide)) ?_
  refine snd_cons (snd_istore_n X dX8_sign_3 rfl (by decide)) ?_
  refine snd_cons (snd_iload_n X dX8_sign_4 rfl) ?_
  refine snd_cons (snd_iconst X dX8_sign_5 (by decide)) ?_
  refine snd_cons (snd_icmp_ge X dX8_sign_6 (by decide)) ?_
  refine snd_cons (snd_lload_n X dX8_sign_9 rfl) ?_
  refine snd_cons (snd_ldc2 X w_886 dX8_sign_10) ?_
  refine snd_cons (snd_lmul X dX8_sign_13) ?_
  refine snd_cons (snd_aload_n X dX8_sign_14 rfl) ?_
  refine snd_cons (snd_getf X Fk8 0 (by decide) w_647 dX8_sign_15) ?_
  refine snd_cons (snd_iload_n X dX8_sign_18 rfl) ?_
  refine snd_cons (snd_callS X (ok_X8_roomAt l D ca) rfl rfl w_644 w_645 w_9 w_646 (by decide) (by decide) dX8_sign_19) ?_
  refine snd_cons (snd_iaload X dX8_sign_22) ?_
  refine snd_cons (snd_i2l X dX8_sign_23) ?_
  refine snd_cons (snd_ladd X dX8_sign_24) ?_
  refine snd_cons (snd_ldc2 X w_887 dX8_sign_25) ?_
  refine snd_cons (snd_lsub X dX8_sign_28) ?_
  refine snd_cons (snd_lstore_n X dX8_sign_29 rfl (by decide)) ?_
  refine snd_cons (snd_ldc2 X w_888 dX8_sign_30) ?_
  refine snd_cons (snd_lload_n X dX8_sign_33 rfl) ?_
  refine snd_cons (snd_lmul X dX8_sign_34) ?_
  refine snd_cons (snd_aload_n X dX8_sign_35 rfl) ?_
  refine snd_cons (snd_getf X Fk8 0 (by decide) w_647 dX8_sign_36) ?_
  refine snd_cons (snd_iload_n X dX8_sign_39 rfl) ?_
  refine snd_cons (snd_callS X (ok_X8_stripAt l D ca) rfl rfl w_641 w_642 w_9 w_643 (by decide) (by decide) dX8_sign_40) ?_
  refine snd_cons (snd_iconst X dX8_sign_43 (by decide)) ?_
  refine snd_cons (snd_iadd X dX8_sign_44) ?_
  refine snd_cons (snd_iaload X dX8_sign_45) ?_
  refine snd_cons (snd_i2l X dX8_sign_46) ?_
  refine snd_cons (snd_ladd X dX8_sign_47) ?_
  refine snd_cons (snd_lstore_n X dX8_sign_48 rfl (by decide)) ?_
  refine snd_cons (snd_ldc2 X w_889 dX8_sign_49) ?_
  refine snd_cons (snd_lload_n X dX8_sign_52 rfl) ?_
  refine snd_cons (snd_lmul X dX8_sign_53) ?_
  refine snd_cons (snd_aload_n X dX8_sign_54 rfl) ?_
  refine snd_cons (snd_getf X Fk8 0 (by decide) w_647 dX8_sign_55) ?_
  refine snd_cons (snd_iload_n X dX8_sign_58 rfl) ?_
  refine snd_cons (snd_callS X (ok_X8_stripAt l D ca) rfl rfl w_641 w_642 w_9 w_643 (by decide) (by decide) dX8_sign_59) ?_
  refine snd_cons (snd_iconst X dX8_sign_62 (by decide)) ?_
  refine snd_cons (snd_iadd X dX8_sign_63) ?_
  refine snd_cons (snd_iaload X dX8_sign_64) ?_
  refine snd_cons (snd_i2l X dX8_sign_65) ?_
  refine snd_cons (snd_ladd X dX8_sign_66) ?_
  refine snd_cons (snd_lstore_n X dX8_sign_67 rfl (by decide)) ?_
  refine snd_cons (snd_iinc X dX8_sign_68 (by decide) (by decide)) ?_
  refine snd_cons (snd_goto X dX8_sign_71 (by decide)) ?_
  refine snd_cons (snd_lload_n X dX8_sign_74 rfl) ?_
  refine snd_cons (snd_lret X dX8_sign_75) ?_
  exact snd_nil
theorem k_X8_sign_0 (ca : Nat → ClassId) : k_X8_sign ca 0 = i_push (.long 0) 1 := rfl
theorem k_X8_sign_1 (ca : Nat → ClassId) : k_X8_sign ca 1 = i_lstore 1 2 := rfl
theorem k_X8_sign_2 (ca : Nat → ClassId) : k_X8_sign ca 2 = i_push (.int 0) 3 := rfl
theorem k_X8_sign_3 (ca : Nat → ClassId) : k_X8_sign ca 3 = i_istore 3 4 := rfl
theorem k_X8_sign_4 (ca : Nat → ClassId) : k_X8_sign ca 4 = i_iload 3 5 := rfl
theorem k_X8_sign_5 (ca : Nat → ClassId) : k_X8_sign ca 5 = i_push (.int 3) 6 := rfl
theorem k_X8_sign_6 (ca : Nat → ClassId) : k_X8_sign ca 6 = i_icmp (fun x y => y ≤ x) 74 9 := rfl
theorem k_X8_sign_9 (ca : Nat → ClassId) : k_X8_sign ca 9 = i_lload 1 10 := rfl
theorem k_X8_sign_10 (ca : Nat → ClassId) : k_X8_sign ca 10 = i_push (.long 2001) 13 := rfl
theorem k_X8_sign_13 (ca : Nat → ClassId) : k_X8_sign ca 13 = i_lbin (fun x y => x * y) 14 := rfl
theorem k_X8_sign_14 (ca : Nat → ClassId) : k_X8_sign ca 14 = i_aload 0 15 := rfl
theorem k_X8_sign_15 (ca : Nat → ClassId) : k_X8_sign ca 15 = i_getf 8 0 18 := rfl
theorem k_X8_sign_18 (ca : Nat → ClassId) : k_X8_sign ca 18 = i_iload 3 19 := rfl
theorem k_X8_sign_19 (ca : Nat → ClassId) : k_X8_sign ca 19 = i_callS 1 0 0 0 0 (sp_X8_roomAt ca) 22 := rfl
theorem k_X8_sign_22 (ca : Nat → ClassId) : k_X8_sign ca 22 = i_ald (ca 0) 23 := rfl
theorem k_X8_sign_23 (ca : Nat → ClassId) : k_X8_sign ca 23 = i_i2l 24 := rfl
theorem k_X8_sign_24 (ca : Nat → ClassId) : k_X8_sign ca 24 = i_lbin (fun x y => x + y) 25 := rfl
theorem k_X8_sign_25 (ca : Nat → ClassId) : k_X8_sign ca 25 = i_push (.long (-500)) 28 := rfl
theorem k_X8_sign_28 (ca : Nat → ClassId) : k_X8_sign ca 28 = i_lbin (fun x y => x - y) 29 := rfl
theorem k_X8_sign_29 (ca : Nat → ClassId) : k_X8_sign ca 29 = i_lstore 1 30 := rfl
theorem k_X8_sign_30 (ca : Nat → ClassId) : k_X8_sign ca 30 = i_push (.long 2) 33 := rfl
theorem k_X8_sign_33 (ca : Nat → ClassId) : k_X8_sign ca 33 = i_lload 1 34 := rfl
theorem k_X8_sign_34 (ca : Nat → ClassId) : k_X8_sign ca 34 = i_lbin (fun x y => x * y) 35 := rfl
theorem k_X8_sign_35 (ca : Nat → ClassId) : k_X8_sign ca 35 = i_aload 0 36 := rfl
theorem k_X8_sign_36 (ca : Nat → ClassId) : k_X8_sign ca 36 = i_getf 8 0 39 := rfl
theorem k_X8_sign_39 (ca : Nat → ClassId) : k_X8_sign ca 39 = i_iload 3 40 := rfl
theorem k_X8_sign_40 (ca : Nat → ClassId) : k_X8_sign ca 40 = i_callS 1 0 0 0 0 (sp_X8_stripAt ca) 43 := rfl
theorem k_X8_sign_43 (ca : Nat → ClassId) : k_X8_sign ca 43 = i_push (.int 4) 44 := rfl
theorem k_X8_sign_44 (ca : Nat → ClassId) : k_X8_sign ca 44 = i_bin (fun x y => x + y) 45 := rfl
theorem k_X8_sign_45 (ca : Nat → ClassId) : k_X8_sign ca 45 = i_ald (ca 0) 46 := rfl
theorem k_X8_sign_46 (ca : Nat → ClassId) : k_X8_sign ca 46 = i_i2l 47 := rfl
theorem k_X8_sign_47 (ca : Nat → ClassId) : k_X8_sign ca 47 = i_lbin (fun x y => x + y) 48 := rfl
theorem k_X8_sign_48 (ca : Nat → ClassId) : k_X8_sign ca 48 = i_lstore 1 49 := rfl
theorem k_X8_sign_49 (ca : Nat → ClassId) : k_X8_sign ca 49 = i_push (.long 6) 52 := rfl
theorem k_X8_sign_52 (ca : Nat → ClassId) : k_X8_sign ca 52 = i_lload 1 53 := rfl
theorem k_X8_sign_53 (ca : Nat → ClassId) : k_X8_sign ca 53 = i_lbin (fun x y => x * y) 54 := rfl
theorem k_X8_sign_54 (ca : Nat → ClassId) : k_X8_sign ca 54 = i_aload 0 55 := rfl
theorem k_X8_sign_55 (ca : Nat → ClassId) : k_X8_sign ca 55 = i_getf 8 0 58 := rfl
theorem k_X8_sign_58 (ca : Nat → ClassId) : k_X8_sign ca 58 = i_iload 3 59 := rfl
theorem k_X8_sign_59 (ca : Nat → ClassId) : k_X8_sign ca 59 = i_callS 1 0 0 0 0 (sp_X8_stripAt ca) 62 := rfl
theorem k_X8_sign_62 (ca : Nat → ClassId) : k_X8_sign ca 62 = i_push (.int 5) 63 := rfl
theorem k_X8_sign_63 (ca : Nat → ClassId) : k_X8_sign ca 63 = i_bin (fun x y => x + y) 64 := rfl
theorem k_X8_sign_64 (ca : Nat → ClassId) : k_X8_sign ca 64 = i_ald (ca 0) 65 := rfl
theorem k_X8_sign_65 (ca : Nat → ClassId) : k_X8_sign ca 65 = i_i2l 66 := rfl
theorem k_X8_sign_66 (ca : Nat → ClassId) : k_X8_sign ca 66 = i_lbin (fun x y => x + y) 67 := rfl
theorem k_X8_sign_67 (ca : Nat → ClassId) : k_X8_sign ca 67 = i_lstore 1 68 := rfl
theorem k_X8_sign_68 (ca : Nat → ClassId) : k_X8_sign ca 68 = i_iinc 3 1 71 := rfl
theorem k_X8_sign_71 (ca : Nat → ClassId) : k_X8_sign ca 71 = i_goto 4 := rfl
theorem k_X8_sign_74 (ca : Nat → ClassId) : k_X8_sign ca 74 = i_lload 1 75 := rfl
theorem k_X8_sign_75 (ca : Nat → ClassId) : k_X8_sign ca 75 = i_lret := rfl
set_option maxHeartbeats 4000000 in
set_option maxRecDepth 20000 in
theorem ok_X8_sign (l : Launch) (D : va_G) (ca : Nat → ClassId) : OkAll l D ca yX8_sign cX8_sign 4 (some .long) 1 0 0 (sp_X8_sign ca) := by
  intro av h post hs
  obtain ⟨m, a0, s, rfl, ⟨⟨r, hm⟩, hs0⟩, hs⟩ := hs
  refine okM_of t_X8_sign (by decide +kernel) (c1_ref c1_nil) (Nat.le_of_ble_eq_true rfl) ?_
  intro K go
  have it : ∀ k, k < 3 → ∀ (x : Int64), K 0 0 4 [some (.ref m), some (.long (sgK s k x)), none, some (.int (nI k + 1))] [] h → K 0 0 4 [some (.ref m), some (.long x), none, some (.int (nI k))] [] h := by
    intro k hk x hn
    have hk3 : k = 0 ∨ k = 1 ∨ k = 2 := by omega
    rcases hk3 with rfl | rfl | rfl
    · rw [nI_0] at hn ⊢
      refine goN go (stp [4]) 160 _ _ _ _ _ _ (fun F hF hF0 => ?_)
      simp only [hF, hF0, ite_not, i_push, i_iload, i_lload, i_aload, i_istore, i_astore, i_lstore, i_iinc, i_bin, i_dv, i_un, i_lbin, i_lsh, i_i2l, i_l2i, i_lcmp, i_dup, i_dup2, i_pop, i_if, i_icmp, i_goto, swG, i_sw, i_getf, i_puti, i_putz, i_putr, i_ald, i_lald, i_aald, i_ast, i_last, i_aast, i_alen, i_new, i_newi, i_newl, i_newq, i_oinit, i_ret, i_zret, i_lret, i_vret, catS, tk, rpush, isO, i_m1, i_m2, i_acopy, i_callV, i_callS, KRet, lget, lput, lputL, lcl0, isL, lv0, List.map_cons, List.map_nil, List.length_cons, List.length_nil, List.cons_append, List.nil_append, Nat.reduceAdd, Nat.reduceSub, Nat.reduceLeDiff, List.replicate_succ, List.replicate_zero, List.getElem?_cons_succ, List.getElem?_cons_zero, List.set_cons_succ, List.set_cons_zero, true_and, and_true, if_true, if_false, ↓reduceIte, Nat.le_refl, Value.category, va_up_app, eq_self, stp, Nat.reduceBEq, Bool.or_false, Bool.false_or, Bool.true_or, Bool.or_true, or_true, true_or, bx_uu, implies_true, true_implies, not_true, not_false_eq_true, false_implies, and_self, Nat.reduceLT, Int32.reduceAdd, Int32.reduceSub, Int32.reduceMul, Int32.reduceLE, Int32.reduceLT, Int32.reduceToNatClampNeg, va_rf_some, Bool.false_eq_true, k_X8_sign_0 ca, k_X8_sign_1 ca, k_X8_sign_2 ca, k_X8_sign_3 ca, k_X8_sign_4 ca, k_X8_sign_5 ca, k_X8_sign_6 ca, k_X8_sign_9 ca, k_X8_sign_10 ca, k_X8_sign_13 ca, k_X8_sign_14 ca, k_X8_sign_15 ca, k_X8_sign_18 ca, k_X8_sign_19 ca, k_X8_sign_22 ca, k_X8_sign_23 ca, k_X8_sign_24 ca, k_X8_sign_25 ca, k_X8_sign_28 ca, k_X8_sign_29 ca, k_X8_sign_30 ca, k_X8_sign_33 ca, k_X8_sign_34 ca, k_X8_sign_35 ca, k_X8_sign_36 ca, k_X8_sign_39 ca, k_X8_sign_40 ca, k_X8_sign_43 ca, k_X8_sign_44 ca, k_X8_sign_45 ca, k_X8_sign_46 ca, k_X8_sign_47 ca, k_X8_sign_48 ca, k_X8_sign_49 ca, k_X8_sign_52 ca, k_X8_sign_53 ca, k_X8_sign_54 ca, k_X8_sign_55 ca, k_X8_sign_58 ca, k_X8_sign_59 ca, k_X8_sign_62 ca, k_X8_sign_63 ca, k_X8_sign_64 ca, k_X8_sign_65 ca, k_X8_sign_66 ca, k_X8_sign_67 ca, k_X8_sign_68 ca, k_X8_sign_71 ca, k_X8_sign_74 ca, k_X8_sign_75 ca, hm, hs0, sp_X8_stripAt, sp_X8_roomAt, v106, v14, v15]
      try clear hF hF0 F
      exact hn
    · rw [n1] at hn ⊢
      refine goN go (stp [4]) 160 _ _ _ _ _ _ (fun F hF hF0 => ?_)
      simp only [hF, hF0, ite_not, i_push, i_iload, i_lload, i_aload, i_istore, i_astore, i_lstore, i_iinc, i_bin, i_dv, i_un, i_lbin, i_lsh, i_i2l, i_l2i, i_lcmp, i_dup, i_dup2, i_pop, i_if, i_icmp, i_goto, swG, i_sw, i_getf, i_puti, i_putz, i_putr, i_ald, i_lald, i_aald, i_ast, i_last, i_aast, i_alen, i_new, i_newi, i_newl, i_newq, i_oinit, i_ret, i_zret, i_lret, i_vret, catS, tk, rpush, isO, i_m1, i_m2, i_acopy, i_callV, i_callS, KRet, lget, lput, lputL, lcl0, isL, lv0, List.map_cons, List.map_nil, List.length_cons, List.length_nil, List.cons_append, List.nil_append, Nat.reduceAdd, Nat.reduceSub, Nat.reduceLeDiff, List.replicate_succ, List.replicate_zero, List.getElem?_cons_succ, List.getElem?_cons_zero, List.set_cons_succ, List.set_cons_zero, true_and, and_true, if_true, if_false, ↓reduceIte, Nat.le_refl, Value.category, va_up_app, eq_self, stp, Nat.reduceBEq, Bool.or_false, Bool.false_or, Bool.true_or, Bool.or_true, or_true, true_or, bx_uu, implies_true, true_implies, not_true, not_false_eq_true, false_implies, and_self, Nat.reduceLT, Int32.reduceAdd, Int32.reduceSub, Int32.reduceMul, Int32.reduceLE, Int32.reduceLT, Int32.reduceToNatClampNeg, va_rf_some, Bool.false_eq_true, k_X8_sign_0 ca, k_X8_sign_1 ca, k_X8_sign_2 ca, k_X8_sign_3 ca, k_X8_sign_4 ca, k_X8_sign_5 ca, k_X8_sign_6 ca, k_X8_sign_9 ca, k_X8_sign_10 ca, k_X8_sign_13 ca, k_X8_sign_14 ca, k_X8_sign_15 ca, k_X8_sign_18 ca, k_X8_sign_19 ca, k_X8_sign_22 ca, k_X8_sign_23 ca, k_X8_sign_24 ca, k_X8_sign_25 ca, k_X8_sign_28 ca, k_X8_sign_29 ca, k_X8_sign_30 ca, k_X8_sign_33 ca, k_X8_sign_34 ca, k_X8_sign_35 ca, k_X8_sign_36 ca, k_X8_sign_39 ca, k_X8_sign_40 ca, k_X8_sign_43 ca, k_X8_sign_44 ca, k_X8_sign_45 ca, k_X8_sign_46 ca, k_X8_sign_47 ca, k_X8_sign_48 ca, k_X8_sign_49 ca, k_X8_sign_52 ca, k_X8_sign_53 ca, k_X8_sign_54 ca, k_X8_sign_55 ca, k_X8_sign_58 ca, k_X8_sign_59 ca, k_X8_sign_62 ca, k_X8_sign_63 ca, k_X8_sign_64 ca, k_X8_sign_65 ca, k_X8_sign_66 ca, k_X8_sign_67 ca, k_X8_sign_68 ca, k_X8_sign_71 ca, k_X8_sign_74 ca, k_X8_sign_75 ca, hm, hs0, sp_X8_stripAt, sp_X8_roomAt, v113, v46, v47]
      try clear hF hF0 F
      exact hn
    · rw [n2] at hn ⊢
      refine goN go (stp [4]) 160 _ _ _ _ _ _ (fun F hF hF0 => ?_)
      simp only [hF, hF0, ite_not, i_push, i_iload, i_lload, i_aload, i_istore, i_astore, i_lstore, i_iinc, i_bin, i_dv, i_un, i_lbin, i_lsh, i_i2l, i_l2i, i_lcmp, i_dup, i_dup2, i_pop, i_if, i_icmp, i_goto, swG, i_sw, i_getf, i_puti, i_putz, i_putr, i_ald, i_lald, i_aald, i_ast, i_last, i_aast, i_alen, i_new, i_newi, i_newl, i_newq, i_oinit, i_ret, i_zret, i_lret, i_vret, catS, tk, rpush, isO, i_m1, i_m2, i_acopy, i_callV, i_callS, KRet, lget, lput, lputL, lcl0, isL, lv0, List.map_cons, List.map_nil, List.length_cons, List.length_nil, List.cons_append, List.nil_append, Nat.reduceAdd, Nat.reduceSub, Nat.reduceLeDiff, List.replicate_succ, List.replicate_zero, List.getElem?_cons_succ, List.getElem?_cons_zero, List.set_cons_succ, List.set_cons_zero, true_and, and_true, if_true, if_false, ↓reduceIte, Nat.le_refl, Value.category, va_up_app, eq_self, stp, Nat.reduceBEq, Bool.or_false, Bool.false_or, Bool.true_or, Bool.or_true, or_true, true_or, bx_uu, implies_true, true_implies, not_true, not_false_eq_true, false_implies, and_self, Nat.reduceLT, Int32.reduceAdd, Int32.reduceSub, Int32.reduceMul, Int32.reduceLE, Int32.reduceLT, Int32.reduceToNatClampNeg, va_rf_some, Bool.false_eq_true, k_X8_sign_0 ca, k_X8_sign_1 ca, k_X8_sign_2 ca, k_X8_sign_3 ca, k_X8_sign_4 ca, k_X8_sign_5 ca, k_X8_sign_6 ca, k_X8_sign_9 ca, k_X8_sign_10 ca, k_X8_sign_13 ca, k_X8_sign_14 ca, k_X8_sign_15 ca, k_X8_sign_18 ca, k_X8_sign_19 ca, k_X8_sign_22 ca, k_X8_sign_23 ca, k_X8_sign_24 ca, k_X8_sign_25 ca, k_X8_sign_28 ca, k_X8_sign_29 ca, k_X8_sign_30 ca, k_X8_sign_33 ca, k_X8_sign_34 ca, k_X8_sign_35 ca, k_X8_sign_36 ca, k_X8_sign_39 ca, k_X8_sign_40 ca, k_X8_sign_43 ca, k_X8_sign_44 ca, k_X8_sign_45 ca, k_X8_sign_46 ca, k_X8_sign_47 ca, k_X8_sign_48 ca, k_X8_sign_49 ca, k_X8_sign_52 ca, k_X8_sign_53 ca, k_X8_sign_54 ca, k_X8_sign_55 ca, k_X8_sign_58 ca, k_X8_sign_59 ca, k_X8_sign_62 ca, k_X8_sign_63 ca, k_X8_sign_64 ca, k_X8_sign_65 ca, k_X8_sign_66 ca, k_X8_sign_67 ca, k_X8_sign_68 ca, k_X8_sign_71 ca, k_X8_sign_74 ca, k_X8_sign_75 ca, hm, hs0, sp_X8_stripAt, sp_X8_roomAt, v120, v78, v79]
      try clear hF hF0 F
      exact hn
  refine goN go (stp [4]) 160 _ _ _ _ _ _ (fun F hF hF0 => ?_)
  simp only [hF, hF0, ite_not, i_push, i_iload, i_lload, i_aload, i_istore, i_astore, i_lstore, i_iinc, i_bin, i_dv, i_un, i_lbin, i_lsh, i_i2l, i_l2i, i_lcmp, i_dup, i_dup2, i_pop, i_if, i_icmp, i_goto, swG, i_sw, i_getf, i_puti, i_putz, i_putr, i_ald, i_lald, i_aald, i_ast, i_last, i_aast, i_alen, i_new, i_newi, i_newl, i_newq, i_oinit, i_ret, i_zret, i_lret, i_vret, catS, tk, rpush, isO, i_m1, i_m2, i_acopy, i_callV, i_callS, KRet, lget, lput, lputL, lcl0, isL, lv0, List.map_cons, List.map_nil, List.length_cons, List.length_nil, List.cons_append, List.nil_append, Nat.reduceAdd, Nat.reduceSub, Nat.reduceLeDiff, List.replicate_succ, List.replicate_zero, List.getElem?_cons_succ, List.getElem?_cons_zero, List.set_cons_succ, List.set_cons_zero, true_and, and_true, if_true, if_false, ↓reduceIte, Nat.le_refl, Value.category, va_up_app, eq_self, stp, Nat.reduceBEq, Bool.or_false, Bool.false_or, Bool.true_or, Bool.or_true, or_true, true_or, bx_uu, implies_true, true_implies, not_true, not_false_eq_true, false_implies, and_self, Nat.reduceLT, Int32.reduceAdd, Int32.reduceSub, Int32.reduceMul, Int32.reduceLE, Int32.reduceLT, Int32.reduceToNatClampNeg, va_rf_some, Bool.false_eq_true, k_X8_sign_0 ca, k_X8_sign_1 ca, k_X8_sign_2 ca, k_X8_sign_3 ca, k_X8_sign_4 ca, k_X8_sign_5 ca, k_X8_sign_6 ca, k_X8_sign_9 ca, k_X8_sign_10 ca, k_X8_sign_13 ca, k_X8_sign_14 ca, k_X8_sign_15 ca, k_X8_sign_18 ca, k_X8_sign_19 ca, k_X8_sign_22 ca, k_X8_sign_23 ca, k_X8_sign_24 ca, k_X8_sign_25 ca, k_X8_sign_28 ca, k_X8_sign_29 ca, k_X8_sign_30 ca, k_X8_sign_33 ca, k_X8_sign_34 ca, k_X8_sign_35 ca, k_X8_sign_36 ca, k_X8_sign_39 ca, k_X8_sign_40 ca, k_X8_sign_43 ca, k_X8_sign_44 ca, k_X8_sign_45 ca, k_X8_sign_46 ca, k_X8_sign_47 ca, k_X8_sign_48 ca, k_X8_sign_49 ca, k_X8_sign_52 ca, k_X8_sign_53 ca, k_X8_sign_54 ca, k_X8_sign_55 ca, k_X8_sign_58 ca, k_X8_sign_59 ca, k_X8_sign_62 ca, k_X8_sign_63 ca, k_X8_sign_64 ca, k_X8_sign_65 ca, k_X8_sign_66 ca, k_X8_sign_67 ca, k_X8_sign_68 ca, k_X8_sign_71 ca, k_X8_sign_74 ca, k_X8_sign_75 ca]
  try clear hF hF0 F
  refine it 0 (by omega) _ (it 1 (by omega) _ (it 2 (by omega) _ ?_))
  have e3 : nI 2 + 1 = 3 := rfl
  rw [e3]
  clear it
  refine goN go (stp []) 160 _ _ _ _ _ _ (fun F hF hF0 => ?_)
  simp only [hF, hF0, ite_not, i_push, i_iload, i_lload, i_aload, i_istore, i_astore, i_lstore, i_iinc, i_bin, i_dv, i_un, i_lbin, i_lsh, i_i2l, i_l2i, i_lcmp, i_dup, i_dup2, i_pop, i_if, i_icmp, i_goto, swG, i_sw, i_getf, i_puti, i_putz, i_putr, i_ald, i_lald, i_aald, i_ast, i_last, i_aast, i_alen, i_new, i_newi, i_newl, i_newq, i_oinit, i_ret, i_zret, i_lret, i_vret, catS, tk, rpush, isO, i_m1, i_m2, i_acopy, i_callV, i_callS, KRet, lget, lput, lputL, lcl0, isL, lv0, List.map_cons, List.map_nil, List.length_cons, List.length_nil, List.cons_append, List.nil_append, Nat.reduceAdd, Nat.reduceSub, Nat.reduceLeDiff, List.replicate_succ, List.replicate_zero, List.getElem?_cons_succ, List.getElem?_cons_zero, List.set_cons_succ, List.set_cons_zero, true_and, and_true, if_true, if_false, ↓reduceIte, Nat.le_refl, Value.category, va_up_app, eq_self, stp, Nat.reduceBEq, Bool.or_false, Bool.false_or, Bool.true_or, Bool.or_true, or_true, true_or, bx_uu, implies_true, true_implies, not_true, not_false_eq_true, false_implies, and_self, Nat.reduceLT, Int32.reduceAdd, Int32.reduceSub, Int32.reduceMul, Int32.reduceLE, Int32.reduceLT, Int32.reduceToNatClampNeg, va_rf_some, Bool.false_eq_true, k_X8_sign_0 ca, k_X8_sign_1 ca, k_X8_sign_2 ca, k_X8_sign_3 ca, k_X8_sign_4 ca, k_X8_sign_5 ca, k_X8_sign_6 ca, k_X8_sign_9 ca, k_X8_sign_10 ca, k_X8_sign_13 ca, k_X8_sign_14 ca, k_X8_sign_15 ca, k_X8_sign_18 ca, k_X8_sign_19 ca, k_X8_sign_22 ca, k_X8_sign_23 ca, k_X8_sign_24 ca, k_X8_sign_25 ca, k_X8_sign_28 ca, k_X8_sign_29 ca, k_X8_sign_30 ca, k_X8_sign_33 ca, k_X8_sign_34 ca, k_X8_sign_35 ca, k_X8_sign_36 ca, k_X8_sign_39 ca, k_X8_sign_40 ca, k_X8_sign_43 ca, k_X8_sign_44 ca, k_X8_sign_45 ca, k_X8_sign_46 ca, k_X8_sign_47 ca, k_X8_sign_48 ca, k_X8_sign_49 ca, k_X8_sign_52 ca, k_X8_sign_53 ca, k_X8_sign_54 ca, k_X8_sign_55 ca, k_X8_sign_58 ca, k_X8_sign_59 ca, k_X8_sign_62 ca, k_X8_sign_63 ca, k_X8_sign_64 ca, k_X8_sign_65 ca, k_X8_sign_66 ca, k_X8_sign_67 ca, k_X8_sign_68 ca, k_X8_sign_71 ca, k_X8_sign_74 ca, k_X8_sign_75 ca]
  try clear hF hF0 F
  exact hs
def snO (s : Nat → Int32) : Int32 := s 16 + s 48 + s 80
def sp_X8_snapsOfAll (ca : Nat → ClassId) : SPEC := fun av h post => ∃ m a0 s, av = [.ref m] ∧ MS ca h m a0 s ∧ post (some (.int (snO s))) h
def k_X8_snapsOfAll (ca : Nat → ClassId) : Nat → IT := fun pc => lk pc [(0, i_aload 0 1),
  (1, i_getf 8 0 4),
  (4, i_push (.int 0) 5),
  (5, i_callS 1 0 0 0 0 (sp_X8_stripAt ca) 8),
  (8, i_push (.int 6) 10),
  (10, i_bin (fun x y => x + y) 11),
  (11, i_ald (ca 0) 12),
  (12, i_aload 0 13),
  (13, i_getf 8 0 16),
  (16, i_push (.int 1) 17),
  (17, i_callS 1 0 0 0 0 (sp_X8_stripAt ca) 20),
  (20, i_push (.int 6) 22),
  (22, i_bin (fun x y => x + y) 23),
  (23, i_ald (ca 0) 24),
  (24, i_bin (fun x y => x + y) 25),
  (25, i_aload 0 26),
  (26, i_getf 8 0 29),
  (29, i_push (.int 2) 30),
  (30, i_callS 1 0 0 0 0 (sp_X8_stripAt ca) 33),
  (33, i_push (.int 6) 35),
  (35, i_bin (fun x y => x + y) 36),
  (36, i_ald (ca 0) 37),
  (37, i_bin (fun x y => x + y) 38),
  (38, i_ret)]
set_option maxRecDepth 20000 in
theorem t_X8_snapsOfAll : Tb k_X8_snapsOfAll yX8_snapsOfAll cX8_snapsOfAll 1 (some .int) 1 0 0 := by
  intro l D ca A p e s m args below meth c post X
  unfold k_X8_snapsOfAll
  refine snd_cons (snd_aload_n X dX8_snapsOfAll_0 rfl) ?_
  refine snd_cons (snd_getf X Fk8 0 (by decide) w_647 dX8_snapsOfAll_1) ?_
  refine snd_cons (snd_iconst X dX8_snapsOfAll_4 (by decide)) ?_
  refine snd_cons (snd_callS X (ok_X8_stripAt l D ca) rfl rfl w_641 w_642 w_9 w_643 (by decide) (by decide) dX8_snapsOfAll_5) ?_
  refine snd_cons (snd_bipush X dX8_snapsOfAll_8 (by decide)) ?_
  refine snd_cons (snd_iadd X dX8_snapsOfAll_10) ?_
  refine snd_cons (snd_iaload X dX8_snapsOfAll_11) ?_
  refine snd_cons (snd_aload_n X dX8_snapsOfAll_12 rfl) ?_
  refine snd_cons (snd_getf X Fk8 0 (by decide) w_647 dX8_snapsOfAll_13) ?_
  refine snd_cons (snd_iconst X dX8_snapsOfAll_16 (by decide)) ?_
  refine snd_cons (snd_callS X (ok_X8_stripAt l D ca) rfl rfl w_641 w_642 w_9 w_643 (by decide) (by decide) dX8_snapsOfAll_17) ?_
  refine snd_cons (snd_bipush X dX8_snapsOfAll_20 (by decide)) ?_
  refine snd_cons (snd_iadd X dX8_snapsOfAll_22) ?_
  refine snd_cons (snd_iaload X dX8_snapsOfAll_23) ?_
  refine snd_cons (snd_iadd X dX8_snapsOfAll_24) ?_
  refine snd_cons (snd_aload_n X dX8_snapsOfAll_25 rfl) ?_
  refine snd_cons (snd_getf X Fk8 0 (by decide) w_647 dX8_snapsOfAll_26) ?_
  refine snd_cons (snd_iconst X dX8_snapsOfAll_29 (by decide)) ?_
  refine snd_cons (snd_callS X (ok_X8_stripAt l D ca) rfl rfl w_641 w_642 w_9 w_643 (by decide) (by decide) dX8_snapsOfAll_30) ?_
  refine snd_cons (snd_bipush X dX8_snapsOfAll_33 (by decide)) ?_
  refine snd_cons (snd_iadd X dX8_snapsOfAll_35) ?_
  refine snd_cons (snd_iaload X dX8_snapsOfAll_36) ?_
  refine snd_cons (snd_iadd X dX8_snapsOfAll_37) ?_
  refine snd_cons (snd_ret X dX8_snapsOfAll_38) ?_
  exact snd_nil
theorem k_X8_snapsOfAll_0 (ca : Nat → ClassId) : k_X8_snapsOfAll ca 0 = i_aload 0 1 := rfl
theorem k_X8_snapsOfAll_1 (ca : Nat → ClassId) : k_X8_snapsOfAll ca 1 = i_getf 8 0 4 := rfl
theorem k_X8_snapsOfAll_4 (ca : Nat → ClassId) : k_X8_snapsOfAll ca 4 = i_push (.int 0) 5 := rfl
theorem k_X8_snapsOfAll_5 (ca : Nat → ClassId) : k_X8_snapsOfAll ca 5 = i_callS 1 0 0 0 0 (sp_X8_stripAt ca) 8 := rfl
theorem k_X8_snapsOfAll_8 (ca : Nat → ClassId) : k_X8_snapsOfAll ca 8 = i_push (.int 6) 10 := rfl
theorem k_X8_snapsOfAll_10 (ca : Nat → ClassId) : k_X8_snapsOfAll ca 10 = i_bin (fun x y => x + y) 11 := rfl
theorem k_X8_snapsOfAll_11 (ca : Nat → ClassId) : k_X8_snapsOfAll ca 11 = i_ald (ca 0) 12 := rfl
theorem k_X8_snapsOfAll_12 (ca : Nat → ClassId) : k_X8_snapsOfAll ca 12 = i_aload 0 13 := rfl
theorem k_X8_snapsOfAll_13 (ca : Nat → ClassId) : k_X8_snapsOfAll ca 13 = i_getf 8 0 16 := rfl
theorem k_X8_snapsOfAll_16 (ca : Nat → ClassId) : k_X8_snapsOfAll ca 16 = i_push (.int 1) 17 := rfl
theorem k_X8_snapsOfAll_17 (ca : Nat → ClassId) : k_X8_snapsOfAll ca 17 = i_callS 1 0 0 0 0 (sp_X8_stripAt ca) 20 := rfl
theorem k_X8_snapsOfAll_20 (ca : Nat → ClassId) : k_X8_snapsOfAll ca 20 = i_push (.int 6) 22 := rfl
theorem k_X8_snapsOfAll_22 (ca : Nat → ClassId) : k_X8_snapsOfAll ca 22 = i_bin (fun x y => x + y) 23 := rfl
theorem k_X8_snapsOfAll_23 (ca : Nat → ClassId) : k_X8_snapsOfAll ca 23 = i_ald (ca 0) 24 := rfl
theorem k_X8_snapsOfAll_24 (ca : Nat → ClassId) : k_X8_snapsOfAll ca 24 = i_bin (fun x y => x + y) 25 := rfl
theorem k_X8_snapsOfAll_25 (ca : Nat → ClassId) : k_X8_snapsOfAll ca 25 = i_aload 0 26 := rfl
theorem k_X8_snapsOfAll_26 (ca : Nat → ClassId) : k_X8_snapsOfAll ca 26 = i_getf 8 0 29 := rfl
theorem k_X8_snapsOfAll_29 (ca : Nat → ClassId) : k_X8_snapsOfAll ca 29 = i_push (.int 2) 30 := rfl
theorem k_X8_snapsOfAll_30 (ca : Nat → ClassId) : k_X8_snapsOfAll ca 30 = i_callS 1 0 0 0 0 (sp_X8_stripAt ca) 33 := rfl
theorem k_X8_snapsOfAll_33 (ca : Nat → ClassId) : k_X8_snapsOfAll ca 33 = i_push (.int 6) 35 := rfl
theorem k_X8_snapsOfAll_35 (ca : Nat → ClassId) : k_X8_snapsOfAll ca 35 = i_bin (fun x y => x + y) 36 := rfl
theorem k_X8_snapsOfAll_36 (ca : Nat → ClassId) : k_X8_snapsOfAll ca 36 = i_ald (ca 0) 37 := rfl
theorem k_X8_snapsOfAll_37 (ca : Nat → ClassId) : k_X8_snapsOfAll ca 37 = i_bin (fun x y => x + y) 38 := rfl
theorem k_X8_snapsOfAll_38 (ca : Nat → ClassId) : k_X8_snapsOfAll ca 38 = i_ret := rfl
set_option maxHeartbeats 4000000 in
set_option maxRecDepth 20000 in
theorem ok_X8_snapsOfAll (l : Launch) (D : va_G) (ca : Nat → ClassId) : OkAll l D ca yX8_snapsOfAll cX8_snapsOfAll 1 (some .int) 1 0 0 (sp_X8_snapsOfAll ca) := by
  intro av h post hs
  obtain ⟨m, a0, s, rfl, ⟨⟨r, hm⟩, hs0⟩, hs⟩ := hs
  refine okM_of t_X8_snapsOfAll (by decide +kernel) (c1_ref c1_nil) (Nat.le_of_ble_eq_true rfl) ?_
  intro K go
  refine goN go (stp []) 160 _ _ _ _ _ _ (fun F hF hF0 => ?_)
  simp only [hF, hF0, ite_not, i_push, i_iload, i_lload, i_aload, i_istore, i_astore, i_lstore, i_iinc, i_bin, i_dv, i_un, i_lbin, i_lsh, i_i2l, i_l2i, i_lcmp, i_dup, i_dup2, i_pop, i_if, i_icmp, i_goto, swG, i_sw, i_getf, i_puti, i_putz, i_putr, i_ald, i_lald, i_aald, i_ast, i_last, i_aast, i_alen, i_new, i_newi, i_newl, i_newq, i_oinit, i_ret, i_zret, i_lret, i_vret, catS, tk, rpush, isO, i_m1, i_m2, i_acopy, i_callV, i_callS, KRet, lget, lput, lputL, lcl0, isL, lv0, List.map_cons, List.map_nil, List.length_cons, List.length_nil, List.cons_append, List.nil_append, Nat.reduceAdd, Nat.reduceSub, Nat.reduceLeDiff, List.replicate_succ, List.replicate_zero, List.getElem?_cons_succ, List.getElem?_cons_zero, List.set_cons_succ, List.set_cons_zero, true_and, and_true, if_true, if_false, ↓reduceIte, Nat.le_refl, Value.category, va_up_app, eq_self, stp, Nat.reduceBEq, Bool.or_false, Bool.false_or, Bool.true_or, Bool.or_true, or_true, true_or, bx_uu, implies_true, true_implies, not_true, not_false_eq_true, false_implies, and_self, Nat.reduceLT, Int32.reduceAdd, Int32.reduceSub, Int32.reduceMul, Int32.reduceLE, Int32.reduceLT, Int32.reduceToNatClampNeg, va_rf_some, Bool.false_eq_true, k_X8_snapsOfAll_0 ca, k_X8_snapsOfAll_1 ca, k_X8_snapsOfAll_4 ca, k_X8_snapsOfAll_5 ca, k_X8_snapsOfAll_8 ca, k_X8_snapsOfAll_10 ca, k_X8_snapsOfAll_11 ca, k_X8_snapsOfAll_12 ca, k_X8_snapsOfAll_13 ca, k_X8_snapsOfAll_16 ca, k_X8_snapsOfAll_17 ca, k_X8_snapsOfAll_20 ca, k_X8_snapsOfAll_22 ca, k_X8_snapsOfAll_23 ca, k_X8_snapsOfAll_24 ca, k_X8_snapsOfAll_25 ca, k_X8_snapsOfAll_26 ca, k_X8_snapsOfAll_29 ca, k_X8_snapsOfAll_30 ca, k_X8_snapsOfAll_33 ca, k_X8_snapsOfAll_35 ca, k_X8_snapsOfAll_36 ca, k_X8_snapsOfAll_37 ca, k_X8_snapsOfAll_38 ca, hm, hs0, sp_X8_stripAt, v16, v48, v80]
  try clear hF hF0 F
  exact hs
theorem sgK_cong {s t : Nat → Int32} (e : Eq127 s t) {k : Nat} (hk : k < 3) {v : Int64} : sgK s k v = sgK t k v := by
  unfold sgK
  rw [e (106 + 7 * k) (by omega), e (14 + 32 * k) (by omega), e (15 + 32 * k) (by omega)]
theorem sgS_cong {s t : Nat → Int32} (e : Eq127 s t) : sgS s = sgS t := by
  unfold sgS
  rw [sgK_cong e (k := 0) (by decide), sgK_cong e (k := 1) (by decide), sgK_cong e (k := 2) (by decide)]
theorem snO_cong {s t : Nat → Int32} (e : Eq127 s t) : snO s = snO t := by
  unfold snO
  rw [e 16 (by decide), e 48 (by decide), e 80 (by decide)]
section
variable {ca : Nat → ClassId} {h : PH} {m : Nat} {a : Nat → Nat} {s g p : Nat → Int32} {t : Nat} {f : Nat → Int32} {n : Nat}
theorem RAg.k5 (I : RI m a) (hR : RAg ca h m a s g p t f n) (k' : Nat → Int64) : RAg ca (va_up h (a 5) (some (.inl (ca 1, 1501, .inr (.inl k'))))) m a s g p t f n := by
  obtain ⟨fm, at', re, bd, kp, ks, iw, ip, fo, em, e0, e1, e2, e3, e4, e5, e6, e7, e8, e9⟩ := hR
  exact ⟨fm, at', re, bd, k', ks, iw, ip, fo, (va_up_ne _ _ (I.2 5)).trans em, (va_up_ne _ _ (I.ne (by decide))).trans e0, (va_up_ne _ _ (I.ne (by decide))).trans e1, (va_up_ne _ _ (I.ne (by decide))).trans e2, (va_up_ne _ _ (I.ne (by decide))).trans e3, (va_up_ne _ _ (I.ne (by decide))).trans e4, va_up_self _ _ _, (va_up_ne _ _ (I.ne (by decide))).trans e6, (va_up_ne _ _ (I.ne (by decide))).trans e7, (va_up_ne _ _ (I.ne (by decide))).trans e8, (va_up_ne _ _ (I.ne (by decide))).trans e9⟩
theorem RAg.k6 (I : RI m a) (hR : RAg ca h m a s g p t f n) (k' : Nat → Int32) : RAg ca (va_up h (a 6) (some (.inl (ca 0, 1501, .inl k')))) m a s g p t f n := by
  obtain ⟨fm, at', re, bd, kp, ks, iw, ip, fo, em, e0, e1, e2, e3, e4, e5, e6, e7, e8, e9⟩ := hR
  exact ⟨fm, at', re, bd, kp, k', iw, ip, fo, (va_up_ne _ _ (I.2 6)).trans em, (va_up_ne _ _ (I.ne (by decide))).trans e0, (va_up_ne _ _ (I.ne (by decide))).trans e1, (va_up_ne _ _ (I.ne (by decide))).trans e2, (va_up_ne _ _ (I.ne (by decide))).trans e3, (va_up_ne _ _ (I.ne (by decide))).trans e4, (va_up_ne _ _ (I.ne (by decide))).trans e5, va_up_self _ _ _, (va_up_ne _ _ (I.ne (by decide))).trans e7, (va_up_ne _ _ (I.ne (by decide))).trans e8, (va_up_ne _ _ (I.ne (by decide))).trans e9⟩
end
def kpS (s : Nat → Int32) (k : Nat) : Int64 := sgS (tkI s (rts s) 0 k)
def snS (s : Nat → Int32) (k : Nat) : Int32 := snO (tkI s (rts s) 0 k)
theorem updL_lt {f : Nat → Int64} {g : Nat → Int64} {k : Nat} {v : Int64} (hf : ∀ i, i < k → f i = g i) (hv : v = g k) : ∀ i, i < k + 1 → vp_updL f k v i = g i := by
  intro i hi
  unfold vp_updL
  by_cases q : i = k
  · subst q; simp [hv]
  · simp [q, hf i (by omega)]
theorem upd_lt {f : Nat → Int32} {g : Nat → Int32} {k : Nat} {v : Int32} (hf : ∀ i, i < k → f i = g i) (hv : v = g k) : ∀ i, i < k + 1 → upd f k v i = g i := by
  intro i hi
  rw [upd_app]
  by_cases q : i = k
  · subst q; rw [if_pos rfl, hv]
  · rw [if_neg q, hf i (by omega)]
def sp_X8_keeps (ca : Nat → ClassId) : SPEC := fun av h post => ∃ m a s p t f n, av = [.ref m] ∧ RI m a ∧ RAt ca h m a s p t f n ∧ WfS s ∧ (∀ k, k < 3 → OkR s k) ∧
  ∀ h' s' kp ks, Eq127 s' s → RAt ca h' m a s' p t f n → h' (a 5) = some (.inl (ca 1, 1501, .inr (.inl kp))) → h' (a 6) = some (.inl (ca 0, 1501, .inl ks)) → (∀ k, k < 1501 → kp k = kpS s k) → (∀ k, k < 1501 → ks k = snS s k) → SmR m a h h' → post none h'
def k_X8_keeps (ca : Nat → ClassId) : Nat → IT := fun pc => lk pc [(0, i_aload 0 1),
  (1, i_callV 8 0 0 0 0 0 (sp_X8_begins ca) 4),
  (4, i_aload 0 5),
  (5, i_callV 8 0 0 0 0 0 (sp_X8_laysBends ca) 8),
  (8, i_push (.int 0) 9),
  (9, i_istore 1 10),
  (10, i_iload 1 11),
  (11, i_push (.int 1500) 14),
  (14, i_icmp (fun x y => y < x) 49 17),
  (17, i_aload 0 18),
  (18, i_getf 8 7 21),
  (21, i_iload 1 22),
  (22, i_aload 0 23),
  (23, i_callV 8 0 0 0 0 0 (sp_X8_sign ca) 26),
  (26, i_last (ca 1) 27),
  (27, i_aload 0 28),
  (28, i_getf 8 8 31),
  (31, i_iload 1 32),
  (32, i_aload 0 33),
  (33, i_callV 8 0 0 0 0 0 (sp_X8_snapsOfAll ca) 36),
  (36, i_ast (fun x => x) (ca 0) 37),
  (37, i_aload 0 38),
  (38, i_push (.int 0) 39),
  (39, i_callV 8 1 0 0 0 0 (sp_X8_ticks ca) 42),
  (42, i_istore 2 43),
  (43, i_iinc 1 1 46),
  (46, i_goto 10),
  (49, i_aload 0 50),
  (50, i_callV 8 0 0 0 0 0 (sp_X8_returns ca) 53),
  (53, i_vret)]
set_option maxRecDepth 20000 in
theorem t_X8_keeps : Tb k_X8_keeps yX8_keeps cX8_keeps 3 none 5 0 0 := by
  intro l D ca A p e s m args below meth c post X
  unfold k_X8_keeps
  refine snd_cons (snd_aload_n X dX8_keeps_0 rfl) ?_
  refine snd_cons (snd_callV X Fk8 (ok_X8_begins l D ca) rfl rfl w_698 w_700 wp_16 w_9 w_701 (by decide) (by decide) dX8_keeps_1) ?_
  refine snd_cons (snd_aload_n X dX8_keeps_4 rfl) ?_
  refine snd_cons (snd_callV X Fk8 (ok_X8_laysBends l D ca) rfl rfl w_817 w_819 wp_31 w_9 w_820 (by decide) (by decide) dX8_keeps_5) ?_
  refine snd_cons (snd_iconst X dX8_keeps_8 (by decide)) ?_
  refine snd_cons (snd_istore_n X dX8_keeps_9 rfl (by decide)) ?_
  refine snd_cons (snd_iload_n X dX8_keeps_10 rfl) ?_
  refine snd_cons (snd_sipush X dX8_keeps_11 (by decide)) ?_
  refine snd_cons (snd_icmp_gt X dX8_keeps_14 (by decide)) ?_
  refine snd_cons (snd_aload_n X dX8_keeps_17 rfl) ?_
  refine snd_cons (snd_getf X Fk8 7 (by decide) w_654 dX8_keeps_18) ?_
  refine snd_cons (snd_iload_n X dX8_keeps_21 rfl) ?_
  refine snd_cons (snd_aload_n X dX8_keeps_22 rfl) ?_
  refine snd_cons (snd_callV X Fk8 (ok_X8_sign l D ca) rfl rfl w_882 w_884 wp_40 w_9 w_885 (by decide) (by decide) dX8_keeps_23) ?_
  refine snd_cons (snd_lastore X dX8_keeps_26) ?_
  refine snd_cons (snd_aload_n X dX8_keeps_27 rfl) ?_
  refine snd_cons (snd_getf X Fk8 8 (by decide) w_655 dX8_keeps_28) ?_
  refine snd_cons (snd_iload_n X dX8_keeps_31 rfl) ?_
  refine snd_cons (snd_aload_n X dX8_keeps_32 rfl) ?_
  refine snd_cons (snd_callV X Fk8 (ok_X8_snapsOfAll l D ca) rfl rfl w_890 w_892 wp_41 w_9 w_893 (by decide) (by decide) dX8_keeps_33) ?_
  refine snd_cons (snd_iastore X dX8_keeps_36) ?_
  refine snd_cons (snd_aload_n X dX8_keeps_37 rfl) ?_
  refine snd_cons (snd_iconst X dX8_keeps_38 (by decide)) ?_
  refine snd_cons (snd_callV X Fk8 (ok_X8_ticks l D ca) rfl rfl w_821 w_823 wp_32 w_9 w_824 (by decide) (by decide) dX8_keeps_39) ?_
  refine snd_cons (snd_istore_n X dX8_keeps_42 rfl (by decide)) ?_
  refine snd_cons (snd_iinc X dX8_keeps_43 (by decide) (by decide)) ?_
  refine snd_cons (snd_goto X dX8_keeps_46 (by decide)) ?_
  refine snd_cons (snd_aload_n X dX8_keeps_49 rfl) ?_
  refine snd_cons (snd_callV X Fk8 (ok_X8_returns l D ca) rfl rfl w_714 w_716 wp_19 w_9 w_717 (by decide) (by decide) dX8_keeps_50) ?_
  refine snd_cons (snd_vret X dX8_keeps_53) ?_
  exact snd_nil
theorem k_X8_keeps_0 (ca : Nat → ClassId) : k_X8_keeps ca 0 = i_aload 0 1 := rfl
theorem k_X8_keeps_1 (ca : Nat → ClassId) : k_X8_keeps ca 1 = i_callV 8 0 0 0 0 0 (sp_X8_begins ca) 4 := rfl
theorem k_X8_keeps_4 (ca : Nat → ClassId) : k_X8_keeps ca 4 = i_aload 0 5 := rfl
theorem k_X8_keeps_5 (ca : Nat → ClassId) : k_X8_keeps ca 5 = i_callV 8 0 0 0 0 0 (sp_X8_laysBends ca) 8 := rfl
theorem k_X8_keeps_8 (ca : Nat → ClassId) : k_X8_keeps ca 8 = i_push (.int 0) 9 := rfl
theorem k_X8_keeps_9 (ca : Nat → ClassId) : k_X8_keeps ca 9 = i_istore 1 10 := rfl
theorem k_X8_keeps_10 (ca : Nat → ClassId) : k_X8_keeps ca 10 = i_iload 1 11 := rfl
theorem k_X8_keeps_11 (ca : Nat → ClassId) : k_X8_keeps ca 11 = i_push (.int 1500) 14 := rfl
theorem k_X8_keeps_14 (ca : Nat → ClassId) : k_X8_keeps ca 14 = i_icmp (fun x y => y < x) 49 17 := rfl
theorem k_X8_keeps_17 (ca : Nat → ClassId) : k_X8_keeps ca 17 = i_aload 0 18 := rfl
theorem k_X8_keeps_18 (ca : Nat → ClassId) : k_X8_keeps ca 18 = i_getf 8 7 21 := rfl
theorem k_X8_keeps_21 (ca : Nat → ClassId) : k_X8_keeps ca 21 = i_iload 1 22 := rfl
theorem k_X8_keeps_22 (ca : Nat → ClassId) : k_X8_keeps ca 22 = i_aload 0 23 := rfl
theorem k_X8_keeps_23 (ca : Nat → ClassId) : k_X8_keeps ca 23 = i_callV 8 0 0 0 0 0 (sp_X8_sign ca) 26 := rfl
theorem k_X8_keeps_26 (ca : Nat → ClassId) : k_X8_keeps ca 26 = i_last (ca 1) 27 := rfl
theorem k_X8_keeps_27 (ca : Nat → ClassId) : k_X8_keeps ca 27 = i_aload 0 28 := rfl
theorem k_X8_keeps_28 (ca : Nat → ClassId) : k_X8_keeps ca 28 = i_getf 8 8 31 := rfl
theorem k_X8_keeps_31 (ca : Nat → ClassId) : k_X8_keeps ca 31 = i_iload 1 32 := rfl
theorem k_X8_keeps_32 (ca : Nat → ClassId) : k_X8_keeps ca 32 = i_aload 0 33 := rfl
theorem k_X8_keeps_33 (ca : Nat → ClassId) : k_X8_keeps ca 33 = i_callV 8 0 0 0 0 0 (sp_X8_snapsOfAll ca) 36 := rfl
theorem k_X8_keeps_36 (ca : Nat → ClassId) : k_X8_keeps ca 36 = i_ast (fun x => x) (ca 0) 37 := rfl
theorem k_X8_keeps_37 (ca : Nat → ClassId) : k_X8_keeps ca 37 = i_aload 0 38 := rfl
theorem k_X8_keeps_38 (ca : Nat → ClassId) : k_X8_keeps ca 38 = i_push (.int 0) 39 := rfl
theorem k_X8_keeps_39 (ca : Nat → ClassId) : k_X8_keeps ca 39 = i_callV 8 1 0 0 0 0 (sp_X8_ticks ca) 42 := rfl
theorem k_X8_keeps_42 (ca : Nat → ClassId) : k_X8_keeps ca 42 = i_istore 2 43 := rfl
theorem k_X8_keeps_43 (ca : Nat → ClassId) : k_X8_keeps ca 43 = i_iinc 1 1 46 := rfl
theorem k_X8_keeps_46 (ca : Nat → ClassId) : k_X8_keeps ca 46 = i_goto 10 := rfl
theorem k_X8_keeps_49 (ca : Nat → ClassId) : k_X8_keeps ca 49 = i_aload 0 50 := rfl
theorem k_X8_keeps_50 (ca : Nat → ClassId) : k_X8_keeps ca 50 = i_callV 8 0 0 0 0 0 (sp_X8_returns ca) 53 := rfl
theorem k_X8_keeps_53 (ca : Nat → ClassId) : k_X8_keeps ca 53 = i_vret := rfl
set_option maxHeartbeats 4000000 in
set_option maxRecDepth 20000 in
theorem ok_X8_keeps (l : Launch) (D : va_G) (ca : Nat → ClassId) : OkAll l D ca yX8_keeps cX8_keeps 3 none 5 0 0 (sp_X8_keeps ca) := by
  intro av h post hs
  obtain ⟨m, a, s, p, t, f, n, rfl, I, hR, hW, hO, hs⟩ := hs
  obtain ⟨l0, hm0⟩ := hR.m8
  have d0 := I.2 0
  have d4 := I.2 4
  have d5 := I.2 5
  have d6 := I.2 6
  refine okM_of t_X8_keeps (by decide +kernel) (c1_ref c1_nil) (Nat.le_of_ble_eq_true rfl) ?_
  intro K go
  have key : ∀ j k H s1 g r kp ks x2, k + j = 1501 → Eq127 g s → Eq127 s1 (tkI s (rts s) 0 k) → (∀ i, i < 3 → r i = rts s i) → RAg ca H m a s1 g p t f n → H (a 4) = some (.inl (ca 0, 3, .inl r)) → H (a 5) = some (.inl (ca 1, 1501, .inr (.inl kp))) → H (a 6) = some (.inl (ca 0, 1501, .inl ks)) → (∀ i, i < k → kp i = kpS s i) → (∀ i, i < k → ks i = snS s i) → SmR m a h H → K 0 0 10 [some (.ref m), some (.int (nI k)), x2] [] H := by
    intro j
    induction j with
    | zero =>
      intro k H s1 g r kp ks x2 hk hg h1 hr hH H4 H5 H6 hkp hks hS
      have hk : k = 1501 := hk
      subst hk
      obtain ⟨fm, at', re, bd, kp', ks', iw, ip, fo, em, e0, e1, -⟩ := id hH
      have em' := em
      unfold eMod at em'
      have e : nI 1501 = 1501 := rfl
      refine goN go (stp [53]) 160 _ _ _ _ _ _ (fun F hF hF0 => ?_)
      simp only [hF, hF0, ite_not, i_push, i_iload, i_lload, i_aload, i_istore, i_astore, i_lstore, i_iinc, i_bin, i_dv, i_un, i_lbin, i_lsh, i_i2l, i_l2i, i_lcmp, i_dup, i_dup2, i_pop, i_if, i_icmp, i_goto, swG, i_sw, i_getf, i_puti, i_putz, i_putr, i_ald, i_lald, i_aald, i_ast, i_last, i_aast, i_alen, i_new, i_newi, i_newl, i_newq, i_oinit, i_ret, i_zret, i_lret, i_vret, catS, tk, rpush, isO, i_m1, i_m2, i_acopy, i_callV, i_callS, KRet, lget, lput, lputL, lcl0, isL, lv0, List.map_cons, List.map_nil, List.length_cons, List.length_nil, List.cons_append, List.nil_append, Nat.reduceAdd, Nat.reduceSub, Nat.reduceLeDiff, List.replicate_succ, List.replicate_zero, List.getElem?_cons_succ, List.getElem?_cons_zero, List.set_cons_succ, List.set_cons_zero, true_and, and_true, if_true, if_false, ↓reduceIte, Nat.le_refl, Value.category, va_up_app, eq_self, stp, Nat.reduceBEq, Bool.or_false, Bool.false_or, Bool.true_or, Bool.or_true, or_true, true_or, bx_uu, implies_true, true_implies, not_true, not_false_eq_true, false_implies, and_self, Nat.reduceLT, Int32.reduceAdd, Int32.reduceSub, Int32.reduceMul, Int32.reduceLE, Int32.reduceLT, Int32.reduceToNatClampNeg, va_rf_some, Bool.false_eq_true, k_X8_keeps_0 ca, k_X8_keeps_1 ca, k_X8_keeps_4 ca, k_X8_keeps_5 ca, k_X8_keeps_8 ca, k_X8_keeps_9 ca, k_X8_keeps_10 ca, k_X8_keeps_11 ca, k_X8_keeps_14 ca, k_X8_keeps_17 ca, k_X8_keeps_18 ca, k_X8_keeps_21 ca, k_X8_keeps_22 ca, k_X8_keeps_23 ca, k_X8_keeps_26 ca, k_X8_keeps_27 ca, k_X8_keeps_28 ca, k_X8_keeps_31 ca, k_X8_keeps_32 ca, k_X8_keeps_33 ca, k_X8_keeps_36 ca, k_X8_keeps_37 ca, k_X8_keeps_38 ca, k_X8_keeps_39 ca, k_X8_keeps_42 ca, k_X8_keeps_43 ca, k_X8_keeps_46 ca, k_X8_keeps_49 ca, k_X8_keeps_50 ca, k_X8_keeps_53 ca, e, em']
      try clear hF hF0 F
      refine ⟨m, a 0, a 1, _, s1, g, rfl, em, e0, e1, I.ne (by decide), I.2 0, ?_⟩
      have k0 := hs _ _ kp ks (fun j hj => (flo_in hj).trans (hg j hj)) ⟨_, hH.s0 I (flo g s1 127)⟩ ((va_up_ne _ _ (I.ne (by decide))).trans H5) ((va_up_ne _ _ (I.ne (by decide))).trans H6) hkp hks (hS.tr (SmR.a (by decide) _))
      refine goN go (stp []) 160 _ _ _ _ _ _ (fun F hF hF0 => ?_)
      simp only [hF, hF0, ite_not, i_push, i_iload, i_lload, i_aload, i_istore, i_astore, i_lstore, i_iinc, i_bin, i_dv, i_un, i_lbin, i_lsh, i_i2l, i_l2i, i_lcmp, i_dup, i_dup2, i_pop, i_if, i_icmp, i_goto, swG, i_sw, i_getf, i_puti, i_putz, i_putr, i_ald, i_lald, i_aald, i_ast, i_last, i_aast, i_alen, i_new, i_newi, i_newl, i_newq, i_oinit, i_ret, i_zret, i_lret, i_vret, catS, tk, rpush, isO, i_m1, i_m2, i_acopy, i_callV, i_callS, KRet, lget, lput, lputL, lcl0, isL, lv0, List.map_cons, List.map_nil, List.length_cons, List.length_nil, List.cons_append, List.nil_append, Nat.reduceAdd, Nat.reduceSub, Nat.reduceLeDiff, List.replicate_succ, List.replicate_zero, List.getElem?_cons_succ, List.getElem?_cons_zero, List.set_cons_succ, List.set_cons_zero, true_and, and_true, if_true, if_false, ↓reduceIte, Nat.le_refl, Value.category, va_up_app, eq_self, stp, Nat.reduceBEq, Bool.or_false, Bool.false_or, Bool.true_or, Bool.or_true, or_true, true_or, bx_uu, implies_true, true_implies, not_true, not_false_eq_true, false_implies, and_self, Nat.reduceLT, Int32.reduceAdd, Int32.reduceSub, Int32.reduceMul, Int32.reduceLE, Int32.reduceLT, Int32.reduceToNatClampNeg, va_rf_some, Bool.false_eq_true, k_X8_keeps_0 ca, k_X8_keeps_1 ca, k_X8_keeps_4 ca, k_X8_keeps_5 ca, k_X8_keeps_8 ca, k_X8_keeps_9 ca, k_X8_keeps_10 ca, k_X8_keeps_11 ca, k_X8_keeps_14 ca, k_X8_keeps_17 ca, k_X8_keeps_18 ca, k_X8_keeps_21 ca, k_X8_keeps_22 ca, k_X8_keeps_23 ca, k_X8_keeps_26 ca, k_X8_keeps_27 ca, k_X8_keeps_28 ca, k_X8_keeps_31 ca, k_X8_keeps_32 ca, k_X8_keeps_33 ca, k_X8_keeps_36 ca, k_X8_keeps_37 ca, k_X8_keeps_38 ca, k_X8_keeps_39 ca, k_X8_keeps_42 ca, k_X8_keeps_43 ca, k_X8_keeps_46 ca, k_X8_keeps_49 ca, k_X8_keeps_50 ca, k_X8_keeps_53 ca]
      try clear hF hF0 F
      exact k0
    | succ j ih =>
      intro k H s1 g r kp ks x2 hk hg h1 hr hH H4 H5 H6 hkp hks hS
      obtain ⟨fm, at', re, bd, kp', ks', iw, ip, fo, em, e0, e1, -⟩ := id hH
      have em' := em
      unfold eMod at em'
      have g1 : ((1500 : Int32) < nI k) = False := eq_false (nI_nlt (a := 1500) (by omega) (by omega))
      have z0 : vp_in (nI k) 1501 := vp_in_nI (by omega) (by decide)
      have z1 : (nI k).toNatClampNeg = k := nI_clamp (by omega)
      refine goN go (stp [26]) 160 _ _ _ _ _ _ (fun F hF hF0 => ?_)
      simp only [hF, hF0, ite_not, i_push, i_iload, i_lload, i_aload, i_istore, i_astore, i_lstore, i_iinc, i_bin, i_dv, i_un, i_lbin, i_lsh, i_i2l, i_l2i, i_lcmp, i_dup, i_dup2, i_pop, i_if, i_icmp, i_goto, swG, i_sw, i_getf, i_puti, i_putz, i_putr, i_ald, i_lald, i_aald, i_ast, i_last, i_aast, i_alen, i_new, i_newi, i_newl, i_newq, i_oinit, i_ret, i_zret, i_lret, i_vret, catS, tk, rpush, isO, i_m1, i_m2, i_acopy, i_callV, i_callS, KRet, lget, lput, lputL, lcl0, isL, lv0, List.map_cons, List.map_nil, List.length_cons, List.length_nil, List.cons_append, List.nil_append, Nat.reduceAdd, Nat.reduceSub, Nat.reduceLeDiff, List.replicate_succ, List.replicate_zero, List.getElem?_cons_succ, List.getElem?_cons_zero, List.set_cons_succ, List.set_cons_zero, true_and, and_true, if_true, if_false, ↓reduceIte, Nat.le_refl, Value.category, va_up_app, eq_self, stp, Nat.reduceBEq, Bool.or_false, Bool.false_or, Bool.true_or, Bool.or_true, or_true, true_or, bx_uu, implies_true, true_implies, not_true, not_false_eq_true, false_implies, and_self, Nat.reduceLT, Int32.reduceAdd, Int32.reduceSub, Int32.reduceMul, Int32.reduceLE, Int32.reduceLT, Int32.reduceToNatClampNeg, va_rf_some, Bool.false_eq_true, k_X8_keeps_0 ca, k_X8_keeps_1 ca, k_X8_keeps_4 ca, k_X8_keeps_5 ca, k_X8_keeps_8 ca, k_X8_keeps_9 ca, k_X8_keeps_10 ca, k_X8_keeps_11 ca, k_X8_keeps_14 ca, k_X8_keeps_17 ca, k_X8_keeps_18 ca, k_X8_keeps_21 ca, k_X8_keeps_22 ca, k_X8_keeps_23 ca, k_X8_keeps_26 ca, k_X8_keeps_27 ca, k_X8_keeps_28 ca, k_X8_keeps_31 ca, k_X8_keeps_32 ca, k_X8_keeps_33 ca, k_X8_keeps_36 ca, k_X8_keeps_37 ca, k_X8_keeps_38 ca, k_X8_keeps_39 ca, k_X8_keeps_42 ca, k_X8_keeps_43 ca, k_X8_keeps_46 ca, k_X8_keeps_49 ca, k_X8_keeps_50 ca, k_X8_keeps_53 ca, g1, em']
      try clear hF hF0 F
      refine ⟨m, a 0, s1, rfl, ⟨⟨_, em⟩, e0⟩, ?_⟩
      refine goN go (stp [36]) 160 _ _ _ _ _ _ (fun F hF hF0 => ?_)
      simp only [hF, hF0, ite_not, i_push, i_iload, i_lload, i_aload, i_istore, i_astore, i_lstore, i_iinc, i_bin, i_dv, i_un, i_lbin, i_lsh, i_i2l, i_l2i, i_lcmp, i_dup, i_dup2, i_pop, i_if, i_icmp, i_goto, swG, i_sw, i_getf, i_puti, i_putz, i_putr, i_ald, i_lald, i_aald, i_ast, i_last, i_aast, i_alen, i_new, i_newi, i_newl, i_newq, i_oinit, i_ret, i_zret, i_lret, i_vret, catS, tk, rpush, isO, i_m1, i_m2, i_acopy, i_callV, i_callS, KRet, lget, lput, lputL, lcl0, isL, lv0, List.map_cons, List.map_nil, List.length_cons, List.length_nil, List.cons_append, List.nil_append, Nat.reduceAdd, Nat.reduceSub, Nat.reduceLeDiff, List.replicate_succ, List.replicate_zero, List.getElem?_cons_succ, List.getElem?_cons_zero, List.set_cons_succ, List.set_cons_zero, true_and, and_true, if_true, if_false, ↓reduceIte, Nat.le_refl, Value.category, va_up_app, eq_self, stp, Nat.reduceBEq, Bool.or_false, Bool.false_or, Bool.true_or, Bool.or_true, or_true, true_or, bx_uu, implies_true, true_implies, not_true, not_false_eq_true, false_implies, and_self, Nat.reduceLT, Int32.reduceAdd, Int32.reduceSub, Int32.reduceMul, Int32.reduceLE, Int32.reduceLT, Int32.reduceToNatClampNeg, va_rf_some, Bool.false_eq_true, k_X8_keeps_0 ca, k_X8_keeps_1 ca, k_X8_keeps_4 ca, k_X8_keeps_5 ca, k_X8_keeps_8 ca, k_X8_keeps_9 ca, k_X8_keeps_10 ca, k_X8_keeps_11 ca, k_X8_keeps_14 ca, k_X8_keeps_17 ca, k_X8_keeps_18 ca, k_X8_keeps_21 ca, k_X8_keeps_22 ca, k_X8_keeps_23 ca, k_X8_keeps_26 ca, k_X8_keeps_27 ca, k_X8_keeps_28 ca, k_X8_keeps_31 ca, k_X8_keeps_32 ca, k_X8_keeps_33 ca, k_X8_keeps_36 ca, k_X8_keeps_37 ca, k_X8_keeps_38 ca, k_X8_keeps_39 ca, k_X8_keeps_42 ca, k_X8_keeps_43 ca, k_X8_keeps_46 ca, k_X8_keeps_49 ca, k_X8_keeps_50 ca, k_X8_keeps_53 ca, em', H5, z0, z1, d5]
      try clear hF hF0 F
      refine ⟨m, a 0, s1, rfl, ⟨⟨_, (va_up_ne _ _ d5).trans em⟩, (va_up_ne _ _ (I.ne (by decide))).trans e0⟩, ?_⟩
      have H6' : va_up H (a 5) (some (.inl (ca 1, 1501, .inr (.inl (vp_updL kp k (sgS s1)))))) (a 6) = some (.inl (ca 0, 1501, .inl ks)) := (va_up_ne _ _ (I.ne (by decide))).trans H6
      have hH1 := (hH.k5 I (vp_updL kp k (sgS s1))).k6 I (upd ks k (snO s1))
      have H51 : va_up (va_up H (a 5) (some (.inl (ca 1, 1501, .inr (.inl (vp_updL kp k (sgS s1))))))) (a 6) (some (.inl (ca 0, 1501, .inl (upd ks k (snO s1))))) (a 5) = some (.inl (ca 1, 1501, .inr (.inl (vp_updL kp k (sgS s1))))) := (va_up_ne _ _ (I.ne (by decide))).trans (va_up_self _ _ _)
      have H61 : va_up (va_up H (a 5) (some (.inl (ca 1, 1501, .inr (.inl (vp_updL kp k (sgS s1))))))) (a 6) (some (.inl (ca 0, 1501, .inl (upd ks k (snO s1))))) (a 6) = some (.inl (ca 0, 1501, .inl (upd ks k (snO s1)))) := va_up_self _ _ _
      have H41 : va_up (va_up H (a 5) (some (.inl (ca 1, 1501, .inr (.inl (vp_updL kp k (sgS s1))))))) (a 6) (some (.inl (ca 0, 1501, .inl (upd ks k (snO s1))))) (a 4) = some (.inl (ca 0, 3, .inl r)) := (va_up_ne _ _ (I.ne (by decide))).trans ((va_up_ne _ _ (I.ne (by decide))).trans H4)
      have hS1 : SmR m a h (va_up (va_up H (a 5) (some (.inl (ca 1, 1501, .inr (.inl (vp_updL kp k (sgS s1))))))) (a 6) (some (.inl (ca 0, 1501, .inl (upd ks k (snO s1)))))) := hS.tr ((SmR.a (by decide) _).tr (SmR.a (by decide) _))
      have d65 : ¬ a 6 = a 5 := I.ne (by decide)
      refine goN go (stp [42]) 160 _ _ _ _ _ _ (fun F hF hF0 => ?_)
      simp only [hF, hF0, ite_not, i_push, i_iload, i_lload, i_aload, i_istore, i_astore, i_lstore, i_iinc, i_bin, i_dv, i_un, i_lbin, i_lsh, i_i2l, i_l2i, i_lcmp, i_dup, i_dup2, i_pop, i_if, i_icmp, i_goto, swG, i_sw, i_getf, i_puti, i_putz, i_putr, i_ald, i_lald, i_aald, i_ast, i_last, i_aast, i_alen, i_new, i_newi, i_newl, i_newq, i_oinit, i_ret, i_zret, i_lret, i_vret, catS, tk, rpush, isO, i_m1, i_m2, i_acopy, i_callV, i_callS, KRet, lget, lput, lputL, lcl0, isL, lv0, List.map_cons, List.map_nil, List.length_cons, List.length_nil, List.cons_append, List.nil_append, Nat.reduceAdd, Nat.reduceSub, Nat.reduceLeDiff, List.replicate_succ, List.replicate_zero, List.getElem?_cons_succ, List.getElem?_cons_zero, List.set_cons_succ, List.set_cons_zero, true_and, and_true, if_true, if_false, ↓reduceIte, Nat.le_refl, Value.category, va_up_app, eq_self, stp, Nat.reduceBEq, Bool.or_false, Bool.false_or, Bool.true_or, Bool.or_true, or_true, true_or, bx_uu, implies_true, true_implies, not_true, not_false_eq_true, false_implies, and_self, Nat.reduceLT, Int32.reduceAdd, Int32.reduceSub, Int32.reduceMul, Int32.reduceLE, Int32.reduceLT, Int32.reduceToNatClampNeg, va_rf_some, Bool.false_eq_true, k_X8_keeps_0 ca, k_X8_keeps_1 ca, k_X8_keeps_4 ca, k_X8_keeps_5 ca, k_X8_keeps_8 ca, k_X8_keeps_9 ca, k_X8_keeps_10 ca, k_X8_keeps_11 ca, k_X8_keeps_14 ca, k_X8_keeps_17 ca, k_X8_keeps_18 ca, k_X8_keeps_21 ca, k_X8_keeps_22 ca, k_X8_keeps_23 ca, k_X8_keeps_26 ca, k_X8_keeps_27 ca, k_X8_keeps_28 ca, k_X8_keeps_31 ca, k_X8_keeps_32 ca, k_X8_keeps_33 ca, k_X8_keeps_36 ca, k_X8_keeps_37 ca, k_X8_keeps_38 ca, k_X8_keeps_39 ca, k_X8_keeps_42 ca, k_X8_keeps_43 ca, k_X8_keeps_46 ca, k_X8_keeps_49 ca, k_X8_keeps_50 ca, k_X8_keeps_53 ca, em', H6, d65, z0, z1, d5, d6]
      try clear hF hF0 F
      generalize va_up (va_up H (a 5) (some (.inl (ca 1, 1501, .inr (.inl (vp_updL kp k (sgS s1))))))) (a 6) (some (.inl (ca 0, 1501, .inl (upd ks k (snO s1))))) = H1 at *
      obtain ⟨fm, at', re, bd, kp', ks', iw, ip, fo, em, e0, e1, -⟩ := id hH1
      refine ⟨m, a, _, _, fm, at', re, s1, r, 0, rfl, em, e0, H41, d0, I.ne (by decide), OkR_cong h1 (OkR_tkI hO k), fun s2 h2 => ?_⟩
      rw [if_pos rfl] at h2 ⊢
      have k0 := ih (k + 1) _ s2 g r _ _ (some (.int (tkMN s1 r 0))) (by omega) hg (by rw [tkM_r hr] at h2; exact h2.tr (tkM_cong h1)) hr (hH1.s0 I s2) ((va_up_ne _ _ (I.ne (by decide))).trans H41) ((va_up_ne _ _ (I.ne (by decide))).trans H51) ((va_up_ne _ _ (I.ne (by decide))).trans H61) (updL_lt hkp (sgS_cong h1)) (upd_lt hks (snO_cong h1)) (hS1.tr (SmR.a (by decide) _))
      refine goN go (stp [10]) 160 _ _ _ _ _ _ (fun F hF hF0 => ?_)
      simp only [hF, hF0, ite_not, i_push, i_iload, i_lload, i_aload, i_istore, i_astore, i_lstore, i_iinc, i_bin, i_dv, i_un, i_lbin, i_lsh, i_i2l, i_l2i, i_lcmp, i_dup, i_dup2, i_pop, i_if, i_icmp, i_goto, swG, i_sw, i_getf, i_puti, i_putz, i_putr, i_ald, i_lald, i_aald, i_ast, i_last, i_aast, i_alen, i_new, i_newi, i_newl, i_newq, i_oinit, i_ret, i_zret, i_lret, i_vret, catS, tk, rpush, isO, i_m1, i_m2, i_acopy, i_callV, i_callS, KRet, lget, lput, lputL, lcl0, isL, lv0, List.map_cons, List.map_nil, List.length_cons, List.length_nil, List.cons_append, List.nil_append, Nat.reduceAdd, Nat.reduceSub, Nat.reduceLeDiff, List.replicate_succ, List.replicate_zero, List.getElem?_cons_succ, List.getElem?_cons_zero, List.set_cons_succ, List.set_cons_zero, true_and, and_true, if_true, if_false, ↓reduceIte, Nat.le_refl, Value.category, va_up_app, eq_self, stp, Nat.reduceBEq, Bool.or_false, Bool.false_or, Bool.true_or, Bool.or_true, or_true, true_or, bx_uu, implies_true, true_implies, not_true, not_false_eq_true, false_implies, and_self, Nat.reduceLT, Int32.reduceAdd, Int32.reduceSub, Int32.reduceMul, Int32.reduceLE, Int32.reduceLT, Int32.reduceToNatClampNeg, va_rf_some, Bool.false_eq_true, k_X8_keeps_0 ca, k_X8_keeps_1 ca, k_X8_keeps_4 ca, k_X8_keeps_5 ca, k_X8_keeps_8 ca, k_X8_keeps_9 ca, k_X8_keeps_10 ca, k_X8_keeps_11 ca, k_X8_keeps_14 ca, k_X8_keeps_17 ca, k_X8_keeps_18 ca, k_X8_keeps_21 ca, k_X8_keeps_22 ca, k_X8_keeps_23 ca, k_X8_keeps_26 ca, k_X8_keeps_27 ca, k_X8_keeps_28 ca, k_X8_keeps_31 ca, k_X8_keeps_32 ca, k_X8_keeps_33 ca, k_X8_keeps_36 ca, k_X8_keeps_37 ca, k_X8_keeps_38 ca, k_X8_keeps_39 ca, k_X8_keeps_42 ca, k_X8_keeps_43 ca, k_X8_keeps_46 ca, k_X8_keeps_49 ca, k_X8_keeps_50 ca, k_X8_keeps_53 ca, a_1]
      try clear hF hF0 F
      exact k0
  refine goN go (stp [4]) 160 _ _ _ _ _ _ (fun F hF hF0 => ?_)
  simp only [hF, hF0, ite_not, i_push, i_iload, i_lload, i_aload, i_istore, i_astore, i_lstore, i_iinc, i_bin, i_dv, i_un, i_lbin, i_lsh, i_i2l, i_l2i, i_lcmp, i_dup, i_dup2, i_pop, i_if, i_icmp, i_goto, swG, i_sw, i_getf, i_puti, i_putz, i_putr, i_ald, i_lald, i_aald, i_ast, i_last, i_aast, i_alen, i_new, i_newi, i_newl, i_newq, i_oinit, i_ret, i_zret, i_lret, i_vret, catS, tk, rpush, isO, i_m1, i_m2, i_acopy, i_callV, i_callS, KRet, lget, lput, lputL, lcl0, isL, lv0, List.map_cons, List.map_nil, List.length_cons, List.length_nil, List.cons_append, List.nil_append, Nat.reduceAdd, Nat.reduceSub, Nat.reduceLeDiff, List.replicate_succ, List.replicate_zero, List.getElem?_cons_succ, List.getElem?_cons_zero, List.set_cons_succ, List.set_cons_zero, true_and, and_true, if_true, if_false, ↓reduceIte, Nat.le_refl, Value.category, va_up_app, eq_self, stp, Nat.reduceBEq, Bool.or_false, Bool.false_or, Bool.true_or, Bool.or_true, or_true, true_or, bx_uu, implies_true, true_implies, not_true, not_false_eq_true, false_implies, and_self, Nat.reduceLT, Int32.reduceAdd, Int32.reduceSub, Int32.reduceMul, Int32.reduceLE, Int32.reduceLT, Int32.reduceToNatClampNeg, va_rf_some, Bool.false_eq_true, k_X8_keeps_0 ca, k_X8_keeps_1 ca, k_X8_keeps_4 ca, k_X8_keeps_5 ca, k_X8_keeps_8 ca, k_X8_keeps_9 ca, k_X8_keeps_10 ca, k_X8_keeps_11 ca, k_X8_keeps_14 ca, k_X8_keeps_17 ca, k_X8_keeps_18 ca, k_X8_keeps_21 ca, k_X8_keeps_22 ca, k_X8_keeps_23 ca, k_X8_keeps_26 ca, k_X8_keeps_27 ca, k_X8_keeps_28 ca, k_X8_keeps_31 ca, k_X8_keeps_32 ca, k_X8_keeps_33 ca, k_X8_keeps_36 ca, k_X8_keeps_37 ca, k_X8_keeps_38 ca, k_X8_keeps_39 ca, k_X8_keeps_42 ca, k_X8_keeps_43 ca, k_X8_keeps_46 ca, k_X8_keeps_49 ca, k_X8_keeps_50 ca, k_X8_keeps_53 ca, hm0]
  try clear hF hF0 F
  refine begins_of I hR (fun h1 g hg hR1 hS1 => ?_)
  obtain ⟨fm, at', re, bd, kp', ks', iw, ip, fo, em, e0, e1, e2, e3, e4, -⟩ := id hR1
  have em' := em
  unfold eMod at em'
  refine goN go (stp [8]) 160 _ _ _ _ _ _ (fun F hF hF0 => ?_)
  simp only [hF, hF0, ite_not, i_push, i_iload, i_lload, i_aload, i_istore, i_astore, i_lstore, i_iinc, i_bin, i_dv, i_un, i_lbin, i_lsh, i_i2l, i_l2i, i_lcmp, i_dup, i_dup2, i_pop, i_if, i_icmp, i_goto, swG, i_sw, i_getf, i_puti, i_putz, i_putr, i_ald, i_lald, i_aald, i_ast, i_last, i_aast, i_alen, i_new, i_newi, i_newl, i_newq, i_oinit, i_ret, i_zret, i_lret, i_vret, catS, tk, rpush, isO, i_m1, i_m2, i_acopy, i_callV, i_callS, KRet, lget, lput, lputL, lcl0, isL, lv0, List.map_cons, List.map_nil, List.length_cons, List.length_nil, List.cons_append, List.nil_append, Nat.reduceAdd, Nat.reduceSub, Nat.reduceLeDiff, List.replicate_succ, List.replicate_zero, List.getElem?_cons_succ, List.getElem?_cons_zero, List.set_cons_succ, List.set_cons_zero, true_and, and_true, if_true, if_false, ↓reduceIte, Nat.le_refl, Value.category, va_up_app, eq_self, stp, Nat.reduceBEq, Bool.or_false, Bool.false_or, Bool.true_or, Bool.or_true, or_true, true_or, bx_uu, implies_true, true_implies, not_true, not_false_eq_true, false_implies, and_self, Nat.reduceLT, Int32.reduceAdd, Int32.reduceSub, Int32.reduceMul, Int32.reduceLE, Int32.reduceLT, Int32.reduceToNatClampNeg, va_rf_some, Bool.false_eq_true, k_X8_keeps_0 ca, k_X8_keeps_1 ca, k_X8_keeps_4 ca, k_X8_keeps_5 ca, k_X8_keeps_8 ca, k_X8_keeps_9 ca, k_X8_keeps_10 ca, k_X8_keeps_11 ca, k_X8_keeps_14 ca, k_X8_keeps_17 ca, k_X8_keeps_18 ca, k_X8_keeps_21 ca, k_X8_keeps_22 ca, k_X8_keeps_23 ca, k_X8_keeps_26 ca, k_X8_keeps_27 ca, k_X8_keeps_28 ca, k_X8_keeps_31 ca, k_X8_keeps_32 ca, k_X8_keeps_33 ca, k_X8_keeps_36 ca, k_X8_keeps_37 ca, k_X8_keeps_38 ca, k_X8_keeps_39 ca, k_X8_keeps_42 ca, k_X8_keeps_43 ca, k_X8_keeps_46 ca, k_X8_keeps_49 ca, k_X8_keeps_50 ca, k_X8_keeps_53 ca, em']
  try clear hF hF0 F
  refine ⟨m, a, _, _, fm, at', re, s, bd, rfl, em, e0, e4, hW, d4, I.ne (by decide), fun r hr => ?_⟩
  have hR2 := hR1.b4 I r
  have H4 : va_up h1 (a 4) (some (.inl (ca 0, 3, .inl r))) (a 4) = some (.inl (ca 0, 3, .inl r)) := va_up_self _ _ _
  have hS2 := hS1.tr (SmR.a (i := 4) (by decide) (some (.inl (ca 0, 3, .inl r))))
  generalize va_up h1 (a 4) (some (.inl (ca 0, 3, .inl r))) = h2 at *
  obtain ⟨fm2, at2, re2, bd2, kp2, ks2, iw2, ip2, fo2, em2, e02, e12, e22, e32, e42, e52, e62, -⟩ := id hR2
  have k0 := key 1501 0 h2 s g r kp2 ks2 none (by omega) hg Eq127.rf hr hR2 H4 e52 e62 (fun i hi => absurd hi (by omega)) (fun i hi => absurd hi (by omega)) hS2
  rw [nI_0] at k0
  refine goN go (stp [10]) 160 _ _ _ _ _ _ (fun F hF hF0 => ?_)
  simp only [hF, hF0, ite_not, i_push, i_iload, i_lload, i_aload, i_istore, i_astore, i_lstore, i_iinc, i_bin, i_dv, i_un, i_lbin, i_lsh, i_i2l, i_l2i, i_lcmp, i_dup, i_dup2, i_pop, i_if, i_icmp, i_goto, swG, i_sw, i_getf, i_puti, i_putz, i_putr, i_ald, i_lald, i_aald, i_ast, i_last, i_aast, i_alen, i_new, i_newi, i_newl, i_newq, i_oinit, i_ret, i_zret, i_lret, i_vret, catS, tk, rpush, isO, i_m1, i_m2, i_acopy, i_callV, i_callS, KRet, lget, lput, lputL, lcl0, isL, lv0, List.map_cons, List.map_nil, List.length_cons, List.length_nil, List.cons_append, List.nil_append, Nat.reduceAdd, Nat.reduceSub, Nat.reduceLeDiff, List.replicate_succ, List.replicate_zero, List.getElem?_cons_succ, List.getElem?_cons_zero, List.set_cons_succ, List.set_cons_zero, true_and, and_true, if_true, if_false, ↓reduceIte, Nat.le_refl, Value.category, va_up_app, eq_self, stp, Nat.reduceBEq, Bool.or_false, Bool.false_or, Bool.true_or, Bool.or_true, or_true, true_or, bx_uu, implies_true, true_implies, not_true, not_false_eq_true, false_implies, and_self, Nat.reduceLT, Int32.reduceAdd, Int32.reduceSub, Int32.reduceMul, Int32.reduceLE, Int32.reduceLT, Int32.reduceToNatClampNeg, va_rf_some, Bool.false_eq_true, k_X8_keeps_0 ca, k_X8_keeps_1 ca, k_X8_keeps_4 ca, k_X8_keeps_5 ca, k_X8_keeps_8 ca, k_X8_keeps_9 ca, k_X8_keeps_10 ca, k_X8_keeps_11 ca, k_X8_keeps_14 ca, k_X8_keeps_17 ca, k_X8_keeps_18 ca, k_X8_keeps_21 ca, k_X8_keeps_22 ca, k_X8_keeps_23 ca, k_X8_keeps_26 ca, k_X8_keeps_27 ca, k_X8_keeps_28 ca, k_X8_keeps_31 ca, k_X8_keeps_32 ca, k_X8_keeps_33 ca, k_X8_keeps_36 ca, k_X8_keeps_37 ca, k_X8_keeps_38 ca, k_X8_keeps_39 ca, k_X8_keeps_42 ca, k_X8_keeps_43 ca, k_X8_keeps_46 ca, k_X8_keeps_49 ca, k_X8_keeps_50 ca, k_X8_keeps_53 ca]
  try clear hF hF0 F
  exact k0
theorem cmpe (x y : Int64) : (lg_cmp x y = 0) = (x = y) := propext (lg_cmp_eq x y)
def sp_X8_loop (ca : Nat → ClassId) : SPEC := fun av h post => ∃ m a s p t f n x, av = [.ref m, .int x] ∧ RI m a ∧ RAt ca h m a s p t f n ∧ WfS s ∧ (∀ k, k < 3 → OkR s k) ∧
  (isIn x 0 2 = false → post (some (.int (-10000001))) h) ∧
  (isIn x 0 2 = true → (∀ P, 1 ≤ P → P ≤ 1500 → ¬ kpS s (1500 - P) = kpS s 1500) → RP ca h m a f n post (-10000004) s p t) ∧
  (isIn x 0 2 = true → ∀ P L, 1 ≤ P → P ≤ 1500 → kpS s (1500 - P) = kpS s 1500 → (∀ j, 1 ≤ j → j < P → ¬ kpS s (1500 - j) = kpS s 1500) → L + P ≤ 1500 → kpS s L = kpS s (L + P) → (∀ l, l < L → ¬ kpS s l = kpS s (l + P)) → RP ca h m a f n post (if x = 0 then nI L else if x = 1 then nI P else snS s (L + P) - snS s L) s p t)
def k_X8_loop (ca : Nat → ClassId) : Nat → IT := fun pc => if pc < 72 then lk pc [(0, i_iload 1 1),
  (1, i_push (.int 0) 2),
  (2, i_push (.int 2) 3),
  (3, i_callS 3 0 0 0 0 (sp_X8_in ca) 6),
  (6, i_if (fun x => ¬ x = 0) 12 9),
  (9, i_push (.int (-10000001)) 11),
  (11, i_ret),
  (12, i_aload 0 13),
  (13, i_callV 8 0 0 0 0 0 (sp_X8_keeps ca) 16),
  (16, i_push (.int 1) 17),
  (17, i_istore 2 18),
  (18, i_iload 2 19),
  (19, i_push (.int 1500) 22),
  (22, i_icmp (fun x y => y < x) 53 25),
  (25, i_aload 0 26),
  (26, i_getf 8 7 29),
  (29, i_push (.int 1500) 32),
  (32, i_iload 2 33),
  (33, i_bin (fun x y => x - y) 34),
  (34, i_lald (ca 1) 35),
  (35, i_aload 0 36),
  (36, i_getf 8 7 39),
  (39, i_push (.int 1500) 42),
  (42, i_lald (ca 1) 43),
  (43, i_lcmp 44),
  (44, i_if (fun x => x = 0) 53 47),
  (47, i_iinc 2 1 50),
  (50, i_goto 18),
  (53, i_iload 2 54),
  (54, i_push (.int 1500) 57),
  (57, i_icmp (fun x y => x ≤ y) 63 60),
  (60, i_push (.int (-10000004)) 62),
  (62, i_ret),
  (63, i_push (.int 0) 64),
  (64, i_istore 3 65),
  (65, i_aload 0 66),
  (66, i_getf 8 7 69),
  (69, i_iload 3 70),
  (70, i_lald (ca 1) 71),
  (71, i_aload 0 72)] else
  lk pc [(72, i_getf 8 7 75),
  (75, i_iload 3 76),
  (76, i_iload 2 77),
  (77, i_bin (fun x y => x + y) 78),
  (78, i_lald (ca 1) 79),
  (79, i_lcmp 80),
  (80, i_if (fun x => x = 0) 89 83),
  (83, i_iinc 3 1 86),
  (86, i_goto 65),
  (89, i_iload 1 90),
  (90, i_if (fun x => ¬ x = 0) 97 93),
  (93, i_iload 3 94),
  (94, i_goto 121),
  (97, i_iload 1 98),
  (98, i_push (.int 1) 99),
  (99, i_icmp (fun x y => ¬ x = y) 106 102),
  (102, i_iload 2 103),
  (103, i_goto 121),
  (106, i_aload 0 107),
  (107, i_getf 8 8 110),
  (110, i_iload 3 111),
  (111, i_iload 2 112),
  (112, i_bin (fun x y => x + y) 113),
  (113, i_ald (ca 0) 114),
  (114, i_aload 0 115),
  (115, i_getf 8 8 118),
  (118, i_iload 3 119),
  (119, i_ald (ca 0) 120),
  (120, i_bin (fun x y => x - y) 121),
  (121, i_ret)]
set_option maxRecDepth 20000 in
theorem t_X8_loop : Tb k_X8_loop yX8_loop cX8_loop 4 (some .int) 6 0 0 := by
  intro l D ca A p e s m args below meth c post X
  unfold k_X8_loop
  refine snd_split (72) ?_ ?_
  · refine snd_cons (snd_iload_n X dX8_loop_0 rfl) ?_
    refine snd_cons (snd_iconst X dX8_loop_1 (by decide)) ?_
    refine snd_cons (snd_iconst X dX8_loop_2 (by decide)) ?_
    refine snd_cons (snd_callS X (ok_X8_in l D ca) rfl rfl w_702 w_703 w_9 w_704 (by decide) (by decide) dX8_loop_3) ?_
    refine snd_cons (snd_if_ne X dX8_loop_6 (by decide)) ?_
    refine snd_cons (snd_ldc X w_709 dX8_loop_9) ?_
    refine snd_cons (snd_ret X dX8_loop_11) ?_
    refine snd_cons (snd_aload_n X dX8_loop_12 rfl) ?_
    refine snd_cons (snd_callV X Fk8 (ok_X8_keeps l D ca) rfl rfl w_878 w_880 wp_39 w_9 w_881 (by decide) (by decide) dX8_loop_13) ?_
    refine snd_cons (snd_iconst X dX8_loop_16 (by decide)) ?_
    refine snd_cons (snd_istore_n X dX8_loop_17 rfl (by decide)) ?_
    refine snd_cons (snd_iload_n X dX8_loop_18 rfl) ?_
    refine snd_cons (snd_sipush X dX8_loop_19 (by decide)) ?_
    refine snd_cons (snd_icmp_gt X dX8_loop_22 (by decide)) ?_
    refine snd_cons (snd_aload_n X dX8_loop_25 rfl) ?_
    refine snd_cons (snd_getf X Fk8 7 (by decide) w_654 dX8_loop_26) ?_
    refine snd_cons (snd_sipush X dX8_loop_29 (by decide)) ?_
    refine snd_cons (snd_iload_n X dX8_loop_32 rfl) ?_
    refine snd_cons (snd_isub X dX8_loop_33) ?_
    refine snd_cons (snd_laload X dX8_loop_34) ?_
    refine snd_cons (snd_aload_n X dX8_loop_35 rfl) ?_
    refine snd_cons (snd_getf X Fk8 7 (by decide) w_654 dX8_loop_36) ?_
    refine snd_cons (snd_sipush X dX8_loop_39 (by decide)) ?_
    refine snd_cons (snd_laload X dX8_loop_42) ?_
    refine snd_cons (snd_lcmp X dX8_loop_43) ?_
    refine snd_cons (snd_if_eq X dX8_loop_44 (by decide)) ?_
    refine snd_cons (snd_iinc X dX8_loop_47 (by decide) (by decide)) ?_
    refine snd_cons (snd_goto X dX8_loop_50 (by decide)) ?_
    refine snd_cons (snd_iload_n X dX8_loop_53 rfl) ?_
    refine snd_cons (snd_sipush X dX8_loop_54 (by decide)) ?_
    refine snd_cons (snd_icmp_le X dX8_loop_57 (by decide)) ?_
    refine snd_cons (snd_ldc X w_857 dX8_loop_60) ?_
    refine snd_cons (snd_ret X dX8_loop_62) ?_
    refine snd_cons (snd_iconst X dX8_loop_63 (by decide)) ?_
    refine snd_cons (snd_istore_n X dX8_loop_64 rfl (by decide)) ?_
    refine snd_cons (snd_aload_n X dX8_loop_65 rfl) ?_
    refine snd_cons (snd_getf X Fk8 7 (by decide) w_654 dX8_loop_66) ?_
    refine snd_cons (snd_iload_n X dX8_loop_69 rfl) ?_
    refine snd_cons (snd_laload X dX8_loop_70) ?_
    refine snd_cons (snd_aload_n X dX8_loop_71 rfl) ?_
    exact snd_nil
  refine snd_cons (snd_getf X Fk8 7 (by decide) w_654 dX8_loop_72) ?_
  refine snd_cons (snd_iload_n X dX8_loop_75 rfl) ?_
  refine snd_cons (snd_iload_n X dX8_loop_76 rfl) ?_
  refine snd_cons (snd_iadd X dX8_loop_77) ?_
  refine snd_cons (snd_laload X dX8_loop_78) ?_
  refine snd_cons (snd_lcmp X dX8_loop_79) ?_
  refine snd_cons (snd_if_eq X dX8_loop_80 (by decide)) ?_
  refine snd_cons (snd_iinc X dX8_loop_83 (by decide) (by decide)) ?_
  refine snd_cons (snd_goto X dX8_loop_86 (by decide)) ?_
  refine snd_cons (snd_iload_n X dX8_loop_89 rfl) ?_
  refine snd_cons (snd_if_ne X dX8_loop_90 (by decide)) ?_
  refine snd_cons (snd_iload_n X dX8_loop_93 rfl) ?_
  refine snd_cons (snd_goto X dX8_loop_94 (by decide)) ?_
  refine snd_cons (snd_iload_n X dX8_loop_97 rfl) ?_
  refine snd_cons (snd_iconst X dX8_loop_98 (by decide)) ?_
  refine snd_cons (snd_icmp_ne X dX8_loop_99 (by decide)) ?_
  refine snd_cons (snd_iload_n X dX8_loop_102 rfl) ?_
  refine snd_cons (snd_goto X dX8_loop_103 (by decide)) ?_
  refine snd_cons (snd_aload_n X dX8_loop_106 rfl) ?_
  refine snd_cons (snd_getf X Fk8 8 (by decide) w_655 dX8_loop_107) ?_
  refine snd_cons (snd_iload_n X dX8_loop_110 rfl) ?_
  refine snd_cons (snd_iload_n X dX8_loop_111 rfl) ?_
  refine snd_cons (snd_iadd X dX8_loop_112) ?_
  refine snd_cons (snd_iaload X dX8_loop_113) ?_
  refine snd_cons (snd_aload_n X dX8_loop_114 rfl) ?_
  refine snd_cons (snd_getf X Fk8 8 (by decide) w_655 dX8_loop_115) ?_
  refine snd_cons (snd_iload_n X dX8_loop_118 rfl) ?_
  refine snd_cons (snd_iaload X dX8_loop_119) ?_
  refine snd_cons (snd_isub X dX8_loop_120) ?_
  refine snd_cons (snd_ret X dX8_loop_121) ?_
  exact snd_nil
theorem k_X8_loop_0 (ca : Nat → ClassId) : k_X8_loop ca 0 = i_iload 1 1 := rfl
theorem k_X8_loop_1 (ca : Nat → ClassId) : k_X8_loop ca 1 = i_push (.int 0) 2 := rfl
theorem k_X8_loop_2 (ca : Nat → ClassId) : k_X8_loop ca 2 = i_push (.int 2) 3 := rfl
theorem k_X8_loop_3 (ca : Nat → ClassId) : k_X8_loop ca 3 = i_callS 3 0 0 0 0 (sp_X8_in ca) 6 := rfl
theorem k_X8_loop_6 (ca : Nat → ClassId) : k_X8_loop ca 6 = i_if (fun x => ¬ x = 0) 12 9 := rfl
theorem k_X8_loop_9 (ca : Nat → ClassId) : k_X8_loop ca 9 = i_push (.int (-10000001)) 11 := rfl
theorem k_X8_loop_11 (ca : Nat → ClassId) : k_X8_loop ca 11 = i_ret := rfl
theorem k_X8_loop_12 (ca : Nat → ClassId) : k_X8_loop ca 12 = i_aload 0 13 := rfl
theorem k_X8_loop_13 (ca : Nat → ClassId) : k_X8_loop ca 13 = i_callV 8 0 0 0 0 0 (sp_X8_keeps ca) 16 := rfl
theorem k_X8_loop_16 (ca : Nat → ClassId) : k_X8_loop ca 16 = i_push (.int 1) 17 := rfl
theorem k_X8_loop_17 (ca : Nat → ClassId) : k_X8_loop ca 17 = i_istore 2 18 := rfl
theorem k_X8_loop_18 (ca : Nat → ClassId) : k_X8_loop ca 18 = i_iload 2 19 := rfl
theorem k_X8_loop_19 (ca : Nat → ClassId) : k_X8_loop ca 19 = i_push (.int 1500) 22 := rfl
theorem k_X8_loop_22 (ca : Nat → ClassId) : k_X8_loop ca 22 = i_icmp (fun x y => y < x) 53 25 := rfl
theorem k_X8_loop_25 (ca : Nat → ClassId) : k_X8_loop ca 25 = i_aload 0 26 := rfl
theorem k_X8_loop_26 (ca : Nat → ClassId) : k_X8_loop ca 26 = i_getf 8 7 29 := rfl
theorem k_X8_loop_29 (ca : Nat → ClassId) : k_X8_loop ca 29 = i_push (.int 1500) 32 := rfl
theorem k_X8_loop_32 (ca : Nat → ClassId) : k_X8_loop ca 32 = i_iload 2 33 := rfl
theorem k_X8_loop_33 (ca : Nat → ClassId) : k_X8_loop ca 33 = i_bin (fun x y => x - y) 34 := rfl
theorem k_X8_loop_34 (ca : Nat → ClassId) : k_X8_loop ca 34 = i_lald (ca 1) 35 := rfl
theorem k_X8_loop_35 (ca : Nat → ClassId) : k_X8_loop ca 35 = i_aload 0 36 := rfl
theorem k_X8_loop_36 (ca : Nat → ClassId) : k_X8_loop ca 36 = i_getf 8 7 39 := rfl
theorem k_X8_loop_39 (ca : Nat → ClassId) : k_X8_loop ca 39 = i_push (.int 1500) 42 := rfl
theorem k_X8_loop_42 (ca : Nat → ClassId) : k_X8_loop ca 42 = i_lald (ca 1) 43 := rfl
theorem k_X8_loop_43 (ca : Nat → ClassId) : k_X8_loop ca 43 = i_lcmp 44 := rfl
theorem k_X8_loop_44 (ca : Nat → ClassId) : k_X8_loop ca 44 = i_if (fun x => x = 0) 53 47 := rfl
theorem k_X8_loop_47 (ca : Nat → ClassId) : k_X8_loop ca 47 = i_iinc 2 1 50 := rfl
theorem k_X8_loop_50 (ca : Nat → ClassId) : k_X8_loop ca 50 = i_goto 18 := rfl
theorem k_X8_loop_53 (ca : Nat → ClassId) : k_X8_loop ca 53 = i_iload 2 54 := rfl
theorem k_X8_loop_54 (ca : Nat → ClassId) : k_X8_loop ca 54 = i_push (.int 1500) 57 := rfl
theorem k_X8_loop_57 (ca : Nat → ClassId) : k_X8_loop ca 57 = i_icmp (fun x y => x ≤ y) 63 60 := rfl
theorem k_X8_loop_60 (ca : Nat → ClassId) : k_X8_loop ca 60 = i_push (.int (-10000004)) 62 := rfl
theorem k_X8_loop_62 (ca : Nat → ClassId) : k_X8_loop ca 62 = i_ret := rfl
theorem k_X8_loop_63 (ca : Nat → ClassId) : k_X8_loop ca 63 = i_push (.int 0) 64 := rfl
theorem k_X8_loop_64 (ca : Nat → ClassId) : k_X8_loop ca 64 = i_istore 3 65 := rfl
theorem k_X8_loop_65 (ca : Nat → ClassId) : k_X8_loop ca 65 = i_aload 0 66 := rfl
theorem k_X8_loop_66 (ca : Nat → ClassId) : k_X8_loop ca 66 = i_getf 8 7 69 := rfl
theorem k_X8_loop_69 (ca : Nat → ClassId) : k_X8_loop ca 69 = i_iload 3 70 := rfl
theorem k_X8_loop_70 (ca : Nat → ClassId) : k_X8_loop ca 70 = i_lald (ca 1) 71 := rfl
theorem k_X8_loop_71 (ca : Nat → ClassId) : k_X8_loop ca 71 = i_aload 0 72 := rfl
theorem k_X8_loop_72 (ca : Nat → ClassId) : k_X8_loop ca 72 = i_getf 8 7 75 := rfl
theorem k_X8_loop_75 (ca : Nat → ClassId) : k_X8_loop ca 75 = i_iload 3 76 := rfl
theorem k_X8_loop_76 (ca : Nat → ClassId) : k_X8_loop ca 76 = i_iload 2 77 := rfl
theorem k_X8_loop_77 (ca : Nat → ClassId) : k_X8_loop ca 77 = i_bin (fun x y => x + y) 78 := rfl
theorem k_X8_loop_78 (ca : Nat → ClassId) : k_X8_loop ca 78 = i_lald (ca 1) 79 := rfl
theorem k_X8_loop_79 (ca : Nat → ClassId) : k_X8_loop ca 79 = i_lcmp 80 := rfl
theorem k_X8_loop_80 (ca : Nat → ClassId) : k_X8_loop ca 80 = i_if (fun x => x = 0) 89 83 := rfl
theorem k_X8_loop_83 (ca : Nat → ClassId) : k_X8_loop ca 83 = i_iinc 3 1 86 := rfl
theorem k_X8_loop_86 (ca : Nat → ClassId) : k_X8_loop ca 86 = i_goto 65 := rfl
theorem k_X8_loop_89 (ca : Nat → ClassId) : k_X8_loop ca 89 = i_iload 1 90 := rfl
theorem k_X8_loop_90 (ca : Nat → ClassId) : k_X8_loop ca 90 = i_if (fun x => ¬ x = 0) 97 93 := rfl
theorem k_X8_loop_93 (ca : Nat → ClassId) : k_X8_loop ca 93 = i_iload 3 94 := rfl
theorem k_X8_loop_94 (ca : Nat → ClassId) : k_X8_loop ca 94 = i_goto 121 := rfl
theorem k_X8_loop_97 (ca : Nat → ClassId) : k_X8_loop ca 97 = i_iload 1 98 := rfl
theorem k_X8_loop_98 (ca : Nat → ClassId) : k_X8_loop ca 98 = i_push (.int 1) 99 := rfl
theorem k_X8_loop_99 (ca : Nat → ClassId) : k_X8_loop ca 99 = i_icmp (fun x y => ¬ x = y) 106 102 := rfl
theorem k_X8_loop_102 (ca : Nat → ClassId) : k_X8_loop ca 102 = i_iload 2 103 := rfl
theorem k_X8_loop_103 (ca : Nat → ClassId) : k_X8_loop ca 103 = i_goto 121 := rfl
theorem k_X8_loop_106 (ca : Nat → ClassId) : k_X8_loop ca 106 = i_aload 0 107 := rfl
theorem k_X8_loop_107 (ca : Nat → ClassId) : k_X8_loop ca 107 = i_getf 8 8 110 := rfl
theorem k_X8_loop_110 (ca : Nat → ClassId) : k_X8_loop ca 110 = i_iload 3 111 := rfl
theorem k_X8_loop_111 (ca : Nat → ClassId) : k_X8_loop ca 111 = i_iload 2 112 := rfl
theorem k_X8_loop_112 (ca : Nat → ClassId) : k_X8_loop ca 112 = i_bin (fun x y => x + y) 113 := rfl
theorem k_X8_loop_113 (ca : Nat → ClassId) : k_X8_loop ca 113 = i_ald (ca 0) 114 := rfl
theorem k_X8_loop_114 (ca : Nat → ClassId) : k_X8_loop ca 114 = i_aload 0 115 := rfl
theorem k_X8_loop_115 (ca : Nat → ClassId) : k_X8_loop ca 115 = i_getf 8 8 118 := rfl
theorem k_X8_loop_118 (ca : Nat → ClassId) : k_X8_loop ca 118 = i_iload 3 119 := rfl
theorem k_X8_loop_119 (ca : Nat → ClassId) : k_X8_loop ca 119 = i_ald (ca 0) 120 := rfl
theorem k_X8_loop_120 (ca : Nat → ClassId) : k_X8_loop ca 120 = i_bin (fun x y => x - y) 121 := rfl
theorem k_X8_loop_121 (ca : Nat → ClassId) : k_X8_loop ca 121 = i_ret := rfl
set_option maxHeartbeats 4000000 in
set_option maxRecDepth 20000 in
theorem ok_X8_loop (l : Launch) (D : va_G) (ca : Nat → ClassId) : OkAll l D ca yX8_loop cX8_loop 4 (some .int) 6 0 0 (sp_X8_loop ca) := by
  intro av h post hs
  obtain ⟨m, a, s, p, t, f, n, x, rfl, I, hR, hW, hO, hA, hB, hC⟩ := hs
  obtain ⟨l0, hm0⟩ := hR.m8
  refine okM_of t_X8_loop (by decide +kernel) (c1_ref (c1_int c1_nil)) (Nat.le_of_ble_eq_true rfl) ?_
  intro K go
  cases q1 : isIn x 0 2 with
  | false =>
    have hs := hA q1
    refine goN go (stp []) 160 _ _ _ _ _ _ (fun F hF hF0 => ?_)
    simp only [hF, hF0, ite_not, i_push, i_iload, i_lload, i_aload, i_istore, i_astore, i_lstore, i_iinc, i_bin, i_dv, i_un, i_lbin, i_lsh, i_i2l, i_l2i, i_lcmp, i_dup, i_dup2, i_pop, i_if, i_icmp, i_goto, swG, i_sw, i_getf, i_puti, i_putz, i_putr, i_ald, i_lald, i_aald, i_ast, i_last, i_aast, i_alen, i_new, i_newi, i_newl, i_newq, i_oinit, i_ret, i_zret, i_lret, i_vret, catS, tk, rpush, isO, i_m1, i_m2, i_acopy, i_callV, i_callS, KRet, lget, lput, lputL, lcl0, isL, lv0, List.map_cons, List.map_nil, List.length_cons, List.length_nil, List.cons_append, List.nil_append, Nat.reduceAdd, Nat.reduceSub, Nat.reduceLeDiff, List.replicate_succ, List.replicate_zero, List.getElem?_cons_succ, List.getElem?_cons_zero, List.set_cons_succ, List.set_cons_zero, true_and, and_true, if_true, if_false, ↓reduceIte, Nat.le_refl, Value.category, va_up_app, eq_self, stp, Nat.reduceBEq, Bool.or_false, Bool.false_or, Bool.true_or, Bool.or_true, or_true, true_or, bx_uu, implies_true, true_implies, not_true, not_false_eq_true, false_implies, and_self, Nat.reduceLT, Int32.reduceAdd, Int32.reduceSub, Int32.reduceMul, Int32.reduceLE, Int32.reduceLT, Int32.reduceToNatClampNeg, va_rf_some, Bool.false_eq_true, k_X8_loop_0 ca, k_X8_loop_1 ca, k_X8_loop_2 ca, k_X8_loop_3 ca, k_X8_loop_6 ca, k_X8_loop_9 ca, k_X8_loop_11 ca, k_X8_loop_12 ca, k_X8_loop_13 ca, k_X8_loop_16 ca, k_X8_loop_17 ca, k_X8_loop_18 ca, k_X8_loop_19 ca, k_X8_loop_22 ca, k_X8_loop_25 ca, k_X8_loop_26 ca, k_X8_loop_29 ca, k_X8_loop_32 ca, k_X8_loop_33 ca, k_X8_loop_34 ca, k_X8_loop_35 ca, k_X8_loop_36 ca, k_X8_loop_39 ca, k_X8_loop_42 ca, k_X8_loop_43 ca, k_X8_loop_44 ca, k_X8_loop_47 ca, k_X8_loop_50 ca, k_X8_loop_53 ca, k_X8_loop_54 ca, k_X8_loop_57 ca, k_X8_loop_60 ca, k_X8_loop_62 ca, k_X8_loop_63 ca, k_X8_loop_64 ca, k_X8_loop_65 ca, k_X8_loop_66 ca, k_X8_loop_69 ca, k_X8_loop_70 ca, k_X8_loop_71 ca, k_X8_loop_72 ca, k_X8_loop_75 ca, k_X8_loop_76 ca, k_X8_loop_77 ca, k_X8_loop_78 ca, k_X8_loop_79 ca, k_X8_loop_80 ca, k_X8_loop_83 ca, k_X8_loop_86 ca, k_X8_loop_89 ca, k_X8_loop_90 ca, k_X8_loop_93 ca, k_X8_loop_94 ca, k_X8_loop_97 ca, k_X8_loop_98 ca, k_X8_loop_99 ca, k_X8_loop_102 ca, k_X8_loop_103 ca, k_X8_loop_106 ca, k_X8_loop_107 ca, k_X8_loop_110 ca, k_X8_loop_111 ca, k_X8_loop_112 ca, k_X8_loop_113 ca, k_X8_loop_114 ca, k_X8_loop_115 ca, k_X8_loop_118 ca, k_X8_loop_119 ca, k_X8_loop_120 ca, k_X8_loop_121 ca, sp_X8_in, sp_X7_isWithin, q1, b2i_f]
    try clear hF hF0 F
    exact hs
  | true =>
    have hB := hB q1
    have hC := hC q1
    clear hA
    refine goN go (stp [16]) 160 _ _ _ _ _ _ (fun F hF hF0 => ?_)
    simp only [hF, hF0, ite_not, i_push, i_iload, i_lload, i_aload, i_istore, i_astore, i_lstore, i_iinc, i_bin, i_dv, i_un, i_lbin, i_lsh, i_i2l, i_l2i, i_lcmp, i_dup, i_dup2, i_pop, i_if, i_icmp, i_goto, swG, i_sw, i_getf, i_puti, i_putz, i_putr, i_ald, i_lald, i_aald, i_ast, i_last, i_aast, i_alen, i_new, i_newi, i_newl, i_newq, i_oinit, i_ret, i_zret, i_lret, i_vret, catS, tk, rpush, isO, i_m1, i_m2, i_acopy, i_callV, i_callS, KRet, lget, lput, lputL, lcl0, isL, lv0, List.map_cons, List.map_nil, List.length_cons, List.length_nil, List.cons_append, List.nil_append, Nat.reduceAdd, Nat.reduceSub, Nat.reduceLeDiff, List.replicate_succ, List.replicate_zero, List.getElem?_cons_succ, List.getElem?_cons_zero, List.set_cons_succ, List.set_cons_zero, true_and, and_true, if_true, if_false, ↓reduceIte, Nat.le_refl, Value.category, va_up_app, eq_self, stp, Nat.reduceBEq, Bool.or_false, Bool.false_or, Bool.true_or, Bool.or_true, or_true, true_or, bx_uu, implies_true, true_implies, not_true, not_false_eq_true, false_implies, and_self, Nat.reduceLT, Int32.reduceAdd, Int32.reduceSub, Int32.reduceMul, Int32.reduceLE, Int32.reduceLT, Int32.reduceToNatClampNeg, va_rf_some, Bool.false_eq_true, k_X8_loop_0 ca, k_X8_loop_1 ca, k_X8_loop_2 ca, k_X8_loop_3 ca, k_X8_loop_6 ca, k_X8_loop_9 ca, k_X8_loop_11 ca, k_X8_loop_12 ca, k_X8_loop_13 ca, k_X8_loop_16 ca, k_X8_loop_17 ca, k_X8_loop_18 ca, k_X8_loop_19 ca, k_X8_loop_22 ca, k_X8_loop_25 ca, k_X8_loop_26 ca, k_X8_loop_29 ca, k_X8_loop_32 ca, k_X8_loop_33 ca, k_X8_loop_34 ca, k_X8_loop_35 ca, k_X8_loop_36 ca, k_X8_loop_39 ca, k_X8_loop_42 ca, k_X8_loop_43 ca, k_X8_loop_44 ca, k_X8_loop_47 ca, k_X8_loop_50 ca, k_X8_loop_53 ca, k_X8_loop_54 ca, k_X8_loop_57 ca, k_X8_loop_60 ca, k_X8_loop_62 ca, k_X8_loop_63 ca, k_X8_loop_64 ca, k_X8_loop_65 ca, k_X8_loop_66 ca, k_X8_loop_69 ca, k_X8_loop_70 ca, k_X8_loop_71 ca, k_X8_loop_72 ca, k_X8_loop_75 ca, k_X8_loop_76 ca, k_X8_loop_77 ca, k_X8_loop_78 ca, k_X8_loop_79 ca, k_X8_loop_80 ca, k_X8_loop_83 ca, k_X8_loop_86 ca, k_X8_loop_89 ca, k_X8_loop_90 ca, k_X8_loop_93 ca, k_X8_loop_94 ca, k_X8_loop_97 ca, k_X8_loop_98 ca, k_X8_loop_99 ca, k_X8_loop_102 ca, k_X8_loop_103 ca, k_X8_loop_106 ca, k_X8_loop_107 ca, k_X8_loop_110 ca, k_X8_loop_111 ca, k_X8_loop_112 ca, k_X8_loop_113 ca, k_X8_loop_114 ca, k_X8_loop_115 ca, k_X8_loop_118 ca, k_X8_loop_119 ca, k_X8_loop_120 ca, k_X8_loop_121 ca, sp_X8_in, sp_X7_isWithin, q1, b2i_t, one0, hm0]
    try clear hF hF0 F
    refine ⟨m, a, s, p, t, f, n, rfl, I, hR, hW, hO, fun h' s' kp ks he hR' H5 H6 hkp hks hS => ?_⟩
    obtain ⟨g, fm, at', re, bd, kp', ks', iw, ip, fo, em, e0, e1, -⟩ := id hR'
    have em' := em
    unfold eMod at em'
    have v1500 : vp_in 1500 1501 := vpl (by decide)
    have k1500 : kp 1500 = kpS s 1500 := hkp 1500 (by decide)
    -- the search of the period, up to P or to its end
    have key : ∀ j P, P + j = 1501 → 1 ≤ P → (∀ q, 1 ≤ q → q < P → ¬ kpS s (1500 - q) = kpS s 1500) → K 0 0 18 [some (.ref m), some (.int x), some (.int (nI P)), none] [] h' := by
      intro j
      induction j with
      | zero =>
        intro P hP hP1 hq
        have hP : P = 1501 := hP
        subst hP
        have e : nI 1501 = 1501 := rfl
        have k0 := hB (fun q a b => hq q a (by omega)) h' s' p he (fun _ _ => rfl) hR' hS
        refine goN go (stp []) 160 _ _ _ _ _ _ (fun F hF hF0 => ?_)
        simp only [hF, hF0, ite_not, i_push, i_iload, i_lload, i_aload, i_istore, i_astore, i_lstore, i_iinc, i_bin, i_dv, i_un, i_lbin, i_lsh, i_i2l, i_l2i, i_lcmp, i_dup, i_dup2, i_pop, i_if, i_icmp, i_goto, swG, i_sw, i_getf, i_puti, i_putz, i_putr, i_ald, i_lald, i_aald, i_ast, i_last, i_aast, i_alen, i_new, i_newi, i_newl, i_newq, i_oinit, i_ret, i_zret, i_lret, i_vret, catS, tk, rpush, isO, i_m1, i_m2, i_acopy, i_callV, i_callS, KRet, lget, lput, lputL, lcl0, isL, lv0, List.map_cons, List.map_nil, List.length_cons, List.length_nil, List.cons_append, List.nil_append, Nat.reduceAdd, Nat.reduceSub, Nat.reduceLeDiff, List.replicate_succ, List.replicate_zero, List.getElem?_cons_succ, List.getElem?_cons_zero, List.set_cons_succ, List.set_cons_zero, true_and, and_true, if_true, if_false, ↓reduceIte, Nat.le_refl, Value.category, va_up_app, eq_self, stp, Nat.reduceBEq, Bool.or_false, Bool.false_or, Bool.true_or, Bool.or_true, or_true, true_or, bx_uu, implies_true, true_implies, not_true, not_false_eq_true, false_implies, and_self, Nat.reduceLT, Int32.reduceAdd, Int32.reduceSub, Int32.reduceMul, Int32.reduceLE, Int32.reduceLT, Int32.reduceToNatClampNeg, va_rf_some, Bool.false_eq_true, k_X8_loop_0 ca, k_X8_loop_1 ca, k_X8_loop_2 ca, k_X8_loop_3 ca, k_X8_loop_6 ca, k_X8_loop_9 ca, k_X8_loop_11 ca, k_X8_loop_12 ca, k_X8_loop_13 ca, k_X8_loop_16 ca, k_X8_loop_17 ca, k_X8_loop_18 ca, k_X8_loop_19 ca, k_X8_loop_22 ca, k_X8_loop_25 ca, k_X8_loop_26 ca, k_X8_loop_29 ca, k_X8_loop_32 ca, k_X8_loop_33 ca, k_X8_loop_34 ca, k_X8_loop_35 ca, k_X8_loop_36 ca, k_X8_loop_39 ca, k_X8_loop_42 ca, k_X8_loop_43 ca, k_X8_loop_44 ca, k_X8_loop_47 ca, k_X8_loop_50 ca, k_X8_loop_53 ca, k_X8_loop_54 ca, k_X8_loop_57 ca, k_X8_loop_60 ca, k_X8_loop_62 ca, k_X8_loop_63 ca, k_X8_loop_64 ca, k_X8_loop_65 ca, k_X8_loop_66 ca, k_X8_loop_69 ca, k_X8_loop_70 ca, k_X8_loop_71 ca, k_X8_loop_72 ca, k_X8_loop_75 ca, k_X8_loop_76 ca, k_X8_loop_77 ca, k_X8_loop_78 ca, k_X8_loop_79 ca, k_X8_loop_80 ca, k_X8_loop_83 ca, k_X8_loop_86 ca, k_X8_loop_89 ca, k_X8_loop_90 ca, k_X8_loop_93 ca, k_X8_loop_94 ca, k_X8_loop_97 ca, k_X8_loop_98 ca, k_X8_loop_99 ca, k_X8_loop_102 ca, k_X8_loop_103 ca, k_X8_loop_106 ca, k_X8_loop_107 ca, k_X8_loop_110 ca, k_X8_loop_111 ca, k_X8_loop_112 ca, k_X8_loop_113 ca, k_X8_loop_114 ca, k_X8_loop_115 ca, k_X8_loop_118 ca, k_X8_loop_119 ca, k_X8_loop_120 ca, k_X8_loop_121 ca, e]
        try clear hF hF0 F
        exact k0
      | succ j ih =>
        intro P hP hP1 hq
        have g1 : ((1500 : Int32) < nI P) = False := eq_false (nI_nlt (a := 1500) (by omega) (by omega))
        have g2 : (nI P ≤ 1500) = True := eq_true (nI_le (b := 1500) (by omega) (by decide))
        have z2 : 1500 - nI P = nI (1500 - P) := sub_nI (a := 1500) (by omega)
        have z0 : vp_in (nI (1500 - P)) 1501 := vp_in_nI (by omega) (by decide)
        have z1 : (nI (1500 - P)).toNatClampNeg = 1500 - P := nI_clamp (by omega)
        have zk : kp (1500 - P) = kpS s (1500 - P) := hkp _ (by omega)
        by_cases q : kpS s (1500 - P) = kpS s 1500
        · obtain ⟨L, hL1, hL2⟩ := pk_least (fun l => l + P ≤ 1500 ∧ kpS s l = kpS s (l + P)) ⟨1500 - P, by omega, by rw [show 1500 - P + P = 1500 by omega]; exact q⟩
          have hL3 : ∀ l, l < L → ¬ kpS s l = kpS s (l + P) := fun l hl z => hL2 l hl ⟨by omega, z⟩
          have hend := hC P L hP1 (by omega) q hq hL1.1 hL1.2 hL3
          have key2 : ∀ j l, l + j = L → K 0 0 65 [some (.ref m), some (.int x), some (.int (nI P)), some (.int (nI l))] [] h' := by
            intro j
            induction j with
            | zero =>
              intro l hl
              have hl : l = L := hl
              subst hl
              have zl := hL1.2
              have y0 : vp_in (nI l) 1501 := vp_in_nI (by omega) (by decide)
              have y1 : (nI l).toNatClampNeg = l := nI_clamp (by omega)
              have y2 : vp_in (nI (l + P)) 1501 := vp_in_nI (by omega) (by decide)
              have y3 : (nI (l + P)).toNatClampNeg = l + P := nI_clamp (by omega)
              have y4 : kp l = kpS s l := hkp _ (by omega)
              have y5 : kp (l + P) = kpS s (l + P) := hkp _ (by omega)
              have y6 : ks l = snS s l := hks _ (by omega)
              have y7 : ks (l + P) = snS s (l + P) := hks _ (by omega)
              have k0 := hend h' s' p he (fun _ _ => rfl) hR' hS
              by_cases q0 : x = 0
              · rw [if_pos q0] at k0
                refine goN go (stp []) 160 _ _ _ _ _ _ (fun F hF hF0 => ?_)
                simp only [hF, hF0, ite_not, i_push, i_iload, i_lload, i_aload, i_istore, i_astore, i_lstore, i_iinc, i_bin, i_dv, i_un, i_lbin, i_lsh, i_i2l, i_l2i, i_lcmp, i_dup, i_dup2, i_pop, i_if, i_icmp, i_goto, swG, i_sw, i_getf, i_puti, i_putz, i_putr, i_ald, i_lald, i_aald, i_ast, i_last, i_aast, i_alen, i_new, i_newi, i_newl, i_newq, i_oinit, i_ret, i_zret, i_lret, i_vret, catS, tk, rpush, isO, i_m1, i_m2, i_acopy, i_callV, i_callS, KRet, lget, lput, lputL, lcl0, isL, lv0, List.map_cons, List.map_nil, List.length_cons, List.length_nil, List.cons_append, List.nil_append, Nat.reduceAdd, Nat.reduceSub, Nat.reduceLeDiff, List.replicate_succ, List.replicate_zero, List.getElem?_cons_succ, List.getElem?_cons_zero, List.set_cons_succ, List.set_cons_zero, true_and, and_true, if_true, if_false, ↓reduceIte, Nat.le_refl, Value.category, va_up_app, eq_self, stp, Nat.reduceBEq, Bool.or_false, Bool.false_or, Bool.true_or, Bool.or_true, or_true, true_or, bx_uu, implies_true, true_implies, not_true, not_false_eq_true, false_implies, and_self, Nat.reduceLT, Int32.reduceAdd, Int32.reduceSub, Int32.reduceMul, Int32.reduceLE, Int32.reduceLT, Int32.reduceToNatClampNeg, va_rf_some, Bool.false_eq_true, k_X8_loop_0 ca, k_X8_loop_1 ca, k_X8_loop_2 ca, k_X8_loop_3 ca, k_X8_loop_6 ca, k_X8_loop_9 ca, k_X8_loop_11 ca, k_X8_loop_12 ca, k_X8_loop_13 ca, k_X8_loop_16 ca, k_X8_loop_17 ca, k_X8_loop_18 ca, k_X8_loop_19 ca, k_X8_loop_22 ca, k_X8_loop_25 ca, k_X8_loop_26 ca, k_X8_loop_29 ca, k_X8_loop_32 ca, k_X8_loop_33 ca, k_X8_loop_34 ca, k_X8_loop_35 ca, k_X8_loop_36 ca, k_X8_loop_39 ca, k_X8_loop_42 ca, k_X8_loop_43 ca, k_X8_loop_44 ca, k_X8_loop_47 ca, k_X8_loop_50 ca, k_X8_loop_53 ca, k_X8_loop_54 ca, k_X8_loop_57 ca, k_X8_loop_60 ca, k_X8_loop_62 ca, k_X8_loop_63 ca, k_X8_loop_64 ca, k_X8_loop_65 ca, k_X8_loop_66 ca, k_X8_loop_69 ca, k_X8_loop_70 ca, k_X8_loop_71 ca, k_X8_loop_72 ca, k_X8_loop_75 ca, k_X8_loop_76 ca, k_X8_loop_77 ca, k_X8_loop_78 ca, k_X8_loop_79 ca, k_X8_loop_80 ca, k_X8_loop_83 ca, k_X8_loop_86 ca, k_X8_loop_89 ca, k_X8_loop_90 ca, k_X8_loop_93 ca, k_X8_loop_94 ca, k_X8_loop_97 ca, k_X8_loop_98 ca, k_X8_loop_99 ca, k_X8_loop_102 ca, k_X8_loop_103 ca, k_X8_loop_106 ca, k_X8_loop_107 ca, k_X8_loop_110 ca, k_X8_loop_111 ca, k_X8_loop_112 ca, k_X8_loop_113 ca, k_X8_loop_114 ca, k_X8_loop_115 ca, k_X8_loop_118 ca, k_X8_loop_119 ca, k_X8_loop_120 ca, k_X8_loop_121 ca, em', H5, nI_add, y0, y1, y2, y3, y4, y5, cmpe, zl, q0]
                try clear hF hF0 F
                exact k0
              · rw [if_neg q0] at k0
                by_cases q1 : x = 1
                · rw [if_pos q1] at k0
                  refine goN go (stp []) 160 _ _ _ _ _ _ (fun F hF hF0 => ?_)
                  simp only [hF, hF0, ite_not, i_push, i_iload, i_lload, i_aload, i_istore, i_astore, i_lstore, i_iinc, i_bin, i_dv, i_un, i_lbin, i_lsh, i_i2l, i_l2i, i_lcmp, i_dup, i_dup2, i_pop, i_if, i_icmp, i_goto, swG, i_sw, i_getf, i_puti, i_putz, i_putr, i_ald, i_lald, i_aald, i_ast, i_last, i_aast, i_alen, i_new, i_newi, i_newl, i_newq, i_oinit, i_ret, i_zret, i_lret, i_vret, catS, tk, rpush, isO, i_m1, i_m2, i_acopy, i_callV, i_callS, KRet, lget, lput, lputL, lcl0, isL, lv0, List.map_cons, List.map_nil, List.length_cons, List.length_nil, List.cons_append, List.nil_append, Nat.reduceAdd, Nat.reduceSub, Nat.reduceLeDiff, List.replicate_succ, List.replicate_zero, List.getElem?_cons_succ, List.getElem?_cons_zero, List.set_cons_succ, List.set_cons_zero, true_and, and_true, if_true, if_false, ↓reduceIte, Nat.le_refl, Value.category, va_up_app, eq_self, stp, Nat.reduceBEq, Bool.or_false, Bool.false_or, Bool.true_or, Bool.or_true, or_true, true_or, bx_uu, implies_true, true_implies, not_true, not_false_eq_true, false_implies, and_self, Nat.reduceLT, Int32.reduceAdd, Int32.reduceSub, Int32.reduceMul, Int32.reduceLE, Int32.reduceLT, Int32.reduceToNatClampNeg, va_rf_some, Bool.false_eq_true, k_X8_loop_0 ca, k_X8_loop_1 ca, k_X8_loop_2 ca, k_X8_loop_3 ca, k_X8_loop_6 ca, k_X8_loop_9 ca, k_X8_loop_11 ca, k_X8_loop_12 ca, k_X8_loop_13 ca, k_X8_loop_16 ca, k_X8_loop_17 ca, k_X8_loop_18 ca, k_X8_loop_19 ca, k_X8_loop_22 ca, k_X8_loop_25 ca, k_X8_loop_26 ca, k_X8_loop_29 ca, k_X8_loop_32 ca, k_X8_loop_33 ca, k_X8_loop_34 ca, k_X8_loop_35 ca, k_X8_loop_36 ca, k_X8_loop_39 ca, k_X8_loop_42 ca, k_X8_loop_43 ca, k_X8_loop_44 ca, k_X8_loop_47 ca, k_X8_loop_50 ca, k_X8_loop_53 ca, k_X8_loop_54 ca, k_X8_loop_57 ca, k_X8_loop_60 ca, k_X8_loop_62 ca, k_X8_loop_63 ca, k_X8_loop_64 ca, k_X8_loop_65 ca, k_X8_loop_66 ca, k_X8_loop_69 ca, k_X8_loop_70 ca, k_X8_loop_71 ca, k_X8_loop_72 ca, k_X8_loop_75 ca, k_X8_loop_76 ca, k_X8_loop_77 ca, k_X8_loop_78 ca, k_X8_loop_79 ca, k_X8_loop_80 ca, k_X8_loop_83 ca, k_X8_loop_86 ca, k_X8_loop_89 ca, k_X8_loop_90 ca, k_X8_loop_93 ca, k_X8_loop_94 ca, k_X8_loop_97 ca, k_X8_loop_98 ca, k_X8_loop_99 ca, k_X8_loop_102 ca, k_X8_loop_103 ca, k_X8_loop_106 ca, k_X8_loop_107 ca, k_X8_loop_110 ca, k_X8_loop_111 ca, k_X8_loop_112 ca, k_X8_loop_113 ca, k_X8_loop_114 ca, k_X8_loop_115 ca, k_X8_loop_118 ca, k_X8_loop_119 ca, k_X8_loop_120 ca, k_X8_loop_121 ca, em', H5, nI_add, y0, y1, y2, y3, y4, y5, cmpe, zl, q1, one0]
                  try clear hF hF0 F
                  exact k0
                · rw [if_neg q1] at k0
                  refine goN go (stp []) 160 _ _ _ _ _ _ (fun F hF hF0 => ?_)
                  simp only [hF, hF0, ite_not, i_push, i_iload, i_lload, i_aload, i_istore, i_astore, i_lstore, i_iinc, i_bin, i_dv, i_un, i_lbin, i_lsh, i_i2l, i_l2i, i_lcmp, i_dup, i_dup2, i_pop, i_if, i_icmp, i_goto, swG, i_sw, i_getf, i_puti, i_putz, i_putr, i_ald, i_lald, i_aald, i_ast, i_last, i_aast, i_alen, i_new, i_newi, i_newl, i_newq, i_oinit, i_ret, i_zret, i_lret, i_vret, catS, tk, rpush, isO, i_m1, i_m2, i_acopy, i_callV, i_callS, KRet, lget, lput, lputL, lcl0, isL, lv0, List.map_cons, List.map_nil, List.length_cons, List.length_nil, List.cons_append, List.nil_append, Nat.reduceAdd, Nat.reduceSub, Nat.reduceLeDiff, List.replicate_succ, List.replicate_zero, List.getElem?_cons_succ, List.getElem?_cons_zero, List.set_cons_succ, List.set_cons_zero, true_and, and_true, if_true, if_false, ↓reduceIte, Nat.le_refl, Value.category, va_up_app, eq_self, stp, Nat.reduceBEq, Bool.or_false, Bool.false_or, Bool.true_or, Bool.or_true, or_true, true_or, bx_uu, implies_true, true_implies, not_true, not_false_eq_true, false_implies, and_self, Nat.reduceLT, Int32.reduceAdd, Int32.reduceSub, Int32.reduceMul, Int32.reduceLE, Int32.reduceLT, Int32.reduceToNatClampNeg, va_rf_some, Bool.false_eq_true, k_X8_loop_0 ca, k_X8_loop_1 ca, k_X8_loop_2 ca, k_X8_loop_3 ca, k_X8_loop_6 ca, k_X8_loop_9 ca, k_X8_loop_11 ca, k_X8_loop_12 ca, k_X8_loop_13 ca, k_X8_loop_16 ca, k_X8_loop_17 ca, k_X8_loop_18 ca, k_X8_loop_19 ca, k_X8_loop_22 ca, k_X8_loop_25 ca, k_X8_loop_26 ca, k_X8_loop_29 ca, k_X8_loop_32 ca, k_X8_loop_33 ca, k_X8_loop_34 ca, k_X8_loop_35 ca, k_X8_loop_36 ca, k_X8_loop_39 ca, k_X8_loop_42 ca, k_X8_loop_43 ca, k_X8_loop_44 ca, k_X8_loop_47 ca, k_X8_loop_50 ca, k_X8_loop_53 ca, k_X8_loop_54 ca, k_X8_loop_57 ca, k_X8_loop_60 ca, k_X8_loop_62 ca, k_X8_loop_63 ca, k_X8_loop_64 ca, k_X8_loop_65 ca, k_X8_loop_66 ca, k_X8_loop_69 ca, k_X8_loop_70 ca, k_X8_loop_71 ca, k_X8_loop_72 ca, k_X8_loop_75 ca, k_X8_loop_76 ca, k_X8_loop_77 ca, k_X8_loop_78 ca, k_X8_loop_79 ca, k_X8_loop_80 ca, k_X8_loop_83 ca, k_X8_loop_86 ca, k_X8_loop_89 ca, k_X8_loop_90 ca, k_X8_loop_93 ca, k_X8_loop_94 ca, k_X8_loop_97 ca, k_X8_loop_98 ca, k_X8_loop_99 ca, k_X8_loop_102 ca, k_X8_loop_103 ca, k_X8_loop_106 ca, k_X8_loop_107 ca, k_X8_loop_110 ca, k_X8_loop_111 ca, k_X8_loop_112 ca, k_X8_loop_113 ca, k_X8_loop_114 ca, k_X8_loop_115 ca, k_X8_loop_118 ca, k_X8_loop_119 ca, k_X8_loop_120 ca, k_X8_loop_121 ca, em', H5, H6, nI_add, y0, y1, y2, y3, y4, y5, y6, y7, cmpe, zl, q0, q1]
                  try clear hF hF0 F
                  exact k0
            | succ j ih2 =>
              intro l hl
              have zl := hL3 l (by omega)
              have y0 : vp_in (nI l) 1501 := vp_in_nI (by omega) (by decide)
              have y1 : (nI l).toNatClampNeg = l := nI_clamp (by omega)
              have y2 : vp_in (nI (l + P)) 1501 := vp_in_nI (by omega) (by decide)
              have y3 : (nI (l + P)).toNatClampNeg = l + P := nI_clamp (by omega)
              have y4 : kp l = kpS s l := hkp _ (by omega)
              have y5 : kp (l + P) = kpS s (l + P) := hkp _ (by omega)
              have k0 := ih2 (l + 1) (by omega)
              refine goN go (stp [65]) 160 _ _ _ _ _ _ (fun F hF hF0 => ?_)
              simp only [hF, hF0, ite_not, i_push, i_iload, i_lload, i_aload, i_istore, i_astore, i_lstore, i_iinc, i_bin, i_dv, i_un, i_lbin, i_lsh, i_i2l, i_l2i, i_lcmp, i_dup, i_dup2, i_pop, i_if, i_icmp, i_goto, swG, i_sw, i_getf, i_puti, i_putz, i_putr, i_ald, i_lald, i_aald, i_ast, i_last, i_aast, i_alen, i_new, i_newi, i_newl, i_newq, i_oinit, i_ret, i_zret, i_lret, i_vret, catS, tk, rpush, isO, i_m1, i_m2, i_acopy, i_callV, i_callS, KRet, lget, lput, lputL, lcl0, isL, lv0, List.map_cons, List.map_nil, List.length_cons, List.length_nil, List.cons_append, List.nil_append, Nat.reduceAdd, Nat.reduceSub, Nat.reduceLeDiff, List.replicate_succ, List.replicate_zero, List.getElem?_cons_succ, List.getElem?_cons_zero, List.set_cons_succ, List.set_cons_zero, true_and, and_true, if_true, if_false, ↓reduceIte, Nat.le_refl, Value.category, va_up_app, eq_self, stp, Nat.reduceBEq, Bool.or_false, Bool.false_or, Bool.true_or, Bool.or_true, or_true, true_or, bx_uu, implies_true, true_implies, not_true, not_false_eq_true, false_implies, and_self, Nat.reduceLT, Int32.reduceAdd, Int32.reduceSub, Int32.reduceMul, Int32.reduceLE, Int32.reduceLT, Int32.reduceToNatClampNeg, va_rf_some, Bool.false_eq_true, k_X8_loop_0 ca, k_X8_loop_1 ca, k_X8_loop_2 ca, k_X8_loop_3 ca, k_X8_loop_6 ca, k_X8_loop_9 ca, k_X8_loop_11 ca, k_X8_loop_12 ca, k_X8_loop_13 ca, k_X8_loop_16 ca, k_X8_loop_17 ca, k_X8_loop_18 ca, k_X8_loop_19 ca, k_X8_loop_22 ca, k_X8_loop_25 ca, k_X8_loop_26 ca, k_X8_loop_29 ca, k_X8_loop_32 ca, k_X8_loop_33 ca, k_X8_loop_34 ca, k_X8_loop_35 ca, k_X8_loop_36 ca, k_X8_loop_39 ca, k_X8_loop_42 ca, k_X8_loop_43 ca, k_X8_loop_44 ca, k_X8_loop_47 ca, k_X8_loop_50 ca, k_X8_loop_53 ca, k_X8_loop_54 ca, k_X8_loop_57 ca, k_X8_loop_60 ca, k_X8_loop_62 ca, k_X8_loop_63 ca, k_X8_loop_64 ca, k_X8_loop_65 ca, k_X8_loop_66 ca, k_X8_loop_69 ca, k_X8_loop_70 ca, k_X8_loop_71 ca, k_X8_loop_72 ca, k_X8_loop_75 ca, k_X8_loop_76 ca, k_X8_loop_77 ca, k_X8_loop_78 ca, k_X8_loop_79 ca, k_X8_loop_80 ca, k_X8_loop_83 ca, k_X8_loop_86 ca, k_X8_loop_89 ca, k_X8_loop_90 ca, k_X8_loop_93 ca, k_X8_loop_94 ca, k_X8_loop_97 ca, k_X8_loop_98 ca, k_X8_loop_99 ca, k_X8_loop_102 ca, k_X8_loop_103 ca, k_X8_loop_106 ca, k_X8_loop_107 ca, k_X8_loop_110 ca, k_X8_loop_111 ca, k_X8_loop_112 ca, k_X8_loop_113 ca, k_X8_loop_114 ca, k_X8_loop_115 ca, k_X8_loop_118 ca, k_X8_loop_119 ca, k_X8_loop_120 ca, k_X8_loop_121 ca, em', H5, nI_add, a_1, y0, y1, y2, y3, y4, y5, cmpe, zl]
              try clear hF hF0 F
              exact k0
          have k0 := key2 L 0 (by omega)
          rw [nI_0] at k0
          refine goN go (stp [65]) 160 _ _ _ _ _ _ (fun F hF hF0 => ?_)
          simp only [hF, hF0, ite_not, i_push, i_iload, i_lload, i_aload, i_istore, i_astore, i_lstore, i_iinc, i_bin, i_dv, i_un, i_lbin, i_lsh, i_i2l, i_l2i, i_lcmp, i_dup, i_dup2, i_pop, i_if, i_icmp, i_goto, swG, i_sw, i_getf, i_puti, i_putz, i_putr, i_ald, i_lald, i_aald, i_ast, i_last, i_aast, i_alen, i_new, i_newi, i_newl, i_newq, i_oinit, i_ret, i_zret, i_lret, i_vret, catS, tk, rpush, isO, i_m1, i_m2, i_acopy, i_callV, i_callS, KRet, lget, lput, lputL, lcl0, isL, lv0, List.map_cons, List.map_nil, List.length_cons, List.length_nil, List.cons_append, List.nil_append, Nat.reduceAdd, Nat.reduceSub, Nat.reduceLeDiff, List.replicate_succ, List.replicate_zero, List.getElem?_cons_succ, List.getElem?_cons_zero, List.set_cons_succ, List.set_cons_zero, true_and, and_true, if_true, if_false, ↓reduceIte, Nat.le_refl, Value.category, va_up_app, eq_self, stp, Nat.reduceBEq, Bool.or_false, Bool.false_or, Bool.true_or, Bool.or_true, or_true, true_or, bx_uu, implies_true, true_implies, not_true, not_false_eq_true, false_implies, and_self, Nat.reduceLT, Int32.reduceAdd, Int32.reduceSub, Int32.reduceMul, Int32.reduceLE, Int32.reduceLT, Int32.reduceToNatClampNeg, va_rf_some, Bool.false_eq_true, k_X8_loop_0 ca, k_X8_loop_1 ca, k_X8_loop_2 ca, k_X8_loop_3 ca, k_X8_loop_6 ca, k_X8_loop_9 ca, k_X8_loop_11 ca, k_X8_loop_12 ca, k_X8_loop_13 ca, k_X8_loop_16 ca, k_X8_loop_17 ca, k_X8_loop_18 ca, k_X8_loop_19 ca, k_X8_loop_22 ca, k_X8_loop_25 ca, k_X8_loop_26 ca, k_X8_loop_29 ca, k_X8_loop_32 ca, k_X8_loop_33 ca, k_X8_loop_34 ca, k_X8_loop_35 ca, k_X8_loop_36 ca, k_X8_loop_39 ca, k_X8_loop_42 ca, k_X8_loop_43 ca, k_X8_loop_44 ca, k_X8_loop_47 ca, k_X8_loop_50 ca, k_X8_loop_53 ca, k_X8_loop_54 ca, k_X8_loop_57 ca, k_X8_loop_60 ca, k_X8_loop_62 ca, k_X8_loop_63 ca, k_X8_loop_64 ca, k_X8_loop_65 ca, k_X8_loop_66 ca, k_X8_loop_69 ca, k_X8_loop_70 ca, k_X8_loop_71 ca, k_X8_loop_72 ca, k_X8_loop_75 ca, k_X8_loop_76 ca, k_X8_loop_77 ca, k_X8_loop_78 ca, k_X8_loop_79 ca, k_X8_loop_80 ca, k_X8_loop_83 ca, k_X8_loop_86 ca, k_X8_loop_89 ca, k_X8_loop_90 ca, k_X8_loop_93 ca, k_X8_loop_94 ca, k_X8_loop_97 ca, k_X8_loop_98 ca, k_X8_loop_99 ca, k_X8_loop_102 ca, k_X8_loop_103 ca, k_X8_loop_106 ca, k_X8_loop_107 ca, k_X8_loop_110 ca, k_X8_loop_111 ca, k_X8_loop_112 ca, k_X8_loop_113 ca, k_X8_loop_114 ca, k_X8_loop_115 ca, k_X8_loop_118 ca, k_X8_loop_119 ca, k_X8_loop_120 ca, k_X8_loop_121 ca, em', H5, g1, g2, z2, z0, z1, zk, v1500, k1500, cmpe, q]
          try clear hF hF0 F
          exact k0
        · have k0 := ih (P + 1) (by omega) (by omega) (fun q' a b => by
            by_cases z : q' = P
            · rw [z]; exact q
            · exact hq q' a (by omega))
          refine goN go (stp [18]) 160 _ _ _ _ _ _ (fun F hF hF0 => ?_)
          simp only [hF, hF0, ite_not, i_push, i_iload, i_lload, i_aload, i_istore, i_astore, i_lstore, i_iinc, i_bin, i_dv, i_un, i_lbin, i_lsh, i_i2l, i_l2i, i_lcmp, i_dup, i_dup2, i_pop, i_if, i_icmp, i_goto, swG, i_sw, i_getf, i_puti, i_putz, i_putr, i_ald, i_lald, i_aald, i_ast, i_last, i_aast, i_alen, i_new, i_newi, i_newl, i_newq, i_oinit, i_ret, i_zret, i_lret, i_vret, catS, tk, rpush, isO, i_m1, i_m2, i_acopy, i_callV, i_callS, KRet, lget, lput, lputL, lcl0, isL, lv0, List.map_cons, List.map_nil, List.length_cons, List.length_nil, List.cons_append, List.nil_append, Nat.reduceAdd, Nat.reduceSub, Nat.reduceLeDiff, List.replicate_succ, List.replicate_zero, List.getElem?_cons_succ, List.getElem?_cons_zero, List.set_cons_succ, List.set_cons_zero, true_and, and_true, if_true, if_false, ↓reduceIte, Nat.le_refl, Value.category, va_up_app, eq_self, stp, Nat.reduceBEq, Bool.or_false, Bool.false_or, Bool.true_or, Bool.or_true, or_true, true_or, bx_uu, implies_true, true_implies, not_true, not_false_eq_true, false_implies, and_self, Nat.reduceLT, Int32.reduceAdd, Int32.reduceSub, Int32.reduceMul, Int32.reduceLE, Int32.reduceLT, Int32.reduceToNatClampNeg, va_rf_some, Bool.false_eq_true, k_X8_loop_0 ca, k_X8_loop_1 ca, k_X8_loop_2 ca, k_X8_loop_3 ca, k_X8_loop_6 ca, k_X8_loop_9 ca, k_X8_loop_11 ca, k_X8_loop_12 ca, k_X8_loop_13 ca, k_X8_loop_16 ca, k_X8_loop_17 ca, k_X8_loop_18 ca, k_X8_loop_19 ca, k_X8_loop_22 ca, k_X8_loop_25 ca, k_X8_loop_26 ca, k_X8_loop_29 ca, k_X8_loop_32 ca, k_X8_loop_33 ca, k_X8_loop_34 ca, k_X8_loop_35 ca, k_X8_loop_36 ca, k_X8_loop_39 ca, k_X8_loop_42 ca, k_X8_loop_43 ca, k_X8_loop_44 ca, k_X8_loop_47 ca, k_X8_loop_50 ca, k_X8_loop_53 ca, k_X8_loop_54 ca, k_X8_loop_57 ca, k_X8_loop_60 ca, k_X8_loop_62 ca, k_X8_loop_63 ca, k_X8_loop_64 ca, k_X8_loop_65 ca, k_X8_loop_66 ca, k_X8_loop_69 ca, k_X8_loop_70 ca, k_X8_loop_71 ca, k_X8_loop_72 ca, k_X8_loop_75 ca, k_X8_loop_76 ca, k_X8_loop_77 ca, k_X8_loop_78 ca, k_X8_loop_79 ca, k_X8_loop_80 ca, k_X8_loop_83 ca, k_X8_loop_86 ca, k_X8_loop_89 ca, k_X8_loop_90 ca, k_X8_loop_93 ca, k_X8_loop_94 ca, k_X8_loop_97 ca, k_X8_loop_98 ca, k_X8_loop_99 ca, k_X8_loop_102 ca, k_X8_loop_103 ca, k_X8_loop_106 ca, k_X8_loop_107 ca, k_X8_loop_110 ca, k_X8_loop_111 ca, k_X8_loop_112 ca, k_X8_loop_113 ca, k_X8_loop_114 ca, k_X8_loop_115 ca, k_X8_loop_118 ca, k_X8_loop_119 ca, k_X8_loop_120 ca, k_X8_loop_121 ca, em', H5, g1, z2, z0, z1, zk, v1500, k1500, cmpe, q, a_1]
          try clear hF hF0 F
          exact k0
    have k0 := key 1500 1 (by omega) (by omega) (fun q a b => absurd b (by omega))
    rw [n1] at k0
    refine goN go (stp [18]) 160 _ _ _ _ _ _ (fun F hF hF0 => ?_)
    simp only [hF, hF0, ite_not, i_push, i_iload, i_lload, i_aload, i_istore, i_astore, i_lstore, i_iinc, i_bin, i_dv, i_un, i_lbin, i_lsh, i_i2l, i_l2i, i_lcmp, i_dup, i_dup2, i_pop, i_if, i_icmp, i_goto, swG, i_sw, i_getf, i_puti, i_putz, i_putr, i_ald, i_lald, i_aald, i_ast, i_last, i_aast, i_alen, i_new, i_newi, i_newl, i_newq, i_oinit, i_ret, i_zret, i_lret, i_vret, catS, tk, rpush, isO, i_m1, i_m2, i_acopy, i_callV, i_callS, KRet, lget, lput, lputL, lcl0, isL, lv0, List.map_cons, List.map_nil, List.length_cons, List.length_nil, List.cons_append, List.nil_append, Nat.reduceAdd, Nat.reduceSub, Nat.reduceLeDiff, List.replicate_succ, List.replicate_zero, List.getElem?_cons_succ, List.getElem?_cons_zero, List.set_cons_succ, List.set_cons_zero, true_and, and_true, if_true, if_false, ↓reduceIte, Nat.le_refl, Value.category, va_up_app, eq_self, stp, Nat.reduceBEq, Bool.or_false, Bool.false_or, Bool.true_or, Bool.or_true, or_true, true_or, bx_uu, implies_true, true_implies, not_true, not_false_eq_true, false_implies, and_self, Nat.reduceLT, Int32.reduceAdd, Int32.reduceSub, Int32.reduceMul, Int32.reduceLE, Int32.reduceLT, Int32.reduceToNatClampNeg, va_rf_some, Bool.false_eq_true, k_X8_loop_0 ca, k_X8_loop_1 ca, k_X8_loop_2 ca, k_X8_loop_3 ca, k_X8_loop_6 ca, k_X8_loop_9 ca, k_X8_loop_11 ca, k_X8_loop_12 ca, k_X8_loop_13 ca, k_X8_loop_16 ca, k_X8_loop_17 ca, k_X8_loop_18 ca, k_X8_loop_19 ca, k_X8_loop_22 ca, k_X8_loop_25 ca, k_X8_loop_26 ca, k_X8_loop_29 ca, k_X8_loop_32 ca, k_X8_loop_33 ca, k_X8_loop_34 ca, k_X8_loop_35 ca, k_X8_loop_36 ca, k_X8_loop_39 ca, k_X8_loop_42 ca, k_X8_loop_43 ca, k_X8_loop_44 ca, k_X8_loop_47 ca, k_X8_loop_50 ca, k_X8_loop_53 ca, k_X8_loop_54 ca, k_X8_loop_57 ca, k_X8_loop_60 ca, k_X8_loop_62 ca, k_X8_loop_63 ca, k_X8_loop_64 ca, k_X8_loop_65 ca, k_X8_loop_66 ca, k_X8_loop_69 ca, k_X8_loop_70 ca, k_X8_loop_71 ca, k_X8_loop_72 ca, k_X8_loop_75 ca, k_X8_loop_76 ca, k_X8_loop_77 ca, k_X8_loop_78 ca, k_X8_loop_79 ca, k_X8_loop_80 ca, k_X8_loop_83 ca, k_X8_loop_86 ca, k_X8_loop_89 ca, k_X8_loop_90 ca, k_X8_loop_93 ca, k_X8_loop_94 ca, k_X8_loop_97 ca, k_X8_loop_98 ca, k_X8_loop_99 ca, k_X8_loop_102 ca, k_X8_loop_103 ca, k_X8_loop_106 ca, k_X8_loop_107 ca, k_X8_loop_110 ca, k_X8_loop_111 ca, k_X8_loop_112 ca, k_X8_loop_113 ca, k_X8_loop_114 ca, k_X8_loop_115 ca, k_X8_loop_118 ca, k_X8_loop_119 ca, k_X8_loop_120 ca, k_X8_loop_121 ca]
    try clear hF hF0 F
    exact k0
