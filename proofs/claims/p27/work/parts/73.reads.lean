/-! SnapStacks: stripOf, partOf, roomOf, count, bend, tripsAt, undo, texts -/
theorem oI_01 {x : Int32} (h : x = 0 ∨ x = 1) : (if x = 0 then (0 : Int32) else 1) = x := by rcases h with rfl | rfl <;> rfl
def sp_X7_stripOf (ca : Nat → ClassId) : SPEC := fun av h post => ∃ o b qh qa B x3 x4 x5 lk s oo ss S x w, av = [.ref o, .int x, .int w] ∧ CN ca h o b qh qa B x3 x4 x5 lk s oo ss S ∧ WfS s ∧ BoS s ∧ post (some (.int (aStripOf s x w))) h
def k_X7_stripOf (ca : Nat → ClassId) : Nat → IT := fun pc => lk pc [(0, i_iload 1 1),
  (1, i_callS 1 0 0 0 0 (sp_X7_isRoom ca) 4),
  (4, i_if (fun x => ¬ x = 0) 10 7),
  (7, i_push (.int (-10000001)) 9),
  (9, i_ret),
  (10, i_aload 0 11),
  (11, i_getf 7 0 14),
  (14, i_getf 4 2 17),
  (17, i_iload 1 18),
  (18, i_aald (ca 6) 19),
  (19, i_astore 3 20),
  (20, i_iload 2 21),
  (21, i_sw [(0, 84), (1, 89), (2, 94), (3, 106), (4, 115), (5, 120), (6, 125), (7, 130), (8, 138), (9, 143), (10, 148), (11, 153)] 161),
  (84, i_aload 3 85),
  (85, i_getf 5 3 88),
  (88, i_ret),
  (89, i_aload 3 90),
  (90, i_callV 5 0 0 0 0 0 (sp_X5_wholeLength ca) 93),
  (93, i_ret),
  (94, i_aload 3 95),
  (95, i_aload 0 96),
  (96, i_getf 7 0 99),
  (99, i_getf 4 0 102),
  (102, i_callV 5 1 0 0 0 0 (sp_X5_rate ca) 105),
  (105, i_ret),
  (106, i_aload 0 107),
  (107, i_getf 7 0 110),
  (110, i_iload 1 111),
  (111, i_callV 4 1 0 0 0 0 (sp_X4_bendInRoom ca) 114),
  (114, i_ret),
  (115, i_aload 3 116),
  (116, i_getf 5 4 119),
  (119, i_ret),
  (120, i_aload 3 121),
  (121, i_getf 5 5 124),
  (124, i_ret),
  (125, i_aload 3 126),
  (126, i_getf 5 6 129),
  (129, i_ret),
  (130, i_aload 3 131),
  (131, i_getf 5 10 134),
  (134, i_callS 1 0 0 0 0 (sp_X7_oneIf ca) 137),
  (137, i_ret),
  (138, i_aload 3 139),
  (139, i_getf 5 7 142),
  (142, i_ret),
  (143, i_aload 3 144),
  (144, i_getf 5 8 147),
  (147, i_ret),
  (148, i_aload 3 149),
  (149, i_getf 5 9 152),
  (152, i_ret),
  (153, i_aload 3 154),
  (154, i_callV 5 0 0 0 0 0 (sp_X5_isClosed ca) 157),
  (157, i_callS 1 0 0 0 0 (sp_X7_oneIf ca) 160),
  (160, i_ret),
  (161, i_push (.int (-10000001)) 163),
  (163, i_ret)]
set_option maxRecDepth 20000 in
theorem t_X7_stripOf : Tb k_X7_stripOf yX7_stripOf cX7_stripOf 4 (some .int) 3 0 0 := by
  intro l D ca A p e s m args below meth c post X
  unfold k_X7_stripOf
  refine snd_cons (snd_iload_n X dX7_stripOf_0 rfl) ?_
  refine snd_cons (snd_callS X (ok_X7_isRoom l D ca) rfl rfl w_327 w_328 w_1 w_329 (by decide) (by decide) dX7_stripOf_1) ?_
  refine snd_cons (snd_if_ne X dX7_stripOf_4 (by decide)) ?_
  refine snd_cons (snd_ldc X w_284 dX7_stripOf_7) ?_
  refine snd_cons (snd_ret X dX7_stripOf_9) ?_
  refine snd_cons (snd_aload_n X dX7_stripOf_10 rfl) ?_
  refine snd_cons (snd_getf X Fk7 0 (by decide) w_250 dX7_stripOf_11) ?_
  refine snd_cons (snd_getf X Fk4 2 (by decide) w_128 dX7_stripOf_14) ?_
  refine snd_cons (snd_iload_n X dX7_stripOf_17 rfl) ?_
  refine snd_cons (snd_aaload X 6 rfl dX7_stripOf_18) ?_
  refine snd_cons (snd_astore_n X dX7_stripOf_19 rfl (by decide)) ?_
  refine snd_cons (snd_iload_n X dX7_stripOf_20 rfl) ?_
  refine snd_cons (snd_table X dX7_stripOf_21 (by decide) (by decide) (by decide)) ?_
  refine snd_cons (snd_aload_n X dX7_stripOf_84 rfl) ?_
  refine snd_cons (snd_getf X Fk5 3 (by decide) w_42 dX7_stripOf_85) ?_
  refine snd_cons (snd_ret X dX7_stripOf_88) ?_
  refine snd_cons (snd_aload_n X dX7_stripOf_89 rfl) ?_
  refine snd_cons (snd_callV X Fk5 (ok_X5_wholeLength l D ca) rfl rfl w_330 w_331 w_332 w_3 w_333 (by decide) (by decide) dX7_stripOf_90) ?_
  refine snd_cons (snd_ret X dX7_stripOf_93) ?_
  refine snd_cons (snd_aload_n X dX7_stripOf_94 rfl) ?_
  refine snd_cons (snd_aload_n X dX7_stripOf_95 rfl) ?_
  refine snd_cons (snd_getf X Fk7 0 (by decide) w_250 dX7_stripOf_96) ?_
  refine snd_cons (snd_getf X Fk4 0 (by decide) w_123 dX7_stripOf_99) ?_
  refine snd_cons (snd_callV X Fk5 (ok_X5_rate l D ca) rfl rfl w_334 w_335 w_336 w_3 w_337 (by decide) (by decide) dX7_stripOf_102) ?_
  refine snd_cons (snd_ret X dX7_stripOf_105) ?_
  refine snd_cons (snd_aload_n X dX7_stripOf_106 rfl) ?_
  refine snd_cons (snd_getf X Fk7 0 (by decide) w_250 dX7_stripOf_107) ?_
  refine snd_cons (snd_iload_n X dX7_stripOf_110 rfl) ?_
  refine snd_cons (snd_callV X Fk4 (ok_X4_bendInRoom l D ca) rfl rfl w_342 w_343 w_344 w_2 w_345 (by decide) (by decide) dX7_stripOf_111) ?_
  refine snd_cons (snd_ret X dX7_stripOf_114) ?_
  refine snd_cons (snd_aload_n X dX7_stripOf_115 rfl) ?_
  refine snd_cons (snd_getf X Fk5 4 (by decide) w_44 dX7_stripOf_116) ?_
  refine snd_cons (snd_ret X dX7_stripOf_119) ?_
  refine snd_cons (snd_aload_n X dX7_stripOf_120 rfl) ?_
  refine snd_cons (snd_getf X Fk5 5 (by decide) w_46 dX7_stripOf_121) ?_
  refine snd_cons (snd_ret X dX7_stripOf_124) ?_
  refine snd_cons (snd_aload_n X dX7_stripOf_125 rfl) ?_
  refine snd_cons (snd_getf X Fk5 6 (by decide) w_48 dX7_stripOf_126) ?_
  refine snd_cons (snd_ret X dX7_stripOf_129) ?_
  refine snd_cons (snd_aload_n X dX7_stripOf_130 rfl) ?_
  refine snd_cons (snd_getf X Fk5 10 (by decide) w_59 dX7_stripOf_131) ?_
  refine snd_cons (snd_callS X (ok_X7_oneIf l D ca) rfl rfl w_350 w_351 w_1 w_352 (by decide) (by decide) dX7_stripOf_134) ?_
  refine snd_cons (snd_ret X dX7_stripOf_137) ?_
  refine snd_cons (snd_aload_n X dX7_stripOf_138 rfl) ?_
  refine snd_cons (snd_getf X Fk5 7 (by decide) w_51 dX7_stripOf_139) ?_
  refine snd_cons (snd_ret X dX7_stripOf_142) ?_
  refine snd_cons (snd_aload_n X dX7_stripOf_143 rfl) ?_
  refine snd_cons (snd_getf X Fk5 8 (by decide) w_54 dX7_stripOf_144) ?_
  refine snd_cons (snd_ret X dX7_stripOf_147) ?_
  refine snd_cons (snd_aload_n X dX7_stripOf_148 rfl) ?_
  refine snd_cons (snd_getf X Fk5 9 (by decide) w_56 dX7_stripOf_149) ?_
  refine snd_cons (snd_ret X dX7_stripOf_152) ?_
  refine snd_cons (snd_aload_n X dX7_stripOf_153 rfl) ?_
  refine snd_cons (snd_callV X Fk5 (ok_X5_isClosed l D ca) rfl rfl w_353 w_354 w_355 w_3 w_356 (by decide) (by decide) dX7_stripOf_154) ?_
  refine snd_cons (snd_callS X (ok_X7_oneIf l D ca) rfl rfl w_350 w_351 w_1 w_352 (by decide) (by decide) dX7_stripOf_157) ?_
  refine snd_cons (snd_ret X dX7_stripOf_160) ?_
  refine snd_cons (snd_ldc X w_284 dX7_stripOf_161) ?_
  refine snd_cons (snd_ret X dX7_stripOf_163) ?_
  exact snd_nil
theorem k_X7_stripOf_0 (ca : Nat → ClassId) : k_X7_stripOf ca 0 = i_iload 1 1 := rfl
theorem k_X7_stripOf_1 (ca : Nat → ClassId) : k_X7_stripOf ca 1 = i_callS 1 0 0 0 0 (sp_X7_isRoom ca) 4 := rfl
theorem k_X7_stripOf_4 (ca : Nat → ClassId) : k_X7_stripOf ca 4 = i_if (fun x => ¬ x = 0) 10 7 := rfl
theorem k_X7_stripOf_7 (ca : Nat → ClassId) : k_X7_stripOf ca 7 = i_push (.int (-10000001)) 9 := rfl
theorem k_X7_stripOf_9 (ca : Nat → ClassId) : k_X7_stripOf ca 9 = i_ret := rfl
theorem k_X7_stripOf_10 (ca : Nat → ClassId) : k_X7_stripOf ca 10 = i_aload 0 11 := rfl
theorem k_X7_stripOf_11 (ca : Nat → ClassId) : k_X7_stripOf ca 11 = i_getf 7 0 14 := rfl
theorem k_X7_stripOf_14 (ca : Nat → ClassId) : k_X7_stripOf ca 14 = i_getf 4 2 17 := rfl
theorem k_X7_stripOf_17 (ca : Nat → ClassId) : k_X7_stripOf ca 17 = i_iload 1 18 := rfl
theorem k_X7_stripOf_18 (ca : Nat → ClassId) : k_X7_stripOf ca 18 = i_aald (ca 6) 19 := rfl
theorem k_X7_stripOf_19 (ca : Nat → ClassId) : k_X7_stripOf ca 19 = i_astore 3 20 := rfl
theorem k_X7_stripOf_20 (ca : Nat → ClassId) : k_X7_stripOf ca 20 = i_iload 2 21 := rfl
theorem k_X7_stripOf_21 (ca : Nat → ClassId) : k_X7_stripOf ca 21 = i_sw [(0, 84), (1, 89), (2, 94), (3, 106), (4, 115), (5, 120), (6, 125), (7, 130), (8, 138), (9, 143), (10, 148), (11, 153)] 161 := rfl
theorem k_X7_stripOf_84 (ca : Nat → ClassId) : k_X7_stripOf ca 84 = i_aload 3 85 := rfl
theorem k_X7_stripOf_85 (ca : Nat → ClassId) : k_X7_stripOf ca 85 = i_getf 5 3 88 := rfl
theorem k_X7_stripOf_88 (ca : Nat → ClassId) : k_X7_stripOf ca 88 = i_ret := rfl
theorem k_X7_stripOf_89 (ca : Nat → ClassId) : k_X7_stripOf ca 89 = i_aload 3 90 := rfl
theorem k_X7_stripOf_90 (ca : Nat → ClassId) : k_X7_stripOf ca 90 = i_callV 5 0 0 0 0 0 (sp_X5_wholeLength ca) 93 := rfl
theorem k_X7_stripOf_93 (ca : Nat → ClassId) : k_X7_stripOf ca 93 = i_ret := rfl
theorem k_X7_stripOf_94 (ca : Nat → ClassId) : k_X7_stripOf ca 94 = i_aload 3 95 := rfl
theorem k_X7_stripOf_95 (ca : Nat → ClassId) : k_X7_stripOf ca 95 = i_aload 0 96 := rfl
theorem k_X7_stripOf_96 (ca : Nat → ClassId) : k_X7_stripOf ca 96 = i_getf 7 0 99 := rfl
theorem k_X7_stripOf_99 (ca : Nat → ClassId) : k_X7_stripOf ca 99 = i_getf 4 0 102 := rfl
theorem k_X7_stripOf_102 (ca : Nat → ClassId) : k_X7_stripOf ca 102 = i_callV 5 1 0 0 0 0 (sp_X5_rate ca) 105 := rfl
theorem k_X7_stripOf_105 (ca : Nat → ClassId) : k_X7_stripOf ca 105 = i_ret := rfl
theorem k_X7_stripOf_106 (ca : Nat → ClassId) : k_X7_stripOf ca 106 = i_aload 0 107 := rfl
theorem k_X7_stripOf_107 (ca : Nat → ClassId) : k_X7_stripOf ca 107 = i_getf 7 0 110 := rfl
theorem k_X7_stripOf_110 (ca : Nat → ClassId) : k_X7_stripOf ca 110 = i_iload 1 111 := rfl
theorem k_X7_stripOf_111 (ca : Nat → ClassId) : k_X7_stripOf ca 111 = i_callV 4 1 0 0 0 0 (sp_X4_bendInRoom ca) 114 := rfl
theorem k_X7_stripOf_114 (ca : Nat → ClassId) : k_X7_stripOf ca 114 = i_ret := rfl
theorem k_X7_stripOf_115 (ca : Nat → ClassId) : k_X7_stripOf ca 115 = i_aload 3 116 := rfl
theorem k_X7_stripOf_116 (ca : Nat → ClassId) : k_X7_stripOf ca 116 = i_getf 5 4 119 := rfl
theorem k_X7_stripOf_119 (ca : Nat → ClassId) : k_X7_stripOf ca 119 = i_ret := rfl
theorem k_X7_stripOf_120 (ca : Nat → ClassId) : k_X7_stripOf ca 120 = i_aload 3 121 := rfl
theorem k_X7_stripOf_121 (ca : Nat → ClassId) : k_X7_stripOf ca 121 = i_getf 5 5 124 := rfl
theorem k_X7_stripOf_124 (ca : Nat → ClassId) : k_X7_stripOf ca 124 = i_ret := rfl
theorem k_X7_stripOf_125 (ca : Nat → ClassId) : k_X7_stripOf ca 125 = i_aload 3 126 := rfl
theorem k_X7_stripOf_126 (ca : Nat → ClassId) : k_X7_stripOf ca 126 = i_getf 5 6 129 := rfl
theorem k_X7_stripOf_129 (ca : Nat → ClassId) : k_X7_stripOf ca 129 = i_ret := rfl
theorem k_X7_stripOf_130 (ca : Nat → ClassId) : k_X7_stripOf ca 130 = i_aload 3 131 := rfl
theorem k_X7_stripOf_131 (ca : Nat → ClassId) : k_X7_stripOf ca 131 = i_getf 5 10 134 := rfl
theorem k_X7_stripOf_134 (ca : Nat → ClassId) : k_X7_stripOf ca 134 = i_callS 1 0 0 0 0 (sp_X7_oneIf ca) 137 := rfl
theorem k_X7_stripOf_137 (ca : Nat → ClassId) : k_X7_stripOf ca 137 = i_ret := rfl
theorem k_X7_stripOf_138 (ca : Nat → ClassId) : k_X7_stripOf ca 138 = i_aload 3 139 := rfl
theorem k_X7_stripOf_139 (ca : Nat → ClassId) : k_X7_stripOf ca 139 = i_getf 5 7 142 := rfl
theorem k_X7_stripOf_142 (ca : Nat → ClassId) : k_X7_stripOf ca 142 = i_ret := rfl
theorem k_X7_stripOf_143 (ca : Nat → ClassId) : k_X7_stripOf ca 143 = i_aload 3 144 := rfl
theorem k_X7_stripOf_144 (ca : Nat → ClassId) : k_X7_stripOf ca 144 = i_getf 5 8 147 := rfl
theorem k_X7_stripOf_147 (ca : Nat → ClassId) : k_X7_stripOf ca 147 = i_ret := rfl
theorem k_X7_stripOf_148 (ca : Nat → ClassId) : k_X7_stripOf ca 148 = i_aload 3 149 := rfl
theorem k_X7_stripOf_149 (ca : Nat → ClassId) : k_X7_stripOf ca 149 = i_getf 5 9 152 := rfl
theorem k_X7_stripOf_152 (ca : Nat → ClassId) : k_X7_stripOf ca 152 = i_ret := rfl
theorem k_X7_stripOf_153 (ca : Nat → ClassId) : k_X7_stripOf ca 153 = i_aload 3 154 := rfl
theorem k_X7_stripOf_154 (ca : Nat → ClassId) : k_X7_stripOf ca 154 = i_callV 5 0 0 0 0 0 (sp_X5_isClosed ca) 157 := rfl
theorem k_X7_stripOf_157 (ca : Nat → ClassId) : k_X7_stripOf ca 157 = i_callS 1 0 0 0 0 (sp_X7_oneIf ca) 160 := rfl
theorem k_X7_stripOf_160 (ca : Nat → ClassId) : k_X7_stripOf ca 160 = i_ret := rfl
theorem k_X7_stripOf_161 (ca : Nat → ClassId) : k_X7_stripOf ca 161 = i_push (.int (-10000001)) 163 := rfl
theorem k_X7_stripOf_163 (ca : Nat → ClassId) : k_X7_stripOf ca 163 = i_ret := rfl
set_option maxHeartbeats 4000000 in
set_option maxRecDepth 20000 in
theorem ok_X7_stripOf (l : Launch) (D : va_G) (ca : Nat → ClassId) : OkAll l D ca yX7_stripOf cX7_stripOf 4 (some .int) 3 0 0 (sp_X7_stripOf ca) := by
  intro av h post hs
  obtain ⟨o, b, qh, qa, B, x3, x4, x5, lk, s, oo, ss, S, x, w, rfl, ⟨c0, hS, hH⟩, hW, hbo, hs⟩ := hs
  obtain ⟨z0, ⟨f3, z3, y3⟩, ⟨f4, z4, y4⟩, ⟨f1, z1, y1⟩, ⟨f2, z2, y2⟩⟩ := hS.c
  unfold aStripOf at hs
  refine okM_of t_X7_stripOf (by decide +kernel) (c1_ref (c1_int (c1_int c1_nil))) (Nat.le_of_ble_eq_true rfl) ?_
  intro K go
  cases q1 : isIn x 0 2 with
  | false =>
    rw [q1, if_neg (by decide)] at hs
    refine goN go (stp []) 160 _ _ _ _ _ _ (fun F hF hF0 => ?_)
    simp only [hF, hF0, ite_not, i_push, i_iload, i_lload, i_aload, i_istore, i_astore, i_lstore, i_iinc, i_bin, i_dv, i_un, i_lbin, i_lsh, i_i2l, i_l2i, i_lcmp, i_dup, i_dup2, i_pop, i_if, i_icmp, i_goto, swG, i_sw, i_getf, i_puti, i_putz, i_putr, i_ald, i_lald, i_aald, i_ast, i_last, i_aast, i_alen, i_new, i_newi, i_newl, i_newq, i_oinit, i_ret, i_zret, i_lret, i_vret, catS, tk, rpush, isO, i_m1, i_m2, i_acopy, i_callV, i_callS, KRet, lget, lput, lputL, lcl0, isL, lv0, List.map_cons, List.map_nil, List.length_cons, List.length_nil, List.cons_append, List.nil_append, Nat.reduceAdd, Nat.reduceSub, Nat.reduceLeDiff, List.replicate_succ, List.replicate_zero, List.getElem?_cons_succ, List.getElem?_cons_zero, List.set_cons_succ, List.set_cons_zero, true_and, and_true, if_true, if_false, ↓reduceIte, Nat.le_refl, Value.category, va_up_app, eq_self, stp, Nat.reduceBEq, Bool.or_false, Bool.false_or, Bool.true_or, Bool.or_true, or_true, true_or, bx_uu, implies_true, true_implies, not_true, not_false_eq_true, false_implies, and_self, Nat.reduceLT, Int32.reduceAdd, Int32.reduceSub, Int32.reduceMul, Int32.reduceLE, Int32.reduceLT, Int32.reduceToNatClampNeg, va_rf_some, Bool.false_eq_true, k_X7_stripOf_0 ca, k_X7_stripOf_1 ca, k_X7_stripOf_4 ca, k_X7_stripOf_7 ca, k_X7_stripOf_9 ca, k_X7_stripOf_10 ca, k_X7_stripOf_11 ca, k_X7_stripOf_14 ca, k_X7_stripOf_17 ca, k_X7_stripOf_18 ca, k_X7_stripOf_19 ca, k_X7_stripOf_20 ca, k_X7_stripOf_21 ca, k_X7_stripOf_84 ca, k_X7_stripOf_85 ca, k_X7_stripOf_88 ca, k_X7_stripOf_89 ca, k_X7_stripOf_90 ca, k_X7_stripOf_93 ca, k_X7_stripOf_94 ca, k_X7_stripOf_95 ca, k_X7_stripOf_96 ca, k_X7_stripOf_99 ca, k_X7_stripOf_102 ca, k_X7_stripOf_105 ca, k_X7_stripOf_106 ca, k_X7_stripOf_107 ca, k_X7_stripOf_110 ca, k_X7_stripOf_111 ca, k_X7_stripOf_114 ca, k_X7_stripOf_115 ca, k_X7_stripOf_116 ca, k_X7_stripOf_119 ca, k_X7_stripOf_120 ca, k_X7_stripOf_121 ca, k_X7_stripOf_124 ca, k_X7_stripOf_125 ca, k_X7_stripOf_126 ca, k_X7_stripOf_129 ca, k_X7_stripOf_130 ca, k_X7_stripOf_131 ca, k_X7_stripOf_134 ca, k_X7_stripOf_137 ca, k_X7_stripOf_138 ca, k_X7_stripOf_139 ca, k_X7_stripOf_142 ca, k_X7_stripOf_143 ca, k_X7_stripOf_144 ca, k_X7_stripOf_147 ca, k_X7_stripOf_148 ca, k_X7_stripOf_149 ca, k_X7_stripOf_152 ca, k_X7_stripOf_153 ca, k_X7_stripOf_154 ca, k_X7_stripOf_157 ca, k_X7_stripOf_160 ca, k_X7_stripOf_161 ca, k_X7_stripOf_163 ca, sp_X7_isRoom, q1, b2i_f]
    try clear hF hF0 F
    exact hs
  | true =>
    rw [q1, if_pos rfl] at hs
    obtain ⟨X, hX, rfl⟩ := isIn0 (B := 2) rfl q1
    have xx : (nI X).toNatClampNeg = X := tn127 (by omega)
    have vx := vp3 (k := X) (by omega)
    rw [xx] at hs
    have z6 := y3 X (by omega)
    have z7 := hS.st (k := X) (by omega)
    have z8 := y4 X (by omega)
    have z9 := hS.rm (k := X) (by omega)
    obtain ⟨⟨fl, l1, l2⟩, ⟨fu, u1, u2⟩, ⟨fw, w1, w2⟩⟩ := hS.pl (k := X) (by omega)
    have Wk := hW.k (k := X) (by omega)
    obtain ⟨hN0, hN8, hN9⟩ := id Wk
    obtain ⟨g1, g2⟩ := rate_of Wk l2 u2 w2 y1
    have hc := hbo.si (k := X) (by omega)
    have oc := oI_01 hc
    refine goN go (stp [20]) 160 _ _ _ _ _ _ (fun F hF hF0 => ?_)
    simp only [hF, hF0, ite_not, i_push, i_iload, i_lload, i_aload, i_istore, i_astore, i_lstore, i_iinc, i_bin, i_dv, i_un, i_lbin, i_lsh, i_i2l, i_l2i, i_lcmp, i_dup, i_dup2, i_pop, i_if, i_icmp, i_goto, swG, i_sw, i_getf, i_puti, i_putz, i_putr, i_ald, i_lald, i_aald, i_ast, i_last, i_aast, i_alen, i_new, i_newi, i_newl, i_newq, i_oinit, i_ret, i_zret, i_lret, i_vret, catS, tk, rpush, isO, i_m1, i_m2, i_acopy, i_callV, i_callS, KRet, lget, lput, lputL, lcl0, isL, lv0, List.map_cons, List.map_nil, List.length_cons, List.length_nil, List.cons_append, List.nil_append, Nat.reduceAdd, Nat.reduceSub, Nat.reduceLeDiff, List.replicate_succ, List.replicate_zero, List.getElem?_cons_succ, List.getElem?_cons_zero, List.set_cons_succ, List.set_cons_zero, true_and, and_true, if_true, if_false, ↓reduceIte, Nat.le_refl, Value.category, va_up_app, eq_self, stp, Nat.reduceBEq, Bool.or_false, Bool.false_or, Bool.true_or, Bool.or_true, or_true, true_or, bx_uu, implies_true, true_implies, not_true, not_false_eq_true, false_implies, and_self, Nat.reduceLT, Int32.reduceAdd, Int32.reduceSub, Int32.reduceMul, Int32.reduceLE, Int32.reduceLT, Int32.reduceToNatClampNeg, va_rf_some, Bool.false_eq_true, k_X7_stripOf_0 ca, k_X7_stripOf_1 ca, k_X7_stripOf_4 ca, k_X7_stripOf_7 ca, k_X7_stripOf_9 ca, k_X7_stripOf_10 ca, k_X7_stripOf_11 ca, k_X7_stripOf_14 ca, k_X7_stripOf_17 ca, k_X7_stripOf_18 ca, k_X7_stripOf_19 ca, k_X7_stripOf_20 ca, k_X7_stripOf_21 ca, k_X7_stripOf_84 ca, k_X7_stripOf_85 ca, k_X7_stripOf_88 ca, k_X7_stripOf_89 ca, k_X7_stripOf_90 ca, k_X7_stripOf_93 ca, k_X7_stripOf_94 ca, k_X7_stripOf_95 ca, k_X7_stripOf_96 ca, k_X7_stripOf_99 ca, k_X7_stripOf_102 ca, k_X7_stripOf_105 ca, k_X7_stripOf_106 ca, k_X7_stripOf_107 ca, k_X7_stripOf_110 ca, k_X7_stripOf_111 ca, k_X7_stripOf_114 ca, k_X7_stripOf_115 ca, k_X7_stripOf_116 ca, k_X7_stripOf_119 ca, k_X7_stripOf_120 ca, k_X7_stripOf_121 ca, k_X7_stripOf_124 ca, k_X7_stripOf_125 ca, k_X7_stripOf_126 ca, k_X7_stripOf_129 ca, k_X7_stripOf_130 ca, k_X7_stripOf_131 ca, k_X7_stripOf_134 ca, k_X7_stripOf_137 ca, k_X7_stripOf_138 ca, k_X7_stripOf_139 ca, k_X7_stripOf_142 ca, k_X7_stripOf_143 ca, k_X7_stripOf_144 ca, k_X7_stripOf_147 ca, k_X7_stripOf_148 ca, k_X7_stripOf_149 ca, k_X7_stripOf_152 ca, k_X7_stripOf_153 ca, k_X7_stripOf_154 ca, k_X7_stripOf_157 ca, k_X7_stripOf_160 ca, k_X7_stripOf_161 ca, k_X7_stripOf_163 ca, sp_X7_isRoom, q1, b2i_t, one0, c0, z0, z3, z6, vx, xx]
    try clear hF hF0 F
    clear q1
    cases q2 : isIn w 0 11 with
    | false =>
      rw [q2, if_neg (by decide)] at hs
      have nw : ∀ W, W ≤ 11 → (w = nI W) = False := fun W hW => eq_false (fun z => by
        rw [z] at q2
        unfold isIn at q2
        rw [decide_eq_false (nI_pos (by omega)), decide_eq_false (show ¬ (11 : Int32) < nI W from nI_nlt (b := W) (a := 11) (by omega) (by omega))] at q2
        cases q2)
      have w0 : (w = 0) = False := nw 0 (by decide)
      have w1' : (w = 1) = False := nw 1 (by decide)
      have w2' : (w = 2) = False := nw 2 (by decide)
      have w3 : (w = 3) = False := nw 3 (by decide)
      have w4 : (w = 4) = False := nw 4 (by decide)
      have w5 : (w = 5) = False := nw 5 (by decide)
      have w6 : (w = 6) = False := nw 6 (by decide)
      have w7 : (w = 7) = False := nw 7 (by decide)
      have w8 : (w = 8) = False := nw 8 (by decide)
      have w9 : (w = 9) = False := nw 9 (by decide)
      have w10 : (w = 10) = False := nw 10 (by decide)
      have w11 : (w = 11) = False := nw 11 (by decide)
      refine goN go (stp []) 160 _ _ _ _ _ _ (fun F hF hF0 => ?_)
      simp only [hF, hF0, ite_not, i_push, i_iload, i_lload, i_aload, i_istore, i_astore, i_lstore, i_iinc, i_bin, i_dv, i_un, i_lbin, i_lsh, i_i2l, i_l2i, i_lcmp, i_dup, i_dup2, i_pop, i_if, i_icmp, i_goto, swG, i_sw, i_getf, i_puti, i_putz, i_putr, i_ald, i_lald, i_aald, i_ast, i_last, i_aast, i_alen, i_new, i_newi, i_newl, i_newq, i_oinit, i_ret, i_zret, i_lret, i_vret, catS, tk, rpush, isO, i_m1, i_m2, i_acopy, i_callV, i_callS, KRet, lget, lput, lputL, lcl0, isL, lv0, List.map_cons, List.map_nil, List.length_cons, List.length_nil, List.cons_append, List.nil_append, Nat.reduceAdd, Nat.reduceSub, Nat.reduceLeDiff, List.replicate_succ, List.replicate_zero, List.getElem?_cons_succ, List.getElem?_cons_zero, List.set_cons_succ, List.set_cons_zero, true_and, and_true, if_true, if_false, ↓reduceIte, Nat.le_refl, Value.category, va_up_app, eq_self, stp, Nat.reduceBEq, Bool.or_false, Bool.false_or, Bool.true_or, Bool.or_true, or_true, true_or, bx_uu, implies_true, true_implies, not_true, not_false_eq_true, false_implies, and_self, Nat.reduceLT, Int32.reduceAdd, Int32.reduceSub, Int32.reduceMul, Int32.reduceLE, Int32.reduceLT, Int32.reduceToNatClampNeg, va_rf_some, Bool.false_eq_true, k_X7_stripOf_0 ca, k_X7_stripOf_1 ca, k_X7_stripOf_4 ca, k_X7_stripOf_7 ca, k_X7_stripOf_9 ca, k_X7_stripOf_10 ca, k_X7_stripOf_11 ca, k_X7_stripOf_14 ca, k_X7_stripOf_17 ca, k_X7_stripOf_18 ca, k_X7_stripOf_19 ca, k_X7_stripOf_20 ca, k_X7_stripOf_21 ca, k_X7_stripOf_84 ca, k_X7_stripOf_85 ca, k_X7_stripOf_88 ca, k_X7_stripOf_89 ca, k_X7_stripOf_90 ca, k_X7_stripOf_93 ca, k_X7_stripOf_94 ca, k_X7_stripOf_95 ca, k_X7_stripOf_96 ca, k_X7_stripOf_99 ca, k_X7_stripOf_102 ca, k_X7_stripOf_105 ca, k_X7_stripOf_106 ca, k_X7_stripOf_107 ca, k_X7_stripOf_110 ca, k_X7_stripOf_111 ca, k_X7_stripOf_114 ca, k_X7_stripOf_115 ca, k_X7_stripOf_116 ca, k_X7_stripOf_119 ca, k_X7_stripOf_120 ca, k_X7_stripOf_121 ca, k_X7_stripOf_124 ca, k_X7_stripOf_125 ca, k_X7_stripOf_126 ca, k_X7_stripOf_129 ca, k_X7_stripOf_130 ca, k_X7_stripOf_131 ca, k_X7_stripOf_134 ca, k_X7_stripOf_137 ca, k_X7_stripOf_138 ca, k_X7_stripOf_139 ca, k_X7_stripOf_142 ca, k_X7_stripOf_143 ca, k_X7_stripOf_144 ca, k_X7_stripOf_147 ca, k_X7_stripOf_148 ca, k_X7_stripOf_149 ca, k_X7_stripOf_152 ca, k_X7_stripOf_153 ca, k_X7_stripOf_154 ca, k_X7_stripOf_157 ca, k_X7_stripOf_160 ca, k_X7_stripOf_161 ca, k_X7_stripOf_163 ca, w0, w1', w2', w3, w4, w5, w6, w7, w8, w9, w10, w11]
      try clear hF hF0 F
      exact hs
    | true =>
      rw [q2, if_pos rfl] at hs
      obtain ⟨W, hW11, rfl⟩ := isIn0 (B := 11) rfl q2
      clear q2
      have hw : W = 0 ∨ W = 1 ∨ W = 2 ∨ W = 3 ∨ W = 4 ∨ W = 5 ∨ W = 6 ∨ W = 7 ∨ W = 8 ∨ W = 9 ∨ W = 10 ∨ W = 11 := by omega
      rcases hw with rfl | rfl | rfl | rfl | rfl | rfl | rfl | rfl | rfl | rfl | rfl | rfl
      · rw [show nI 0 = (0 : Int32) from rfl] at *
        unfold sOf at hs
        rw [if_pos rfl] at hs
        refine goN go (stp []) 160 _ _ _ _ _ _ (fun F hF hF0 => ?_)
        simp only [hF, hF0, ite_not, i_push, i_iload, i_lload, i_aload, i_istore, i_astore, i_lstore, i_iinc, i_bin, i_dv, i_un, i_lbin, i_lsh, i_i2l, i_l2i, i_lcmp, i_dup, i_dup2, i_pop, i_if, i_icmp, i_goto, swG, i_sw, i_getf, i_puti, i_putz, i_putr, i_ald, i_lald, i_aald, i_ast, i_last, i_aast, i_alen, i_new, i_newi, i_newl, i_newq, i_oinit, i_ret, i_zret, i_lret, i_vret, catS, tk, rpush, isO, i_m1, i_m2, i_acopy, i_callV, i_callS, KRet, lget, lput, lputL, lcl0, isL, lv0, List.map_cons, List.map_nil, List.length_cons, List.length_nil, List.cons_append, List.nil_append, Nat.reduceAdd, Nat.reduceSub, Nat.reduceLeDiff, List.replicate_succ, List.replicate_zero, List.getElem?_cons_succ, List.getElem?_cons_zero, List.set_cons_succ, List.set_cons_zero, true_and, and_true, if_true, if_false, ↓reduceIte, Nat.le_refl, Value.category, va_up_app, eq_self, stp, Nat.reduceBEq, Bool.or_false, Bool.false_or, Bool.true_or, Bool.or_true, or_true, true_or, bx_uu, implies_true, true_implies, not_true, not_false_eq_true, false_implies, and_self, Nat.reduceLT, Int32.reduceAdd, Int32.reduceSub, Int32.reduceMul, Int32.reduceLE, Int32.reduceLT, Int32.reduceToNatClampNeg, va_rf_some, Bool.false_eq_true, k_X7_stripOf_0 ca, k_X7_stripOf_1 ca, k_X7_stripOf_4 ca, k_X7_stripOf_7 ca, k_X7_stripOf_9 ca, k_X7_stripOf_10 ca, k_X7_stripOf_11 ca, k_X7_stripOf_14 ca, k_X7_stripOf_17 ca, k_X7_stripOf_18 ca, k_X7_stripOf_19 ca, k_X7_stripOf_20 ca, k_X7_stripOf_21 ca, k_X7_stripOf_84 ca, k_X7_stripOf_85 ca, k_X7_stripOf_88 ca, k_X7_stripOf_89 ca, k_X7_stripOf_90 ca, k_X7_stripOf_93 ca, k_X7_stripOf_94 ca, k_X7_stripOf_95 ca, k_X7_stripOf_96 ca, k_X7_stripOf_99 ca, k_X7_stripOf_102 ca, k_X7_stripOf_105 ca, k_X7_stripOf_106 ca, k_X7_stripOf_107 ca, k_X7_stripOf_110 ca, k_X7_stripOf_111 ca, k_X7_stripOf_114 ca, k_X7_stripOf_115 ca, k_X7_stripOf_116 ca, k_X7_stripOf_119 ca, k_X7_stripOf_120 ca, k_X7_stripOf_121 ca, k_X7_stripOf_124 ca, k_X7_stripOf_125 ca, k_X7_stripOf_126 ca, k_X7_stripOf_129 ca, k_X7_stripOf_130 ca, k_X7_stripOf_131 ca, k_X7_stripOf_134 ca, k_X7_stripOf_137 ca, k_X7_stripOf_138 ca, k_X7_stripOf_139 ca, k_X7_stripOf_142 ca, k_X7_stripOf_143 ca, k_X7_stripOf_144 ca, k_X7_stripOf_147 ca, k_X7_stripOf_148 ca, k_X7_stripOf_149 ca, k_X7_stripOf_152 ca, k_X7_stripOf_153 ca, k_X7_stripOf_154 ca, k_X7_stripOf_157 ca, k_X7_stripOf_160 ca, k_X7_stripOf_161 ca, k_X7_stripOf_163 ca, z7]
        try clear hF hF0 F
        exact hs
      · rw [show nI 1 = (1 : Int32) from rfl] at *
        unfold sOf at hs
        rw [if_neg (by decide), if_pos rfl] at hs
        refine goN go (stp []) 160 _ _ _ _ _ _ (fun F hF hF0 => ?_)
        simp only [hF, hF0, ite_not, i_push, i_iload, i_lload, i_aload, i_istore, i_astore, i_lstore, i_iinc, i_bin, i_dv, i_un, i_lbin, i_lsh, i_i2l, i_l2i, i_lcmp, i_dup, i_dup2, i_pop, i_if, i_icmp, i_goto, swG, i_sw, i_getf, i_puti, i_putz, i_putr, i_ald, i_lald, i_aald, i_ast, i_last, i_aast, i_alen, i_new, i_newi, i_newl, i_newq, i_oinit, i_ret, i_zret, i_lret, i_vret, catS, tk, rpush, isO, i_m1, i_m2, i_acopy, i_callV, i_callS, KRet, lget, lput, lputL, lcl0, isL, lv0, List.map_cons, List.map_nil, List.length_cons, List.length_nil, List.cons_append, List.nil_append, Nat.reduceAdd, Nat.reduceSub, Nat.reduceLeDiff, List.replicate_succ, List.replicate_zero, List.getElem?_cons_succ, List.getElem?_cons_zero, List.set_cons_succ, List.set_cons_zero, true_and, and_true, if_true, if_false, ↓reduceIte, Nat.le_refl, Value.category, va_up_app, eq_self, stp, Nat.reduceBEq, Bool.or_false, Bool.false_or, Bool.true_or, Bool.or_true, or_true, true_or, bx_uu, implies_true, true_implies, not_true, not_false_eq_true, false_implies, and_self, Nat.reduceLT, Int32.reduceAdd, Int32.reduceSub, Int32.reduceMul, Int32.reduceLE, Int32.reduceLT, Int32.reduceToNatClampNeg, va_rf_some, Bool.false_eq_true, k_X7_stripOf_0 ca, k_X7_stripOf_1 ca, k_X7_stripOf_4 ca, k_X7_stripOf_7 ca, k_X7_stripOf_9 ca, k_X7_stripOf_10 ca, k_X7_stripOf_11 ca, k_X7_stripOf_14 ca, k_X7_stripOf_17 ca, k_X7_stripOf_18 ca, k_X7_stripOf_19 ca, k_X7_stripOf_20 ca, k_X7_stripOf_21 ca, k_X7_stripOf_84 ca, k_X7_stripOf_85 ca, k_X7_stripOf_88 ca, k_X7_stripOf_89 ca, k_X7_stripOf_90 ca, k_X7_stripOf_93 ca, k_X7_stripOf_94 ca, k_X7_stripOf_95 ca, k_X7_stripOf_96 ca, k_X7_stripOf_99 ca, k_X7_stripOf_102 ca, k_X7_stripOf_105 ca, k_X7_stripOf_106 ca, k_X7_stripOf_107 ca, k_X7_stripOf_110 ca, k_X7_stripOf_111 ca, k_X7_stripOf_114 ca, k_X7_stripOf_115 ca, k_X7_stripOf_116 ca, k_X7_stripOf_119 ca, k_X7_stripOf_120 ca, k_X7_stripOf_121 ca, k_X7_stripOf_124 ca, k_X7_stripOf_125 ca, k_X7_stripOf_126 ca, k_X7_stripOf_129 ca, k_X7_stripOf_130 ca, k_X7_stripOf_131 ca, k_X7_stripOf_134 ca, k_X7_stripOf_137 ca, k_X7_stripOf_138 ca, k_X7_stripOf_139 ca, k_X7_stripOf_142 ca, k_X7_stripOf_143 ca, k_X7_stripOf_144 ca, k_X7_stripOf_147 ca, k_X7_stripOf_148 ca, k_X7_stripOf_149 ca, k_X7_stripOf_152 ca, k_X7_stripOf_153 ca, k_X7_stripOf_154 ca, k_X7_stripOf_157 ca, k_X7_stripOf_160 ca, k_X7_stripOf_161 ca, k_X7_stripOf_163 ca, z7, l1, sp_X5_wholeLength, hN0, hN8]
        try clear hF hF0 F
        rw [sumF_cong (g := fun i => s (10 + 32 * X + (8 + 3 * i))) (fun i hi => l2 i (by omega))]
        exact hs
      · rw [show nI 2 = (2 : Int32) from rfl] at *
        unfold sOf at hs
        rw [if_neg (by decide), if_neg (by decide), if_pos rfl] at hs
        refine goN go (stp []) 160 _ _ _ _ _ _ (fun F hF hF0 => ?_)
        simp only [hF, hF0, ite_not, i_push, i_iload, i_lload, i_aload, i_istore, i_astore, i_lstore, i_iinc, i_bin, i_dv, i_un, i_lbin, i_lsh, i_i2l, i_l2i, i_lcmp, i_dup, i_dup2, i_pop, i_if, i_icmp, i_goto, swG, i_sw, i_getf, i_puti, i_putz, i_putr, i_ald, i_lald, i_aald, i_ast, i_last, i_aast, i_alen, i_new, i_newi, i_newl, i_newq, i_oinit, i_ret, i_zret, i_lret, i_vret, catS, tk, rpush, isO, i_m1, i_m2, i_acopy, i_callV, i_callS, KRet, lget, lput, lputL, lcl0, isL, lv0, List.map_cons, List.map_nil, List.length_cons, List.length_nil, List.cons_append, List.nil_append, Nat.reduceAdd, Nat.reduceSub, Nat.reduceLeDiff, List.replicate_succ, List.replicate_zero, List.getElem?_cons_succ, List.getElem?_cons_zero, List.set_cons_succ, List.set_cons_zero, true_and, and_true, if_true, if_false, ↓reduceIte, Nat.le_refl, Value.category, va_up_app, eq_self, stp, Nat.reduceBEq, Bool.or_false, Bool.false_or, Bool.true_or, Bool.or_true, or_true, true_or, bx_uu, implies_true, true_implies, not_true, not_false_eq_true, false_implies, and_self, Nat.reduceLT, Int32.reduceAdd, Int32.reduceSub, Int32.reduceMul, Int32.reduceLE, Int32.reduceLT, Int32.reduceToNatClampNeg, va_rf_some, Bool.false_eq_true, k_X7_stripOf_0 ca, k_X7_stripOf_1 ca, k_X7_stripOf_4 ca, k_X7_stripOf_7 ca, k_X7_stripOf_9 ca, k_X7_stripOf_10 ca, k_X7_stripOf_11 ca, k_X7_stripOf_14 ca, k_X7_stripOf_17 ca, k_X7_stripOf_18 ca, k_X7_stripOf_19 ca, k_X7_stripOf_20 ca, k_X7_stripOf_21 ca, k_X7_stripOf_84 ca, k_X7_stripOf_85 ca, k_X7_stripOf_88 ca, k_X7_stripOf_89 ca, k_X7_stripOf_90 ca, k_X7_stripOf_93 ca, k_X7_stripOf_94 ca, k_X7_stripOf_95 ca, k_X7_stripOf_96 ca, k_X7_stripOf_99 ca, k_X7_stripOf_102 ca, k_X7_stripOf_105 ca, k_X7_stripOf_106 ca, k_X7_stripOf_107 ca, k_X7_stripOf_110 ca, k_X7_stripOf_111 ca, k_X7_stripOf_114 ca, k_X7_stripOf_115 ca, k_X7_stripOf_116 ca, k_X7_stripOf_119 ca, k_X7_stripOf_120 ca, k_X7_stripOf_121 ca, k_X7_stripOf_124 ca, k_X7_stripOf_125 ca, k_X7_stripOf_126 ca, k_X7_stripOf_129 ca, k_X7_stripOf_130 ca, k_X7_stripOf_131 ca, k_X7_stripOf_134 ca, k_X7_stripOf_137 ca, k_X7_stripOf_138 ca, k_X7_stripOf_139 ca, k_X7_stripOf_142 ca, k_X7_stripOf_143 ca, k_X7_stripOf_144 ca, k_X7_stripOf_147 ca, k_X7_stripOf_148 ca, k_X7_stripOf_149 ca, k_X7_stripOf_152 ca, k_X7_stripOf_153 ca, k_X7_stripOf_154 ca, k_X7_stripOf_157 ca, k_X7_stripOf_160 ca, k_X7_stripOf_161 ca, k_X7_stripOf_163 ca, c0, z0, z1, z7, l1, u1, w1, sp_X5_rate, hN0, hN8, g2]
        try clear hF hF0 F
        exact ⟨g1, hs⟩
      · rw [show nI 3 = (3 : Int32) from rfl] at *
        unfold sOf at hs
        rw [if_neg (by decide), if_neg (by decide), if_neg (by decide), if_pos rfl] at hs
        refine goN go (stp [114]) 160 _ _ _ _ _ _ (fun F hF hF0 => ?_)
        simp only [hF, hF0, ite_not, i_push, i_iload, i_lload, i_aload, i_istore, i_astore, i_lstore, i_iinc, i_bin, i_dv, i_un, i_lbin, i_lsh, i_i2l, i_l2i, i_lcmp, i_dup, i_dup2, i_pop, i_if, i_icmp, i_goto, swG, i_sw, i_getf, i_puti, i_putz, i_putr, i_ald, i_lald, i_aald, i_ast, i_last, i_aast, i_alen, i_new, i_newi, i_newl, i_newq, i_oinit, i_ret, i_zret, i_lret, i_vret, catS, tk, rpush, isO, i_m1, i_m2, i_acopy, i_callV, i_callS, KRet, lget, lput, lputL, lcl0, isL, lv0, List.map_cons, List.map_nil, List.length_cons, List.length_nil, List.cons_append, List.nil_append, Nat.reduceAdd, Nat.reduceSub, Nat.reduceLeDiff, List.replicate_succ, List.replicate_zero, List.getElem?_cons_succ, List.getElem?_cons_zero, List.set_cons_succ, List.set_cons_zero, true_and, and_true, if_true, if_false, ↓reduceIte, Nat.le_refl, Value.category, va_up_app, eq_self, stp, Nat.reduceBEq, Bool.or_false, Bool.false_or, Bool.true_or, Bool.or_true, or_true, true_or, bx_uu, implies_true, true_implies, not_true, not_false_eq_true, false_implies, and_self, Nat.reduceLT, Int32.reduceAdd, Int32.reduceSub, Int32.reduceMul, Int32.reduceLE, Int32.reduceLT, Int32.reduceToNatClampNeg, va_rf_some, Bool.false_eq_true, k_X7_stripOf_0 ca, k_X7_stripOf_1 ca, k_X7_stripOf_4 ca, k_X7_stripOf_7 ca, k_X7_stripOf_9 ca, k_X7_stripOf_10 ca, k_X7_stripOf_11 ca, k_X7_stripOf_14 ca, k_X7_stripOf_17 ca, k_X7_stripOf_18 ca, k_X7_stripOf_19 ca, k_X7_stripOf_20 ca, k_X7_stripOf_21 ca, k_X7_stripOf_84 ca, k_X7_stripOf_85 ca, k_X7_stripOf_88 ca, k_X7_stripOf_89 ca, k_X7_stripOf_90 ca, k_X7_stripOf_93 ca, k_X7_stripOf_94 ca, k_X7_stripOf_95 ca, k_X7_stripOf_96 ca, k_X7_stripOf_99 ca, k_X7_stripOf_102 ca, k_X7_stripOf_105 ca, k_X7_stripOf_106 ca, k_X7_stripOf_107 ca, k_X7_stripOf_110 ca, k_X7_stripOf_111 ca, k_X7_stripOf_114 ca, k_X7_stripOf_115 ca, k_X7_stripOf_116 ca, k_X7_stripOf_119 ca, k_X7_stripOf_120 ca, k_X7_stripOf_121 ca, k_X7_stripOf_124 ca, k_X7_stripOf_125 ca, k_X7_stripOf_126 ca, k_X7_stripOf_129 ca, k_X7_stripOf_130 ca, k_X7_stripOf_131 ca, k_X7_stripOf_134 ca, k_X7_stripOf_137 ca, k_X7_stripOf_138 ca, k_X7_stripOf_139 ca, k_X7_stripOf_142 ca, k_X7_stripOf_143 ca, k_X7_stripOf_144 ca, k_X7_stripOf_147 ca, k_X7_stripOf_148 ca, k_X7_stripOf_149 ca, k_X7_stripOf_152 ca, k_X7_stripOf_153 ca, k_X7_stripOf_154 ca, k_X7_stripOf_157 ca, k_X7_stripOf_160 ca, k_X7_stripOf_161 ca, k_X7_stripOf_163 ca, c0, z0]
        try clear hF hF0 F
        refine ⟨b, s, X, by omega, rfl, hS, hW, ?_⟩
        refine goN go (stp []) 160 _ _ _ _ _ _ (fun F hF hF0 => ?_)
        simp only [hF, hF0, ite_not, i_push, i_iload, i_lload, i_aload, i_istore, i_astore, i_lstore, i_iinc, i_bin, i_dv, i_un, i_lbin, i_lsh, i_i2l, i_l2i, i_lcmp, i_dup, i_dup2, i_pop, i_if, i_icmp, i_goto, swG, i_sw, i_getf, i_puti, i_putz, i_putr, i_ald, i_lald, i_aald, i_ast, i_last, i_aast, i_alen, i_new, i_newi, i_newl, i_newq, i_oinit, i_ret, i_zret, i_lret, i_vret, catS, tk, rpush, isO, i_m1, i_m2, i_acopy, i_callV, i_callS, KRet, lget, lput, lputL, lcl0, isL, lv0, List.map_cons, List.map_nil, List.length_cons, List.length_nil, List.cons_append, List.nil_append, Nat.reduceAdd, Nat.reduceSub, Nat.reduceLeDiff, List.replicate_succ, List.replicate_zero, List.getElem?_cons_succ, List.getElem?_cons_zero, List.set_cons_succ, List.set_cons_zero, true_and, and_true, if_true, if_false, ↓reduceIte, Nat.le_refl, Value.category, va_up_app, eq_self, stp, Nat.reduceBEq, Bool.or_false, Bool.false_or, Bool.true_or, Bool.or_true, or_true, true_or, bx_uu, implies_true, true_implies, not_true, not_false_eq_true, false_implies, and_self, Nat.reduceLT, Int32.reduceAdd, Int32.reduceSub, Int32.reduceMul, Int32.reduceLE, Int32.reduceLT, Int32.reduceToNatClampNeg, va_rf_some, Bool.false_eq_true, k_X7_stripOf_0 ca, k_X7_stripOf_1 ca, k_X7_stripOf_4 ca, k_X7_stripOf_7 ca, k_X7_stripOf_9 ca, k_X7_stripOf_10 ca, k_X7_stripOf_11 ca, k_X7_stripOf_14 ca, k_X7_stripOf_17 ca, k_X7_stripOf_18 ca, k_X7_stripOf_19 ca, k_X7_stripOf_20 ca, k_X7_stripOf_21 ca, k_X7_stripOf_84 ca, k_X7_stripOf_85 ca, k_X7_stripOf_88 ca, k_X7_stripOf_89 ca, k_X7_stripOf_90 ca, k_X7_stripOf_93 ca, k_X7_stripOf_94 ca, k_X7_stripOf_95 ca, k_X7_stripOf_96 ca, k_X7_stripOf_99 ca, k_X7_stripOf_102 ca, k_X7_stripOf_105 ca, k_X7_stripOf_106 ca, k_X7_stripOf_107 ca, k_X7_stripOf_110 ca, k_X7_stripOf_111 ca, k_X7_stripOf_114 ca, k_X7_stripOf_115 ca, k_X7_stripOf_116 ca, k_X7_stripOf_119 ca, k_X7_stripOf_120 ca, k_X7_stripOf_121 ca, k_X7_stripOf_124 ca, k_X7_stripOf_125 ca, k_X7_stripOf_126 ca, k_X7_stripOf_129 ca, k_X7_stripOf_130 ca, k_X7_stripOf_131 ca, k_X7_stripOf_134 ca, k_X7_stripOf_137 ca, k_X7_stripOf_138 ca, k_X7_stripOf_139 ca, k_X7_stripOf_142 ca, k_X7_stripOf_143 ca, k_X7_stripOf_144 ca, k_X7_stripOf_147 ca, k_X7_stripOf_148 ca, k_X7_stripOf_149 ca, k_X7_stripOf_152 ca, k_X7_stripOf_153 ca, k_X7_stripOf_154 ca, k_X7_stripOf_157 ca, k_X7_stripOf_160 ca, k_X7_stripOf_161 ca, k_X7_stripOf_163 ca]
        try clear hF hF0 F
        exact hs
      · rw [show nI 4 = (4 : Int32) from rfl] at *
        unfold sOf at hs
        rw [if_neg (by decide), if_neg (by decide), if_neg (by decide), if_neg (by decide), if_neg (by decide), show 10 + 32 * X + (4 : Int32).toNatClampNeg - 3 = 10 + 32 * X + 1 from rfl] at hs
        refine goN go (stp []) 160 _ _ _ _ _ _ (fun F hF hF0 => ?_)
        simp only [hF, hF0, ite_not, i_push, i_iload, i_lload, i_aload, i_istore, i_astore, i_lstore, i_iinc, i_bin, i_dv, i_un, i_lbin, i_lsh, i_i2l, i_l2i, i_lcmp, i_dup, i_dup2, i_pop, i_if, i_icmp, i_goto, swG, i_sw, i_getf, i_puti, i_putz, i_putr, i_ald, i_lald, i_aald, i_ast, i_last, i_aast, i_alen, i_new, i_newi, i_newl, i_newq, i_oinit, i_ret, i_zret, i_lret, i_vret, catS, tk, rpush, isO, i_m1, i_m2, i_acopy, i_callV, i_callS, KRet, lget, lput, lputL, lcl0, isL, lv0, List.map_cons, List.map_nil, List.length_cons, List.length_nil, List.cons_append, List.nil_append, Nat.reduceAdd, Nat.reduceSub, Nat.reduceLeDiff, List.replicate_succ, List.replicate_zero, List.getElem?_cons_succ, List.getElem?_cons_zero, List.set_cons_succ, List.set_cons_zero, true_and, and_true, if_true, if_false, ↓reduceIte, Nat.le_refl, Value.category, va_up_app, eq_self, stp, Nat.reduceBEq, Bool.or_false, Bool.false_or, Bool.true_or, Bool.or_true, or_true, true_or, bx_uu, implies_true, true_implies, not_true, not_false_eq_true, false_implies, and_self, Nat.reduceLT, Int32.reduceAdd, Int32.reduceSub, Int32.reduceMul, Int32.reduceLE, Int32.reduceLT, Int32.reduceToNatClampNeg, va_rf_some, Bool.false_eq_true, k_X7_stripOf_0 ca, k_X7_stripOf_1 ca, k_X7_stripOf_4 ca, k_X7_stripOf_7 ca, k_X7_stripOf_9 ca, k_X7_stripOf_10 ca, k_X7_stripOf_11 ca, k_X7_stripOf_14 ca, k_X7_stripOf_17 ca, k_X7_stripOf_18 ca, k_X7_stripOf_19 ca, k_X7_stripOf_20 ca, k_X7_stripOf_21 ca, k_X7_stripOf_84 ca, k_X7_stripOf_85 ca, k_X7_stripOf_88 ca, k_X7_stripOf_89 ca, k_X7_stripOf_90 ca, k_X7_stripOf_93 ca, k_X7_stripOf_94 ca, k_X7_stripOf_95 ca, k_X7_stripOf_96 ca, k_X7_stripOf_99 ca, k_X7_stripOf_102 ca, k_X7_stripOf_105 ca, k_X7_stripOf_106 ca, k_X7_stripOf_107 ca, k_X7_stripOf_110 ca, k_X7_stripOf_111 ca, k_X7_stripOf_114 ca, k_X7_stripOf_115 ca, k_X7_stripOf_116 ca, k_X7_stripOf_119 ca, k_X7_stripOf_120 ca, k_X7_stripOf_121 ca, k_X7_stripOf_124 ca, k_X7_stripOf_125 ca, k_X7_stripOf_126 ca, k_X7_stripOf_129 ca, k_X7_stripOf_130 ca, k_X7_stripOf_131 ca, k_X7_stripOf_134 ca, k_X7_stripOf_137 ca, k_X7_stripOf_138 ca, k_X7_stripOf_139 ca, k_X7_stripOf_142 ca, k_X7_stripOf_143 ca, k_X7_stripOf_144 ca, k_X7_stripOf_147 ca, k_X7_stripOf_148 ca, k_X7_stripOf_149 ca, k_X7_stripOf_152 ca, k_X7_stripOf_153 ca, k_X7_stripOf_154 ca, k_X7_stripOf_157 ca, k_X7_stripOf_160 ca, k_X7_stripOf_161 ca, k_X7_stripOf_163 ca, z7]
        try clear hF hF0 F
        exact hs
      · rw [show nI 5 = (5 : Int32) from rfl] at *
        unfold sOf at hs
        rw [if_neg (by decide), if_neg (by decide), if_neg (by decide), if_neg (by decide), if_neg (by decide), show 10 + 32 * X + (5 : Int32).toNatClampNeg - 3 = 10 + 32 * X + 2 from rfl] at hs
        refine goN go (stp []) 160 _ _ _ _ _ _ (fun F hF hF0 => ?_)
        simp only [hF, hF0, ite_not, i_push, i_iload, i_lload, i_aload, i_istore, i_astore, i_lstore, i_iinc, i_bin, i_dv, i_un, i_lbin, i_lsh, i_i2l, i_l2i, i_lcmp, i_dup, i_dup2, i_pop, i_if, i_icmp, i_goto, swG, i_sw, i_getf, i_puti, i_putz, i_putr, i_ald, i_lald, i_aald, i_ast, i_last, i_aast, i_alen, i_new, i_newi, i_newl, i_newq, i_oinit, i_ret, i_zret, i_lret, i_vret, catS, tk, rpush, isO, i_m1, i_m2, i_acopy, i_callV, i_callS, KRet, lget, lput, lputL, lcl0, isL, lv0, List.map_cons, List.map_nil, List.length_cons, List.length_nil, List.cons_append, List.nil_append, Nat.reduceAdd, Nat.reduceSub, Nat.reduceLeDiff, List.replicate_succ, List.replicate_zero, List.getElem?_cons_succ, List.getElem?_cons_zero, List.set_cons_succ, List.set_cons_zero, true_and, and_true, if_true, if_false, ↓reduceIte, Nat.le_refl, Value.category, va_up_app, eq_self, stp, Nat.reduceBEq, Bool.or_false, Bool.false_or, Bool.true_or, Bool.or_true, or_true, true_or, bx_uu, implies_true, true_implies, not_true, not_false_eq_true, false_implies, and_self, Nat.reduceLT, Int32.reduceAdd, Int32.reduceSub, Int32.reduceMul, Int32.reduceLE, Int32.reduceLT, Int32.reduceToNatClampNeg, va_rf_some, Bool.false_eq_true, k_X7_stripOf_0 ca, k_X7_stripOf_1 ca, k_X7_stripOf_4 ca, k_X7_stripOf_7 ca, k_X7_stripOf_9 ca, k_X7_stripOf_10 ca, k_X7_stripOf_11 ca, k_X7_stripOf_14 ca, k_X7_stripOf_17 ca, k_X7_stripOf_18 ca, k_X7_stripOf_19 ca, k_X7_stripOf_20 ca, k_X7_stripOf_21 ca, k_X7_stripOf_84 ca, k_X7_stripOf_85 ca, k_X7_stripOf_88 ca, k_X7_stripOf_89 ca, k_X7_stripOf_90 ca, k_X7_stripOf_93 ca, k_X7_stripOf_94 ca, k_X7_stripOf_95 ca, k_X7_stripOf_96 ca, k_X7_stripOf_99 ca, k_X7_stripOf_102 ca, k_X7_stripOf_105 ca, k_X7_stripOf_106 ca, k_X7_stripOf_107 ca, k_X7_stripOf_110 ca, k_X7_stripOf_111 ca, k_X7_stripOf_114 ca, k_X7_stripOf_115 ca, k_X7_stripOf_116 ca, k_X7_stripOf_119 ca, k_X7_stripOf_120 ca, k_X7_stripOf_121 ca, k_X7_stripOf_124 ca, k_X7_stripOf_125 ca, k_X7_stripOf_126 ca, k_X7_stripOf_129 ca, k_X7_stripOf_130 ca, k_X7_stripOf_131 ca, k_X7_stripOf_134 ca, k_X7_stripOf_137 ca, k_X7_stripOf_138 ca, k_X7_stripOf_139 ca, k_X7_stripOf_142 ca, k_X7_stripOf_143 ca, k_X7_stripOf_144 ca, k_X7_stripOf_147 ca, k_X7_stripOf_148 ca, k_X7_stripOf_149 ca, k_X7_stripOf_152 ca, k_X7_stripOf_153 ca, k_X7_stripOf_154 ca, k_X7_stripOf_157 ca, k_X7_stripOf_160 ca, k_X7_stripOf_161 ca, k_X7_stripOf_163 ca, z7]
        try clear hF hF0 F
        exact hs
      · rw [show nI 6 = (6 : Int32) from rfl] at *
        unfold sOf at hs
        rw [if_neg (by decide), if_neg (by decide), if_neg (by decide), if_neg (by decide), if_neg (by decide), show 10 + 32 * X + (6 : Int32).toNatClampNeg - 3 = 10 + 32 * X + 3 from rfl] at hs
        refine goN go (stp []) 160 _ _ _ _ _ _ (fun F hF hF0 => ?_)
        simp only [hF, hF0, ite_not, i_push, i_iload, i_lload, i_aload, i_istore, i_astore, i_lstore, i_iinc, i_bin, i_dv, i_un, i_lbin, i_lsh, i_i2l, i_l2i, i_lcmp, i_dup, i_dup2, i_pop, i_if, i_icmp, i_goto, swG, i_sw, i_getf, i_puti, i_putz, i_putr, i_ald, i_lald, i_aald, i_ast, i_last, i_aast, i_alen, i_new, i_newi, i_newl, i_newq, i_oinit, i_ret, i_zret, i_lret, i_vret, catS, tk, rpush, isO, i_m1, i_m2, i_acopy, i_callV, i_callS, KRet, lget, lput, lputL, lcl0, isL, lv0, List.map_cons, List.map_nil, List.length_cons, List.length_nil, List.cons_append, List.nil_append, Nat.reduceAdd, Nat.reduceSub, Nat.reduceLeDiff, List.replicate_succ, List.replicate_zero, List.getElem?_cons_succ, List.getElem?_cons_zero, List.set_cons_succ, List.set_cons_zero, true_and, and_true, if_true, if_false, ↓reduceIte, Nat.le_refl, Value.category, va_up_app, eq_self, stp, Nat.reduceBEq, Bool.or_false, Bool.false_or, Bool.true_or, Bool.or_true, or_true, true_or, bx_uu, implies_true, true_implies, not_true, not_false_eq_true, false_implies, and_self, Nat.reduceLT, Int32.reduceAdd, Int32.reduceSub, Int32.reduceMul, Int32.reduceLE, Int32.reduceLT, Int32.reduceToNatClampNeg, va_rf_some, Bool.false_eq_true, k_X7_stripOf_0 ca, k_X7_stripOf_1 ca, k_X7_stripOf_4 ca, k_X7_stripOf_7 ca, k_X7_stripOf_9 ca, k_X7_stripOf_10 ca, k_X7_stripOf_11 ca, k_X7_stripOf_14 ca, k_X7_stripOf_17 ca, k_X7_stripOf_18 ca, k_X7_stripOf_19 ca, k_X7_stripOf_20 ca, k_X7_stripOf_21 ca, k_X7_stripOf_84 ca, k_X7_stripOf_85 ca, k_X7_stripOf_88 ca, k_X7_stripOf_89 ca, k_X7_stripOf_90 ca, k_X7_stripOf_93 ca, k_X7_stripOf_94 ca, k_X7_stripOf_95 ca, k_X7_stripOf_96 ca, k_X7_stripOf_99 ca, k_X7_stripOf_102 ca, k_X7_stripOf_105 ca, k_X7_stripOf_106 ca, k_X7_stripOf_107 ca, k_X7_stripOf_110 ca, k_X7_stripOf_111 ca, k_X7_stripOf_114 ca, k_X7_stripOf_115 ca, k_X7_stripOf_116 ca, k_X7_stripOf_119 ca, k_X7_stripOf_120 ca, k_X7_stripOf_121 ca, k_X7_stripOf_124 ca, k_X7_stripOf_125 ca, k_X7_stripOf_126 ca, k_X7_stripOf_129 ca, k_X7_stripOf_130 ca, k_X7_stripOf_131 ca, k_X7_stripOf_134 ca, k_X7_stripOf_137 ca, k_X7_stripOf_138 ca, k_X7_stripOf_139 ca, k_X7_stripOf_142 ca, k_X7_stripOf_143 ca, k_X7_stripOf_144 ca, k_X7_stripOf_147 ca, k_X7_stripOf_148 ca, k_X7_stripOf_149 ca, k_X7_stripOf_152 ca, k_X7_stripOf_153 ca, k_X7_stripOf_154 ca, k_X7_stripOf_157 ca, k_X7_stripOf_160 ca, k_X7_stripOf_161 ca, k_X7_stripOf_163 ca, z7]
        try clear hF hF0 F
        exact hs
      · rw [show nI 7 = (7 : Int32) from rfl] at *
        unfold sOf at hs
        rw [if_neg (by decide), if_neg (by decide), if_neg (by decide), if_neg (by decide), if_neg (by decide), show 10 + 32 * X + (7 : Int32).toNatClampNeg - 3 = 10 + 32 * X + 4 from rfl, ← oc] at hs
        refine goN go (stp []) 160 _ _ _ _ _ _ (fun F hF hF0 => ?_)
        simp only [hF, hF0, ite_not, i_push, i_iload, i_lload, i_aload, i_istore, i_astore, i_lstore, i_iinc, i_bin, i_dv, i_un, i_lbin, i_lsh, i_i2l, i_l2i, i_lcmp, i_dup, i_dup2, i_pop, i_if, i_icmp, i_goto, swG, i_sw, i_getf, i_puti, i_putz, i_putr, i_ald, i_lald, i_aald, i_ast, i_last, i_aast, i_alen, i_new, i_newi, i_newl, i_newq, i_oinit, i_ret, i_zret, i_lret, i_vret, catS, tk, rpush, isO, i_m1, i_m2, i_acopy, i_callV, i_callS, KRet, lget, lput, lputL, lcl0, isL, lv0, List.map_cons, List.map_nil, List.length_cons, List.length_nil, List.cons_append, List.nil_append, Nat.reduceAdd, Nat.reduceSub, Nat.reduceLeDiff, List.replicate_succ, List.replicate_zero, List.getElem?_cons_succ, List.getElem?_cons_zero, List.set_cons_succ, List.set_cons_zero, true_and, and_true, if_true, if_false, ↓reduceIte, Nat.le_refl, Value.category, va_up_app, eq_self, stp, Nat.reduceBEq, Bool.or_false, Bool.false_or, Bool.true_or, Bool.or_true, or_true, true_or, bx_uu, implies_true, true_implies, not_true, not_false_eq_true, false_implies, and_self, Nat.reduceLT, Int32.reduceAdd, Int32.reduceSub, Int32.reduceMul, Int32.reduceLE, Int32.reduceLT, Int32.reduceToNatClampNeg, va_rf_some, Bool.false_eq_true, k_X7_stripOf_0 ca, k_X7_stripOf_1 ca, k_X7_stripOf_4 ca, k_X7_stripOf_7 ca, k_X7_stripOf_9 ca, k_X7_stripOf_10 ca, k_X7_stripOf_11 ca, k_X7_stripOf_14 ca, k_X7_stripOf_17 ca, k_X7_stripOf_18 ca, k_X7_stripOf_19 ca, k_X7_stripOf_20 ca, k_X7_stripOf_21 ca, k_X7_stripOf_84 ca, k_X7_stripOf_85 ca, k_X7_stripOf_88 ca, k_X7_stripOf_89 ca, k_X7_stripOf_90 ca, k_X7_stripOf_93 ca, k_X7_stripOf_94 ca, k_X7_stripOf_95 ca, k_X7_stripOf_96 ca, k_X7_stripOf_99 ca, k_X7_stripOf_102 ca, k_X7_stripOf_105 ca, k_X7_stripOf_106 ca, k_X7_stripOf_107 ca, k_X7_stripOf_110 ca, k_X7_stripOf_111 ca, k_X7_stripOf_114 ca, k_X7_stripOf_115 ca, k_X7_stripOf_116 ca, k_X7_stripOf_119 ca, k_X7_stripOf_120 ca, k_X7_stripOf_121 ca, k_X7_stripOf_124 ca, k_X7_stripOf_125 ca, k_X7_stripOf_126 ca, k_X7_stripOf_129 ca, k_X7_stripOf_130 ca, k_X7_stripOf_131 ca, k_X7_stripOf_134 ca, k_X7_stripOf_137 ca, k_X7_stripOf_138 ca, k_X7_stripOf_139 ca, k_X7_stripOf_142 ca, k_X7_stripOf_143 ca, k_X7_stripOf_144 ca, k_X7_stripOf_147 ca, k_X7_stripOf_148 ca, k_X7_stripOf_149 ca, k_X7_stripOf_152 ca, k_X7_stripOf_153 ca, k_X7_stripOf_154 ca, k_X7_stripOf_157 ca, k_X7_stripOf_160 ca, k_X7_stripOf_161 ca, k_X7_stripOf_163 ca, z7, hc, sp_X7_oneIf]
        try clear hF hF0 F
        exact hs
      · rw [show nI 8 = (8 : Int32) from rfl] at *
        unfold sOf at hs
        rw [if_neg (by decide), if_neg (by decide), if_neg (by decide), if_neg (by decide), if_neg (by decide), show 10 + 32 * X + (8 : Int32).toNatClampNeg - 3 = 10 + 32 * X + 5 from rfl] at hs
        refine goN go (stp []) 160 _ _ _ _ _ _ (fun F hF hF0 => ?_)
        simp only [hF, hF0, ite_not, i_push, i_iload, i_lload, i_aload, i_istore, i_astore, i_lstore, i_iinc, i_bin, i_dv, i_un, i_lbin, i_lsh, i_i2l, i_l2i, i_lcmp, i_dup, i_dup2, i_pop, i_if, i_icmp, i_goto, swG, i_sw, i_getf, i_puti, i_putz, i_putr, i_ald, i_lald, i_aald, i_ast, i_last, i_aast, i_alen, i_new, i_newi, i_newl, i_newq, i_oinit, i_ret, i_zret, i_lret, i_vret, catS, tk, rpush, isO, i_m1, i_m2, i_acopy, i_callV, i_callS, KRet, lget, lput, lputL, lcl0, isL, lv0, List.map_cons, List.map_nil, List.length_cons, List.length_nil, List.cons_append, List.nil_append, Nat.reduceAdd, Nat.reduceSub, Nat.reduceLeDiff, List.replicate_succ, List.replicate_zero, List.getElem?_cons_succ, List.getElem?_cons_zero, List.set_cons_succ, List.set_cons_zero, true_and, and_true, if_true, if_false, ↓reduceIte, Nat.le_refl, Value.category, va_up_app, eq_self, stp, Nat.reduceBEq, Bool.or_false, Bool.false_or, Bool.true_or, Bool.or_true, or_true, true_or, bx_uu, implies_true, true_implies, not_true, not_false_eq_true, false_implies, and_self, Nat.reduceLT, Int32.reduceAdd, Int32.reduceSub, Int32.reduceMul, Int32.reduceLE, Int32.reduceLT, Int32.reduceToNatClampNeg, va_rf_some, Bool.false_eq_true, k_X7_stripOf_0 ca, k_X7_stripOf_1 ca, k_X7_stripOf_4 ca, k_X7_stripOf_7 ca, k_X7_stripOf_9 ca, k_X7_stripOf_10 ca, k_X7_stripOf_11 ca, k_X7_stripOf_14 ca, k_X7_stripOf_17 ca, k_X7_stripOf_18 ca, k_X7_stripOf_19 ca, k_X7_stripOf_20 ca, k_X7_stripOf_21 ca, k_X7_stripOf_84 ca, k_X7_stripOf_85 ca, k_X7_stripOf_88 ca, k_X7_stripOf_89 ca, k_X7_stripOf_90 ca, k_X7_stripOf_93 ca, k_X7_stripOf_94 ca, k_X7_stripOf_95 ca, k_X7_stripOf_96 ca, k_X7_stripOf_99 ca, k_X7_stripOf_102 ca, k_X7_stripOf_105 ca, k_X7_stripOf_106 ca, k_X7_stripOf_107 ca, k_X7_stripOf_110 ca, k_X7_stripOf_111 ca, k_X7_stripOf_114 ca, k_X7_stripOf_115 ca, k_X7_stripOf_116 ca, k_X7_stripOf_119 ca, k_X7_stripOf_120 ca, k_X7_stripOf_121 ca, k_X7_stripOf_124 ca, k_X7_stripOf_125 ca, k_X7_stripOf_126 ca, k_X7_stripOf_129 ca, k_X7_stripOf_130 ca, k_X7_stripOf_131 ca, k_X7_stripOf_134 ca, k_X7_stripOf_137 ca, k_X7_stripOf_138 ca, k_X7_stripOf_139 ca, k_X7_stripOf_142 ca, k_X7_stripOf_143 ca, k_X7_stripOf_144 ca, k_X7_stripOf_147 ca, k_X7_stripOf_148 ca, k_X7_stripOf_149 ca, k_X7_stripOf_152 ca, k_X7_stripOf_153 ca, k_X7_stripOf_154 ca, k_X7_stripOf_157 ca, k_X7_stripOf_160 ca, k_X7_stripOf_161 ca, k_X7_stripOf_163 ca, z7]
        try clear hF hF0 F
        exact hs
      · rw [show nI 9 = (9 : Int32) from rfl] at *
        unfold sOf at hs
        rw [if_neg (by decide), if_neg (by decide), if_neg (by decide), if_neg (by decide), if_neg (by decide), show 10 + 32 * X + (9 : Int32).toNatClampNeg - 3 = 10 + 32 * X + 6 from rfl] at hs
        refine goN go (stp []) 160 _ _ _ _ _ _ (fun F hF hF0 => ?_)
        simp only [hF, hF0, ite_not, i_push, i_iload, i_lload, i_aload, i_istore, i_astore, i_lstore, i_iinc, i_bin, i_dv, i_un, i_lbin, i_lsh, i_i2l, i_l2i, i_lcmp, i_dup, i_dup2, i_pop, i_if, i_icmp, i_goto, swG, i_sw, i_getf, i_puti, i_putz, i_putr, i_ald, i_lald, i_aald, i_ast, i_last, i_aast, i_alen, i_new, i_newi, i_newl, i_newq, i_oinit, i_ret, i_zret, i_lret, i_vret, catS, tk, rpush, isO, i_m1, i_m2, i_acopy, i_callV, i_callS, KRet, lget, lput, lputL, lcl0, isL, lv0, List.map_cons, List.map_nil, List.length_cons, List.length_nil, List.cons_append, List.nil_append, Nat.reduceAdd, Nat.reduceSub, Nat.reduceLeDiff, List.replicate_succ, List.replicate_zero, List.getElem?_cons_succ, List.getElem?_cons_zero, List.set_cons_succ, List.set_cons_zero, true_and, and_true, if_true, if_false, ↓reduceIte, Nat.le_refl, Value.category, va_up_app, eq_self, stp, Nat.reduceBEq, Bool.or_false, Bool.false_or, Bool.true_or, Bool.or_true, or_true, true_or, bx_uu, implies_true, true_implies, not_true, not_false_eq_true, false_implies, and_self, Nat.reduceLT, Int32.reduceAdd, Int32.reduceSub, Int32.reduceMul, Int32.reduceLE, Int32.reduceLT, Int32.reduceToNatClampNeg, va_rf_some, Bool.false_eq_true, k_X7_stripOf_0 ca, k_X7_stripOf_1 ca, k_X7_stripOf_4 ca, k_X7_stripOf_7 ca, k_X7_stripOf_9 ca, k_X7_stripOf_10 ca, k_X7_stripOf_11 ca, k_X7_stripOf_14 ca, k_X7_stripOf_17 ca, k_X7_stripOf_18 ca, k_X7_stripOf_19 ca, k_X7_stripOf_20 ca, k_X7_stripOf_21 ca, k_X7_stripOf_84 ca, k_X7_stripOf_85 ca, k_X7_stripOf_88 ca, k_X7_stripOf_89 ca, k_X7_stripOf_90 ca, k_X7_stripOf_93 ca, k_X7_stripOf_94 ca, k_X7_stripOf_95 ca, k_X7_stripOf_96 ca, k_X7_stripOf_99 ca, k_X7_stripOf_102 ca, k_X7_stripOf_105 ca, k_X7_stripOf_106 ca, k_X7_stripOf_107 ca, k_X7_stripOf_110 ca, k_X7_stripOf_111 ca, k_X7_stripOf_114 ca, k_X7_stripOf_115 ca, k_X7_stripOf_116 ca, k_X7_stripOf_119 ca, k_X7_stripOf_120 ca, k_X7_stripOf_121 ca, k_X7_stripOf_124 ca, k_X7_stripOf_125 ca, k_X7_stripOf_126 ca, k_X7_stripOf_129 ca, k_X7_stripOf_130 ca, k_X7_stripOf_131 ca, k_X7_stripOf_134 ca, k_X7_stripOf_137 ca, k_X7_stripOf_138 ca, k_X7_stripOf_139 ca, k_X7_stripOf_142 ca, k_X7_stripOf_143 ca, k_X7_stripOf_144 ca, k_X7_stripOf_147 ca, k_X7_stripOf_148 ca, k_X7_stripOf_149 ca, k_X7_stripOf_152 ca, k_X7_stripOf_153 ca, k_X7_stripOf_154 ca, k_X7_stripOf_157 ca, k_X7_stripOf_160 ca, k_X7_stripOf_161 ca, k_X7_stripOf_163 ca, z7]
        try clear hF hF0 F
        exact hs
      · rw [show nI 10 = (10 : Int32) from rfl] at *
        unfold sOf at hs
        rw [if_neg (by decide), if_neg (by decide), if_neg (by decide), if_neg (by decide), if_neg (by decide), show 10 + 32 * X + (10 : Int32).toNatClampNeg - 3 = 10 + 32 * X + 7 from rfl] at hs
        refine goN go (stp []) 160 _ _ _ _ _ _ (fun F hF hF0 => ?_)
        simp only [hF, hF0, ite_not, i_push, i_iload, i_lload, i_aload, i_istore, i_astore, i_lstore, i_iinc, i_bin, i_dv, i_un, i_lbin, i_lsh, i_i2l, i_l2i, i_lcmp, i_dup, i_dup2, i_pop, i_if, i_icmp, i_goto, swG, i_sw, i_getf, i_puti, i_putz, i_putr, i_ald, i_lald, i_aald, i_ast, i_last, i_aast, i_alen, i_new, i_newi, i_newl, i_newq, i_oinit, i_ret, i_zret, i_lret, i_vret, catS, tk, rpush, isO, i_m1, i_m2, i_acopy, i_callV, i_callS, KRet, lget, lput, lputL, lcl0, isL, lv0, List.map_cons, List.map_nil, List.length_cons, List.length_nil, List.cons_append, List.nil_append, Nat.reduceAdd, Nat.reduceSub, Nat.reduceLeDiff, List.replicate_succ, List.replicate_zero, List.getElem?_cons_succ, List.getElem?_cons_zero, List.set_cons_succ, List.set_cons_zero, true_and, and_true, if_true, if_false, ↓reduceIte, Nat.le_refl, Value.category, va_up_app, eq_self, stp, Nat.reduceBEq, Bool.or_false, Bool.false_or, Bool.true_or, Bool.or_true, or_true, true_or, bx_uu, implies_true, true_implies, not_true, not_false_eq_true, false_implies, and_self, Nat.reduceLT, Int32.reduceAdd, Int32.reduceSub, Int32.reduceMul, Int32.reduceLE, Int32.reduceLT, Int32.reduceToNatClampNeg, va_rf_some, Bool.false_eq_true, k_X7_stripOf_0 ca, k_X7_stripOf_1 ca, k_X7_stripOf_4 ca, k_X7_stripOf_7 ca, k_X7_stripOf_9 ca, k_X7_stripOf_10 ca, k_X7_stripOf_11 ca, k_X7_stripOf_14 ca, k_X7_stripOf_17 ca, k_X7_stripOf_18 ca, k_X7_stripOf_19 ca, k_X7_stripOf_20 ca, k_X7_stripOf_21 ca, k_X7_stripOf_84 ca, k_X7_stripOf_85 ca, k_X7_stripOf_88 ca, k_X7_stripOf_89 ca, k_X7_stripOf_90 ca, k_X7_stripOf_93 ca, k_X7_stripOf_94 ca, k_X7_stripOf_95 ca, k_X7_stripOf_96 ca, k_X7_stripOf_99 ca, k_X7_stripOf_102 ca, k_X7_stripOf_105 ca, k_X7_stripOf_106 ca, k_X7_stripOf_107 ca, k_X7_stripOf_110 ca, k_X7_stripOf_111 ca, k_X7_stripOf_114 ca, k_X7_stripOf_115 ca, k_X7_stripOf_116 ca, k_X7_stripOf_119 ca, k_X7_stripOf_120 ca, k_X7_stripOf_121 ca, k_X7_stripOf_124 ca, k_X7_stripOf_125 ca, k_X7_stripOf_126 ca, k_X7_stripOf_129 ca, k_X7_stripOf_130 ca, k_X7_stripOf_131 ca, k_X7_stripOf_134 ca, k_X7_stripOf_137 ca, k_X7_stripOf_138 ca, k_X7_stripOf_139 ca, k_X7_stripOf_142 ca, k_X7_stripOf_143 ca, k_X7_stripOf_144 ca, k_X7_stripOf_147 ca, k_X7_stripOf_148 ca, k_X7_stripOf_149 ca, k_X7_stripOf_152 ca, k_X7_stripOf_153 ca, k_X7_stripOf_154 ca, k_X7_stripOf_157 ca, k_X7_stripOf_160 ca, k_X7_stripOf_161 ca, k_X7_stripOf_163 ca, z7]
        try clear hF hF0 F
        exact hs
      · rw [show nI 11 = (11 : Int32) from rfl] at *
        unfold sOf at hs
        rw [if_neg (by decide), if_neg (by decide), if_neg (by decide), if_neg (by decide), if_pos rfl] at hs
        have eb : (if b2i (closedF (s (10 + 32 * X + 7)) (s (10 + 32 * X + 4))) = 0 then (0 : Int32) else 1) = b2i (closedF (s (10 + 32 * X + 7)) (s (10 + 32 * X + 4))) := oI_01 (b2i_01 _)
        rw [← eb] at hs
        refine goN go (stp []) 160 _ _ _ _ _ _ (fun F hF hF0 => ?_)
        simp only [hF, hF0, ite_not, i_push, i_iload, i_lload, i_aload, i_istore, i_astore, i_lstore, i_iinc, i_bin, i_dv, i_un, i_lbin, i_lsh, i_i2l, i_l2i, i_lcmp, i_dup, i_dup2, i_pop, i_if, i_icmp, i_goto, swG, i_sw, i_getf, i_puti, i_putz, i_putr, i_ald, i_lald, i_aald, i_ast, i_last, i_aast, i_alen, i_new, i_newi, i_newl, i_newq, i_oinit, i_ret, i_zret, i_lret, i_vret, catS, tk, rpush, isO, i_m1, i_m2, i_acopy, i_callV, i_callS, KRet, lget, lput, lputL, lcl0, isL, lv0, List.map_cons, List.map_nil, List.length_cons, List.length_nil, List.cons_append, List.nil_append, Nat.reduceAdd, Nat.reduceSub, Nat.reduceLeDiff, List.replicate_succ, List.replicate_zero, List.getElem?_cons_succ, List.getElem?_cons_zero, List.set_cons_succ, List.set_cons_zero, true_and, and_true, if_true, if_false, ↓reduceIte, Nat.le_refl, Value.category, va_up_app, eq_self, stp, Nat.reduceBEq, Bool.or_false, Bool.false_or, Bool.true_or, Bool.or_true, or_true, true_or, bx_uu, implies_true, true_implies, not_true, not_false_eq_true, false_implies, and_self, Nat.reduceLT, Int32.reduceAdd, Int32.reduceSub, Int32.reduceMul, Int32.reduceLE, Int32.reduceLT, Int32.reduceToNatClampNeg, va_rf_some, Bool.false_eq_true, k_X7_stripOf_0 ca, k_X7_stripOf_1 ca, k_X7_stripOf_4 ca, k_X7_stripOf_7 ca, k_X7_stripOf_9 ca, k_X7_stripOf_10 ca, k_X7_stripOf_11 ca, k_X7_stripOf_14 ca, k_X7_stripOf_17 ca, k_X7_stripOf_18 ca, k_X7_stripOf_19 ca, k_X7_stripOf_20 ca, k_X7_stripOf_21 ca, k_X7_stripOf_84 ca, k_X7_stripOf_85 ca, k_X7_stripOf_88 ca, k_X7_stripOf_89 ca, k_X7_stripOf_90 ca, k_X7_stripOf_93 ca, k_X7_stripOf_94 ca, k_X7_stripOf_95 ca, k_X7_stripOf_96 ca, k_X7_stripOf_99 ca, k_X7_stripOf_102 ca, k_X7_stripOf_105 ca, k_X7_stripOf_106 ca, k_X7_stripOf_107 ca, k_X7_stripOf_110 ca, k_X7_stripOf_111 ca, k_X7_stripOf_114 ca, k_X7_stripOf_115 ca, k_X7_stripOf_116 ca, k_X7_stripOf_119 ca, k_X7_stripOf_120 ca, k_X7_stripOf_121 ca, k_X7_stripOf_124 ca, k_X7_stripOf_125 ca, k_X7_stripOf_126 ca, k_X7_stripOf_129 ca, k_X7_stripOf_130 ca, k_X7_stripOf_131 ca, k_X7_stripOf_134 ca, k_X7_stripOf_137 ca, k_X7_stripOf_138 ca, k_X7_stripOf_139 ca, k_X7_stripOf_142 ca, k_X7_stripOf_143 ca, k_X7_stripOf_144 ca, k_X7_stripOf_147 ca, k_X7_stripOf_148 ca, k_X7_stripOf_149 ca, k_X7_stripOf_152 ca, k_X7_stripOf_153 ca, k_X7_stripOf_154 ca, k_X7_stripOf_157 ca, k_X7_stripOf_160 ca, k_X7_stripOf_161 ca, k_X7_stripOf_163 ca, z7, sp_X5_isClosed, sp_X7_oneIf, b2i_01]
        try clear hF hF0 F
        exact hs
def sp_X7_partOf (ca : Nat → ClassId) : SPEC := fun av h post => ∃ o b qh qa B x3 x4 x5 lk s oo ss S x i w, av = [.ref o, .int x, .int i, .int w] ∧ CN ca h o b qh qa B x3 x4 x5 lk s oo ss S ∧ WfS s ∧ post (some (.int (aPartOf s x i w))) h
def k_X7_partOf (ca : Nat → ClassId) : Nat → IT := fun pc => lk pc [(0, i_iload 1 1),
  (1, i_callS 1 0 0 0 0 (sp_X7_isRoom ca) 4),
  (4, i_if (fun x => x = 0) 20 7),
  (7, i_iload 2 8),
  (8, i_if (fun x => x < 0) 20 11),
  (11, i_iload 3 12),
  (12, i_push (.int 0) 13),
  (13, i_push (.int 3) 14),
  (14, i_callS 3 0 0 0 0 (sp_X7_isWithin ca) 17),
  (17, i_if (fun x => ¬ x = 0) 23 20),
  (20, i_push (.int (-10000001)) 22),
  (22, i_ret),
  (23, i_aload 0 24),
  (24, i_getf 7 0 27),
  (27, i_getf 4 2 30),
  (30, i_iload 1 31),
  (31, i_aald (ca 6) 32),
  (32, i_astore 4 34),
  (34, i_iload 2 35),
  (35, i_aload 4 37),
  (37, i_getf 5 3 40),
  (40, i_icmp (fun x y => x < y) 46 43),
  (43, i_push (.int (-10000004)) 45),
  (45, i_ret),
  (46, i_iload 3 47),
  (47, i_sw [(0, 72), (1, 80), (2, 88)] 96),
  (72, i_aload 4 74),
  (74, i_getf 5 0 77),
  (77, i_iload 2 78),
  (78, i_ald (ca 0) 79),
  (79, i_ret),
  (80, i_aload 4 82),
  (82, i_getf 5 1 85),
  (85, i_iload 2 86),
  (86, i_ald (ca 0) 87),
  (87, i_ret),
  (88, i_aload 4 90),
  (90, i_getf 5 2 93),
  (93, i_iload 2 94),
  (94, i_ald (ca 0) 95),
  (95, i_ret),
  (96, i_aload 4 98),
  (98, i_iload 2 99),
  (99, i_aload 0 100),
  (100, i_getf 7 0 103),
  (103, i_getf 4 0 106),
  (106, i_callV 5 2 0 0 0 0 (sp_X5_partRate ca) 109),
  (109, i_ret)]
set_option maxRecDepth 20000 in
theorem t_X7_partOf : Tb k_X7_partOf yX7_partOf cX7_partOf 5 (some .int) 2 0 0 := by
  intro l D ca A p e s m args below meth c post X
  unfold k_X7_partOf
  refine snd_cons (snd_iload_n X dX7_partOf_0 rfl) ?_
  refine snd_cons (snd_callS X (ok_X7_isRoom l D ca) rfl rfl w_327 w_328 w_1 w_329 (by decide) (by decide) dX7_partOf_1) ?_
  refine snd_cons (snd_if_eq X dX7_partOf_4 (by decide)) ?_
  refine snd_cons (snd_iload_n X dX7_partOf_7 rfl) ?_
  refine snd_cons (snd_if_lt X dX7_partOf_8 (by decide)) ?_
  refine snd_cons (snd_iload_n X dX7_partOf_11 rfl) ?_
  refine snd_cons (snd_iconst X dX7_partOf_12 (by decide)) ?_
  refine snd_cons (snd_iconst X dX7_partOf_13 (by decide)) ?_
  refine snd_cons (snd_callS X (ok_X7_isWithin l D ca) rfl rfl w_281 w_282 w_1 w_283 (by decide) (by decide) dX7_partOf_14) ?_
  refine snd_cons (snd_if_ne X dX7_partOf_17 (by decide)) ?_
  refine snd_cons (snd_ldc X w_284 dX7_partOf_20) ?_
  refine snd_cons (snd_ret X dX7_partOf_22) ?_
  refine snd_cons (snd_aload_n X dX7_partOf_23 rfl) ?_
  refine snd_cons (snd_getf X Fk7 0 (by decide) w_250 dX7_partOf_24) ?_
  refine snd_cons (snd_getf X Fk4 2 (by decide) w_128 dX7_partOf_27) ?_
  refine snd_cons (snd_iload_n X dX7_partOf_30 rfl) ?_
  refine snd_cons (snd_aaload X 6 rfl dX7_partOf_31) ?_
  refine snd_cons (snd_astore X dX7_partOf_32 (by decide)) ?_
  refine snd_cons (snd_iload_n X dX7_partOf_34 rfl) ?_
  refine snd_cons (snd_aload X dX7_partOf_35) ?_
  refine snd_cons (snd_getf X Fk5 3 (by decide) w_42 dX7_partOf_37) ?_
  refine snd_cons (snd_icmp_lt X dX7_partOf_40 (by decide)) ?_
  refine snd_cons (snd_ldc X w_361 dX7_partOf_43) ?_
  refine snd_cons (snd_ret X dX7_partOf_45) ?_
  refine snd_cons (snd_iload_n X dX7_partOf_46 rfl) ?_
  refine snd_cons (snd_table X dX7_partOf_47 (by decide) (by decide) (by decide)) ?_
  refine snd_cons (snd_aload X dX7_partOf_72) ?_
  refine snd_cons (snd_getf X Fk5 0 (by decide) w_36 dX7_partOf_74) ?_
  refine snd_cons (snd_iload_n X dX7_partOf_77 rfl) ?_
  refine snd_cons (snd_iaload X dX7_partOf_78) ?_
  refine snd_cons (snd_ret X dX7_partOf_79) ?_
  refine snd_cons (snd_aload X dX7_partOf_80) ?_
  refine snd_cons (snd_getf X Fk5 1 (by decide) w_38 dX7_partOf_82) ?_
  refine snd_cons (snd_iload_n X dX7_partOf_85 rfl) ?_
  refine snd_cons (snd_iaload X dX7_partOf_86) ?_
  refine snd_cons (snd_ret X dX7_partOf_87) ?_
  refine snd_cons (snd_aload X dX7_partOf_88) ?_
  refine snd_cons (snd_getf X Fk5 2 (by decide) w_40 dX7_partOf_90) ?_
  refine snd_cons (snd_iload_n X dX7_partOf_93 rfl) ?_
  refine snd_cons (snd_iaload X dX7_partOf_94) ?_
  refine snd_cons (snd_ret X dX7_partOf_95) ?_
  refine snd_cons (snd_aload X dX7_partOf_96) ?_
  refine snd_cons (snd_iload_n X dX7_partOf_98 rfl) ?_
  refine snd_cons (snd_aload_n X dX7_partOf_99 rfl) ?_
  refine snd_cons (snd_getf X Fk7 0 (by decide) w_250 dX7_partOf_100) ?_
  refine snd_cons (snd_getf X Fk4 0 (by decide) w_123 dX7_partOf_103) ?_
  refine snd_cons (snd_callV X Fk5 (ok_X5_partRate l D ca) rfl rfl w_366 w_339 w_340 w_3 w_341 (by decide) (by decide) dX7_partOf_106) ?_
  refine snd_cons (snd_ret X dX7_partOf_109) ?_
  exact snd_nil
theorem k_X7_partOf_0 (ca : Nat → ClassId) : k_X7_partOf ca 0 = i_iload 1 1 := rfl
theorem k_X7_partOf_1 (ca : Nat → ClassId) : k_X7_partOf ca 1 = i_callS 1 0 0 0 0 (sp_X7_isRoom ca) 4 := rfl
theorem k_X7_partOf_4 (ca : Nat → ClassId) : k_X7_partOf ca 4 = i_if (fun x => x = 0) 20 7 := rfl
theorem k_X7_partOf_7 (ca : Nat → ClassId) : k_X7_partOf ca 7 = i_iload 2 8 := rfl
theorem k_X7_partOf_8 (ca : Nat → ClassId) : k_X7_partOf ca 8 = i_if (fun x => x < 0) 20 11 := rfl
theorem k_X7_partOf_11 (ca : Nat → ClassId) : k_X7_partOf ca 11 = i_iload 3 12 := rfl
theorem k_X7_partOf_12 (ca : Nat → ClassId) : k_X7_partOf ca 12 = i_push (.int 0) 13 := rfl
theorem k_X7_partOf_13 (ca : Nat → ClassId) : k_X7_partOf ca 13 = i_push (.int 3) 14 := rfl
theorem k_X7_partOf_14 (ca : Nat → ClassId) : k_X7_partOf ca 14 = i_callS 3 0 0 0 0 (sp_X7_isWithin ca) 17 := rfl
theorem k_X7_partOf_17 (ca : Nat → ClassId) : k_X7_partOf ca 17 = i_if (fun x => ¬ x = 0) 23 20 := rfl
theorem k_X7_partOf_20 (ca : Nat → ClassId) : k_X7_partOf ca 20 = i_push (.int (-10000001)) 22 := rfl
theorem k_X7_partOf_22 (ca : Nat → ClassId) : k_X7_partOf ca 22 = i_ret := rfl
theorem k_X7_partOf_23 (ca : Nat → ClassId) : k_X7_partOf ca 23 = i_aload 0 24 := rfl
theorem k_X7_partOf_24 (ca : Nat → ClassId) : k_X7_partOf ca 24 = i_getf 7 0 27 := rfl
theorem k_X7_partOf_27 (ca : Nat → ClassId) : k_X7_partOf ca 27 = i_getf 4 2 30 := rfl
theorem k_X7_partOf_30 (ca : Nat → ClassId) : k_X7_partOf ca 30 = i_iload 1 31 := rfl
theorem k_X7_partOf_31 (ca : Nat → ClassId) : k_X7_partOf ca 31 = i_aald (ca 6) 32 := rfl
theorem k_X7_partOf_32 (ca : Nat → ClassId) : k_X7_partOf ca 32 = i_astore 4 34 := rfl
theorem k_X7_partOf_34 (ca : Nat → ClassId) : k_X7_partOf ca 34 = i_iload 2 35 := rfl
theorem k_X7_partOf_35 (ca : Nat → ClassId) : k_X7_partOf ca 35 = i_aload 4 37 := rfl
theorem k_X7_partOf_37 (ca : Nat → ClassId) : k_X7_partOf ca 37 = i_getf 5 3 40 := rfl
theorem k_X7_partOf_40 (ca : Nat → ClassId) : k_X7_partOf ca 40 = i_icmp (fun x y => x < y) 46 43 := rfl
theorem k_X7_partOf_43 (ca : Nat → ClassId) : k_X7_partOf ca 43 = i_push (.int (-10000004)) 45 := rfl
theorem k_X7_partOf_45 (ca : Nat → ClassId) : k_X7_partOf ca 45 = i_ret := rfl
theorem k_X7_partOf_46 (ca : Nat → ClassId) : k_X7_partOf ca 46 = i_iload 3 47 := rfl
theorem k_X7_partOf_47 (ca : Nat → ClassId) : k_X7_partOf ca 47 = i_sw [(0, 72), (1, 80), (2, 88)] 96 := rfl
theorem k_X7_partOf_72 (ca : Nat → ClassId) : k_X7_partOf ca 72 = i_aload 4 74 := rfl
theorem k_X7_partOf_74 (ca : Nat → ClassId) : k_X7_partOf ca 74 = i_getf 5 0 77 := rfl
theorem k_X7_partOf_77 (ca : Nat → ClassId) : k_X7_partOf ca 77 = i_iload 2 78 := rfl
theorem k_X7_partOf_78 (ca : Nat → ClassId) : k_X7_partOf ca 78 = i_ald (ca 0) 79 := rfl
theorem k_X7_partOf_79 (ca : Nat → ClassId) : k_X7_partOf ca 79 = i_ret := rfl
theorem k_X7_partOf_80 (ca : Nat → ClassId) : k_X7_partOf ca 80 = i_aload 4 82 := rfl
theorem k_X7_partOf_82 (ca : Nat → ClassId) : k_X7_partOf ca 82 = i_getf 5 1 85 := rfl
theorem k_X7_partOf_85 (ca : Nat → ClassId) : k_X7_partOf ca 85 = i_iload 2 86 := rfl
theorem k_X7_partOf_86 (ca : Nat → ClassId) : k_X7_partOf ca 86 = i_ald (ca 0) 87 := rfl
theorem k_X7_partOf_87 (ca : Nat → ClassId) : k_X7_partOf ca 87 = i_ret := rfl
theorem k_X7_partOf_88 (ca : Nat → ClassId) : k_X7_partOf ca 88 = i_aload 4 90 := rfl
theorem k_X7_partOf_90 (ca : Nat → ClassId) : k_X7_partOf ca 90 = i_getf 5 2 93 := rfl
theorem k_X7_partOf_93 (ca : Nat → ClassId) : k_X7_partOf ca 93 = i_iload 2 94 := rfl
theorem k_X7_partOf_94 (ca : Nat → ClassId) : k_X7_partOf ca 94 = i_ald (ca 0) 95 := rfl
theorem k_X7_partOf_95 (ca : Nat → ClassId) : k_X7_partOf ca 95 = i_ret := rfl
theorem k_X7_partOf_96 (ca : Nat → ClassId) : k_X7_partOf ca 96 = i_aload 4 98 := rfl
theorem k_X7_partOf_98 (ca : Nat → ClassId) : k_X7_partOf ca 98 = i_iload 2 99 := rfl
theorem k_X7_partOf_99 (ca : Nat → ClassId) : k_X7_partOf ca 99 = i_aload 0 100 := rfl
theorem k_X7_partOf_100 (ca : Nat → ClassId) : k_X7_partOf ca 100 = i_getf 7 0 103 := rfl
theorem k_X7_partOf_103 (ca : Nat → ClassId) : k_X7_partOf ca 103 = i_getf 4 0 106 := rfl
theorem k_X7_partOf_106 (ca : Nat → ClassId) : k_X7_partOf ca 106 = i_callV 5 2 0 0 0 0 (sp_X5_partRate ca) 109 := rfl
theorem k_X7_partOf_109 (ca : Nat → ClassId) : k_X7_partOf ca 109 = i_ret := rfl
set_option maxHeartbeats 4000000 in
set_option maxRecDepth 20000 in
theorem ok_X7_partOf (l : Launch) (D : va_G) (ca : Nat → ClassId) : OkAll l D ca yX7_partOf cX7_partOf 5 (some .int) 2 0 0 (sp_X7_partOf ca) := by
  intro av h post hs
  obtain ⟨o, b, qh, qa, B, x3, x4, x5, lk, s, oo, ss, S, x, i, w, rfl, ⟨c0, hS, hH⟩, hW, hs⟩ := hs
  obtain ⟨z0, ⟨f3, z3, y3⟩, ⟨f4, z4, y4⟩, ⟨f1, z1, y1⟩, ⟨f2, z2, y2⟩⟩ := hS.c
  unfold aPartOf at hs
  refine okM_of t_X7_partOf (by decide +kernel) (c1_ref (c1_int (c1_int (c1_int c1_nil)))) (Nat.le_of_ble_eq_true rfl) ?_
  intro K go
  cases q1 : isIn x 0 2 with
  | false =>
    rw [q1, if_neg (by decide)] at hs
    refine goN go (stp []) 160 _ _ _ _ _ _ (fun F hF hF0 => ?_)
    simp only [hF, hF0, ite_not, i_push, i_iload, i_lload, i_aload, i_istore, i_astore, i_lstore, i_iinc, i_bin, i_dv, i_un, i_lbin, i_lsh, i_i2l, i_l2i, i_lcmp, i_dup, i_dup2, i_pop, i_if, i_icmp, i_goto, swG, i_sw, i_getf, i_puti, i_putz, i_putr, i_ald, i_lald, i_aald, i_ast, i_last, i_aast, i_alen, i_new, i_newi, i_newl, i_newq, i_oinit, i_ret, i_zret, i_lret, i_vret, catS, tk, rpush, isO, i_m1, i_m2, i_acopy, i_callV, i_callS, KRet, lget, lput, lputL, lcl0, isL, lv0, List.map_cons, List.map_nil, List.length_cons, List.length_nil, List.cons_append, List.nil_append, Nat.reduceAdd, Nat.reduceSub, Nat.reduceLeDiff, List.replicate_succ, List.replicate_zero, List.getElem?_cons_succ, List.getElem?_cons_zero, List.set_cons_succ, List.set_cons_zero, true_and, and_true, if_true, if_false, ↓reduceIte, Nat.le_refl, Value.category, va_up_app, eq_self, stp, Nat.reduceBEq, Bool.or_false, Bool.false_or, Bool.true_or, Bool.or_true, or_true, true_or, bx_uu, implies_true, true_implies, not_true, not_false_eq_true, false_implies, and_self, Nat.reduceLT, Int32.reduceAdd, Int32.reduceSub, Int32.reduceMul, Int32.reduceLE, Int32.reduceLT, Int32.reduceToNatClampNeg, va_rf_some, Bool.false_eq_true, k_X7_partOf_0 ca, k_X7_partOf_1 ca, k_X7_partOf_4 ca, k_X7_partOf_7 ca, k_X7_partOf_8 ca, k_X7_partOf_11 ca, k_X7_partOf_12 ca, k_X7_partOf_13 ca, k_X7_partOf_14 ca, k_X7_partOf_17 ca, k_X7_partOf_20 ca, k_X7_partOf_22 ca, k_X7_partOf_23 ca, k_X7_partOf_24 ca, k_X7_partOf_27 ca, k_X7_partOf_30 ca, k_X7_partOf_31 ca, k_X7_partOf_32 ca, k_X7_partOf_34 ca, k_X7_partOf_35 ca, k_X7_partOf_37 ca, k_X7_partOf_40 ca, k_X7_partOf_43 ca, k_X7_partOf_45 ca, k_X7_partOf_46 ca, k_X7_partOf_47 ca, k_X7_partOf_72 ca, k_X7_partOf_74 ca, k_X7_partOf_77 ca, k_X7_partOf_78 ca, k_X7_partOf_79 ca, k_X7_partOf_80 ca, k_X7_partOf_82 ca, k_X7_partOf_85 ca, k_X7_partOf_86 ca, k_X7_partOf_87 ca, k_X7_partOf_88 ca, k_X7_partOf_90 ca, k_X7_partOf_93 ca, k_X7_partOf_94 ca, k_X7_partOf_95 ca, k_X7_partOf_96 ca, k_X7_partOf_98 ca, k_X7_partOf_99 ca, k_X7_partOf_100 ca, k_X7_partOf_103 ca, k_X7_partOf_106 ca, k_X7_partOf_109 ca, sp_X7_isRoom, q1, b2i_f]
    try clear hF hF0 F
    exact hs
  | true =>
    rw [q1, if_pos rfl] at hs
    cases q2 : isIn w 0 3 with
    | false =>
      rw [q2, if_neg (by decide)] at hs
      by_cases q3 : i < 0
      · refine goN go (stp []) 160 _ _ _ _ _ _ (fun F hF hF0 => ?_)
        simp only [hF, hF0, ite_not, i_push, i_iload, i_lload, i_aload, i_istore, i_astore, i_lstore, i_iinc, i_bin, i_dv, i_un, i_lbin, i_lsh, i_i2l, i_l2i, i_lcmp, i_dup, i_dup2, i_pop, i_if, i_icmp, i_goto, swG, i_sw, i_getf, i_puti, i_putz, i_putr, i_ald, i_lald, i_aald, i_ast, i_last, i_aast, i_alen, i_new, i_newi, i_newl, i_newq, i_oinit, i_ret, i_zret, i_lret, i_vret, catS, tk, rpush, isO, i_m1, i_m2, i_acopy, i_callV, i_callS, KRet, lget, lput, lputL, lcl0, isL, lv0, List.map_cons, List.map_nil, List.length_cons, List.length_nil, List.cons_append, List.nil_append, Nat.reduceAdd, Nat.reduceSub, Nat.reduceLeDiff, List.replicate_succ, List.replicate_zero, List.getElem?_cons_succ, List.getElem?_cons_zero, List.set_cons_succ, List.set_cons_zero, true_and, and_true, if_true, if_false, ↓reduceIte, Nat.le_refl, Value.category, va_up_app, eq_self, stp, Nat.reduceBEq, Bool.or_false, Bool.false_or, Bool.true_or, Bool.or_true, or_true, true_or, bx_uu, implies_true, true_implies, not_true, not_false_eq_true, false_implies, and_self, Nat.reduceLT, Int32.reduceAdd, Int32.reduceSub, Int32.reduceMul, Int32.reduceLE, Int32.reduceLT, Int32.reduceToNatClampNeg, va_rf_some, Bool.false_eq_true, k_X7_partOf_0 ca, k_X7_partOf_1 ca, k_X7_partOf_4 ca, k_X7_partOf_7 ca, k_X7_partOf_8 ca, k_X7_partOf_11 ca, k_X7_partOf_12 ca, k_X7_partOf_13 ca, k_X7_partOf_14 ca, k_X7_partOf_17 ca, k_X7_partOf_20 ca, k_X7_partOf_22 ca, k_X7_partOf_23 ca, k_X7_partOf_24 ca, k_X7_partOf_27 ca, k_X7_partOf_30 ca, k_X7_partOf_31 ca, k_X7_partOf_32 ca, k_X7_partOf_34 ca, k_X7_partOf_35 ca, k_X7_partOf_37 ca, k_X7_partOf_40 ca, k_X7_partOf_43 ca, k_X7_partOf_45 ca, k_X7_partOf_46 ca, k_X7_partOf_47 ca, k_X7_partOf_72 ca, k_X7_partOf_74 ca, k_X7_partOf_77 ca, k_X7_partOf_78 ca, k_X7_partOf_79 ca, k_X7_partOf_80 ca, k_X7_partOf_82 ca, k_X7_partOf_85 ca, k_X7_partOf_86 ca, k_X7_partOf_87 ca, k_X7_partOf_88 ca, k_X7_partOf_90 ca, k_X7_partOf_93 ca, k_X7_partOf_94 ca, k_X7_partOf_95 ca, k_X7_partOf_96 ca, k_X7_partOf_98 ca, k_X7_partOf_99 ca, k_X7_partOf_100 ca, k_X7_partOf_103 ca, k_X7_partOf_106 ca, k_X7_partOf_109 ca, sp_X7_isRoom, q1, b2i_t, one0, q3]
        try clear hF hF0 F
        exact hs
      · refine goN go (stp []) 160 _ _ _ _ _ _ (fun F hF hF0 => ?_)
        simp only [hF, hF0, ite_not, i_push, i_iload, i_lload, i_aload, i_istore, i_astore, i_lstore, i_iinc, i_bin, i_dv, i_un, i_lbin, i_lsh, i_i2l, i_l2i, i_lcmp, i_dup, i_dup2, i_pop, i_if, i_icmp, i_goto, swG, i_sw, i_getf, i_puti, i_putz, i_putr, i_ald, i_lald, i_aald, i_ast, i_last, i_aast, i_alen, i_new, i_newi, i_newl, i_newq, i_oinit, i_ret, i_zret, i_lret, i_vret, catS, tk, rpush, isO, i_m1, i_m2, i_acopy, i_callV, i_callS, KRet, lget, lput, lputL, lcl0, isL, lv0, List.map_cons, List.map_nil, List.length_cons, List.length_nil, List.cons_append, List.nil_append, Nat.reduceAdd, Nat.reduceSub, Nat.reduceLeDiff, List.replicate_succ, List.replicate_zero, List.getElem?_cons_succ, List.getElem?_cons_zero, List.set_cons_succ, List.set_cons_zero, true_and, and_true, if_true, if_false, ↓reduceIte, Nat.le_refl, Value.category, va_up_app, eq_self, stp, Nat.reduceBEq, Bool.or_false, Bool.false_or, Bool.true_or, Bool.or_true, or_true, true_or, bx_uu, implies_true, true_implies, not_true, not_false_eq_true, false_implies, and_self, Nat.reduceLT, Int32.reduceAdd, Int32.reduceSub, Int32.reduceMul, Int32.reduceLE, Int32.reduceLT, Int32.reduceToNatClampNeg, va_rf_some, Bool.false_eq_true, k_X7_partOf_0 ca, k_X7_partOf_1 ca, k_X7_partOf_4 ca, k_X7_partOf_7 ca, k_X7_partOf_8 ca, k_X7_partOf_11 ca, k_X7_partOf_12 ca, k_X7_partOf_13 ca, k_X7_partOf_14 ca, k_X7_partOf_17 ca, k_X7_partOf_20 ca, k_X7_partOf_22 ca, k_X7_partOf_23 ca, k_X7_partOf_24 ca, k_X7_partOf_27 ca, k_X7_partOf_30 ca, k_X7_partOf_31 ca, k_X7_partOf_32 ca, k_X7_partOf_34 ca, k_X7_partOf_35 ca, k_X7_partOf_37 ca, k_X7_partOf_40 ca, k_X7_partOf_43 ca, k_X7_partOf_45 ca, k_X7_partOf_46 ca, k_X7_partOf_47 ca, k_X7_partOf_72 ca, k_X7_partOf_74 ca, k_X7_partOf_77 ca, k_X7_partOf_78 ca, k_X7_partOf_79 ca, k_X7_partOf_80 ca, k_X7_partOf_82 ca, k_X7_partOf_85 ca, k_X7_partOf_86 ca, k_X7_partOf_87 ca, k_X7_partOf_88 ca, k_X7_partOf_90 ca, k_X7_partOf_93 ca, k_X7_partOf_94 ca, k_X7_partOf_95 ca, k_X7_partOf_96 ca, k_X7_partOf_98 ca, k_X7_partOf_99 ca, k_X7_partOf_100 ca, k_X7_partOf_103 ca, k_X7_partOf_106 ca, k_X7_partOf_109 ca, sp_X7_isRoom, sp_X7_isWithin, q1, q2, b2i_t, b2i_f, one0, q3]
        try clear hF hF0 F
        exact hs
    | true =>
      rw [q2, if_pos rfl] at hs
      by_cases q3 : i < 0
      · rw [if_pos q3] at hs
        refine goN go (stp []) 160 _ _ _ _ _ _ (fun F hF hF0 => ?_)
        simp only [hF, hF0, ite_not, i_push, i_iload, i_lload, i_aload, i_istore, i_astore, i_lstore, i_iinc, i_bin, i_dv, i_un, i_lbin, i_lsh, i_i2l, i_l2i, i_lcmp, i_dup, i_dup2, i_pop, i_if, i_icmp, i_goto, swG, i_sw, i_getf, i_puti, i_putz, i_putr, i_ald, i_lald, i_aald, i_ast, i_last, i_aast, i_alen, i_new, i_newi, i_newl, i_newq, i_oinit, i_ret, i_zret, i_lret, i_vret, catS, tk, rpush, isO, i_m1, i_m2, i_acopy, i_callV, i_callS, KRet, lget, lput, lputL, lcl0, isL, lv0, List.map_cons, List.map_nil, List.length_cons, List.length_nil, List.cons_append, List.nil_append, Nat.reduceAdd, Nat.reduceSub, Nat.reduceLeDiff, List.replicate_succ, List.replicate_zero, List.getElem?_cons_succ, List.getElem?_cons_zero, List.set_cons_succ, List.set_cons_zero, true_and, and_true, if_true, if_false, ↓reduceIte, Nat.le_refl, Value.category, va_up_app, eq_self, stp, Nat.reduceBEq, Bool.or_false, Bool.false_or, Bool.true_or, Bool.or_true, or_true, true_or, bx_uu, implies_true, true_implies, not_true, not_false_eq_true, false_implies, and_self, Nat.reduceLT, Int32.reduceAdd, Int32.reduceSub, Int32.reduceMul, Int32.reduceLE, Int32.reduceLT, Int32.reduceToNatClampNeg, va_rf_some, Bool.false_eq_true, k_X7_partOf_0 ca, k_X7_partOf_1 ca, k_X7_partOf_4 ca, k_X7_partOf_7 ca, k_X7_partOf_8 ca, k_X7_partOf_11 ca, k_X7_partOf_12 ca, k_X7_partOf_13 ca, k_X7_partOf_14 ca, k_X7_partOf_17 ca, k_X7_partOf_20 ca, k_X7_partOf_22 ca, k_X7_partOf_23 ca, k_X7_partOf_24 ca, k_X7_partOf_27 ca, k_X7_partOf_30 ca, k_X7_partOf_31 ca, k_X7_partOf_32 ca, k_X7_partOf_34 ca, k_X7_partOf_35 ca, k_X7_partOf_37 ca, k_X7_partOf_40 ca, k_X7_partOf_43 ca, k_X7_partOf_45 ca, k_X7_partOf_46 ca, k_X7_partOf_47 ca, k_X7_partOf_72 ca, k_X7_partOf_74 ca, k_X7_partOf_77 ca, k_X7_partOf_78 ca, k_X7_partOf_79 ca, k_X7_partOf_80 ca, k_X7_partOf_82 ca, k_X7_partOf_85 ca, k_X7_partOf_86 ca, k_X7_partOf_87 ca, k_X7_partOf_88 ca, k_X7_partOf_90 ca, k_X7_partOf_93 ca, k_X7_partOf_94 ca, k_X7_partOf_95 ca, k_X7_partOf_96 ca, k_X7_partOf_98 ca, k_X7_partOf_99 ca, k_X7_partOf_100 ca, k_X7_partOf_103 ca, k_X7_partOf_106 ca, k_X7_partOf_109 ca, sp_X7_isRoom, q1, b2i_t, one0, q3]
        try clear hF hF0 F
        exact hs
      · rw [if_neg q3] at hs
        obtain ⟨X, hX, rfl⟩ := isIn0 (B := 2) rfl q1
        have xx : (nI X).toNatClampNeg = X := tn127 (by omega)
        have vx := vp3 (k := X) (by omega)
        rw [xx] at hs
        have z6 := y3 X (by omega)
        have z7 := hS.st (k := X) (by omega)
        have z8 := y4 X (by omega)
        have z9 := hS.rm (k := X) (by omega)
        obtain ⟨⟨fl, l1, l2⟩, ⟨fu, u1, u2⟩, ⟨fw, w1, w2⟩⟩ := hS.pl (k := X) (by omega)
        have Wk := hW.k (k := X) (by omega)
        obtain ⟨hN0, hN8, hN9⟩ := id Wk
        obtain ⟨g1, g2⟩ := rate_of Wk l2 u2 w2 y1
        obtain ⟨J, hJ, rfl, eJ⟩ := tnI q3
        by_cases q4 : s (10 + 32 * X) ≤ nI J
        · rw [if_pos q4] at hs
          have g4 : (nI J < s (10 + 32 * X)) = False := eq_false (Int32.not_lt.mpr q4)
          refine goN go (stp []) 160 _ _ _ _ _ _ (fun F hF hF0 => ?_)
          simp only [hF, hF0, ite_not, i_push, i_iload, i_lload, i_aload, i_istore, i_astore, i_lstore, i_iinc, i_bin, i_dv, i_un, i_lbin, i_lsh, i_i2l, i_l2i, i_lcmp, i_dup, i_dup2, i_pop, i_if, i_icmp, i_goto, swG, i_sw, i_getf, i_puti, i_putz, i_putr, i_ald, i_lald, i_aald, i_ast, i_last, i_aast, i_alen, i_new, i_newi, i_newl, i_newq, i_oinit, i_ret, i_zret, i_lret, i_vret, catS, tk, rpush, isO, i_m1, i_m2, i_acopy, i_callV, i_callS, KRet, lget, lput, lputL, lcl0, isL, lv0, List.map_cons, List.map_nil, List.length_cons, List.length_nil, List.cons_append, List.nil_append, Nat.reduceAdd, Nat.reduceSub, Nat.reduceLeDiff, List.replicate_succ, List.replicate_zero, List.getElem?_cons_succ, List.getElem?_cons_zero, List.set_cons_succ, List.set_cons_zero, true_and, and_true, if_true, if_false, ↓reduceIte, Nat.le_refl, Value.category, va_up_app, eq_self, stp, Nat.reduceBEq, Bool.or_false, Bool.false_or, Bool.true_or, Bool.or_true, or_true, true_or, bx_uu, implies_true, true_implies, not_true, not_false_eq_true, false_implies, and_self, Nat.reduceLT, Int32.reduceAdd, Int32.reduceSub, Int32.reduceMul, Int32.reduceLE, Int32.reduceLT, Int32.reduceToNatClampNeg, va_rf_some, Bool.false_eq_true, k_X7_partOf_0 ca, k_X7_partOf_1 ca, k_X7_partOf_4 ca, k_X7_partOf_7 ca, k_X7_partOf_8 ca, k_X7_partOf_11 ca, k_X7_partOf_12 ca, k_X7_partOf_13 ca, k_X7_partOf_14 ca, k_X7_partOf_17 ca, k_X7_partOf_20 ca, k_X7_partOf_22 ca, k_X7_partOf_23 ca, k_X7_partOf_24 ca, k_X7_partOf_27 ca, k_X7_partOf_30 ca, k_X7_partOf_31 ca, k_X7_partOf_32 ca, k_X7_partOf_34 ca, k_X7_partOf_35 ca, k_X7_partOf_37 ca, k_X7_partOf_40 ca, k_X7_partOf_43 ca, k_X7_partOf_45 ca, k_X7_partOf_46 ca, k_X7_partOf_47 ca, k_X7_partOf_72 ca, k_X7_partOf_74 ca, k_X7_partOf_77 ca, k_X7_partOf_78 ca, k_X7_partOf_79 ca, k_X7_partOf_80 ca, k_X7_partOf_82 ca, k_X7_partOf_85 ca, k_X7_partOf_86 ca, k_X7_partOf_87 ca, k_X7_partOf_88 ca, k_X7_partOf_90 ca, k_X7_partOf_93 ca, k_X7_partOf_94 ca, k_X7_partOf_95 ca, k_X7_partOf_96 ca, k_X7_partOf_98 ca, k_X7_partOf_99 ca, k_X7_partOf_100 ca, k_X7_partOf_103 ca, k_X7_partOf_106 ca, k_X7_partOf_109 ca, sp_X7_isRoom, sp_X7_isWithin, q1, q2, b2i_t, one0, q3, c0, z0, z3, z6, z7, vx, xx, g4]
          try clear hF hF0 F
          exact hs
        · rw [if_neg q4, eJ] at hs
          have g4 : (nI J < s (10 + 32 * X)) = True := eq_true (Int32.not_le.mp q4)
          obtain ⟨hN, -⟩ := Wk.n
          have hJN : J < (s (10 + 32 * X)).toNatClampNeg := by
            rw [hN] at q4
            exact Nat.lt_of_not_le (fun z => q4 (nI_le z (by omega)))
          obtain ⟨W, hW3, rfl⟩ := isIn0 (B := 3) rfl q2
          have xw : (nI W).toNatClampNeg = W := tn127 (by omega)
          rw [xw] at hs
          unfold pOf at hs
          have v8 : vp_in (nI J) 8 := vp_in_nI (by omega) (by decide)
          have e1 := l2 J (by omega)
          have e2 := u2 J (by omega)
          have e3 := w2 J (by omega)
          have hP := hN9 J hJN
          have v1 : vp_in (fu J) 6 := by rw [e2]; exact hP.1
          have v2 : vp_in (fw J) 6 := by rw [e3]; exact hP.2
          refine goN go (stp [46]) 160 _ _ _ _ _ _ (fun F hF hF0 => ?_)
          simp only [hF, hF0, ite_not, i_push, i_iload, i_lload, i_aload, i_istore, i_astore, i_lstore, i_iinc, i_bin, i_dv, i_un, i_lbin, i_lsh, i_i2l, i_l2i, i_lcmp, i_dup, i_dup2, i_pop, i_if, i_icmp, i_goto, swG, i_sw, i_getf, i_puti, i_putz, i_putr, i_ald, i_lald, i_aald, i_ast, i_last, i_aast, i_alen, i_new, i_newi, i_newl, i_newq, i_oinit, i_ret, i_zret, i_lret, i_vret, catS, tk, rpush, isO, i_m1, i_m2, i_acopy, i_callV, i_callS, KRet, lget, lput, lputL, lcl0, isL, lv0, List.map_cons, List.map_nil, List.length_cons, List.length_nil, List.cons_append, List.nil_append, Nat.reduceAdd, Nat.reduceSub, Nat.reduceLeDiff, List.replicate_succ, List.replicate_zero, List.getElem?_cons_succ, List.getElem?_cons_zero, List.set_cons_succ, List.set_cons_zero, true_and, and_true, if_true, if_false, ↓reduceIte, Nat.le_refl, Value.category, va_up_app, eq_self, stp, Nat.reduceBEq, Bool.or_false, Bool.false_or, Bool.true_or, Bool.or_true, or_true, true_or, bx_uu, implies_true, true_implies, not_true, not_false_eq_true, false_implies, and_self, Nat.reduceLT, Int32.reduceAdd, Int32.reduceSub, Int32.reduceMul, Int32.reduceLE, Int32.reduceLT, Int32.reduceToNatClampNeg, va_rf_some, Bool.false_eq_true, k_X7_partOf_0 ca, k_X7_partOf_1 ca, k_X7_partOf_4 ca, k_X7_partOf_7 ca, k_X7_partOf_8 ca, k_X7_partOf_11 ca, k_X7_partOf_12 ca, k_X7_partOf_13 ca, k_X7_partOf_14 ca, k_X7_partOf_17 ca, k_X7_partOf_20 ca, k_X7_partOf_22 ca, k_X7_partOf_23 ca, k_X7_partOf_24 ca, k_X7_partOf_27 ca, k_X7_partOf_30 ca, k_X7_partOf_31 ca, k_X7_partOf_32 ca, k_X7_partOf_34 ca, k_X7_partOf_35 ca, k_X7_partOf_37 ca, k_X7_partOf_40 ca, k_X7_partOf_43 ca, k_X7_partOf_45 ca, k_X7_partOf_46 ca, k_X7_partOf_47 ca, k_X7_partOf_72 ca, k_X7_partOf_74 ca, k_X7_partOf_77 ca, k_X7_partOf_78 ca, k_X7_partOf_79 ca, k_X7_partOf_80 ca, k_X7_partOf_82 ca, k_X7_partOf_85 ca, k_X7_partOf_86 ca, k_X7_partOf_87 ca, k_X7_partOf_88 ca, k_X7_partOf_90 ca, k_X7_partOf_93 ca, k_X7_partOf_94 ca, k_X7_partOf_95 ca, k_X7_partOf_96 ca, k_X7_partOf_98 ca, k_X7_partOf_99 ca, k_X7_partOf_100 ca, k_X7_partOf_103 ca, k_X7_partOf_106 ca, k_X7_partOf_109 ca, sp_X7_isRoom, sp_X7_isWithin, q1, q2, b2i_t, one0, q3, c0, z0, z3, z6, z7, vx, xx, g4]
          try clear hF hF0 F
          have hw : W = 0 ∨ W = 1 ∨ W = 2 ∨ W = 3 := by omega
          rcases hw with rfl | rfl | rfl | rfl
          · rw [if_neg (by decide), show 10 + 32 * X + 8 + 3 * J + 0 = 10 + 32 * X + (8 + 3 * J) by omega, ← show fl J = s (10 + 32 * X + (8 + 3 * J)) from e1] at hs
            rw [nI_0]
            refine goN go (stp []) 160 _ _ _ _ _ _ (fun F hF hF0 => ?_)
            simp only [hF, hF0, ite_not, i_push, i_iload, i_lload, i_aload, i_istore, i_astore, i_lstore, i_iinc, i_bin, i_dv, i_un, i_lbin, i_lsh, i_i2l, i_l2i, i_lcmp, i_dup, i_dup2, i_pop, i_if, i_icmp, i_goto, swG, i_sw, i_getf, i_puti, i_putz, i_putr, i_ald, i_lald, i_aald, i_ast, i_last, i_aast, i_alen, i_new, i_newi, i_newl, i_newq, i_oinit, i_ret, i_zret, i_lret, i_vret, catS, tk, rpush, isO, i_m1, i_m2, i_acopy, i_callV, i_callS, KRet, lget, lput, lputL, lcl0, isL, lv0, List.map_cons, List.map_nil, List.length_cons, List.length_nil, List.cons_append, List.nil_append, Nat.reduceAdd, Nat.reduceSub, Nat.reduceLeDiff, List.replicate_succ, List.replicate_zero, List.getElem?_cons_succ, List.getElem?_cons_zero, List.set_cons_succ, List.set_cons_zero, true_and, and_true, if_true, if_false, ↓reduceIte, Nat.le_refl, Value.category, va_up_app, eq_self, stp, Nat.reduceBEq, Bool.or_false, Bool.false_or, Bool.true_or, Bool.or_true, or_true, true_or, bx_uu, implies_true, true_implies, not_true, not_false_eq_true, false_implies, and_self, Nat.reduceLT, Int32.reduceAdd, Int32.reduceSub, Int32.reduceMul, Int32.reduceLE, Int32.reduceLT, Int32.reduceToNatClampNeg, va_rf_some, Bool.false_eq_true, k_X7_partOf_0 ca, k_X7_partOf_1 ca, k_X7_partOf_4 ca, k_X7_partOf_7 ca, k_X7_partOf_8 ca, k_X7_partOf_11 ca, k_X7_partOf_12 ca, k_X7_partOf_13 ca, k_X7_partOf_14 ca, k_X7_partOf_17 ca, k_X7_partOf_20 ca, k_X7_partOf_22 ca, k_X7_partOf_23 ca, k_X7_partOf_24 ca, k_X7_partOf_27 ca, k_X7_partOf_30 ca, k_X7_partOf_31 ca, k_X7_partOf_32 ca, k_X7_partOf_34 ca, k_X7_partOf_35 ca, k_X7_partOf_37 ca, k_X7_partOf_40 ca, k_X7_partOf_43 ca, k_X7_partOf_45 ca, k_X7_partOf_46 ca, k_X7_partOf_47 ca, k_X7_partOf_72 ca, k_X7_partOf_74 ca, k_X7_partOf_77 ca, k_X7_partOf_78 ca, k_X7_partOf_79 ca, k_X7_partOf_80 ca, k_X7_partOf_82 ca, k_X7_partOf_85 ca, k_X7_partOf_86 ca, k_X7_partOf_87 ca, k_X7_partOf_88 ca, k_X7_partOf_90 ca, k_X7_partOf_93 ca, k_X7_partOf_94 ca, k_X7_partOf_95 ca, k_X7_partOf_96 ca, k_X7_partOf_98 ca, k_X7_partOf_99 ca, k_X7_partOf_100 ca, k_X7_partOf_103 ca, k_X7_partOf_106 ca, k_X7_partOf_109 ca, z7, l1, v8, eJ]
            try clear hF hF0 F
            exact hs
          · rw [if_neg (by decide), show 10 + 32 * X + 8 + 3 * J + 1 = 10 + 32 * X + (9 + 3 * J) by omega, ← show fu J = s (10 + 32 * X + (9 + 3 * J)) from e2] at hs
            rw [n1]
            refine goN go (stp []) 160 _ _ _ _ _ _ (fun F hF hF0 => ?_)
            simp only [hF, hF0, ite_not, i_push, i_iload, i_lload, i_aload, i_istore, i_astore, i_lstore, i_iinc, i_bin, i_dv, i_un, i_lbin, i_lsh, i_i2l, i_l2i, i_lcmp, i_dup, i_dup2, i_pop, i_if, i_icmp, i_goto, swG, i_sw, i_getf, i_puti, i_putz, i_putr, i_ald, i_lald, i_aald, i_ast, i_last, i_aast, i_alen, i_new, i_newi, i_newl, i_newq, i_oinit, i_ret, i_zret, i_lret, i_vret, catS, tk, rpush, isO, i_m1, i_m2, i_acopy, i_callV, i_callS, KRet, lget, lput, lputL, lcl0, isL, lv0, List.map_cons, List.map_nil, List.length_cons, List.length_nil, List.cons_append, List.nil_append, Nat.reduceAdd, Nat.reduceSub, Nat.reduceLeDiff, List.replicate_succ, List.replicate_zero, List.getElem?_cons_succ, List.getElem?_cons_zero, List.set_cons_succ, List.set_cons_zero, true_and, and_true, if_true, if_false, ↓reduceIte, Nat.le_refl, Value.category, va_up_app, eq_self, stp, Nat.reduceBEq, Bool.or_false, Bool.false_or, Bool.true_or, Bool.or_true, or_true, true_or, bx_uu, implies_true, true_implies, not_true, not_false_eq_true, false_implies, and_self, Nat.reduceLT, Int32.reduceAdd, Int32.reduceSub, Int32.reduceMul, Int32.reduceLE, Int32.reduceLT, Int32.reduceToNatClampNeg, va_rf_some, Bool.false_eq_true, k_X7_partOf_0 ca, k_X7_partOf_1 ca, k_X7_partOf_4 ca, k_X7_partOf_7 ca, k_X7_partOf_8 ca, k_X7_partOf_11 ca, k_X7_partOf_12 ca, k_X7_partOf_13 ca, k_X7_partOf_14 ca, k_X7_partOf_17 ca, k_X7_partOf_20 ca, k_X7_partOf_22 ca, k_X7_partOf_23 ca, k_X7_partOf_24 ca, k_X7_partOf_27 ca, k_X7_partOf_30 ca, k_X7_partOf_31 ca, k_X7_partOf_32 ca, k_X7_partOf_34 ca, k_X7_partOf_35 ca, k_X7_partOf_37 ca, k_X7_partOf_40 ca, k_X7_partOf_43 ca, k_X7_partOf_45 ca, k_X7_partOf_46 ca, k_X7_partOf_47 ca, k_X7_partOf_72 ca, k_X7_partOf_74 ca, k_X7_partOf_77 ca, k_X7_partOf_78 ca, k_X7_partOf_79 ca, k_X7_partOf_80 ca, k_X7_partOf_82 ca, k_X7_partOf_85 ca, k_X7_partOf_86 ca, k_X7_partOf_87 ca, k_X7_partOf_88 ca, k_X7_partOf_90 ca, k_X7_partOf_93 ca, k_X7_partOf_94 ca, k_X7_partOf_95 ca, k_X7_partOf_96 ca, k_X7_partOf_98 ca, k_X7_partOf_99 ca, k_X7_partOf_100 ca, k_X7_partOf_103 ca, k_X7_partOf_106 ca, k_X7_partOf_109 ca, z7, u1, v8, eJ]
            try clear hF hF0 F
            exact hs
          · rw [if_neg (by decide), show 10 + 32 * X + 8 + 3 * J + 2 = 10 + 32 * X + (10 + 3 * J) by omega, ← show fw J = s (10 + 32 * X + (10 + 3 * J)) from e3] at hs
            rw [n2]
            refine goN go (stp []) 160 _ _ _ _ _ _ (fun F hF hF0 => ?_)
            simp only [hF, hF0, ite_not, i_push, i_iload, i_lload, i_aload, i_istore, i_astore, i_lstore, i_iinc, i_bin, i_dv, i_un, i_lbin, i_lsh, i_i2l, i_l2i, i_lcmp, i_dup, i_dup2, i_pop, i_if, i_icmp, i_goto, swG, i_sw, i_getf, i_puti, i_putz, i_putr, i_ald, i_lald, i_aald, i_ast, i_last, i_aast, i_alen, i_new, i_newi, i_newl, i_newq, i_oinit, i_ret, i_zret, i_lret, i_vret, catS, tk, rpush, isO, i_m1, i_m2, i_acopy, i_callV, i_callS, KRet, lget, lput, lputL, lcl0, isL, lv0, List.map_cons, List.map_nil, List.length_cons, List.length_nil, List.cons_append, List.nil_append, Nat.reduceAdd, Nat.reduceSub, Nat.reduceLeDiff, List.replicate_succ, List.replicate_zero, List.getElem?_cons_succ, List.getElem?_cons_zero, List.set_cons_succ, List.set_cons_zero, true_and, and_true, if_true, if_false, ↓reduceIte, Nat.le_refl, Value.category, va_up_app, eq_self, stp, Nat.reduceBEq, Bool.or_false, Bool.false_or, Bool.true_or, Bool.or_true, or_true, true_or, bx_uu, implies_true, true_implies, not_true, not_false_eq_true, false_implies, and_self, Nat.reduceLT, Int32.reduceAdd, Int32.reduceSub, Int32.reduceMul, Int32.reduceLE, Int32.reduceLT, Int32.reduceToNatClampNeg, va_rf_some, Bool.false_eq_true, k_X7_partOf_0 ca, k_X7_partOf_1 ca, k_X7_partOf_4 ca, k_X7_partOf_7 ca, k_X7_partOf_8 ca, k_X7_partOf_11 ca, k_X7_partOf_12 ca, k_X7_partOf_13 ca, k_X7_partOf_14 ca, k_X7_partOf_17 ca, k_X7_partOf_20 ca, k_X7_partOf_22 ca, k_X7_partOf_23 ca, k_X7_partOf_24 ca, k_X7_partOf_27 ca, k_X7_partOf_30 ca, k_X7_partOf_31 ca, k_X7_partOf_32 ca, k_X7_partOf_34 ca, k_X7_partOf_35 ca, k_X7_partOf_37 ca, k_X7_partOf_40 ca, k_X7_partOf_43 ca, k_X7_partOf_45 ca, k_X7_partOf_46 ca, k_X7_partOf_47 ca, k_X7_partOf_72 ca, k_X7_partOf_74 ca, k_X7_partOf_77 ca, k_X7_partOf_78 ca, k_X7_partOf_79 ca, k_X7_partOf_80 ca, k_X7_partOf_82 ca, k_X7_partOf_85 ca, k_X7_partOf_86 ca, k_X7_partOf_87 ca, k_X7_partOf_88 ca, k_X7_partOf_90 ca, k_X7_partOf_93 ca, k_X7_partOf_94 ca, k_X7_partOf_95 ca, k_X7_partOf_96 ca, k_X7_partOf_98 ca, k_X7_partOf_99 ca, k_X7_partOf_100 ca, k_X7_partOf_103 ca, k_X7_partOf_106 ca, k_X7_partOf_109 ca, z7, w1, v8, eJ]
            try clear hF hF0 F
            exact hs
          · rw [if_pos rfl] at hs
            have er : rateP fl fu fw f1 J = rateP (fun i => s (10 + 32 * X + (8 + 3 * i))) (fun i => s (10 + 32 * X + (9 + 3 * i))) (fun i => s (10 + 32 * X + (10 + 3 * i))) s J := by
              unfold rateP
              rw [e1, e2, e3, y1 _ (vp_lt hP.1), y1 _ (vp_lt hP.2)]
            rw [← er] at hs
            rw [show nI 3 = (3 : Int32) from rfl]
            refine goN go (stp []) 160 _ _ _ _ _ _ (fun F hF hF0 => ?_)
            simp only [hF, hF0, ite_not, i_push, i_iload, i_lload, i_aload, i_istore, i_astore, i_lstore, i_iinc, i_bin, i_dv, i_un, i_lbin, i_lsh, i_i2l, i_l2i, i_lcmp, i_dup, i_dup2, i_pop, i_if, i_icmp, i_goto, swG, i_sw, i_getf, i_puti, i_putz, i_putr, i_ald, i_lald, i_aald, i_ast, i_last, i_aast, i_alen, i_new, i_newi, i_newl, i_newq, i_oinit, i_ret, i_zret, i_lret, i_vret, catS, tk, rpush, isO, i_m1, i_m2, i_acopy, i_callV, i_callS, KRet, lget, lput, lputL, lcl0, isL, lv0, List.map_cons, List.map_nil, List.length_cons, List.length_nil, List.cons_append, List.nil_append, Nat.reduceAdd, Nat.reduceSub, Nat.reduceLeDiff, List.replicate_succ, List.replicate_zero, List.getElem?_cons_succ, List.getElem?_cons_zero, List.set_cons_succ, List.set_cons_zero, true_and, and_true, if_true, if_false, ↓reduceIte, Nat.le_refl, Value.category, va_up_app, eq_self, stp, Nat.reduceBEq, Bool.or_false, Bool.false_or, Bool.true_or, Bool.or_true, or_true, true_or, bx_uu, implies_true, true_implies, not_true, not_false_eq_true, false_implies, and_self, Nat.reduceLT, Int32.reduceAdd, Int32.reduceSub, Int32.reduceMul, Int32.reduceLE, Int32.reduceLT, Int32.reduceToNatClampNeg, va_rf_some, Bool.false_eq_true, k_X7_partOf_0 ca, k_X7_partOf_1 ca, k_X7_partOf_4 ca, k_X7_partOf_7 ca, k_X7_partOf_8 ca, k_X7_partOf_11 ca, k_X7_partOf_12 ca, k_X7_partOf_13 ca, k_X7_partOf_14 ca, k_X7_partOf_17 ca, k_X7_partOf_20 ca, k_X7_partOf_22 ca, k_X7_partOf_23 ca, k_X7_partOf_24 ca, k_X7_partOf_27 ca, k_X7_partOf_30 ca, k_X7_partOf_31 ca, k_X7_partOf_32 ca, k_X7_partOf_34 ca, k_X7_partOf_35 ca, k_X7_partOf_37 ca, k_X7_partOf_40 ca, k_X7_partOf_43 ca, k_X7_partOf_45 ca, k_X7_partOf_46 ca, k_X7_partOf_47 ca, k_X7_partOf_72 ca, k_X7_partOf_74 ca, k_X7_partOf_77 ca, k_X7_partOf_78 ca, k_X7_partOf_79 ca, k_X7_partOf_80 ca, k_X7_partOf_82 ca, k_X7_partOf_85 ca, k_X7_partOf_86 ca, k_X7_partOf_87 ca, k_X7_partOf_88 ca, k_X7_partOf_90 ca, k_X7_partOf_93 ca, k_X7_partOf_94 ca, k_X7_partOf_95 ca, k_X7_partOf_96 ca, k_X7_partOf_98 ca, k_X7_partOf_99 ca, k_X7_partOf_100 ca, k_X7_partOf_103 ca, k_X7_partOf_106 ca, k_X7_partOf_109 ca, c0, z0, z1, z7, l1, u1, w1, v8, eJ, v1, v2, sp_X5_partRate]
            try clear hF hF0 F
            exact hs
def sp_X7_roomOf (ca : Nat → ClassId) : SPEC := fun av h post => ∃ o b qh qa B x3 x4 x5 lk s oo ss S x w, av = [.ref o, .int x, .int w] ∧ CN ca h o b qh qa B x3 x4 x5 lk s oo ss S ∧ BoS s ∧ post (some (.int (aRoomOf s x w))) h
def k_X7_roomOf (ca : Nat → ClassId) : Nat → IT := fun pc => lk pc [(0, i_iload 1 1),
  (1, i_callS 1 0 0 0 0 (sp_X7_isRoom ca) 4),
  (4, i_if (fun x => ¬ x = 0) 10 7),
  (7, i_push (.int (-10000001)) 9),
  (9, i_ret),
  (10, i_aload 0 11),
  (11, i_getf 7 0 14),
  (14, i_getf 4 3 17),
  (17, i_iload 1 18),
  (18, i_aald (ca 4) 19),
  (19, i_astore 3 20),
  (20, i_iload 2 21),
  (21, i_sw [(0, 64), (1, 69), (2, 74), (3, 79), (4, 87), (5, 92), (6, 112)] 132),
  (64, i_aload 3 65),
  (65, i_getf 2 0 68),
  (68, i_ret),
  (69, i_aload 3 70),
  (70, i_getf 2 1 73),
  (73, i_ret),
  (74, i_aload 3 75),
  (75, i_getf 2 2 78),
  (78, i_ret),
  (79, i_aload 3 80),
  (80, i_getf 2 3 83),
  (83, i_callS 1 0 0 0 0 (sp_X7_oneIf ca) 86),
  (86, i_ret),
  (87, i_aload 3 88),
  (88, i_getf 2 4 91),
  (91, i_ret),
  (92, i_aload 0 93),
  (93, i_getf 7 0 96),
  (96, i_getf 4 5 99),
  (99, i_if (fun x => ¬ x = 0) 107 102),
  (102, i_push (.int (-10000004)) 104),
  (104, i_goto 111),
  (107, i_aload 3 108),
  (108, i_getf 2 5 111),
  (111, i_ret),
  (112, i_aload 0 113),
  (113, i_getf 7 0 116),
  (116, i_getf 4 5 119),
  (119, i_if (fun x => ¬ x = 0) 127 122),
  (122, i_push (.int (-10000004)) 124),
  (124, i_goto 131),
  (127, i_aload 3 128),
  (128, i_getf 2 6 131),
  (131, i_ret),
  (132, i_push (.int (-10000001)) 134),
  (134, i_ret)]
set_option maxRecDepth 20000 in
theorem t_X7_roomOf : Tb k_X7_roomOf yX7_roomOf cX7_roomOf 4 (some .int) 2 0 0 := by
  intro l D ca A p e s m args below meth c post X
  unfold k_X7_roomOf
  refine snd_cons (snd_iload_n X dX7_roomOf_0 rfl) ?_
  refine snd_cons (snd_callS X (ok_X7_isRoom l D ca) rfl rfl w_327 w_328 w_1 w_329 (by decide) (by decide) dX7_roomOf_1) ?_
  refine snd_cons (snd_if_ne X dX7_roomOf_4 (by decide)) ?_
  refine snd_cons (snd_ldc X w_284 dX7_roomOf_7) ?_
  refine snd_cons (snd_ret X dX7_roomOf_9) ?_
  refine snd_cons (snd_aload_n X dX7_roomOf_10 rfl) ?_
  refine snd_cons (snd_getf X Fk7 0 (by decide) w_250 dX7_roomOf_11) ?_
  refine snd_cons (snd_getf X Fk4 3 (by decide) w_130 dX7_roomOf_14) ?_
  refine snd_cons (snd_iload_n X dX7_roomOf_17 rfl) ?_
  refine snd_cons (snd_aaload X 4 rfl dX7_roomOf_18) ?_
  refine snd_cons (snd_astore_n X dX7_roomOf_19 rfl (by decide)) ?_
  refine snd_cons (snd_iload_n X dX7_roomOf_20 rfl) ?_
  refine snd_cons (snd_table X dX7_roomOf_21 (by decide) (by decide) (by decide)) ?_
  refine snd_cons (snd_aload_n X dX7_roomOf_64 rfl) ?_
  refine snd_cons (snd_getf X Fk2 0 (by decide) w_91 dX7_roomOf_65) ?_
  refine snd_cons (snd_ret X dX7_roomOf_68) ?_
  refine snd_cons (snd_aload_n X dX7_roomOf_69 rfl) ?_
  refine snd_cons (snd_getf X Fk2 1 (by decide) w_93 dX7_roomOf_70) ?_
  refine snd_cons (snd_ret X dX7_roomOf_73) ?_
  refine snd_cons (snd_aload_n X dX7_roomOf_74 rfl) ?_
  refine snd_cons (snd_getf X Fk2 2 (by decide) w_96 dX7_roomOf_75) ?_
  refine snd_cons (snd_ret X dX7_roomOf_78) ?_
  refine snd_cons (snd_aload_n X dX7_roomOf_79 rfl) ?_
  refine snd_cons (snd_getf X Fk2 3 (by decide) w_99 dX7_roomOf_80) ?_
  refine snd_cons (snd_callS X (ok_X7_oneIf l D ca) rfl rfl w_350 w_351 w_1 w_352 (by decide) (by decide) dX7_roomOf_83) ?_
  refine snd_cons (snd_ret X dX7_roomOf_86) ?_
  refine snd_cons (snd_aload_n X dX7_roomOf_87 rfl) ?_
  refine snd_cons (snd_getf X Fk2 4 (by decide) w_102 dX7_roomOf_88) ?_
  refine snd_cons (snd_ret X dX7_roomOf_91) ?_
  refine snd_cons (snd_aload_n X dX7_roomOf_92 rfl) ?_
  refine snd_cons (snd_getf X Fk7 0 (by decide) w_250 dX7_roomOf_93) ?_
  refine snd_cons (snd_getf X Fk4 5 (by decide) w_134 dX7_roomOf_96) ?_
  refine snd_cons (snd_if_ne X dX7_roomOf_99 (by decide)) ?_
  refine snd_cons (snd_ldc X w_361 dX7_roomOf_102) ?_
  refine snd_cons (snd_goto X dX7_roomOf_104 (by decide)) ?_
  refine snd_cons (snd_aload_n X dX7_roomOf_107 rfl) ?_
  refine snd_cons (snd_getf X Fk2 5 (by decide) w_104 dX7_roomOf_108) ?_
  refine snd_cons (snd_ret X dX7_roomOf_111) ?_
  refine snd_cons (snd_aload_n X dX7_roomOf_112 rfl) ?_
  refine snd_cons (snd_getf X Fk7 0 (by decide) w_250 dX7_roomOf_113) ?_
  refine snd_cons (snd_getf X Fk4 5 (by decide) w_134 dX7_roomOf_116) ?_
  refine snd_cons (snd_if_ne X dX7_roomOf_119 (by decide)) ?_
  refine snd_cons (snd_ldc X w_361 dX7_roomOf_122) ?_
  refine snd_cons (snd_goto X dX7_roomOf_124 (by decide)) ?_
  refine snd_cons (snd_aload_n X dX7_roomOf_127 rfl) ?_
  refine snd_cons (snd_getf X Fk2 6 (by decide) w_106 dX7_roomOf_128) ?_
  refine snd_cons (snd_ret X dX7_roomOf_131) ?_
  refine snd_cons (snd_ldc X w_284 dX7_roomOf_132) ?_
  refine snd_cons (snd_ret X dX7_roomOf_134) ?_
  exact snd_nil
theorem k_X7_roomOf_0 (ca : Nat → ClassId) : k_X7_roomOf ca 0 = i_iload 1 1 := rfl
theorem k_X7_roomOf_1 (ca : Nat → ClassId) : k_X7_roomOf ca 1 = i_callS 1 0 0 0 0 (sp_X7_isRoom ca) 4 := rfl
theorem k_X7_roomOf_4 (ca : Nat → ClassId) : k_X7_roomOf ca 4 = i_if (fun x => ¬ x = 0) 10 7 := rfl
theorem k_X7_roomOf_7 (ca : Nat → ClassId) : k_X7_roomOf ca 7 = i_push (.int (-10000001)) 9 := rfl
theorem k_X7_roomOf_9 (ca : Nat → ClassId) : k_X7_roomOf ca 9 = i_ret := rfl
theorem k_X7_roomOf_10 (ca : Nat → ClassId) : k_X7_roomOf ca 10 = i_aload 0 11 := rfl
theorem k_X7_roomOf_11 (ca : Nat → ClassId) : k_X7_roomOf ca 11 = i_getf 7 0 14 := rfl
theorem k_X7_roomOf_14 (ca : Nat → ClassId) : k_X7_roomOf ca 14 = i_getf 4 3 17 := rfl
theorem k_X7_roomOf_17 (ca : Nat → ClassId) : k_X7_roomOf ca 17 = i_iload 1 18 := rfl
theorem k_X7_roomOf_18 (ca : Nat → ClassId) : k_X7_roomOf ca 18 = i_aald (ca 4) 19 := rfl
theorem k_X7_roomOf_19 (ca : Nat → ClassId) : k_X7_roomOf ca 19 = i_astore 3 20 := rfl
theorem k_X7_roomOf_20 (ca : Nat → ClassId) : k_X7_roomOf ca 20 = i_iload 2 21 := rfl
theorem k_X7_roomOf_21 (ca : Nat → ClassId) : k_X7_roomOf ca 21 = i_sw [(0, 64), (1, 69), (2, 74), (3, 79), (4, 87), (5, 92), (6, 112)] 132 := rfl
theorem k_X7_roomOf_64 (ca : Nat → ClassId) : k_X7_roomOf ca 64 = i_aload 3 65 := rfl
theorem k_X7_roomOf_65 (ca : Nat → ClassId) : k_X7_roomOf ca 65 = i_getf 2 0 68 := rfl
theorem k_X7_roomOf_68 (ca : Nat → ClassId) : k_X7_roomOf ca 68 = i_ret := rfl
theorem k_X7_roomOf_69 (ca : Nat → ClassId) : k_X7_roomOf ca 69 = i_aload 3 70 := rfl
theorem k_X7_roomOf_70 (ca : Nat → ClassId) : k_X7_roomOf ca 70 = i_getf 2 1 73 := rfl
theorem k_X7_roomOf_73 (ca : Nat → ClassId) : k_X7_roomOf ca 73 = i_ret := rfl
theorem k_X7_roomOf_74 (ca : Nat → ClassId) : k_X7_roomOf ca 74 = i_aload 3 75 := rfl
theorem k_X7_roomOf_75 (ca : Nat → ClassId) : k_X7_roomOf ca 75 = i_getf 2 2 78 := rfl
theorem k_X7_roomOf_78 (ca : Nat → ClassId) : k_X7_roomOf ca 78 = i_ret := rfl
theorem k_X7_roomOf_79 (ca : Nat → ClassId) : k_X7_roomOf ca 79 = i_aload 3 80 := rfl
theorem k_X7_roomOf_80 (ca : Nat → ClassId) : k_X7_roomOf ca 80 = i_getf 2 3 83 := rfl
theorem k_X7_roomOf_83 (ca : Nat → ClassId) : k_X7_roomOf ca 83 = i_callS 1 0 0 0 0 (sp_X7_oneIf ca) 86 := rfl
theorem k_X7_roomOf_86 (ca : Nat → ClassId) : k_X7_roomOf ca 86 = i_ret := rfl
theorem k_X7_roomOf_87 (ca : Nat → ClassId) : k_X7_roomOf ca 87 = i_aload 3 88 := rfl
theorem k_X7_roomOf_88 (ca : Nat → ClassId) : k_X7_roomOf ca 88 = i_getf 2 4 91 := rfl
theorem k_X7_roomOf_91 (ca : Nat → ClassId) : k_X7_roomOf ca 91 = i_ret := rfl
theorem k_X7_roomOf_92 (ca : Nat → ClassId) : k_X7_roomOf ca 92 = i_aload 0 93 := rfl
theorem k_X7_roomOf_93 (ca : Nat → ClassId) : k_X7_roomOf ca 93 = i_getf 7 0 96 := rfl
theorem k_X7_roomOf_96 (ca : Nat → ClassId) : k_X7_roomOf ca 96 = i_getf 4 5 99 := rfl
theorem k_X7_roomOf_99 (ca : Nat → ClassId) : k_X7_roomOf ca 99 = i_if (fun x => ¬ x = 0) 107 102 := rfl
theorem k_X7_roomOf_102 (ca : Nat → ClassId) : k_X7_roomOf ca 102 = i_push (.int (-10000004)) 104 := rfl
theorem k_X7_roomOf_104 (ca : Nat → ClassId) : k_X7_roomOf ca 104 = i_goto 111 := rfl
theorem k_X7_roomOf_107 (ca : Nat → ClassId) : k_X7_roomOf ca 107 = i_aload 3 108 := rfl
theorem k_X7_roomOf_108 (ca : Nat → ClassId) : k_X7_roomOf ca 108 = i_getf 2 5 111 := rfl
theorem k_X7_roomOf_111 (ca : Nat → ClassId) : k_X7_roomOf ca 111 = i_ret := rfl
theorem k_X7_roomOf_112 (ca : Nat → ClassId) : k_X7_roomOf ca 112 = i_aload 0 113 := rfl
theorem k_X7_roomOf_113 (ca : Nat → ClassId) : k_X7_roomOf ca 113 = i_getf 7 0 116 := rfl
theorem k_X7_roomOf_116 (ca : Nat → ClassId) : k_X7_roomOf ca 116 = i_getf 4 5 119 := rfl
theorem k_X7_roomOf_119 (ca : Nat → ClassId) : k_X7_roomOf ca 119 = i_if (fun x => ¬ x = 0) 127 122 := rfl
theorem k_X7_roomOf_122 (ca : Nat → ClassId) : k_X7_roomOf ca 122 = i_push (.int (-10000004)) 124 := rfl
theorem k_X7_roomOf_124 (ca : Nat → ClassId) : k_X7_roomOf ca 124 = i_goto 131 := rfl
theorem k_X7_roomOf_127 (ca : Nat → ClassId) : k_X7_roomOf ca 127 = i_aload 3 128 := rfl
theorem k_X7_roomOf_128 (ca : Nat → ClassId) : k_X7_roomOf ca 128 = i_getf 2 6 131 := rfl
theorem k_X7_roomOf_131 (ca : Nat → ClassId) : k_X7_roomOf ca 131 = i_ret := rfl
theorem k_X7_roomOf_132 (ca : Nat → ClassId) : k_X7_roomOf ca 132 = i_push (.int (-10000001)) 134 := rfl
theorem k_X7_roomOf_134 (ca : Nat → ClassId) : k_X7_roomOf ca 134 = i_ret := rfl
set_option maxHeartbeats 4000000 in
set_option maxRecDepth 20000 in
theorem ok_X7_roomOf (l : Launch) (D : va_G) (ca : Nat → ClassId) : OkAll l D ca yX7_roomOf cX7_roomOf 4 (some .int) 2 0 0 (sp_X7_roomOf ca) := by
  intro av h post hs
  obtain ⟨o, b, qh, qa, B, x3, x4, x5, lk, s, oo, ss, S, x, w, rfl, ⟨c0, hS, hH⟩, hbo, hs⟩ := hs
  obtain ⟨z0, ⟨f3, z3, y3⟩, ⟨f4, z4, y4⟩, ⟨f1, z1, y1⟩, ⟨f2, z2, y2⟩⟩ := hS.c
  unfold aRoomOf at hs
  refine okM_of t_X7_roomOf (by decide +kernel) (c1_ref (c1_int (c1_int c1_nil))) (Nat.le_of_ble_eq_true rfl) ?_
  intro K go
  cases q1 : isIn x 0 2 with
  | false =>
    rw [q1, if_neg (by decide)] at hs
    refine goN go (stp []) 160 _ _ _ _ _ _ (fun F hF hF0 => ?_)
    simp only [hF, hF0, ite_not, i_push, i_iload, i_lload, i_aload, i_istore, i_astore, i_lstore, i_iinc, i_bin, i_dv, i_un, i_lbin, i_lsh, i_i2l, i_l2i, i_lcmp, i_dup, i_dup2, i_pop, i_if, i_icmp, i_goto, swG, i_sw, i_getf, i_puti, i_putz, i_putr, i_ald, i_lald, i_aald, i_ast, i_last, i_aast, i_alen, i_new, i_newi, i_newl, i_newq, i_oinit, i_ret, i_zret, i_lret, i_vret, catS, tk, rpush, isO, i_m1, i_m2, i_acopy, i_callV, i_callS, KRet, lget, lput, lputL, lcl0, isL, lv0, List.map_cons, List.map_nil, List.length_cons, List.length_nil, List.cons_append, List.nil_append, Nat.reduceAdd, Nat.reduceSub, Nat.reduceLeDiff, List.replicate_succ, List.replicate_zero, List.getElem?_cons_succ, List.getElem?_cons_zero, List.set_cons_succ, List.set_cons_zero, true_and, and_true, if_true, if_false, ↓reduceIte, Nat.le_refl, Value.category, va_up_app, eq_self, stp, Nat.reduceBEq, Bool.or_false, Bool.false_or, Bool.true_or, Bool.or_true, or_true, true_or, bx_uu, implies_true, true_implies, not_true, not_false_eq_true, false_implies, and_self, Nat.reduceLT, Int32.reduceAdd, Int32.reduceSub, Int32.reduceMul, Int32.reduceLE, Int32.reduceLT, Int32.reduceToNatClampNeg, va_rf_some, Bool.false_eq_true, k_X7_roomOf_0 ca, k_X7_roomOf_1 ca, k_X7_roomOf_4 ca, k_X7_roomOf_7 ca, k_X7_roomOf_9 ca, k_X7_roomOf_10 ca, k_X7_roomOf_11 ca, k_X7_roomOf_14 ca, k_X7_roomOf_17 ca, k_X7_roomOf_18 ca, k_X7_roomOf_19 ca, k_X7_roomOf_20 ca, k_X7_roomOf_21 ca, k_X7_roomOf_64 ca, k_X7_roomOf_65 ca, k_X7_roomOf_68 ca, k_X7_roomOf_69 ca, k_X7_roomOf_70 ca, k_X7_roomOf_73 ca, k_X7_roomOf_74 ca, k_X7_roomOf_75 ca, k_X7_roomOf_78 ca, k_X7_roomOf_79 ca, k_X7_roomOf_80 ca, k_X7_roomOf_83 ca, k_X7_roomOf_86 ca, k_X7_roomOf_87 ca, k_X7_roomOf_88 ca, k_X7_roomOf_91 ca, k_X7_roomOf_92 ca, k_X7_roomOf_93 ca, k_X7_roomOf_96 ca, k_X7_roomOf_99 ca, k_X7_roomOf_102 ca, k_X7_roomOf_104 ca, k_X7_roomOf_107 ca, k_X7_roomOf_108 ca, k_X7_roomOf_111 ca, k_X7_roomOf_112 ca, k_X7_roomOf_113 ca, k_X7_roomOf_116 ca, k_X7_roomOf_119 ca, k_X7_roomOf_122 ca, k_X7_roomOf_124 ca, k_X7_roomOf_127 ca, k_X7_roomOf_128 ca, k_X7_roomOf_131 ca, k_X7_roomOf_132 ca, k_X7_roomOf_134 ca, sp_X7_isRoom, q1, b2i_f]
    try clear hF hF0 F
    exact hs
  | true =>
    rw [q1, if_pos rfl] at hs
    obtain ⟨X, hX, rfl⟩ := isIn0 (B := 2) rfl q1
    have xx : (nI X).toNatClampNeg = X := tn127 (by omega)
    have vx := vp3 (k := X) (by omega)
    rw [xx] at hs
    have z6 := y3 X (by omega)
    have z7 := hS.st (k := X) (by omega)
    have z8 := y4 X (by omega)
    have z9 := hS.rm (k := X) (by omega)
    obtain ⟨⟨fl, l1, l2⟩, ⟨fu, u1, u2⟩, ⟨fw, w1, w2⟩⟩ := hS.pl (k := X) (by omega)
    have hc := hbo.op (k := X) (by omega)
    have oc := oI_01 hc
    refine goN go (stp [20]) 160 _ _ _ _ _ _ (fun F hF hF0 => ?_)
    simp only [hF, hF0, ite_not, i_push, i_iload, i_lload, i_aload, i_istore, i_astore, i_lstore, i_iinc, i_bin, i_dv, i_un, i_lbin, i_lsh, i_i2l, i_l2i, i_lcmp, i_dup, i_dup2, i_pop, i_if, i_icmp, i_goto, swG, i_sw, i_getf, i_puti, i_putz, i_putr, i_ald, i_lald, i_aald, i_ast, i_last, i_aast, i_alen, i_new, i_newi, i_newl, i_newq, i_oinit, i_ret, i_zret, i_lret, i_vret, catS, tk, rpush, isO, i_m1, i_m2, i_acopy, i_callV, i_callS, KRet, lget, lput, lputL, lcl0, isL, lv0, List.map_cons, List.map_nil, List.length_cons, List.length_nil, List.cons_append, List.nil_append, Nat.reduceAdd, Nat.reduceSub, Nat.reduceLeDiff, List.replicate_succ, List.replicate_zero, List.getElem?_cons_succ, List.getElem?_cons_zero, List.set_cons_succ, List.set_cons_zero, true_and, and_true, if_true, if_false, ↓reduceIte, Nat.le_refl, Value.category, va_up_app, eq_self, stp, Nat.reduceBEq, Bool.or_false, Bool.false_or, Bool.true_or, Bool.or_true, or_true, true_or, bx_uu, implies_true, true_implies, not_true, not_false_eq_true, false_implies, and_self, Nat.reduceLT, Int32.reduceAdd, Int32.reduceSub, Int32.reduceMul, Int32.reduceLE, Int32.reduceLT, Int32.reduceToNatClampNeg, va_rf_some, Bool.false_eq_true, k_X7_roomOf_0 ca, k_X7_roomOf_1 ca, k_X7_roomOf_4 ca, k_X7_roomOf_7 ca, k_X7_roomOf_9 ca, k_X7_roomOf_10 ca, k_X7_roomOf_11 ca, k_X7_roomOf_14 ca, k_X7_roomOf_17 ca, k_X7_roomOf_18 ca, k_X7_roomOf_19 ca, k_X7_roomOf_20 ca, k_X7_roomOf_21 ca, k_X7_roomOf_64 ca, k_X7_roomOf_65 ca, k_X7_roomOf_68 ca, k_X7_roomOf_69 ca, k_X7_roomOf_70 ca, k_X7_roomOf_73 ca, k_X7_roomOf_74 ca, k_X7_roomOf_75 ca, k_X7_roomOf_78 ca, k_X7_roomOf_79 ca, k_X7_roomOf_80 ca, k_X7_roomOf_83 ca, k_X7_roomOf_86 ca, k_X7_roomOf_87 ca, k_X7_roomOf_88 ca, k_X7_roomOf_91 ca, k_X7_roomOf_92 ca, k_X7_roomOf_93 ca, k_X7_roomOf_96 ca, k_X7_roomOf_99 ca, k_X7_roomOf_102 ca, k_X7_roomOf_104 ca, k_X7_roomOf_107 ca, k_X7_roomOf_108 ca, k_X7_roomOf_111 ca, k_X7_roomOf_112 ca, k_X7_roomOf_113 ca, k_X7_roomOf_116 ca, k_X7_roomOf_119 ca, k_X7_roomOf_122 ca, k_X7_roomOf_124 ca, k_X7_roomOf_127 ca, k_X7_roomOf_128 ca, k_X7_roomOf_131 ca, k_X7_roomOf_132 ca, k_X7_roomOf_134 ca, sp_X7_isRoom, q1, b2i_t, one0, c0, z0, z4, z8, vx, xx]
    try clear hF hF0 F
    clear q1
    cases q2 : isIn w 0 6 with
    | false =>
      rw [q2, if_neg (by decide)] at hs
      have nw : ∀ W, W ≤ 6 → (w = nI W) = False := fun W hW => eq_false (fun z => by
        rw [z] at q2
        unfold isIn at q2
        rw [decide_eq_false (nI_pos (by omega)), decide_eq_false (show ¬ (6 : Int32) < nI W from nI_nlt (b := W) (a := 6) (by omega) (by omega))] at q2
        cases q2)
      have w0 : (w = 0) = False := nw 0 (by decide)
      have w1' : (w = 1) = False := nw 1 (by decide)
      have w2' : (w = 2) = False := nw 2 (by decide)
      have w3 : (w = 3) = False := nw 3 (by decide)
      have w4 : (w = 4) = False := nw 4 (by decide)
      have w5 : (w = 5) = False := nw 5 (by decide)
      have w6 : (w = 6) = False := nw 6 (by decide)
      refine goN go (stp []) 160 _ _ _ _ _ _ (fun F hF hF0 => ?_)
      simp only [hF, hF0, ite_not, i_push, i_iload, i_lload, i_aload, i_istore, i_astore, i_lstore, i_iinc, i_bin, i_dv, i_un, i_lbin, i_lsh, i_i2l, i_l2i, i_lcmp, i_dup, i_dup2, i_pop, i_if, i_icmp, i_goto, swG, i_sw, i_getf, i_puti, i_putz, i_putr, i_ald, i_lald, i_aald, i_ast, i_last, i_aast, i_alen, i_new, i_newi, i_newl, i_newq, i_oinit, i_ret, i_zret, i_lret, i_vret, catS, tk, rpush, isO, i_m1, i_m2, i_acopy, i_callV, i_callS, KRet, lget, lput, lputL, lcl0, isL, lv0, List.map_cons, List.map_nil, List.length_cons, List.length_nil, List.cons_append, List.nil_append, Nat.reduceAdd, Nat.reduceSub, Nat.reduceLeDiff, List.replicate_succ, List.replicate_zero, List.getElem?_cons_succ, List.getElem?_cons_zero, List.set_cons_succ, List.set_cons_zero, true_and, and_true, if_true, if_false, ↓reduceIte, Nat.le_refl, Value.category, va_up_app, eq_self, stp, Nat.reduceBEq, Bool.or_false, Bool.false_or, Bool.true_or, Bool.or_true, or_true, true_or, bx_uu, implies_true, true_implies, not_true, not_false_eq_true, false_implies, and_self, Nat.reduceLT, Int32.reduceAdd, Int32.reduceSub, Int32.reduceMul, Int32.reduceLE, Int32.reduceLT, Int32.reduceToNatClampNeg, va_rf_some, Bool.false_eq_true, k_X7_roomOf_0 ca, k_X7_roomOf_1 ca, k_X7_roomOf_4 ca, k_X7_roomOf_7 ca, k_X7_roomOf_9 ca, k_X7_roomOf_10 ca, k_X7_roomOf_11 ca, k_X7_roomOf_14 ca, k_X7_roomOf_17 ca, k_X7_roomOf_18 ca, k_X7_roomOf_19 ca, k_X7_roomOf_20 ca, k_X7_roomOf_21 ca, k_X7_roomOf_64 ca, k_X7_roomOf_65 ca, k_X7_roomOf_68 ca, k_X7_roomOf_69 ca, k_X7_roomOf_70 ca, k_X7_roomOf_73 ca, k_X7_roomOf_74 ca, k_X7_roomOf_75 ca, k_X7_roomOf_78 ca, k_X7_roomOf_79 ca, k_X7_roomOf_80 ca, k_X7_roomOf_83 ca, k_X7_roomOf_86 ca, k_X7_roomOf_87 ca, k_X7_roomOf_88 ca, k_X7_roomOf_91 ca, k_X7_roomOf_92 ca, k_X7_roomOf_93 ca, k_X7_roomOf_96 ca, k_X7_roomOf_99 ca, k_X7_roomOf_102 ca, k_X7_roomOf_104 ca, k_X7_roomOf_107 ca, k_X7_roomOf_108 ca, k_X7_roomOf_111 ca, k_X7_roomOf_112 ca, k_X7_roomOf_113 ca, k_X7_roomOf_116 ca, k_X7_roomOf_119 ca, k_X7_roomOf_122 ca, k_X7_roomOf_124 ca, k_X7_roomOf_127 ca, k_X7_roomOf_128 ca, k_X7_roomOf_131 ca, k_X7_roomOf_132 ca, k_X7_roomOf_134 ca, w0, w1', w2', w3, w4, w5, w6]
      try clear hF hF0 F
      exact hs
    | true =>
      rw [q2, if_pos rfl] at hs
      obtain ⟨W, hW6, rfl⟩ := isIn0 (B := 6) rfl q2
      clear q2
      have hw : W = 0 ∨ W = 1 ∨ W = 2 ∨ W = 3 ∨ W = 4 ∨ W = 5 ∨ W = 6 := by omega
      rcases hw with rfl | rfl | rfl | rfl | rfl | rfl | rfl
      · rw [show nI 0 = (0 : Int32) from rfl] at *
        rw [if_pos (by decide)] at hs
        refine goN go (stp []) 160 _ _ _ _ _ _ (fun F hF hF0 => ?_)
        simp only [hF, hF0, ite_not, i_push, i_iload, i_lload, i_aload, i_istore, i_astore, i_lstore, i_iinc, i_bin, i_dv, i_un, i_lbin, i_lsh, i_i2l, i_l2i, i_lcmp, i_dup, i_dup2, i_pop, i_if, i_icmp, i_goto, swG, i_sw, i_getf, i_puti, i_putz, i_putr, i_ald, i_lald, i_aald, i_ast, i_last, i_aast, i_alen, i_new, i_newi, i_newl, i_newq, i_oinit, i_ret, i_zret, i_lret, i_vret, catS, tk, rpush, isO, i_m1, i_m2, i_acopy, i_callV, i_callS, KRet, lget, lput, lputL, lcl0, isL, lv0, List.map_cons, List.map_nil, List.length_cons, List.length_nil, List.cons_append, List.nil_append, Nat.reduceAdd, Nat.reduceSub, Nat.reduceLeDiff, List.replicate_succ, List.replicate_zero, List.getElem?_cons_succ, List.getElem?_cons_zero, List.set_cons_succ, List.set_cons_zero, true_and, and_true, if_true, if_false, ↓reduceIte, Nat.le_refl, Value.category, va_up_app, eq_self, stp, Nat.reduceBEq, Bool.or_false, Bool.false_or, Bool.true_or, Bool.or_true, or_true, true_or, bx_uu, implies_true, true_implies, not_true, not_false_eq_true, false_implies, and_self, Nat.reduceLT, Int32.reduceAdd, Int32.reduceSub, Int32.reduceMul, Int32.reduceLE, Int32.reduceLT, Int32.reduceToNatClampNeg, va_rf_some, Bool.false_eq_true, k_X7_roomOf_0 ca, k_X7_roomOf_1 ca, k_X7_roomOf_4 ca, k_X7_roomOf_7 ca, k_X7_roomOf_9 ca, k_X7_roomOf_10 ca, k_X7_roomOf_11 ca, k_X7_roomOf_14 ca, k_X7_roomOf_17 ca, k_X7_roomOf_18 ca, k_X7_roomOf_19 ca, k_X7_roomOf_20 ca, k_X7_roomOf_21 ca, k_X7_roomOf_64 ca, k_X7_roomOf_65 ca, k_X7_roomOf_68 ca, k_X7_roomOf_69 ca, k_X7_roomOf_70 ca, k_X7_roomOf_73 ca, k_X7_roomOf_74 ca, k_X7_roomOf_75 ca, k_X7_roomOf_78 ca, k_X7_roomOf_79 ca, k_X7_roomOf_80 ca, k_X7_roomOf_83 ca, k_X7_roomOf_86 ca, k_X7_roomOf_87 ca, k_X7_roomOf_88 ca, k_X7_roomOf_91 ca, k_X7_roomOf_92 ca, k_X7_roomOf_93 ca, k_X7_roomOf_96 ca, k_X7_roomOf_99 ca, k_X7_roomOf_102 ca, k_X7_roomOf_104 ca, k_X7_roomOf_107 ca, k_X7_roomOf_108 ca, k_X7_roomOf_111 ca, k_X7_roomOf_112 ca, k_X7_roomOf_113 ca, k_X7_roomOf_116 ca, k_X7_roomOf_119 ca, k_X7_roomOf_122 ca, k_X7_roomOf_124 ca, k_X7_roomOf_127 ca, k_X7_roomOf_128 ca, k_X7_roomOf_131 ca, k_X7_roomOf_132 ca, k_X7_roomOf_134 ca, z9]
        try clear hF hF0 F
        exact hs
      · rw [show nI 1 = (1 : Int32) from rfl] at *
        rw [if_pos (by decide)] at hs
        refine goN go (stp []) 160 _ _ _ _ _ _ (fun F hF hF0 => ?_)
        simp only [hF, hF0, ite_not, i_push, i_iload, i_lload, i_aload, i_istore, i_astore, i_lstore, i_iinc, i_bin, i_dv, i_un, i_lbin, i_lsh, i_i2l, i_l2i, i_lcmp, i_dup, i_dup2, i_pop, i_if, i_icmp, i_goto, swG, i_sw, i_getf, i_puti, i_putz, i_putr, i_ald, i_lald, i_aald, i_ast, i_last, i_aast, i_alen, i_new, i_newi, i_newl, i_newq, i_oinit, i_ret, i_zret, i_lret, i_vret, catS, tk, rpush, isO, i_m1, i_m2, i_acopy, i_callV, i_callS, KRet, lget, lput, lputL, lcl0, isL, lv0, List.map_cons, List.map_nil, List.length_cons, List.length_nil, List.cons_append, List.nil_append, Nat.reduceAdd, Nat.reduceSub, Nat.reduceLeDiff, List.replicate_succ, List.replicate_zero, List.getElem?_cons_succ, List.getElem?_cons_zero, List.set_cons_succ, List.set_cons_zero, true_and, and_true, if_true, if_false, ↓reduceIte, Nat.le_refl, Value.category, va_up_app, eq_self, stp, Nat.reduceBEq, Bool.or_false, Bool.false_or, Bool.true_or, Bool.or_true, or_true, true_or, bx_uu, implies_true, true_implies, not_true, not_false_eq_true, false_implies, and_self, Nat.reduceLT, Int32.reduceAdd, Int32.reduceSub, Int32.reduceMul, Int32.reduceLE, Int32.reduceLT, Int32.reduceToNatClampNeg, va_rf_some, Bool.false_eq_true, k_X7_roomOf_0 ca, k_X7_roomOf_1 ca, k_X7_roomOf_4 ca, k_X7_roomOf_7 ca, k_X7_roomOf_9 ca, k_X7_roomOf_10 ca, k_X7_roomOf_11 ca, k_X7_roomOf_14 ca, k_X7_roomOf_17 ca, k_X7_roomOf_18 ca, k_X7_roomOf_19 ca, k_X7_roomOf_20 ca, k_X7_roomOf_21 ca, k_X7_roomOf_64 ca, k_X7_roomOf_65 ca, k_X7_roomOf_68 ca, k_X7_roomOf_69 ca, k_X7_roomOf_70 ca, k_X7_roomOf_73 ca, k_X7_roomOf_74 ca, k_X7_roomOf_75 ca, k_X7_roomOf_78 ca, k_X7_roomOf_79 ca, k_X7_roomOf_80 ca, k_X7_roomOf_83 ca, k_X7_roomOf_86 ca, k_X7_roomOf_87 ca, k_X7_roomOf_88 ca, k_X7_roomOf_91 ca, k_X7_roomOf_92 ca, k_X7_roomOf_93 ca, k_X7_roomOf_96 ca, k_X7_roomOf_99 ca, k_X7_roomOf_102 ca, k_X7_roomOf_104 ca, k_X7_roomOf_107 ca, k_X7_roomOf_108 ca, k_X7_roomOf_111 ca, k_X7_roomOf_112 ca, k_X7_roomOf_113 ca, k_X7_roomOf_116 ca, k_X7_roomOf_119 ca, k_X7_roomOf_122 ca, k_X7_roomOf_124 ca, k_X7_roomOf_127 ca, k_X7_roomOf_128 ca, k_X7_roomOf_131 ca, k_X7_roomOf_132 ca, k_X7_roomOf_134 ca, z9]
        try clear hF hF0 F
        exact hs
      · rw [show nI 2 = (2 : Int32) from rfl] at *
        rw [if_pos (by decide)] at hs
        refine goN go (stp []) 160 _ _ _ _ _ _ (fun F hF hF0 => ?_)
        simp only [hF, hF0, ite_not, i_push, i_iload, i_lload, i_aload, i_istore, i_astore, i_lstore, i_iinc, i_bin, i_dv, i_un, i_lbin, i_lsh, i_i2l, i_l2i, i_lcmp, i_dup, i_dup2, i_pop, i_if, i_icmp, i_goto, swG, i_sw, i_getf, i_puti, i_putz, i_putr, i_ald, i_lald, i_aald, i_ast, i_last, i_aast, i_alen, i_new, i_newi, i_newl, i_newq, i_oinit, i_ret, i_zret, i_lret, i_vret, catS, tk, rpush, isO, i_m1, i_m2, i_acopy, i_callV, i_callS, KRet, lget, lput, lputL, lcl0, isL, lv0, List.map_cons, List.map_nil, List.length_cons, List.length_nil, List.cons_append, List.nil_append, Nat.reduceAdd, Nat.reduceSub, Nat.reduceLeDiff, List.replicate_succ, List.replicate_zero, List.getElem?_cons_succ, List.getElem?_cons_zero, List.set_cons_succ, List.set_cons_zero, true_and, and_true, if_true, if_false, ↓reduceIte, Nat.le_refl, Value.category, va_up_app, eq_self, stp, Nat.reduceBEq, Bool.or_false, Bool.false_or, Bool.true_or, Bool.or_true, or_true, true_or, bx_uu, implies_true, true_implies, not_true, not_false_eq_true, false_implies, and_self, Nat.reduceLT, Int32.reduceAdd, Int32.reduceSub, Int32.reduceMul, Int32.reduceLE, Int32.reduceLT, Int32.reduceToNatClampNeg, va_rf_some, Bool.false_eq_true, k_X7_roomOf_0 ca, k_X7_roomOf_1 ca, k_X7_roomOf_4 ca, k_X7_roomOf_7 ca, k_X7_roomOf_9 ca, k_X7_roomOf_10 ca, k_X7_roomOf_11 ca, k_X7_roomOf_14 ca, k_X7_roomOf_17 ca, k_X7_roomOf_18 ca, k_X7_roomOf_19 ca, k_X7_roomOf_20 ca, k_X7_roomOf_21 ca, k_X7_roomOf_64 ca, k_X7_roomOf_65 ca, k_X7_roomOf_68 ca, k_X7_roomOf_69 ca, k_X7_roomOf_70 ca, k_X7_roomOf_73 ca, k_X7_roomOf_74 ca, k_X7_roomOf_75 ca, k_X7_roomOf_78 ca, k_X7_roomOf_79 ca, k_X7_roomOf_80 ca, k_X7_roomOf_83 ca, k_X7_roomOf_86 ca, k_X7_roomOf_87 ca, k_X7_roomOf_88 ca, k_X7_roomOf_91 ca, k_X7_roomOf_92 ca, k_X7_roomOf_93 ca, k_X7_roomOf_96 ca, k_X7_roomOf_99 ca, k_X7_roomOf_102 ca, k_X7_roomOf_104 ca, k_X7_roomOf_107 ca, k_X7_roomOf_108 ca, k_X7_roomOf_111 ca, k_X7_roomOf_112 ca, k_X7_roomOf_113 ca, k_X7_roomOf_116 ca, k_X7_roomOf_119 ca, k_X7_roomOf_122 ca, k_X7_roomOf_124 ca, k_X7_roomOf_127 ca, k_X7_roomOf_128 ca, k_X7_roomOf_131 ca, k_X7_roomOf_132 ca, k_X7_roomOf_134 ca, z9]
        try clear hF hF0 F
        exact hs
      · rw [show nI 3 = (3 : Int32) from rfl] at *
        rw [if_pos (by decide), show s (106 + 7 * X + (3 : Int32).toNatClampNeg) = s (106 + 7 * X + 3) from rfl, ← oc] at hs
        refine goN go (stp []) 160 _ _ _ _ _ _ (fun F hF hF0 => ?_)
        simp only [hF, hF0, ite_not, i_push, i_iload, i_lload, i_aload, i_istore, i_astore, i_lstore, i_iinc, i_bin, i_dv, i_un, i_lbin, i_lsh, i_i2l, i_l2i, i_lcmp, i_dup, i_dup2, i_pop, i_if, i_icmp, i_goto, swG, i_sw, i_getf, i_puti, i_putz, i_putr, i_ald, i_lald, i_aald, i_ast, i_last, i_aast, i_alen, i_new, i_newi, i_newl, i_newq, i_oinit, i_ret, i_zret, i_lret, i_vret, catS, tk, rpush, isO, i_m1, i_m2, i_acopy, i_callV, i_callS, KRet, lget, lput, lputL, lcl0, isL, lv0, List.map_cons, List.map_nil, List.length_cons, List.length_nil, List.cons_append, List.nil_append, Nat.reduceAdd, Nat.reduceSub, Nat.reduceLeDiff, List.replicate_succ, List.replicate_zero, List.getElem?_cons_succ, List.getElem?_cons_zero, List.set_cons_succ, List.set_cons_zero, true_and, and_true, if_true, if_false, ↓reduceIte, Nat.le_refl, Value.category, va_up_app, eq_self, stp, Nat.reduceBEq, Bool.or_false, Bool.false_or, Bool.true_or, Bool.or_true, or_true, true_or, bx_uu, implies_true, true_implies, not_true, not_false_eq_true, false_implies, and_self, Nat.reduceLT, Int32.reduceAdd, Int32.reduceSub, Int32.reduceMul, Int32.reduceLE, Int32.reduceLT, Int32.reduceToNatClampNeg, va_rf_some, Bool.false_eq_true, k_X7_roomOf_0 ca, k_X7_roomOf_1 ca, k_X7_roomOf_4 ca, k_X7_roomOf_7 ca, k_X7_roomOf_9 ca, k_X7_roomOf_10 ca, k_X7_roomOf_11 ca, k_X7_roomOf_14 ca, k_X7_roomOf_17 ca, k_X7_roomOf_18 ca, k_X7_roomOf_19 ca, k_X7_roomOf_20 ca, k_X7_roomOf_21 ca, k_X7_roomOf_64 ca, k_X7_roomOf_65 ca, k_X7_roomOf_68 ca, k_X7_roomOf_69 ca, k_X7_roomOf_70 ca, k_X7_roomOf_73 ca, k_X7_roomOf_74 ca, k_X7_roomOf_75 ca, k_X7_roomOf_78 ca, k_X7_roomOf_79 ca, k_X7_roomOf_80 ca, k_X7_roomOf_83 ca, k_X7_roomOf_86 ca, k_X7_roomOf_87 ca, k_X7_roomOf_88 ca, k_X7_roomOf_91 ca, k_X7_roomOf_92 ca, k_X7_roomOf_93 ca, k_X7_roomOf_96 ca, k_X7_roomOf_99 ca, k_X7_roomOf_102 ca, k_X7_roomOf_104 ca, k_X7_roomOf_107 ca, k_X7_roomOf_108 ca, k_X7_roomOf_111 ca, k_X7_roomOf_112 ca, k_X7_roomOf_113 ca, k_X7_roomOf_116 ca, k_X7_roomOf_119 ca, k_X7_roomOf_122 ca, k_X7_roomOf_124 ca, k_X7_roomOf_127 ca, k_X7_roomOf_128 ca, k_X7_roomOf_131 ca, k_X7_roomOf_132 ca, k_X7_roomOf_134 ca, z9, hc, sp_X7_oneIf]
        try clear hF hF0 F
        exact hs
      · rw [show nI 4 = (4 : Int32) from rfl] at *
        rw [if_pos (by decide)] at hs
        refine goN go (stp []) 160 _ _ _ _ _ _ (fun F hF hF0 => ?_)
        simp only [hF, hF0, ite_not, i_push, i_iload, i_lload, i_aload, i_istore, i_astore, i_lstore, i_iinc, i_bin, i_dv, i_un, i_lbin, i_lsh, i_i2l, i_l2i, i_lcmp, i_dup, i_dup2, i_pop, i_if, i_icmp, i_goto, swG, i_sw, i_getf, i_puti, i_putz, i_putr, i_ald, i_lald, i_aald, i_ast, i_last, i_aast, i_alen, i_new, i_newi, i_newl, i_newq, i_oinit, i_ret, i_zret, i_lret, i_vret, catS, tk, rpush, isO, i_m1, i_m2, i_acopy, i_callV, i_callS, KRet, lget, lput, lputL, lcl0, isL, lv0, List.map_cons, List.map_nil, List.length_cons, List.length_nil, List.cons_append, List.nil_append, Nat.reduceAdd, Nat.reduceSub, Nat.reduceLeDiff, List.replicate_succ, List.replicate_zero, List.getElem?_cons_succ, List.getElem?_cons_zero, List.set_cons_succ, List.set_cons_zero, true_and, and_true, if_true, if_false, ↓reduceIte, Nat.le_refl, Value.category, va_up_app, eq_self, stp, Nat.reduceBEq, Bool.or_false, Bool.false_or, Bool.true_or, Bool.or_true, or_true, true_or, bx_uu, implies_true, true_implies, not_true, not_false_eq_true, false_implies, and_self, Nat.reduceLT, Int32.reduceAdd, Int32.reduceSub, Int32.reduceMul, Int32.reduceLE, Int32.reduceLT, Int32.reduceToNatClampNeg, va_rf_some, Bool.false_eq_true, k_X7_roomOf_0 ca, k_X7_roomOf_1 ca, k_X7_roomOf_4 ca, k_X7_roomOf_7 ca, k_X7_roomOf_9 ca, k_X7_roomOf_10 ca, k_X7_roomOf_11 ca, k_X7_roomOf_14 ca, k_X7_roomOf_17 ca, k_X7_roomOf_18 ca, k_X7_roomOf_19 ca, k_X7_roomOf_20 ca, k_X7_roomOf_21 ca, k_X7_roomOf_64 ca, k_X7_roomOf_65 ca, k_X7_roomOf_68 ca, k_X7_roomOf_69 ca, k_X7_roomOf_70 ca, k_X7_roomOf_73 ca, k_X7_roomOf_74 ca, k_X7_roomOf_75 ca, k_X7_roomOf_78 ca, k_X7_roomOf_79 ca, k_X7_roomOf_80 ca, k_X7_roomOf_83 ca, k_X7_roomOf_86 ca, k_X7_roomOf_87 ca, k_X7_roomOf_88 ca, k_X7_roomOf_91 ca, k_X7_roomOf_92 ca, k_X7_roomOf_93 ca, k_X7_roomOf_96 ca, k_X7_roomOf_99 ca, k_X7_roomOf_102 ca, k_X7_roomOf_104 ca, k_X7_roomOf_107 ca, k_X7_roomOf_108 ca, k_X7_roomOf_111 ca, k_X7_roomOf_112 ca, k_X7_roomOf_113 ca, k_X7_roomOf_116 ca, k_X7_roomOf_119 ca, k_X7_roomOf_122 ca, k_X7_roomOf_124 ca, k_X7_roomOf_127 ca, k_X7_roomOf_128 ca, k_X7_roomOf_131 ca, k_X7_roomOf_132 ca, k_X7_roomOf_134 ca, z9]
        try clear hF hF0 F
        exact hs
      · rw [show nI 5 = (5 : Int32) from rfl] at *
        rw [if_neg (by decide)] at hs
        by_cases q4 : s 9 = 0
        · rw [if_pos q4] at hs
          refine goN go (stp []) 160 _ _ _ _ _ _ (fun F hF hF0 => ?_)
          simp only [hF, hF0, ite_not, i_push, i_iload, i_lload, i_aload, i_istore, i_astore, i_lstore, i_iinc, i_bin, i_dv, i_un, i_lbin, i_lsh, i_i2l, i_l2i, i_lcmp, i_dup, i_dup2, i_pop, i_if, i_icmp, i_goto, swG, i_sw, i_getf, i_puti, i_putz, i_putr, i_ald, i_lald, i_aald, i_ast, i_last, i_aast, i_alen, i_new, i_newi, i_newl, i_newq, i_oinit, i_ret, i_zret, i_lret, i_vret, catS, tk, rpush, isO, i_m1, i_m2, i_acopy, i_callV, i_callS, KRet, lget, lput, lputL, lcl0, isL, lv0, List.map_cons, List.map_nil, List.length_cons, List.length_nil, List.cons_append, List.nil_append, Nat.reduceAdd, Nat.reduceSub, Nat.reduceLeDiff, List.replicate_succ, List.replicate_zero, List.getElem?_cons_succ, List.getElem?_cons_zero, List.set_cons_succ, List.set_cons_zero, true_and, and_true, if_true, if_false, ↓reduceIte, Nat.le_refl, Value.category, va_up_app, eq_self, stp, Nat.reduceBEq, Bool.or_false, Bool.false_or, Bool.true_or, Bool.or_true, or_true, true_or, bx_uu, implies_true, true_implies, not_true, not_false_eq_true, false_implies, and_self, Nat.reduceLT, Int32.reduceAdd, Int32.reduceSub, Int32.reduceMul, Int32.reduceLE, Int32.reduceLT, Int32.reduceToNatClampNeg, va_rf_some, Bool.false_eq_true, k_X7_roomOf_0 ca, k_X7_roomOf_1 ca, k_X7_roomOf_4 ca, k_X7_roomOf_7 ca, k_X7_roomOf_9 ca, k_X7_roomOf_10 ca, k_X7_roomOf_11 ca, k_X7_roomOf_14 ca, k_X7_roomOf_17 ca, k_X7_roomOf_18 ca, k_X7_roomOf_19 ca, k_X7_roomOf_20 ca, k_X7_roomOf_21 ca, k_X7_roomOf_64 ca, k_X7_roomOf_65 ca, k_X7_roomOf_68 ca, k_X7_roomOf_69 ca, k_X7_roomOf_70 ca, k_X7_roomOf_73 ca, k_X7_roomOf_74 ca, k_X7_roomOf_75 ca, k_X7_roomOf_78 ca, k_X7_roomOf_79 ca, k_X7_roomOf_80 ca, k_X7_roomOf_83 ca, k_X7_roomOf_86 ca, k_X7_roomOf_87 ca, k_X7_roomOf_88 ca, k_X7_roomOf_91 ca, k_X7_roomOf_92 ca, k_X7_roomOf_93 ca, k_X7_roomOf_96 ca, k_X7_roomOf_99 ca, k_X7_roomOf_102 ca, k_X7_roomOf_104 ca, k_X7_roomOf_107 ca, k_X7_roomOf_108 ca, k_X7_roomOf_111 ca, k_X7_roomOf_112 ca, k_X7_roomOf_113 ca, k_X7_roomOf_116 ca, k_X7_roomOf_119 ca, k_X7_roomOf_122 ca, k_X7_roomOf_124 ca, k_X7_roomOf_127 ca, k_X7_roomOf_128 ca, k_X7_roomOf_131 ca, k_X7_roomOf_132 ca, k_X7_roomOf_134 ca, c0, z0, q4]
          try clear hF hF0 F
          exact hs
        · rw [if_neg q4] at hs
          refine goN go (stp []) 160 _ _ _ _ _ _ (fun F hF hF0 => ?_)
          simp only [hF, hF0, ite_not, i_push, i_iload, i_lload, i_aload, i_istore, i_astore, i_lstore, i_iinc, i_bin, i_dv, i_un, i_lbin, i_lsh, i_i2l, i_l2i, i_lcmp, i_dup, i_dup2, i_pop, i_if, i_icmp, i_goto, swG, i_sw, i_getf, i_puti, i_putz, i_putr, i_ald, i_lald, i_aald, i_ast, i_last, i_aast, i_alen, i_new, i_newi, i_newl, i_newq, i_oinit, i_ret, i_zret, i_lret, i_vret, catS, tk, rpush, isO, i_m1, i_m2, i_acopy, i_callV, i_callS, KRet, lget, lput, lputL, lcl0, isL, lv0, List.map_cons, List.map_nil, List.length_cons, List.length_nil, List.cons_append, List.nil_append, Nat.reduceAdd, Nat.reduceSub, Nat.reduceLeDiff, List.replicate_succ, List.replicate_zero, List.getElem?_cons_succ, List.getElem?_cons_zero, List.set_cons_succ, List.set_cons_zero, true_and, and_true, if_true, if_false, ↓reduceIte, Nat.le_refl, Value.category, va_up_app, eq_self, stp, Nat.reduceBEq, Bool.or_false, Bool.false_or, Bool.true_or, Bool.or_true, or_true, true_or, bx_uu, implies_true, true_implies, not_true, not_false_eq_true, false_implies, and_self, Nat.reduceLT, Int32.reduceAdd, Int32.reduceSub, Int32.reduceMul, Int32.reduceLE, Int32.reduceLT, Int32.reduceToNatClampNeg, va_rf_some, Bool.false_eq_true, k_X7_roomOf_0 ca, k_X7_roomOf_1 ca, k_X7_roomOf_4 ca, k_X7_roomOf_7 ca, k_X7_roomOf_9 ca, k_X7_roomOf_10 ca, k_X7_roomOf_11 ca, k_X7_roomOf_14 ca, k_X7_roomOf_17 ca, k_X7_roomOf_18 ca, k_X7_roomOf_19 ca, k_X7_roomOf_20 ca, k_X7_roomOf_21 ca, k_X7_roomOf_64 ca, k_X7_roomOf_65 ca, k_X7_roomOf_68 ca, k_X7_roomOf_69 ca, k_X7_roomOf_70 ca, k_X7_roomOf_73 ca, k_X7_roomOf_74 ca, k_X7_roomOf_75 ca, k_X7_roomOf_78 ca, k_X7_roomOf_79 ca, k_X7_roomOf_80 ca, k_X7_roomOf_83 ca, k_X7_roomOf_86 ca, k_X7_roomOf_87 ca, k_X7_roomOf_88 ca, k_X7_roomOf_91 ca, k_X7_roomOf_92 ca, k_X7_roomOf_93 ca, k_X7_roomOf_96 ca, k_X7_roomOf_99 ca, k_X7_roomOf_102 ca, k_X7_roomOf_104 ca, k_X7_roomOf_107 ca, k_X7_roomOf_108 ca, k_X7_roomOf_111 ca, k_X7_roomOf_112 ca, k_X7_roomOf_113 ca, k_X7_roomOf_116 ca, k_X7_roomOf_119 ca, k_X7_roomOf_122 ca, k_X7_roomOf_124 ca, k_X7_roomOf_127 ca, k_X7_roomOf_128 ca, k_X7_roomOf_131 ca, k_X7_roomOf_132 ca, k_X7_roomOf_134 ca, c0, z0, z9, q4]
          try clear hF hF0 F
          exact hs
      · rw [show nI 6 = (6 : Int32) from rfl] at *
        rw [if_neg (by decide)] at hs
        by_cases q4 : s 9 = 0
        · rw [if_pos q4] at hs
          refine goN go (stp []) 160 _ _ _ _ _ _ (fun F hF hF0 => ?_)
          simp only [hF, hF0, ite_not, i_push, i_iload, i_lload, i_aload, i_istore, i_astore, i_lstore, i_iinc, i_bin, i_dv, i_un, i_lbin, i_lsh, i_i2l, i_l2i, i_lcmp, i_dup, i_dup2, i_pop, i_if, i_icmp, i_goto, swG, i_sw, i_getf, i_puti, i_putz, i_putr, i_ald, i_lald, i_aald, i_ast, i_last, i_aast, i_alen, i_new, i_newi, i_newl, i_newq, i_oinit, i_ret, i_zret, i_lret, i_vret, catS, tk, rpush, isO, i_m1, i_m2, i_acopy, i_callV, i_callS, KRet, lget, lput, lputL, lcl0, isL, lv0, List.map_cons, List.map_nil, List.length_cons, List.length_nil, List.cons_append, List.nil_append, Nat.reduceAdd, Nat.reduceSub, Nat.reduceLeDiff, List.replicate_succ, List.replicate_zero, List.getElem?_cons_succ, List.getElem?_cons_zero, List.set_cons_succ, List.set_cons_zero, true_and, and_true, if_true, if_false, ↓reduceIte, Nat.le_refl, Value.category, va_up_app, eq_self, stp, Nat.reduceBEq, Bool.or_false, Bool.false_or, Bool.true_or, Bool.or_true, or_true, true_or, bx_uu, implies_true, true_implies, not_true, not_false_eq_true, false_implies, and_self, Nat.reduceLT, Int32.reduceAdd, Int32.reduceSub, Int32.reduceMul, Int32.reduceLE, Int32.reduceLT, Int32.reduceToNatClampNeg, va_rf_some, Bool.false_eq_true, k_X7_roomOf_0 ca, k_X7_roomOf_1 ca, k_X7_roomOf_4 ca, k_X7_roomOf_7 ca, k_X7_roomOf_9 ca, k_X7_roomOf_10 ca, k_X7_roomOf_11 ca, k_X7_roomOf_14 ca, k_X7_roomOf_17 ca, k_X7_roomOf_18 ca, k_X7_roomOf_19 ca, k_X7_roomOf_20 ca, k_X7_roomOf_21 ca, k_X7_roomOf_64 ca, k_X7_roomOf_65 ca, k_X7_roomOf_68 ca, k_X7_roomOf_69 ca, k_X7_roomOf_70 ca, k_X7_roomOf_73 ca, k_X7_roomOf_74 ca, k_X7_roomOf_75 ca, k_X7_roomOf_78 ca, k_X7_roomOf_79 ca, k_X7_roomOf_80 ca, k_X7_roomOf_83 ca, k_X7_roomOf_86 ca, k_X7_roomOf_87 ca, k_X7_roomOf_88 ca, k_X7_roomOf_91 ca, k_X7_roomOf_92 ca, k_X7_roomOf_93 ca, k_X7_roomOf_96 ca, k_X7_roomOf_99 ca, k_X7_roomOf_102 ca, k_X7_roomOf_104 ca, k_X7_roomOf_107 ca, k_X7_roomOf_108 ca, k_X7_roomOf_111 ca, k_X7_roomOf_112 ca, k_X7_roomOf_113 ca, k_X7_roomOf_116 ca, k_X7_roomOf_119 ca, k_X7_roomOf_122 ca, k_X7_roomOf_124 ca, k_X7_roomOf_127 ca, k_X7_roomOf_128 ca, k_X7_roomOf_131 ca, k_X7_roomOf_132 ca, k_X7_roomOf_134 ca, c0, z0, q4]
          try clear hF hF0 F
          exact hs
        · rw [if_neg q4] at hs
          refine goN go (stp []) 160 _ _ _ _ _ _ (fun F hF hF0 => ?_)
          simp only [hF, hF0, ite_not, i_push, i_iload, i_lload, i_aload, i_istore, i_astore, i_lstore, i_iinc, i_bin, i_dv, i_un, i_lbin, i_lsh, i_i2l, i_l2i, i_lcmp, i_dup, i_dup2, i_pop, i_if, i_icmp, i_goto, swG, i_sw, i_getf, i_puti, i_putz, i_putr, i_ald, i_lald, i_aald, i_ast, i_last, i_aast, i_alen, i_new, i_newi, i_newl, i_newq, i_oinit, i_ret, i_zret, i_lret, i_vret, catS, tk, rpush, isO, i_m1, i_m2, i_acopy, i_callV, i_callS, KRet, lget, lput, lputL, lcl0, isL, lv0, List.map_cons, List.map_nil, List.length_cons, List.length_nil, List.cons_append, List.nil_append, Nat.reduceAdd, Nat.reduceSub, Nat.reduceLeDiff, List.replicate_succ, List.replicate_zero, List.getElem?_cons_succ, List.getElem?_cons_zero, List.set_cons_succ, List.set_cons_zero, true_and, and_true, if_true, if_false, ↓reduceIte, Nat.le_refl, Value.category, va_up_app, eq_self, stp, Nat.reduceBEq, Bool.or_false, Bool.false_or, Bool.true_or, Bool.or_true, or_true, true_or, bx_uu, implies_true, true_implies, not_true, not_false_eq_true, false_implies, and_self, Nat.reduceLT, Int32.reduceAdd, Int32.reduceSub, Int32.reduceMul, Int32.reduceLE, Int32.reduceLT, Int32.reduceToNatClampNeg, va_rf_some, Bool.false_eq_true, k_X7_roomOf_0 ca, k_X7_roomOf_1 ca, k_X7_roomOf_4 ca, k_X7_roomOf_7 ca, k_X7_roomOf_9 ca, k_X7_roomOf_10 ca, k_X7_roomOf_11 ca, k_X7_roomOf_14 ca, k_X7_roomOf_17 ca, k_X7_roomOf_18 ca, k_X7_roomOf_19 ca, k_X7_roomOf_20 ca, k_X7_roomOf_21 ca, k_X7_roomOf_64 ca, k_X7_roomOf_65 ca, k_X7_roomOf_68 ca, k_X7_roomOf_69 ca, k_X7_roomOf_70 ca, k_X7_roomOf_73 ca, k_X7_roomOf_74 ca, k_X7_roomOf_75 ca, k_X7_roomOf_78 ca, k_X7_roomOf_79 ca, k_X7_roomOf_80 ca, k_X7_roomOf_83 ca, k_X7_roomOf_86 ca, k_X7_roomOf_87 ca, k_X7_roomOf_88 ca, k_X7_roomOf_91 ca, k_X7_roomOf_92 ca, k_X7_roomOf_93 ca, k_X7_roomOf_96 ca, k_X7_roomOf_99 ca, k_X7_roomOf_102 ca, k_X7_roomOf_104 ca, k_X7_roomOf_107 ca, k_X7_roomOf_108 ca, k_X7_roomOf_111 ca, k_X7_roomOf_112 ca, k_X7_roomOf_113 ca, k_X7_roomOf_116 ca, k_X7_roomOf_119 ca, k_X7_roomOf_122 ca, k_X7_roomOf_124 ca, k_X7_roomOf_127 ca, k_X7_roomOf_128 ca, k_X7_roomOf_131 ca, k_X7_roomOf_132 ca, k_X7_roomOf_134 ca, c0, z0, z9, q4]
          try clear hF hF0 F
          exact hs
def aNum (s : Nat → Int32) (w : Int32) : Int32 := if isIn w 0 5 = true then s w.toNatClampNeg else -10000001
def sp_X7_numberOfMetal (ca : Nat → ClassId) : SPEC := fun av h post => ∃ o b qh qa B x3 x4 x5 lk s oo ss S w, av = [.ref o, .int w] ∧ CN ca h o b qh qa B x3 x4 x5 lk s oo ss S ∧ post (some (.int (aNum s w))) h
def k_X7_numberOfMetal (ca : Nat → ClassId) : Nat → IT := fun pc => lk pc [(0, i_iload 1 1),
  (1, i_push (.int 0) 2),
  (2, i_push (.int 5) 3),
  (3, i_callS 3 0 0 0 0 (sp_X7_isWithin ca) 6),
  (6, i_if (fun x => x = 0) 21 9),
  (9, i_aload 0 10),
  (10, i_getf 7 0 13),
  (13, i_getf 4 0 16),
  (16, i_iload 1 17),
  (17, i_ald (ca 0) 18),
  (18, i_goto 23),
  (21, i_push (.int (-10000001)) 23),
  (23, i_ret)]
set_option maxRecDepth 20000 in
theorem t_X7_numberOfMetal : Tb k_X7_numberOfMetal yX7_numberOfMetal cX7_numberOfMetal 2 (some .int) 1 0 0 := by
  intro l D ca A p e s m args below meth c post X
  unfold k_X7_numberOfMetal
  refine snd_cons (snd_iload_n X dX7_numberOfMetal_0 rfl) ?_
  refine snd_cons (snd_iconst X dX7_numberOfMetal_1 (by decide)) ?_
  refine snd_cons (snd_iconst X dX7_numberOfMetal_2 (by decide)) ?_
  refine snd_cons (snd_callS X (ok_X7_isWithin l D ca) rfl rfl w_281 w_282 w_1 w_283 (by decide) (by decide) dX7_numberOfMetal_3) ?_
  refine snd_cons (snd_if_eq X dX7_numberOfMetal_6 (by decide)) ?_
  refine snd_cons (snd_aload_n X dX7_numberOfMetal_9 rfl) ?_
  refine snd_cons (snd_getf X Fk7 0 (by decide) w_250 dX7_numberOfMetal_10) ?_
  refine snd_cons (snd_getf X Fk4 0 (by decide) w_123 dX7_numberOfMetal_13) ?_
  refine snd_cons (snd_iload_n X dX7_numberOfMetal_16 rfl) ?_
  refine snd_cons (snd_iaload X dX7_numberOfMetal_17) ?_
  refine snd_cons (snd_goto X dX7_numberOfMetal_18 (by decide)) ?_
  refine snd_cons (snd_ldc X w_284 dX7_numberOfMetal_21) ?_
  refine snd_cons (snd_ret X dX7_numberOfMetal_23) ?_
  exact snd_nil
theorem k_X7_numberOfMetal_0 (ca : Nat → ClassId) : k_X7_numberOfMetal ca 0 = i_iload 1 1 := rfl
theorem k_X7_numberOfMetal_1 (ca : Nat → ClassId) : k_X7_numberOfMetal ca 1 = i_push (.int 0) 2 := rfl
theorem k_X7_numberOfMetal_2 (ca : Nat → ClassId) : k_X7_numberOfMetal ca 2 = i_push (.int 5) 3 := rfl
theorem k_X7_numberOfMetal_3 (ca : Nat → ClassId) : k_X7_numberOfMetal ca 3 = i_callS 3 0 0 0 0 (sp_X7_isWithin ca) 6 := rfl
theorem k_X7_numberOfMetal_6 (ca : Nat → ClassId) : k_X7_numberOfMetal ca 6 = i_if (fun x => x = 0) 21 9 := rfl
theorem k_X7_numberOfMetal_9 (ca : Nat → ClassId) : k_X7_numberOfMetal ca 9 = i_aload 0 10 := rfl
theorem k_X7_numberOfMetal_10 (ca : Nat → ClassId) : k_X7_numberOfMetal ca 10 = i_getf 7 0 13 := rfl
theorem k_X7_numberOfMetal_13 (ca : Nat → ClassId) : k_X7_numberOfMetal ca 13 = i_getf 4 0 16 := rfl
theorem k_X7_numberOfMetal_16 (ca : Nat → ClassId) : k_X7_numberOfMetal ca 16 = i_iload 1 17 := rfl
theorem k_X7_numberOfMetal_17 (ca : Nat → ClassId) : k_X7_numberOfMetal ca 17 = i_ald (ca 0) 18 := rfl
theorem k_X7_numberOfMetal_18 (ca : Nat → ClassId) : k_X7_numberOfMetal ca 18 = i_goto 23 := rfl
theorem k_X7_numberOfMetal_21 (ca : Nat → ClassId) : k_X7_numberOfMetal ca 21 = i_push (.int (-10000001)) 23 := rfl
theorem k_X7_numberOfMetal_23 (ca : Nat → ClassId) : k_X7_numberOfMetal ca 23 = i_ret := rfl
set_option maxHeartbeats 4000000 in
set_option maxRecDepth 20000 in
theorem ok_X7_numberOfMetal (l : Launch) (D : va_G) (ca : Nat → ClassId) : OkAll l D ca yX7_numberOfMetal cX7_numberOfMetal 2 (some .int) 1 0 0 (sp_X7_numberOfMetal ca) := by
  intro av h post hs
  obtain ⟨o, b, qh, qa, B, x3, x4, x5, lk, s, oo, ss, S, w, rfl, ⟨c0, hS, hH⟩, hs⟩ := hs
  obtain ⟨z0, ⟨f3, z3, y3⟩, ⟨f4, z4, y4⟩, ⟨f1, z1, y1⟩, ⟨f2, z2, y2⟩⟩ := hS.c
  unfold aNum at hs
  refine okM_of t_X7_numberOfMetal (by decide +kernel) (c1_ref (c1_int c1_nil)) (Nat.le_of_ble_eq_true rfl) ?_
  intro K go
  cases q1 : isIn w 0 5 with
  | false =>
    rw [q1, if_neg (by decide)] at hs
    refine goN go (stp []) 160 _ _ _ _ _ _ (fun F hF hF0 => ?_)
    simp only [hF, hF0, ite_not, i_push, i_iload, i_lload, i_aload, i_istore, i_astore, i_lstore, i_iinc, i_bin, i_dv, i_un, i_lbin, i_lsh, i_i2l, i_l2i, i_lcmp, i_dup, i_dup2, i_pop, i_if, i_icmp, i_goto, swG, i_sw, i_getf, i_puti, i_putz, i_putr, i_ald, i_lald, i_aald, i_ast, i_last, i_aast, i_alen, i_new, i_newi, i_newl, i_newq, i_oinit, i_ret, i_zret, i_lret, i_vret, catS, tk, rpush, isO, i_m1, i_m2, i_acopy, i_callV, i_callS, KRet, lget, lput, lputL, lcl0, isL, lv0, List.map_cons, List.map_nil, List.length_cons, List.length_nil, List.cons_append, List.nil_append, Nat.reduceAdd, Nat.reduceSub, Nat.reduceLeDiff, List.replicate_succ, List.replicate_zero, List.getElem?_cons_succ, List.getElem?_cons_zero, List.set_cons_succ, List.set_cons_zero, true_and, and_true, if_true, if_false, ↓reduceIte, Nat.le_refl, Value.category, va_up_app, eq_self, stp, Nat.reduceBEq, Bool.or_false, Bool.false_or, Bool.true_or, Bool.or_true, or_true, true_or, bx_uu, implies_true, true_implies, not_true, not_false_eq_true, false_implies, and_self, Nat.reduceLT, Int32.reduceAdd, Int32.reduceSub, Int32.reduceMul, Int32.reduceLE, Int32.reduceLT, Int32.reduceToNatClampNeg, va_rf_some, Bool.false_eq_true, k_X7_numberOfMetal_0 ca, k_X7_numberOfMetal_1 ca, k_X7_numberOfMetal_2 ca, k_X7_numberOfMetal_3 ca, k_X7_numberOfMetal_6 ca, k_X7_numberOfMetal_9 ca, k_X7_numberOfMetal_10 ca, k_X7_numberOfMetal_13 ca, k_X7_numberOfMetal_16 ca, k_X7_numberOfMetal_17 ca, k_X7_numberOfMetal_18 ca, k_X7_numberOfMetal_21 ca, k_X7_numberOfMetal_23 ca, sp_X7_isWithin, q1, b2i_f]
    try clear hF hF0 F
    exact hs
  | true =>
    rw [q1, if_pos rfl] at hs
    obtain ⟨W, hW, rfl⟩ := isIn0 (B := 5) rfl q1
    have xw : (nI W).toNatClampNeg = W := tn127 (by omega)
    have vw : vp_in (nI W) 6 := vp_in_nI (by omega) (by decide)
    have e1 := y1 W (by omega)
    rw [xw] at hs
    refine goN go (stp []) 160 _ _ _ _ _ _ (fun F hF hF0 => ?_)
    simp only [hF, hF0, ite_not, i_push, i_iload, i_lload, i_aload, i_istore, i_astore, i_lstore, i_iinc, i_bin, i_dv, i_un, i_lbin, i_lsh, i_i2l, i_l2i, i_lcmp, i_dup, i_dup2, i_pop, i_if, i_icmp, i_goto, swG, i_sw, i_getf, i_puti, i_putz, i_putr, i_ald, i_lald, i_aald, i_ast, i_last, i_aast, i_alen, i_new, i_newi, i_newl, i_newq, i_oinit, i_ret, i_zret, i_lret, i_vret, catS, tk, rpush, isO, i_m1, i_m2, i_acopy, i_callV, i_callS, KRet, lget, lput, lputL, lcl0, isL, lv0, List.map_cons, List.map_nil, List.length_cons, List.length_nil, List.cons_append, List.nil_append, Nat.reduceAdd, Nat.reduceSub, Nat.reduceLeDiff, List.replicate_succ, List.replicate_zero, List.getElem?_cons_succ, List.getElem?_cons_zero, List.set_cons_succ, List.set_cons_zero, true_and, and_true, if_true, if_false, ↓reduceIte, Nat.le_refl, Value.category, va_up_app, eq_self, stp, Nat.reduceBEq, Bool.or_false, Bool.false_or, Bool.true_or, Bool.or_true, or_true, true_or, bx_uu, implies_true, true_implies, not_true, not_false_eq_true, false_implies, and_self, Nat.reduceLT, Int32.reduceAdd, Int32.reduceSub, Int32.reduceMul, Int32.reduceLE, Int32.reduceLT, Int32.reduceToNatClampNeg, va_rf_some, Bool.false_eq_true, k_X7_numberOfMetal_0 ca, k_X7_numberOfMetal_1 ca, k_X7_numberOfMetal_2 ca, k_X7_numberOfMetal_3 ca, k_X7_numberOfMetal_6 ca, k_X7_numberOfMetal_9 ca, k_X7_numberOfMetal_10 ca, k_X7_numberOfMetal_13 ca, k_X7_numberOfMetal_16 ca, k_X7_numberOfMetal_17 ca, k_X7_numberOfMetal_18 ca, k_X7_numberOfMetal_21 ca, k_X7_numberOfMetal_23 ca, sp_X7_isWithin, q1, b2i_t, one0, c0, z0, z1, xw, vw, e1]
    try clear hF hF0 F
    exact hs
theorem num_eq (s : Nat → Int32) (w : Int32) : aNum s (w - 10) = if isIn w 10 15 = true then s (w - 10).toNatClampNeg else -10000001 := by
  unfold aNum
  have e : isIn (w - 10) 0 5 = isIn w 10 15 := by
    have a1 := Int32.toInt_lt w
    have a2 := Int32.le_toInt w
    unfold isIn
    rw [Bool.eq_iff_iff]
    simp only [Bool.and_eq_true, Bool.not_eq_true', decide_eq_false_iff_not, Int32.not_lt, Int32.le_iff_toInt_le, Int32.toInt_sub]
    rw [show (10 : Int32).toInt = 10 from rfl, show (0 : Int32).toInt = 0 from rfl, show (5 : Int32).toInt = 5 from rfl, show (15 : Int32).toInt = 15 from rfl]
    by_cases q : w.toInt - 10 < -2147483648
    · rw [show (w.toInt - 10).bmod (2 ^ 32) = w.toInt - 10 + 4294967296 from by
        rw [← Int.add_bmod_right (w.toInt - 10) (2 ^ 32)]
        exact Int.bmod_eq_of_le (by omega) (by omega)]
      omega
    · rw [Int.bmod_eq_of_le (by omega) (by omega)]
      omega
  rw [e]
def sp_X7_count (ca : Nat → ClassId) : SPEC := fun av h post => ∃ o b qh qa B x3 x4 x5 lk s oo ss S qc n f w, av = [.ref o, .int w] ∧ CN ca h o b qh qa B x3 x4 x5 lk s oo ss S ∧ XAt ca h x3 qc n f ∧ post (some (.int (aCount s ss n w))) h
def k_X7_count (ca : Nat → ClassId) : Nat → IT := fun pc => lk pc [(0, i_iload 1 1),
  (1, i_sw [(0, 44), (1, 52), (2, 60), (3, 68), (4, 76), (5, 84), (6, 94)] 104),
  (44, i_aload 0 45),
  (45, i_getf 7 0 48),
  (48, i_getf 4 5 51),
  (51, i_ret),
  (52, i_aload 0 53),
  (53, i_getf 7 0 56),
  (56, i_callV 4 0 0 0 0 0 (sp_X4_snaps ca) 59),
  (59, i_ret),
  (60, i_aload 0 61),
  (61, i_getf 7 0 64),
  (64, i_getf 4 4 67),
  (67, i_ret),
  (68, i_aload 0 69),
  (69, i_getf 7 1 72),
  (72, i_getf 0 2 75),
  (75, i_ret),
  (76, i_aload 0 77),
  (77, i_getf 7 2 80),
  (80, i_getf 6 1 83),
  (83, i_ret),
  (84, i_aload 0 85),
  (85, i_getf 7 0 88),
  (88, i_getf 4 1 91),
  (91, i_push (.int 0) 92),
  (92, i_ald (ca 0) 93),
  (93, i_ret),
  (94, i_aload 0 95),
  (95, i_getf 7 0 98),
  (98, i_getf 4 1 101),
  (101, i_push (.int 1) 102),
  (102, i_ald (ca 0) 103),
  (103, i_ret),
  (104, i_aload 0 105),
  (105, i_iload 1 106),
  (106, i_push (.int 10) 108),
  (108, i_bin (fun x y => x - y) 109),
  (109, i_callV 7 1 0 0 0 0 (sp_X7_numberOfMetal ca) 112),
  (112, i_ret)]
set_option maxRecDepth 20000 in
theorem t_X7_count : Tb k_X7_count yX7_count cX7_count 2 (some .int) 2 0 0 := by
  intro l D ca A p e s m args below meth c post X
  unfold k_X7_count
  refine snd_cons (snd_iload_n X dX7_count_0 rfl) ?_
  refine snd_cons (snd_table X dX7_count_1 (by decide) (by decide) (by decide)) ?_
  refine snd_cons (snd_aload_n X dX7_count_44 rfl) ?_
  refine snd_cons (snd_getf X Fk7 0 (by decide) w_250 dX7_count_45) ?_
  refine snd_cons (snd_getf X Fk4 5 (by decide) w_134 dX7_count_48) ?_
  refine snd_cons (snd_ret X dX7_count_51) ?_
  refine snd_cons (snd_aload_n X dX7_count_52 rfl) ?_
  refine snd_cons (snd_getf X Fk7 0 (by decide) w_250 dX7_count_53) ?_
  refine snd_cons (snd_callV X Fk4 (ok_X4_snaps l D ca) rfl rfl w_273 w_274 w_275 w_2 w_276 (by decide) (by decide) dX7_count_56) ?_
  refine snd_cons (snd_ret X dX7_count_59) ?_
  refine snd_cons (snd_aload_n X dX7_count_60 rfl) ?_
  refine snd_cons (snd_getf X Fk7 0 (by decide) w_250 dX7_count_61) ?_
  refine snd_cons (snd_getf X Fk4 4 (by decide) w_132 dX7_count_64) ?_
  refine snd_cons (snd_ret X dX7_count_67) ?_
  refine snd_cons (snd_aload_n X dX7_count_68 rfl) ?_
  refine snd_cons (snd_getf X Fk7 1 (by decide) w_251 dX7_count_69) ?_
  refine snd_cons (snd_getf X Fk0 2 (by decide) w_166 dX7_count_72) ?_
  refine snd_cons (snd_ret X dX7_count_75) ?_
  refine snd_cons (snd_aload_n X dX7_count_76 rfl) ?_
  refine snd_cons (snd_getf X Fk7 2 (by decide) w_252 dX7_count_77) ?_
  refine snd_cons (snd_getf X Fk6 1 (by decide) w_182 dX7_count_80) ?_
  refine snd_cons (snd_ret X dX7_count_83) ?_
  refine snd_cons (snd_aload_n X dX7_count_84 rfl) ?_
  refine snd_cons (snd_getf X Fk7 0 (by decide) w_250 dX7_count_85) ?_
  refine snd_cons (snd_getf X Fk4 1 (by decide) w_126 dX7_count_88) ?_
  refine snd_cons (snd_iconst X dX7_count_91 (by decide)) ?_
  refine snd_cons (snd_iaload X dX7_count_92) ?_
  refine snd_cons (snd_ret X dX7_count_93) ?_
  refine snd_cons (snd_aload_n X dX7_count_94 rfl) ?_
  refine snd_cons (snd_getf X Fk7 0 (by decide) w_250 dX7_count_95) ?_
  refine snd_cons (snd_getf X Fk4 1 (by decide) w_126 dX7_count_98) ?_
  refine snd_cons (snd_iconst X dX7_count_101 (by decide)) ?_
  refine snd_cons (snd_iaload X dX7_count_102) ?_
  refine snd_cons (snd_ret X dX7_count_103) ?_
  refine snd_cons (snd_aload_n X dX7_count_104 rfl) ?_
  refine snd_cons (snd_iload_n X dX7_count_105 rfl) ?_
  refine snd_cons (snd_bipush X dX7_count_106 (by decide)) ?_
  refine snd_cons (snd_isub X dX7_count_108) ?_
  refine snd_cons (snd_callV X Fk7 (ok_X7_numberOfMetal l D ca) rfl rfl w_277 w_279 wp_0 w_1 w_280 (by decide) (by decide) dX7_count_109) ?_
  refine snd_cons (snd_ret X dX7_count_112) ?_
  exact snd_nil
theorem k_X7_count_0 (ca : Nat → ClassId) : k_X7_count ca 0 = i_iload 1 1 := rfl
theorem k_X7_count_1 (ca : Nat → ClassId) : k_X7_count ca 1 = i_sw [(0, 44), (1, 52), (2, 60), (3, 68), (4, 76), (5, 84), (6, 94)] 104 := rfl
theorem k_X7_count_44 (ca : Nat → ClassId) : k_X7_count ca 44 = i_aload 0 45 := rfl
theorem k_X7_count_45 (ca : Nat → ClassId) : k_X7_count ca 45 = i_getf 7 0 48 := rfl
theorem k_X7_count_48 (ca : Nat → ClassId) : k_X7_count ca 48 = i_getf 4 5 51 := rfl
theorem k_X7_count_51 (ca : Nat → ClassId) : k_X7_count ca 51 = i_ret := rfl
theorem k_X7_count_52 (ca : Nat → ClassId) : k_X7_count ca 52 = i_aload 0 53 := rfl
theorem k_X7_count_53 (ca : Nat → ClassId) : k_X7_count ca 53 = i_getf 7 0 56 := rfl
theorem k_X7_count_56 (ca : Nat → ClassId) : k_X7_count ca 56 = i_callV 4 0 0 0 0 0 (sp_X4_snaps ca) 59 := rfl
theorem k_X7_count_59 (ca : Nat → ClassId) : k_X7_count ca 59 = i_ret := rfl
theorem k_X7_count_60 (ca : Nat → ClassId) : k_X7_count ca 60 = i_aload 0 61 := rfl
theorem k_X7_count_61 (ca : Nat → ClassId) : k_X7_count ca 61 = i_getf 7 0 64 := rfl
theorem k_X7_count_64 (ca : Nat → ClassId) : k_X7_count ca 64 = i_getf 4 4 67 := rfl
theorem k_X7_count_67 (ca : Nat → ClassId) : k_X7_count ca 67 = i_ret := rfl
theorem k_X7_count_68 (ca : Nat → ClassId) : k_X7_count ca 68 = i_aload 0 69 := rfl
theorem k_X7_count_69 (ca : Nat → ClassId) : k_X7_count ca 69 = i_getf 7 1 72 := rfl
theorem k_X7_count_72 (ca : Nat → ClassId) : k_X7_count ca 72 = i_getf 0 2 75 := rfl
theorem k_X7_count_75 (ca : Nat → ClassId) : k_X7_count ca 75 = i_ret := rfl
theorem k_X7_count_76 (ca : Nat → ClassId) : k_X7_count ca 76 = i_aload 0 77 := rfl
theorem k_X7_count_77 (ca : Nat → ClassId) : k_X7_count ca 77 = i_getf 7 2 80 := rfl
theorem k_X7_count_80 (ca : Nat → ClassId) : k_X7_count ca 80 = i_getf 6 1 83 := rfl
theorem k_X7_count_83 (ca : Nat → ClassId) : k_X7_count ca 83 = i_ret := rfl
theorem k_X7_count_84 (ca : Nat → ClassId) : k_X7_count ca 84 = i_aload 0 85 := rfl
theorem k_X7_count_85 (ca : Nat → ClassId) : k_X7_count ca 85 = i_getf 7 0 88 := rfl
theorem k_X7_count_88 (ca : Nat → ClassId) : k_X7_count ca 88 = i_getf 4 1 91 := rfl
theorem k_X7_count_91 (ca : Nat → ClassId) : k_X7_count ca 91 = i_push (.int 0) 92 := rfl
theorem k_X7_count_92 (ca : Nat → ClassId) : k_X7_count ca 92 = i_ald (ca 0) 93 := rfl
theorem k_X7_count_93 (ca : Nat → ClassId) : k_X7_count ca 93 = i_ret := rfl
theorem k_X7_count_94 (ca : Nat → ClassId) : k_X7_count ca 94 = i_aload 0 95 := rfl
theorem k_X7_count_95 (ca : Nat → ClassId) : k_X7_count ca 95 = i_getf 7 0 98 := rfl
theorem k_X7_count_98 (ca : Nat → ClassId) : k_X7_count ca 98 = i_getf 4 1 101 := rfl
theorem k_X7_count_101 (ca : Nat → ClassId) : k_X7_count ca 101 = i_push (.int 1) 102 := rfl
theorem k_X7_count_102 (ca : Nat → ClassId) : k_X7_count ca 102 = i_ald (ca 0) 103 := rfl
theorem k_X7_count_103 (ca : Nat → ClassId) : k_X7_count ca 103 = i_ret := rfl
theorem k_X7_count_104 (ca : Nat → ClassId) : k_X7_count ca 104 = i_aload 0 105 := rfl
theorem k_X7_count_105 (ca : Nat → ClassId) : k_X7_count ca 105 = i_iload 1 106 := rfl
theorem k_X7_count_106 (ca : Nat → ClassId) : k_X7_count ca 106 = i_push (.int 10) 108 := rfl
theorem k_X7_count_108 (ca : Nat → ClassId) : k_X7_count ca 108 = i_bin (fun x y => x - y) 109 := rfl
theorem k_X7_count_109 (ca : Nat → ClassId) : k_X7_count ca 109 = i_callV 7 1 0 0 0 0 (sp_X7_numberOfMetal ca) 112 := rfl
theorem k_X7_count_112 (ca : Nat → ClassId) : k_X7_count ca 112 = i_ret := rfl
set_option maxHeartbeats 4000000 in
set_option maxRecDepth 20000 in
theorem ok_X7_count (l : Launch) (D : va_G) (ca : Nat → ClassId) : OkAll l D ca yX7_count cX7_count 2 (some .int) 2 0 0 (sp_X7_count ca) := by
  intro av h post hs
  obtain ⟨o, b, qh, qa, B, x3, x4, x5, lk, s, oo, ss, S, qc, n, f, w, rfl, ⟨c0, hS, hH⟩, hX, hs⟩ := hs
  obtain ⟨z0, ⟨f3, z3, y3⟩, ⟨f4, z4, y4⟩, ⟨f1, z1, y1⟩, ⟨f2, z2, y2⟩⟩ := hS.c
  obtain ⟨t0, -⟩ := hX
  have hH0 := hH.1
  unfold eHist at hH0
  unfold aCount at hs
  refine okM_of t_X7_count (by decide +kernel) (c1_ref (c1_int c1_nil)) (Nat.le_of_ble_eq_true rfl) ?_
  intro K go
  by_cases q0 : w = 0
  · subst q0
    rw [if_pos rfl] at hs
    refine goN go (stp []) 160 _ _ _ _ _ _ (fun F hF hF0 => ?_)
    simp only [hF, hF0, ite_not, i_push, i_iload, i_lload, i_aload, i_istore, i_astore, i_lstore, i_iinc, i_bin, i_dv, i_un, i_lbin, i_lsh, i_i2l, i_l2i, i_lcmp, i_dup, i_dup2, i_pop, i_if, i_icmp, i_goto, swG, i_sw, i_getf, i_puti, i_putz, i_putr, i_ald, i_lald, i_aald, i_ast, i_last, i_aast, i_alen, i_new, i_newi, i_newl, i_newq, i_oinit, i_ret, i_zret, i_lret, i_vret, catS, tk, rpush, isO, i_m1, i_m2, i_acopy, i_callV, i_callS, KRet, lget, lput, lputL, lcl0, isL, lv0, List.map_cons, List.map_nil, List.length_cons, List.length_nil, List.cons_append, List.nil_append, Nat.reduceAdd, Nat.reduceSub, Nat.reduceLeDiff, List.replicate_succ, List.replicate_zero, List.getElem?_cons_succ, List.getElem?_cons_zero, List.set_cons_succ, List.set_cons_zero, true_and, and_true, if_true, if_false, ↓reduceIte, Nat.le_refl, Value.category, va_up_app, eq_self, stp, Nat.reduceBEq, Bool.or_false, Bool.false_or, Bool.true_or, Bool.or_true, or_true, true_or, bx_uu, implies_true, true_implies, not_true, not_false_eq_true, false_implies, and_self, Nat.reduceLT, Int32.reduceAdd, Int32.reduceSub, Int32.reduceMul, Int32.reduceLE, Int32.reduceLT, Int32.reduceToNatClampNeg, va_rf_some, Bool.false_eq_true, k_X7_count_0 ca, k_X7_count_1 ca, k_X7_count_44 ca, k_X7_count_45 ca, k_X7_count_48 ca, k_X7_count_51 ca, k_X7_count_52 ca, k_X7_count_53 ca, k_X7_count_56 ca, k_X7_count_59 ca, k_X7_count_60 ca, k_X7_count_61 ca, k_X7_count_64 ca, k_X7_count_67 ca, k_X7_count_68 ca, k_X7_count_69 ca, k_X7_count_72 ca, k_X7_count_75 ca, k_X7_count_76 ca, k_X7_count_77 ca, k_X7_count_80 ca, k_X7_count_83 ca, k_X7_count_84 ca, k_X7_count_85 ca, k_X7_count_88 ca, k_X7_count_91 ca, k_X7_count_92 ca, k_X7_count_93 ca, k_X7_count_94 ca, k_X7_count_95 ca, k_X7_count_98 ca, k_X7_count_101 ca, k_X7_count_102 ca, k_X7_count_103 ca, k_X7_count_104 ca, k_X7_count_105 ca, k_X7_count_106 ca, k_X7_count_108 ca, k_X7_count_109 ca, k_X7_count_112 ca, c0, z0]
    try clear hF hF0 F
    exact hs
  rw [if_neg q0] at hs
  by_cases q1 : w = 1
  · subst q1
    rw [if_pos rfl] at hs
    refine goN go (stp [59]) 160 _ _ _ _ _ _ (fun F hF hF0 => ?_)
    simp only [hF, hF0, ite_not, i_push, i_iload, i_lload, i_aload, i_istore, i_astore, i_lstore, i_iinc, i_bin, i_dv, i_un, i_lbin, i_lsh, i_i2l, i_l2i, i_lcmp, i_dup, i_dup2, i_pop, i_if, i_icmp, i_goto, swG, i_sw, i_getf, i_puti, i_putz, i_putr, i_ald, i_lald, i_aald, i_ast, i_last, i_aast, i_alen, i_new, i_newi, i_newl, i_newq, i_oinit, i_ret, i_zret, i_lret, i_vret, catS, tk, rpush, isO, i_m1, i_m2, i_acopy, i_callV, i_callS, KRet, lget, lput, lputL, lcl0, isL, lv0, List.map_cons, List.map_nil, List.length_cons, List.length_nil, List.cons_append, List.nil_append, Nat.reduceAdd, Nat.reduceSub, Nat.reduceLeDiff, List.replicate_succ, List.replicate_zero, List.getElem?_cons_succ, List.getElem?_cons_zero, List.set_cons_succ, List.set_cons_zero, true_and, and_true, if_true, if_false, ↓reduceIte, Nat.le_refl, Value.category, va_up_app, eq_self, stp, Nat.reduceBEq, Bool.or_false, Bool.false_or, Bool.true_or, Bool.or_true, or_true, true_or, bx_uu, implies_true, true_implies, not_true, not_false_eq_true, false_implies, and_self, Nat.reduceLT, Int32.reduceAdd, Int32.reduceSub, Int32.reduceMul, Int32.reduceLE, Int32.reduceLT, Int32.reduceToNatClampNeg, va_rf_some, Bool.false_eq_true, k_X7_count_0 ca, k_X7_count_1 ca, k_X7_count_44 ca, k_X7_count_45 ca, k_X7_count_48 ca, k_X7_count_51 ca, k_X7_count_52 ca, k_X7_count_53 ca, k_X7_count_56 ca, k_X7_count_59 ca, k_X7_count_60 ca, k_X7_count_61 ca, k_X7_count_64 ca, k_X7_count_67 ca, k_X7_count_68 ca, k_X7_count_69 ca, k_X7_count_72 ca, k_X7_count_75 ca, k_X7_count_76 ca, k_X7_count_77 ca, k_X7_count_80 ca, k_X7_count_83 ca, k_X7_count_84 ca, k_X7_count_85 ca, k_X7_count_88 ca, k_X7_count_91 ca, k_X7_count_92 ca, k_X7_count_93 ca, k_X7_count_94 ca, k_X7_count_95 ca, k_X7_count_98 ca, k_X7_count_101 ca, k_X7_count_102 ca, k_X7_count_103 ca, k_X7_count_104 ca, k_X7_count_105 ca, k_X7_count_106 ca, k_X7_count_108 ca, k_X7_count_109 ca, k_X7_count_112 ca, c0, z0]
    try clear hF hF0 F
    refine ⟨b, s, rfl, hS, ?_⟩
    rw [Int32.zero_add]
    refine goN go (stp []) 160 _ _ _ _ _ _ (fun F hF hF0 => ?_)
    simp only [hF, hF0, ite_not, i_push, i_iload, i_lload, i_aload, i_istore, i_astore, i_lstore, i_iinc, i_bin, i_dv, i_un, i_lbin, i_lsh, i_i2l, i_l2i, i_lcmp, i_dup, i_dup2, i_pop, i_if, i_icmp, i_goto, swG, i_sw, i_getf, i_puti, i_putz, i_putr, i_ald, i_lald, i_aald, i_ast, i_last, i_aast, i_alen, i_new, i_newi, i_newl, i_newq, i_oinit, i_ret, i_zret, i_lret, i_vret, catS, tk, rpush, isO, i_m1, i_m2, i_acopy, i_callV, i_callS, KRet, lget, lput, lputL, lcl0, isL, lv0, List.map_cons, List.map_nil, List.length_cons, List.length_nil, List.cons_append, List.nil_append, Nat.reduceAdd, Nat.reduceSub, Nat.reduceLeDiff, List.replicate_succ, List.replicate_zero, List.getElem?_cons_succ, List.getElem?_cons_zero, List.set_cons_succ, List.set_cons_zero, true_and, and_true, if_true, if_false, ↓reduceIte, Nat.le_refl, Value.category, va_up_app, eq_self, stp, Nat.reduceBEq, Bool.or_false, Bool.false_or, Bool.true_or, Bool.or_true, or_true, true_or, bx_uu, implies_true, true_implies, not_true, not_false_eq_true, false_implies, and_self, Nat.reduceLT, Int32.reduceAdd, Int32.reduceSub, Int32.reduceMul, Int32.reduceLE, Int32.reduceLT, Int32.reduceToNatClampNeg, va_rf_some, Bool.false_eq_true, k_X7_count_0 ca, k_X7_count_1 ca, k_X7_count_44 ca, k_X7_count_45 ca, k_X7_count_48 ca, k_X7_count_51 ca, k_X7_count_52 ca, k_X7_count_53 ca, k_X7_count_56 ca, k_X7_count_59 ca, k_X7_count_60 ca, k_X7_count_61 ca, k_X7_count_64 ca, k_X7_count_67 ca, k_X7_count_68 ca, k_X7_count_69 ca, k_X7_count_72 ca, k_X7_count_75 ca, k_X7_count_76 ca, k_X7_count_77 ca, k_X7_count_80 ca, k_X7_count_83 ca, k_X7_count_84 ca, k_X7_count_85 ca, k_X7_count_88 ca, k_X7_count_91 ca, k_X7_count_92 ca, k_X7_count_93 ca, k_X7_count_94 ca, k_X7_count_95 ca, k_X7_count_98 ca, k_X7_count_101 ca, k_X7_count_102 ca, k_X7_count_103 ca, k_X7_count_104 ca, k_X7_count_105 ca, k_X7_count_106 ca, k_X7_count_108 ca, k_X7_count_109 ca, k_X7_count_112 ca]
    try clear hF hF0 F
    exact hs
  rw [if_neg q1] at hs
  by_cases q2 : w = 2
  · subst q2
    rw [if_pos rfl] at hs
    refine goN go (stp []) 160 _ _ _ _ _ _ (fun F hF hF0 => ?_)
    simp only [hF, hF0, ite_not, i_push, i_iload, i_lload, i_aload, i_istore, i_astore, i_lstore, i_iinc, i_bin, i_dv, i_un, i_lbin, i_lsh, i_i2l, i_l2i, i_lcmp, i_dup, i_dup2, i_pop, i_if, i_icmp, i_goto, swG, i_sw, i_getf, i_puti, i_putz, i_putr, i_ald, i_lald, i_aald, i_ast, i_last, i_aast, i_alen, i_new, i_newi, i_newl, i_newq, i_oinit, i_ret, i_zret, i_lret, i_vret, catS, tk, rpush, isO, i_m1, i_m2, i_acopy, i_callV, i_callS, KRet, lget, lput, lputL, lcl0, isL, lv0, List.map_cons, List.map_nil, List.length_cons, List.length_nil, List.cons_append, List.nil_append, Nat.reduceAdd, Nat.reduceSub, Nat.reduceLeDiff, List.replicate_succ, List.replicate_zero, List.getElem?_cons_succ, List.getElem?_cons_zero, List.set_cons_succ, List.set_cons_zero, true_and, and_true, if_true, if_false, ↓reduceIte, Nat.le_refl, Value.category, va_up_app, eq_self, stp, Nat.reduceBEq, Bool.or_false, Bool.false_or, Bool.true_or, Bool.or_true, or_true, true_or, bx_uu, implies_true, true_implies, not_true, not_false_eq_true, false_implies, and_self, Nat.reduceLT, Int32.reduceAdd, Int32.reduceSub, Int32.reduceMul, Int32.reduceLE, Int32.reduceLT, Int32.reduceToNatClampNeg, va_rf_some, Bool.false_eq_true, k_X7_count_0 ca, k_X7_count_1 ca, k_X7_count_44 ca, k_X7_count_45 ca, k_X7_count_48 ca, k_X7_count_51 ca, k_X7_count_52 ca, k_X7_count_53 ca, k_X7_count_56 ca, k_X7_count_59 ca, k_X7_count_60 ca, k_X7_count_61 ca, k_X7_count_64 ca, k_X7_count_67 ca, k_X7_count_68 ca, k_X7_count_69 ca, k_X7_count_72 ca, k_X7_count_75 ca, k_X7_count_76 ca, k_X7_count_77 ca, k_X7_count_80 ca, k_X7_count_83 ca, k_X7_count_84 ca, k_X7_count_85 ca, k_X7_count_88 ca, k_X7_count_91 ca, k_X7_count_92 ca, k_X7_count_93 ca, k_X7_count_94 ca, k_X7_count_95 ca, k_X7_count_98 ca, k_X7_count_101 ca, k_X7_count_102 ca, k_X7_count_103 ca, k_X7_count_104 ca, k_X7_count_105 ca, k_X7_count_106 ca, k_X7_count_108 ca, k_X7_count_109 ca, k_X7_count_112 ca, c0, z0]
    try clear hF hF0 F
    exact hs
  rw [if_neg q2] at hs
  by_cases q3 : w = 3
  · subst q3
    rw [if_pos rfl] at hs
    refine goN go (stp []) 160 _ _ _ _ _ _ (fun F hF hF0 => ?_)
    simp only [hF, hF0, ite_not, i_push, i_iload, i_lload, i_aload, i_istore, i_astore, i_lstore, i_iinc, i_bin, i_dv, i_un, i_lbin, i_lsh, i_i2l, i_l2i, i_lcmp, i_dup, i_dup2, i_pop, i_if, i_icmp, i_goto, swG, i_sw, i_getf, i_puti, i_putz, i_putr, i_ald, i_lald, i_aald, i_ast, i_last, i_aast, i_alen, i_new, i_newi, i_newl, i_newq, i_oinit, i_ret, i_zret, i_lret, i_vret, catS, tk, rpush, isO, i_m1, i_m2, i_acopy, i_callV, i_callS, KRet, lget, lput, lputL, lcl0, isL, lv0, List.map_cons, List.map_nil, List.length_cons, List.length_nil, List.cons_append, List.nil_append, Nat.reduceAdd, Nat.reduceSub, Nat.reduceLeDiff, List.replicate_succ, List.replicate_zero, List.getElem?_cons_succ, List.getElem?_cons_zero, List.set_cons_succ, List.set_cons_zero, true_and, and_true, if_true, if_false, ↓reduceIte, Nat.le_refl, Value.category, va_up_app, eq_self, stp, Nat.reduceBEq, Bool.or_false, Bool.false_or, Bool.true_or, Bool.or_true, or_true, true_or, bx_uu, implies_true, true_implies, not_true, not_false_eq_true, false_implies, and_self, Nat.reduceLT, Int32.reduceAdd, Int32.reduceSub, Int32.reduceMul, Int32.reduceLE, Int32.reduceLT, Int32.reduceToNatClampNeg, va_rf_some, Bool.false_eq_true, k_X7_count_0 ca, k_X7_count_1 ca, k_X7_count_44 ca, k_X7_count_45 ca, k_X7_count_48 ca, k_X7_count_51 ca, k_X7_count_52 ca, k_X7_count_53 ca, k_X7_count_56 ca, k_X7_count_59 ca, k_X7_count_60 ca, k_X7_count_61 ca, k_X7_count_64 ca, k_X7_count_67 ca, k_X7_count_68 ca, k_X7_count_69 ca, k_X7_count_72 ca, k_X7_count_75 ca, k_X7_count_76 ca, k_X7_count_77 ca, k_X7_count_80 ca, k_X7_count_83 ca, k_X7_count_84 ca, k_X7_count_85 ca, k_X7_count_88 ca, k_X7_count_91 ca, k_X7_count_92 ca, k_X7_count_93 ca, k_X7_count_94 ca, k_X7_count_95 ca, k_X7_count_98 ca, k_X7_count_101 ca, k_X7_count_102 ca, k_X7_count_103 ca, k_X7_count_104 ca, k_X7_count_105 ca, k_X7_count_106 ca, k_X7_count_108 ca, k_X7_count_109 ca, k_X7_count_112 ca, c0, hH0]
    try clear hF hF0 F
    exact hs
  rw [if_neg q3] at hs
  by_cases q4 : w = 4
  · subst q4
    rw [if_pos rfl] at hs
    refine goN go (stp []) 160 _ _ _ _ _ _ (fun F hF hF0 => ?_)
    simp only [hF, hF0, ite_not, i_push, i_iload, i_lload, i_aload, i_istore, i_astore, i_lstore, i_iinc, i_bin, i_dv, i_un, i_lbin, i_lsh, i_i2l, i_l2i, i_lcmp, i_dup, i_dup2, i_pop, i_if, i_icmp, i_goto, swG, i_sw, i_getf, i_puti, i_putz, i_putr, i_ald, i_lald, i_aald, i_ast, i_last, i_aast, i_alen, i_new, i_newi, i_newl, i_newq, i_oinit, i_ret, i_zret, i_lret, i_vret, catS, tk, rpush, isO, i_m1, i_m2, i_acopy, i_callV, i_callS, KRet, lget, lput, lputL, lcl0, isL, lv0, List.map_cons, List.map_nil, List.length_cons, List.length_nil, List.cons_append, List.nil_append, Nat.reduceAdd, Nat.reduceSub, Nat.reduceLeDiff, List.replicate_succ, List.replicate_zero, List.getElem?_cons_succ, List.getElem?_cons_zero, List.set_cons_succ, List.set_cons_zero, true_and, and_true, if_true, if_false, ↓reduceIte, Nat.le_refl, Value.category, va_up_app, eq_self, stp, Nat.reduceBEq, Bool.or_false, Bool.false_or, Bool.true_or, Bool.or_true, or_true, true_or, bx_uu, implies_true, true_implies, not_true, not_false_eq_true, false_implies, and_self, Nat.reduceLT, Int32.reduceAdd, Int32.reduceSub, Int32.reduceMul, Int32.reduceLE, Int32.reduceLT, Int32.reduceToNatClampNeg, va_rf_some, Bool.false_eq_true, k_X7_count_0 ca, k_X7_count_1 ca, k_X7_count_44 ca, k_X7_count_45 ca, k_X7_count_48 ca, k_X7_count_51 ca, k_X7_count_52 ca, k_X7_count_53 ca, k_X7_count_56 ca, k_X7_count_59 ca, k_X7_count_60 ca, k_X7_count_61 ca, k_X7_count_64 ca, k_X7_count_67 ca, k_X7_count_68 ca, k_X7_count_69 ca, k_X7_count_72 ca, k_X7_count_75 ca, k_X7_count_76 ca, k_X7_count_77 ca, k_X7_count_80 ca, k_X7_count_83 ca, k_X7_count_84 ca, k_X7_count_85 ca, k_X7_count_88 ca, k_X7_count_91 ca, k_X7_count_92 ca, k_X7_count_93 ca, k_X7_count_94 ca, k_X7_count_95 ca, k_X7_count_98 ca, k_X7_count_101 ca, k_X7_count_102 ca, k_X7_count_103 ca, k_X7_count_104 ca, k_X7_count_105 ca, k_X7_count_106 ca, k_X7_count_108 ca, k_X7_count_109 ca, k_X7_count_112 ca, c0, t0]
    try clear hF hF0 F
    exact hs
  rw [if_neg q4] at hs
  have s0 := y2 0 (by decide)
  have s1 := y2 1 (by decide)
  by_cases q5 : w = 5
  · subst q5
    rw [if_pos rfl, show s 6 = s (6 + 0) from rfl, ← s0] at hs
    refine goN go (stp []) 160 _ _ _ _ _ _ (fun F hF hF0 => ?_)
    simp only [hF, hF0, ite_not, i_push, i_iload, i_lload, i_aload, i_istore, i_astore, i_lstore, i_iinc, i_bin, i_dv, i_un, i_lbin, i_lsh, i_i2l, i_l2i, i_lcmp, i_dup, i_dup2, i_pop, i_if, i_icmp, i_goto, swG, i_sw, i_getf, i_puti, i_putz, i_putr, i_ald, i_lald, i_aald, i_ast, i_last, i_aast, i_alen, i_new, i_newi, i_newl, i_newq, i_oinit, i_ret, i_zret, i_lret, i_vret, catS, tk, rpush, isO, i_m1, i_m2, i_acopy, i_callV, i_callS, KRet, lget, lput, lputL, lcl0, isL, lv0, List.map_cons, List.map_nil, List.length_cons, List.length_nil, List.cons_append, List.nil_append, Nat.reduceAdd, Nat.reduceSub, Nat.reduceLeDiff, List.replicate_succ, List.replicate_zero, List.getElem?_cons_succ, List.getElem?_cons_zero, List.set_cons_succ, List.set_cons_zero, true_and, and_true, if_true, if_false, ↓reduceIte, Nat.le_refl, Value.category, va_up_app, eq_self, stp, Nat.reduceBEq, Bool.or_false, Bool.false_or, Bool.true_or, Bool.or_true, or_true, true_or, bx_uu, implies_true, true_implies, not_true, not_false_eq_true, false_implies, and_self, Nat.reduceLT, Int32.reduceAdd, Int32.reduceSub, Int32.reduceMul, Int32.reduceLE, Int32.reduceLT, Int32.reduceToNatClampNeg, va_rf_some, Bool.false_eq_true, k_X7_count_0 ca, k_X7_count_1 ca, k_X7_count_44 ca, k_X7_count_45 ca, k_X7_count_48 ca, k_X7_count_51 ca, k_X7_count_52 ca, k_X7_count_53 ca, k_X7_count_56 ca, k_X7_count_59 ca, k_X7_count_60 ca, k_X7_count_61 ca, k_X7_count_64 ca, k_X7_count_67 ca, k_X7_count_68 ca, k_X7_count_69 ca, k_X7_count_72 ca, k_X7_count_75 ca, k_X7_count_76 ca, k_X7_count_77 ca, k_X7_count_80 ca, k_X7_count_83 ca, k_X7_count_84 ca, k_X7_count_85 ca, k_X7_count_88 ca, k_X7_count_91 ca, k_X7_count_92 ca, k_X7_count_93 ca, k_X7_count_94 ca, k_X7_count_95 ca, k_X7_count_98 ca, k_X7_count_101 ca, k_X7_count_102 ca, k_X7_count_103 ca, k_X7_count_104 ca, k_X7_count_105 ca, k_X7_count_106 ca, k_X7_count_108 ca, k_X7_count_109 ca, k_X7_count_112 ca, c0, z0, z2, v02]
    try clear hF hF0 F
    exact hs
  rw [if_neg q5] at hs
  by_cases q6 : w = 6
  · subst q6
    rw [if_pos rfl, show s 7 = s (6 + 1) from rfl, ← s1] at hs
    refine goN go (stp []) 160 _ _ _ _ _ _ (fun F hF hF0 => ?_)
    simp only [hF, hF0, ite_not, i_push, i_iload, i_lload, i_aload, i_istore, i_astore, i_lstore, i_iinc, i_bin, i_dv, i_un, i_lbin, i_lsh, i_i2l, i_l2i, i_lcmp, i_dup, i_dup2, i_pop, i_if, i_icmp, i_goto, swG, i_sw, i_getf, i_puti, i_putz, i_putr, i_ald, i_lald, i_aald, i_ast, i_last, i_aast, i_alen, i_new, i_newi, i_newl, i_newq, i_oinit, i_ret, i_zret, i_lret, i_vret, catS, tk, rpush, isO, i_m1, i_m2, i_acopy, i_callV, i_callS, KRet, lget, lput, lputL, lcl0, isL, lv0, List.map_cons, List.map_nil, List.length_cons, List.length_nil, List.cons_append, List.nil_append, Nat.reduceAdd, Nat.reduceSub, Nat.reduceLeDiff, List.replicate_succ, List.replicate_zero, List.getElem?_cons_succ, List.getElem?_cons_zero, List.set_cons_succ, List.set_cons_zero, true_and, and_true, if_true, if_false, ↓reduceIte, Nat.le_refl, Value.category, va_up_app, eq_self, stp, Nat.reduceBEq, Bool.or_false, Bool.false_or, Bool.true_or, Bool.or_true, or_true, true_or, bx_uu, implies_true, true_implies, not_true, not_false_eq_true, false_implies, and_self, Nat.reduceLT, Int32.reduceAdd, Int32.reduceSub, Int32.reduceMul, Int32.reduceLE, Int32.reduceLT, Int32.reduceToNatClampNeg, va_rf_some, Bool.false_eq_true, k_X7_count_0 ca, k_X7_count_1 ca, k_X7_count_44 ca, k_X7_count_45 ca, k_X7_count_48 ca, k_X7_count_51 ca, k_X7_count_52 ca, k_X7_count_53 ca, k_X7_count_56 ca, k_X7_count_59 ca, k_X7_count_60 ca, k_X7_count_61 ca, k_X7_count_64 ca, k_X7_count_67 ca, k_X7_count_68 ca, k_X7_count_69 ca, k_X7_count_72 ca, k_X7_count_75 ca, k_X7_count_76 ca, k_X7_count_77 ca, k_X7_count_80 ca, k_X7_count_83 ca, k_X7_count_84 ca, k_X7_count_85 ca, k_X7_count_88 ca, k_X7_count_91 ca, k_X7_count_92 ca, k_X7_count_93 ca, k_X7_count_94 ca, k_X7_count_95 ca, k_X7_count_98 ca, k_X7_count_101 ca, k_X7_count_102 ca, k_X7_count_103 ca, k_X7_count_104 ca, k_X7_count_105 ca, k_X7_count_106 ca, k_X7_count_108 ca, k_X7_count_109 ca, k_X7_count_112 ca, c0, z0, z2, v12]
    try clear hF hF0 F
    exact hs
  rw [if_neg q6, ← num_eq] at hs
  refine goN go (stp [112]) 160 _ _ _ _ _ _ (fun F hF hF0 => ?_)
  simp only [hF, hF0, ite_not, i_push, i_iload, i_lload, i_aload, i_istore, i_astore, i_lstore, i_iinc, i_bin, i_dv, i_un, i_lbin, i_lsh, i_i2l, i_l2i, i_lcmp, i_dup, i_dup2, i_pop, i_if, i_icmp, i_goto, swG, i_sw, i_getf, i_puti, i_putz, i_putr, i_ald, i_lald, i_aald, i_ast, i_last, i_aast, i_alen, i_new, i_newi, i_newl, i_newq, i_oinit, i_ret, i_zret, i_lret, i_vret, catS, tk, rpush, isO, i_m1, i_m2, i_acopy, i_callV, i_callS, KRet, lget, lput, lputL, lcl0, isL, lv0, List.map_cons, List.map_nil, List.length_cons, List.length_nil, List.cons_append, List.nil_append, Nat.reduceAdd, Nat.reduceSub, Nat.reduceLeDiff, List.replicate_succ, List.replicate_zero, List.getElem?_cons_succ, List.getElem?_cons_zero, List.set_cons_succ, List.set_cons_zero, true_and, and_true, if_true, if_false, ↓reduceIte, Nat.le_refl, Value.category, va_up_app, eq_self, stp, Nat.reduceBEq, Bool.or_false, Bool.false_or, Bool.true_or, Bool.or_true, or_true, true_or, bx_uu, implies_true, true_implies, not_true, not_false_eq_true, false_implies, and_self, Nat.reduceLT, Int32.reduceAdd, Int32.reduceSub, Int32.reduceMul, Int32.reduceLE, Int32.reduceLT, Int32.reduceToNatClampNeg, va_rf_some, Bool.false_eq_true, k_X7_count_0 ca, k_X7_count_1 ca, k_X7_count_44 ca, k_X7_count_45 ca, k_X7_count_48 ca, k_X7_count_51 ca, k_X7_count_52 ca, k_X7_count_53 ca, k_X7_count_56 ca, k_X7_count_59 ca, k_X7_count_60 ca, k_X7_count_61 ca, k_X7_count_64 ca, k_X7_count_67 ca, k_X7_count_68 ca, k_X7_count_69 ca, k_X7_count_72 ca, k_X7_count_75 ca, k_X7_count_76 ca, k_X7_count_77 ca, k_X7_count_80 ca, k_X7_count_83 ca, k_X7_count_84 ca, k_X7_count_85 ca, k_X7_count_88 ca, k_X7_count_91 ca, k_X7_count_92 ca, k_X7_count_93 ca, k_X7_count_94 ca, k_X7_count_95 ca, k_X7_count_98 ca, k_X7_count_101 ca, k_X7_count_102 ca, k_X7_count_103 ca, k_X7_count_104 ca, k_X7_count_105 ca, k_X7_count_106 ca, k_X7_count_108 ca, k_X7_count_109 ca, k_X7_count_112 ca, q0, q1, q2, q3, q4, q5, q6, c0]
  try clear hF hF0 F
  refine ⟨o, b, qh, qa, B, x3, x4, x5, lk, s, oo, ss, S, w - 10, rfl, ⟨c0, hS, hH⟩, ?_⟩
  refine goN go (stp []) 160 _ _ _ _ _ _ (fun F hF hF0 => ?_)
  simp only [hF, hF0, ite_not, i_push, i_iload, i_lload, i_aload, i_istore, i_astore, i_lstore, i_iinc, i_bin, i_dv, i_un, i_lbin, i_lsh, i_i2l, i_l2i, i_lcmp, i_dup, i_dup2, i_pop, i_if, i_icmp, i_goto, swG, i_sw, i_getf, i_puti, i_putz, i_putr, i_ald, i_lald, i_aald, i_ast, i_last, i_aast, i_alen, i_new, i_newi, i_newl, i_newq, i_oinit, i_ret, i_zret, i_lret, i_vret, catS, tk, rpush, isO, i_m1, i_m2, i_acopy, i_callV, i_callS, KRet, lget, lput, lputL, lcl0, isL, lv0, List.map_cons, List.map_nil, List.length_cons, List.length_nil, List.cons_append, List.nil_append, Nat.reduceAdd, Nat.reduceSub, Nat.reduceLeDiff, List.replicate_succ, List.replicate_zero, List.getElem?_cons_succ, List.getElem?_cons_zero, List.set_cons_succ, List.set_cons_zero, true_and, and_true, if_true, if_false, ↓reduceIte, Nat.le_refl, Value.category, va_up_app, eq_self, stp, Nat.reduceBEq, Bool.or_false, Bool.false_or, Bool.true_or, Bool.or_true, or_true, true_or, bx_uu, implies_true, true_implies, not_true, not_false_eq_true, false_implies, and_self, Nat.reduceLT, Int32.reduceAdd, Int32.reduceSub, Int32.reduceMul, Int32.reduceLE, Int32.reduceLT, Int32.reduceToNatClampNeg, va_rf_some, Bool.false_eq_true, k_X7_count_0 ca, k_X7_count_1 ca, k_X7_count_44 ca, k_X7_count_45 ca, k_X7_count_48 ca, k_X7_count_51 ca, k_X7_count_52 ca, k_X7_count_53 ca, k_X7_count_56 ca, k_X7_count_59 ca, k_X7_count_60 ca, k_X7_count_61 ca, k_X7_count_64 ca, k_X7_count_67 ca, k_X7_count_68 ca, k_X7_count_69 ca, k_X7_count_72 ca, k_X7_count_75 ca, k_X7_count_76 ca, k_X7_count_77 ca, k_X7_count_80 ca, k_X7_count_83 ca, k_X7_count_84 ca, k_X7_count_85 ca, k_X7_count_88 ca, k_X7_count_91 ca, k_X7_count_92 ca, k_X7_count_93 ca, k_X7_count_94 ca, k_X7_count_95 ca, k_X7_count_98 ca, k_X7_count_101 ca, k_X7_count_102 ca, k_X7_count_103 ca, k_X7_count_104 ca, k_X7_count_105 ca, k_X7_count_106 ca, k_X7_count_108 ca, k_X7_count_109 ca, k_X7_count_112 ca]
  try clear hF hF0 F
  exact hs
def sp_X7_bend (ca : Nat → ClassId) : SPEC := fun av h post => ∃ o b qh qa B x3 x4 x5 lk s oo ss S x w, av = [.ref o, .int x, .int w] ∧ CN ca h o b qh qa B x3 x4 x5 lk s oo ss S ∧ WfS s ∧ post (some (.int (aBend s x w))) h
def k_X7_bend (ca : Nat → ClassId) : Nat → IT := fun pc => lk pc [(0, i_iload 1 1),
  (1, i_callS 1 0 0 0 0 (sp_X7_isRoom ca) 4),
  (4, i_if (fun x => x = 0) 14 7),
  (7, i_iload 2 8),
  (8, i_callS 1 0 0 0 0 (sp_X7_isWarmth ca) 11),
  (11, i_if (fun x => ¬ x = 0) 17 14),
  (14, i_push (.int (-10000001)) 16),
  (16, i_ret),
  (17, i_aload 0 18),
  (18, i_getf 7 0 21),
  (21, i_getf 4 2 24),
  (24, i_iload 1 25),
  (25, i_aald (ca 6) 26),
  (26, i_aload 0 27),
  (27, i_getf 7 0 30),
  (30, i_getf 4 0 33),
  (33, i_callV 5 1 0 0 0 0 (sp_X5_rate ca) 36),
  (36, i_iload 2 37),
  (37, i_callS 2 0 0 0 0 (sp_X7_bendAt ca) 40),
  (40, i_ret)]
set_option maxRecDepth 20000 in
theorem t_X7_bend : Tb k_X7_bend yX7_bend cX7_bend 3 (some .int) 2 0 0 := by
  intro l D ca A p e s m args below meth c post X
  unfold k_X7_bend
  refine snd_cons (snd_iload_n X dX7_bend_0 rfl) ?_
  refine snd_cons (snd_callS X (ok_X7_isRoom l D ca) rfl rfl w_327 w_328 w_1 w_329 (by decide) (by decide) dX7_bend_1) ?_
  refine snd_cons (snd_if_eq X dX7_bend_4 (by decide)) ?_
  refine snd_cons (snd_iload_n X dX7_bend_7 rfl) ?_
  refine snd_cons (snd_callS X (ok_X7_isWarmth l D ca) rfl rfl w_395 w_396 w_1 w_397 (by decide) (by decide) dX7_bend_8) ?_
  refine snd_cons (snd_if_ne X dX7_bend_11 (by decide)) ?_
  refine snd_cons (snd_ldc X w_284 dX7_bend_14) ?_
  refine snd_cons (snd_ret X dX7_bend_16) ?_
  refine snd_cons (snd_aload_n X dX7_bend_17 rfl) ?_
  refine snd_cons (snd_getf X Fk7 0 (by decide) w_250 dX7_bend_18) ?_
  refine snd_cons (snd_getf X Fk4 2 (by decide) w_128 dX7_bend_21) ?_
  refine snd_cons (snd_iload_n X dX7_bend_24 rfl) ?_
  refine snd_cons (snd_aaload X 6 rfl dX7_bend_25) ?_
  refine snd_cons (snd_aload_n X dX7_bend_26 rfl) ?_
  refine snd_cons (snd_getf X Fk7 0 (by decide) w_250 dX7_bend_27) ?_
  refine snd_cons (snd_getf X Fk4 0 (by decide) w_123 dX7_bend_30) ?_
  refine snd_cons (snd_callV X Fk5 (ok_X5_rate l D ca) rfl rfl w_334 w_335 w_336 w_3 w_337 (by decide) (by decide) dX7_bend_33) ?_
  refine snd_cons (snd_iload_n X dX7_bend_36 rfl) ?_
  refine snd_cons (snd_callS X (ok_X7_bendAt l D ca) rfl rfl w_377 w_348 w_1 w_349 (by decide) (by decide) dX7_bend_37) ?_
  refine snd_cons (snd_ret X dX7_bend_40) ?_
  exact snd_nil
theorem k_X7_bend_0 (ca : Nat → ClassId) : k_X7_bend ca 0 = i_iload 1 1 := rfl
theorem k_X7_bend_1 (ca : Nat → ClassId) : k_X7_bend ca 1 = i_callS 1 0 0 0 0 (sp_X7_isRoom ca) 4 := rfl
theorem k_X7_bend_4 (ca : Nat → ClassId) : k_X7_bend ca 4 = i_if (fun x => x = 0) 14 7 := rfl
theorem k_X7_bend_7 (ca : Nat → ClassId) : k_X7_bend ca 7 = i_iload 2 8 := rfl
theorem k_X7_bend_8 (ca : Nat → ClassId) : k_X7_bend ca 8 = i_callS 1 0 0 0 0 (sp_X7_isWarmth ca) 11 := rfl
theorem k_X7_bend_11 (ca : Nat → ClassId) : k_X7_bend ca 11 = i_if (fun x => ¬ x = 0) 17 14 := rfl
theorem k_X7_bend_14 (ca : Nat → ClassId) : k_X7_bend ca 14 = i_push (.int (-10000001)) 16 := rfl
theorem k_X7_bend_16 (ca : Nat → ClassId) : k_X7_bend ca 16 = i_ret := rfl
theorem k_X7_bend_17 (ca : Nat → ClassId) : k_X7_bend ca 17 = i_aload 0 18 := rfl
theorem k_X7_bend_18 (ca : Nat → ClassId) : k_X7_bend ca 18 = i_getf 7 0 21 := rfl
theorem k_X7_bend_21 (ca : Nat → ClassId) : k_X7_bend ca 21 = i_getf 4 2 24 := rfl
theorem k_X7_bend_24 (ca : Nat → ClassId) : k_X7_bend ca 24 = i_iload 1 25 := rfl
theorem k_X7_bend_25 (ca : Nat → ClassId) : k_X7_bend ca 25 = i_aald (ca 6) 26 := rfl
theorem k_X7_bend_26 (ca : Nat → ClassId) : k_X7_bend ca 26 = i_aload 0 27 := rfl
theorem k_X7_bend_27 (ca : Nat → ClassId) : k_X7_bend ca 27 = i_getf 7 0 30 := rfl
theorem k_X7_bend_30 (ca : Nat → ClassId) : k_X7_bend ca 30 = i_getf 4 0 33 := rfl
theorem k_X7_bend_33 (ca : Nat → ClassId) : k_X7_bend ca 33 = i_callV 5 1 0 0 0 0 (sp_X5_rate ca) 36 := rfl
theorem k_X7_bend_36 (ca : Nat → ClassId) : k_X7_bend ca 36 = i_iload 2 37 := rfl
theorem k_X7_bend_37 (ca : Nat → ClassId) : k_X7_bend ca 37 = i_callS 2 0 0 0 0 (sp_X7_bendAt ca) 40 := rfl
theorem k_X7_bend_40 (ca : Nat → ClassId) : k_X7_bend ca 40 = i_ret := rfl
set_option maxHeartbeats 4000000 in
set_option maxRecDepth 20000 in
theorem ok_X7_bend (l : Launch) (D : va_G) (ca : Nat → ClassId) : OkAll l D ca yX7_bend cX7_bend 3 (some .int) 2 0 0 (sp_X7_bend ca) := by
  intro av h post hs
  obtain ⟨o, b, qh, qa, B, x3, x4, x5, lk, s, oo, ss, S, x, w, rfl, ⟨c0, hS, hH⟩, hW, hs⟩ := hs
  obtain ⟨z0, ⟨f3, z3, y3⟩, ⟨f4, z4, y4⟩, ⟨f1, z1, y1⟩, ⟨f2, z2, y2⟩⟩ := hS.c
  unfold aBend at hs
  refine okM_of t_X7_bend (by decide +kernel) (c1_ref (c1_int (c1_int c1_nil))) (Nat.le_of_ble_eq_true rfl) ?_
  intro K go
  cases q1 : isIn x 0 2 with
  | false =>
    rw [q1, if_neg (by decide)] at hs
    refine goN go (stp []) 160 _ _ _ _ _ _ (fun F hF hF0 => ?_)
    simp only [hF, hF0, ite_not, i_push, i_iload, i_lload, i_aload, i_istore, i_astore, i_lstore, i_iinc, i_bin, i_dv, i_un, i_lbin, i_lsh, i_i2l, i_l2i, i_lcmp, i_dup, i_dup2, i_pop, i_if, i_icmp, i_goto, swG, i_sw, i_getf, i_puti, i_putz, i_putr, i_ald, i_lald, i_aald, i_ast, i_last, i_aast, i_alen, i_new, i_newi, i_newl, i_newq, i_oinit, i_ret, i_zret, i_lret, i_vret, catS, tk, rpush, isO, i_m1, i_m2, i_acopy, i_callV, i_callS, KRet, lget, lput, lputL, lcl0, isL, lv0, List.map_cons, List.map_nil, List.length_cons, List.length_nil, List.cons_append, List.nil_append, Nat.reduceAdd, Nat.reduceSub, Nat.reduceLeDiff, List.replicate_succ, List.replicate_zero, List.getElem?_cons_succ, List.getElem?_cons_zero, List.set_cons_succ, List.set_cons_zero, true_and, and_true, if_true, if_false, ↓reduceIte, Nat.le_refl, Value.category, va_up_app, eq_self, stp, Nat.reduceBEq, Bool.or_false, Bool.false_or, Bool.true_or, Bool.or_true, or_true, true_or, bx_uu, implies_true, true_implies, not_true, not_false_eq_true, false_implies, and_self, Nat.reduceLT, Int32.reduceAdd, Int32.reduceSub, Int32.reduceMul, Int32.reduceLE, Int32.reduceLT, Int32.reduceToNatClampNeg, va_rf_some, Bool.false_eq_true, k_X7_bend_0 ca, k_X7_bend_1 ca, k_X7_bend_4 ca, k_X7_bend_7 ca, k_X7_bend_8 ca, k_X7_bend_11 ca, k_X7_bend_14 ca, k_X7_bend_16 ca, k_X7_bend_17 ca, k_X7_bend_18 ca, k_X7_bend_21 ca, k_X7_bend_24 ca, k_X7_bend_25 ca, k_X7_bend_26 ca, k_X7_bend_27 ca, k_X7_bend_30 ca, k_X7_bend_33 ca, k_X7_bend_36 ca, k_X7_bend_37 ca, k_X7_bend_40 ca, sp_X7_isRoom, q1, b2i_f]
    try clear hF hF0 F
    exact hs
  | true =>
    rw [q1, if_pos rfl] at hs
    cases q2 : isIn w (-500) 1500 with
    | false =>
      rw [q2, if_neg (by decide)] at hs
      refine goN go (stp []) 160 _ _ _ _ _ _ (fun F hF hF0 => ?_)
      simp only [hF, hF0, ite_not, i_push, i_iload, i_lload, i_aload, i_istore, i_astore, i_lstore, i_iinc, i_bin, i_dv, i_un, i_lbin, i_lsh, i_i2l, i_l2i, i_lcmp, i_dup, i_dup2, i_pop, i_if, i_icmp, i_goto, swG, i_sw, i_getf, i_puti, i_putz, i_putr, i_ald, i_lald, i_aald, i_ast, i_last, i_aast, i_alen, i_new, i_newi, i_newl, i_newq, i_oinit, i_ret, i_zret, i_lret, i_vret, catS, tk, rpush, isO, i_m1, i_m2, i_acopy, i_callV, i_callS, KRet, lget, lput, lputL, lcl0, isL, lv0, List.map_cons, List.map_nil, List.length_cons, List.length_nil, List.cons_append, List.nil_append, Nat.reduceAdd, Nat.reduceSub, Nat.reduceLeDiff, List.replicate_succ, List.replicate_zero, List.getElem?_cons_succ, List.getElem?_cons_zero, List.set_cons_succ, List.set_cons_zero, true_and, and_true, if_true, if_false, ↓reduceIte, Nat.le_refl, Value.category, va_up_app, eq_self, stp, Nat.reduceBEq, Bool.or_false, Bool.false_or, Bool.true_or, Bool.or_true, or_true, true_or, bx_uu, implies_true, true_implies, not_true, not_false_eq_true, false_implies, and_self, Nat.reduceLT, Int32.reduceAdd, Int32.reduceSub, Int32.reduceMul, Int32.reduceLE, Int32.reduceLT, Int32.reduceToNatClampNeg, va_rf_some, Bool.false_eq_true, k_X7_bend_0 ca, k_X7_bend_1 ca, k_X7_bend_4 ca, k_X7_bend_7 ca, k_X7_bend_8 ca, k_X7_bend_11 ca, k_X7_bend_14 ca, k_X7_bend_16 ca, k_X7_bend_17 ca, k_X7_bend_18 ca, k_X7_bend_21 ca, k_X7_bend_24 ca, k_X7_bend_25 ca, k_X7_bend_26 ca, k_X7_bend_27 ca, k_X7_bend_30 ca, k_X7_bend_33 ca, k_X7_bend_36 ca, k_X7_bend_37 ca, k_X7_bend_40 ca, sp_X7_isRoom, sp_X7_isWarmth, q1, q2, b2i_t, b2i_f, one0]
      try clear hF hF0 F
      exact hs
    | true =>
      rw [q2, if_pos rfl] at hs
      obtain ⟨X, hX, rfl⟩ := isIn0 (B := 2) rfl q1
      have xx : (nI X).toNatClampNeg = X := tn127 (by omega)
      have vx := vp3 (k := X) (by omega)
      rw [xx] at hs
      have z6 := y3 X (by omega)
      have z7 := hS.st (k := X) (by omega)
      have z8 := y4 X (by omega)
      have z9 := hS.rm (k := X) (by omega)
      obtain ⟨⟨fl, l1, l2⟩, ⟨fu, u1, u2⟩, ⟨fw, w1, w2⟩⟩ := hS.pl (k := X) (by omega)
      have Wk := hW.k (k := X) (by omega)
      obtain ⟨hN0, hN8, hN9⟩ := id Wk
      obtain ⟨g1, g2⟩ := rate_of Wk l2 u2 w2 y1
      refine goN go (stp []) 160 _ _ _ _ _ _ (fun F hF hF0 => ?_)
      simp only [hF, hF0, ite_not, i_push, i_iload, i_lload, i_aload, i_istore, i_astore, i_lstore, i_iinc, i_bin, i_dv, i_un, i_lbin, i_lsh, i_i2l, i_l2i, i_lcmp, i_dup, i_dup2, i_pop, i_if, i_icmp, i_goto, swG, i_sw, i_getf, i_puti, i_putz, i_putr, i_ald, i_lald, i_aald, i_ast, i_last, i_aast, i_alen, i_new, i_newi, i_newl, i_newq, i_oinit, i_ret, i_zret, i_lret, i_vret, catS, tk, rpush, isO, i_m1, i_m2, i_acopy, i_callV, i_callS, KRet, lget, lput, lputL, lcl0, isL, lv0, List.map_cons, List.map_nil, List.length_cons, List.length_nil, List.cons_append, List.nil_append, Nat.reduceAdd, Nat.reduceSub, Nat.reduceLeDiff, List.replicate_succ, List.replicate_zero, List.getElem?_cons_succ, List.getElem?_cons_zero, List.set_cons_succ, List.set_cons_zero, true_and, and_true, if_true, if_false, ↓reduceIte, Nat.le_refl, Value.category, va_up_app, eq_self, stp, Nat.reduceBEq, Bool.or_false, Bool.false_or, Bool.true_or, Bool.or_true, or_true, true_or, bx_uu, implies_true, true_implies, not_true, not_false_eq_true, false_implies, and_self, Nat.reduceLT, Int32.reduceAdd, Int32.reduceSub, Int32.reduceMul, Int32.reduceLE, Int32.reduceLT, Int32.reduceToNatClampNeg, va_rf_some, Bool.false_eq_true, k_X7_bend_0 ca, k_X7_bend_1 ca, k_X7_bend_4 ca, k_X7_bend_7 ca, k_X7_bend_8 ca, k_X7_bend_11 ca, k_X7_bend_14 ca, k_X7_bend_16 ca, k_X7_bend_17 ca, k_X7_bend_18 ca, k_X7_bend_21 ca, k_X7_bend_24 ca, k_X7_bend_25 ca, k_X7_bend_26 ca, k_X7_bend_27 ca, k_X7_bend_30 ca, k_X7_bend_33 ca, k_X7_bend_36 ca, k_X7_bend_37 ca, k_X7_bend_40 ca, sp_X7_isRoom, sp_X7_isWarmth, q1, q2, b2i_t, one0, c0, z0, z1, z3, z6, z7, vx, xx, l1, u1, w1, sp_X5_rate, sp_X7_bendAt, hN0, hN8, g2]
      try clear hF hF0 F
      exact ⟨g1, hs⟩
def aTripC (s : Nat → Int32) (x w : Int32) : Int32 := if isIn x 0 2 = true then (if isIn w 0 1 = true then (if w = 0 then lPull (rt s (10 + 32 * x.toNatClampNeg)) (s (10 + 32 * x.toNatClampNeg + 2)) else gPull (rt s (10 + 32 * x.toNatClampNeg)) (s (10 + 32 * x.toNatClampNeg + 1))) else -10000001) else -10000001
def sp_X7_tripsAt (ca : Nat → ClassId) : SPEC := fun av h post => ∃ o b qh qa B x3 x4 x5 lk s oo ss S x w, av = [.ref o, .int x, .int w] ∧ CN ca h o b qh qa B x3 x4 x5 lk s oo ss S ∧ WfS s ∧ post (some (.int (aTripC s x w))) h
def k_X7_tripsAt (ca : Nat → ClassId) : Nat → IT := fun pc => lk pc [(0, i_iload 1 1),
  (1, i_callS 1 0 0 0 0 (sp_X7_isRoom ca) 4),
  (4, i_if (fun x => x = 0) 16 7),
  (7, i_iload 2 8),
  (8, i_push (.int 0) 9),
  (9, i_push (.int 1) 10),
  (10, i_callS 3 0 0 0 0 (sp_X7_isWithin ca) 13),
  (13, i_if (fun x => ¬ x = 0) 19 16),
  (16, i_push (.int (-10000001)) 18),
  (18, i_ret),
  (19, i_aload 0 20),
  (20, i_getf 7 0 23),
  (23, i_getf 4 2 26),
  (26, i_iload 1 27),
  (27, i_aald (ca 6) 28),
  (28, i_astore 3 29),
  (29, i_aload 3 30),
  (30, i_aload 0 31),
  (31, i_getf 7 0 34),
  (34, i_getf 4 0 37),
  (37, i_callV 5 1 0 0 0 0 (sp_X5_rate ca) 40),
  (40, i_istore 4 42),
  (42, i_iload 2 43),
  (43, i_if (fun x => ¬ x = 0) 58 46),
  (46, i_iload 4 48),
  (48, i_aload 3 49),
  (49, i_getf 5 5 52),
  (52, i_callS 2 0 0 0 0 (sp_X7_leastPulledUp ca) 55),
  (55, i_goto 67),
  (58, i_iload 4 60),
  (60, i_aload 3 61),
  (61, i_getf 5 4 64),
  (64, i_callS 2 0 0 0 0 (sp_X7_greatestPulledBack ca) 67),
  (67, i_ret)]
set_option maxRecDepth 20000 in
theorem t_X7_tripsAt : Tb k_X7_tripsAt yX7_tripsAt cX7_tripsAt 5 (some .int) 2 0 0 := by
  intro l D ca A p e s m args below meth c post X
  unfold k_X7_tripsAt
  refine snd_cons (snd_iload_n X dX7_tripsAt_0 rfl) ?_
  refine snd_cons (snd_callS X (ok_X7_isRoom l D ca) rfl rfl w_327 w_328 w_1 w_329 (by decide) (by decide) dX7_tripsAt_1) ?_
  refine snd_cons (snd_if_eq X dX7_tripsAt_4 (by decide)) ?_
  refine snd_cons (snd_iload_n X dX7_tripsAt_7 rfl) ?_
  refine snd_cons (snd_iconst X dX7_tripsAt_8 (by decide)) ?_
  refine snd_cons (snd_iconst X dX7_tripsAt_9 (by decide)) ?_
  refine snd_cons (snd_callS X (ok_X7_isWithin l D ca) rfl rfl w_281 w_282 w_1 w_283 (by decide) (by decide) dX7_tripsAt_10) ?_
  refine snd_cons (snd_if_ne X dX7_tripsAt_13 (by decide)) ?_
  refine snd_cons (snd_ldc X w_284 dX7_tripsAt_16) ?_
  refine snd_cons (snd_ret X dX7_tripsAt_18) ?_
  refine snd_cons (snd_aload_n X dX7_tripsAt_19 rfl) ?_
  refine snd_cons (snd_getf X Fk7 0 (by decide) w_250 dX7_tripsAt_20) ?_
  refine snd_cons (snd_getf X Fk4 2 (by decide) w_128 dX7_tripsAt_23) ?_
  refine snd_cons (snd_iload_n X dX7_tripsAt_26 rfl) ?_
  refine snd_cons (snd_aaload X 6 rfl dX7_tripsAt_27) ?_
  refine snd_cons (snd_astore_n X dX7_tripsAt_28 rfl (by decide)) ?_
  refine snd_cons (snd_aload_n X dX7_tripsAt_29 rfl) ?_
  refine snd_cons (snd_aload_n X dX7_tripsAt_30 rfl) ?_
  refine snd_cons (snd_getf X Fk7 0 (by decide) w_250 dX7_tripsAt_31) ?_
  refine snd_cons (snd_getf X Fk4 0 (by decide) w_123 dX7_tripsAt_34) ?_
  refine snd_cons (snd_callV X Fk5 (ok_X5_rate l D ca) rfl rfl w_334 w_335 w_336 w_3 w_337 (by decide) (by decide) dX7_tripsAt_37) ?_
  refine snd_cons (snd_istore X dX7_tripsAt_40 (by decide)) ?_
  refine snd_cons (snd_iload_n X dX7_tripsAt_42 rfl) ?_
  refine snd_cons (snd_if_ne X dX7_tripsAt_43 (by decide)) ?_
  refine snd_cons (snd_iload X dX7_tripsAt_46) ?_
  refine snd_cons (snd_aload_n X dX7_tripsAt_48 rfl) ?_
  refine snd_cons (snd_getf X Fk5 5 (by decide) w_46 dX7_tripsAt_49) ?_
  refine snd_cons (snd_callS X (ok_X7_leastPulledUp l D ca) rfl rfl w_374 w_375 w_1 w_376 (by decide) (by decide) dX7_tripsAt_52) ?_
  refine snd_cons (snd_goto X dX7_tripsAt_55 (by decide)) ?_
  refine snd_cons (snd_iload X dX7_tripsAt_58) ?_
  refine snd_cons (snd_aload_n X dX7_tripsAt_60 rfl) ?_
  refine snd_cons (snd_getf X Fk5 4 (by decide) w_44 dX7_tripsAt_61) ?_
  refine snd_cons (snd_callS X (ok_X7_greatestPulledBack l D ca) rfl rfl w_384 w_385 w_1 w_386 (by decide) (by decide) dX7_tripsAt_64) ?_
  refine snd_cons (snd_ret X dX7_tripsAt_67) ?_
  exact snd_nil
theorem k_X7_tripsAt_0 (ca : Nat → ClassId) : k_X7_tripsAt ca 0 = i_iload 1 1 := rfl
theorem k_X7_tripsAt_1 (ca : Nat → ClassId) : k_X7_tripsAt ca 1 = i_callS 1 0 0 0 0 (sp_X7_isRoom ca) 4 := rfl
theorem k_X7_tripsAt_4 (ca : Nat → ClassId) : k_X7_tripsAt ca 4 = i_if (fun x => x = 0) 16 7 := rfl
theorem k_X7_tripsAt_7 (ca : Nat → ClassId) : k_X7_tripsAt ca 7 = i_iload 2 8 := rfl
theorem k_X7_tripsAt_8 (ca : Nat → ClassId) : k_X7_tripsAt ca 8 = i_push (.int 0) 9 := rfl
theorem k_X7_tripsAt_9 (ca : Nat → ClassId) : k_X7_tripsAt ca 9 = i_push (.int 1) 10 := rfl
theorem k_X7_tripsAt_10 (ca : Nat → ClassId) : k_X7_tripsAt ca 10 = i_callS 3 0 0 0 0 (sp_X7_isWithin ca) 13 := rfl
theorem k_X7_tripsAt_13 (ca : Nat → ClassId) : k_X7_tripsAt ca 13 = i_if (fun x => ¬ x = 0) 19 16 := rfl
theorem k_X7_tripsAt_16 (ca : Nat → ClassId) : k_X7_tripsAt ca 16 = i_push (.int (-10000001)) 18 := rfl
theorem k_X7_tripsAt_18 (ca : Nat → ClassId) : k_X7_tripsAt ca 18 = i_ret := rfl
theorem k_X7_tripsAt_19 (ca : Nat → ClassId) : k_X7_tripsAt ca 19 = i_aload 0 20 := rfl
theorem k_X7_tripsAt_20 (ca : Nat → ClassId) : k_X7_tripsAt ca 20 = i_getf 7 0 23 := rfl
theorem k_X7_tripsAt_23 (ca : Nat → ClassId) : k_X7_tripsAt ca 23 = i_getf 4 2 26 := rfl
theorem k_X7_tripsAt_26 (ca : Nat → ClassId) : k_X7_tripsAt ca 26 = i_iload 1 27 := rfl
theorem k_X7_tripsAt_27 (ca : Nat → ClassId) : k_X7_tripsAt ca 27 = i_aald (ca 6) 28 := rfl
theorem k_X7_tripsAt_28 (ca : Nat → ClassId) : k_X7_tripsAt ca 28 = i_astore 3 29 := rfl
theorem k_X7_tripsAt_29 (ca : Nat → ClassId) : k_X7_tripsAt ca 29 = i_aload 3 30 := rfl
theorem k_X7_tripsAt_30 (ca : Nat → ClassId) : k_X7_tripsAt ca 30 = i_aload 0 31 := rfl
theorem k_X7_tripsAt_31 (ca : Nat → ClassId) : k_X7_tripsAt ca 31 = i_getf 7 0 34 := rfl
theorem k_X7_tripsAt_34 (ca : Nat → ClassId) : k_X7_tripsAt ca 34 = i_getf 4 0 37 := rfl
theorem k_X7_tripsAt_37 (ca : Nat → ClassId) : k_X7_tripsAt ca 37 = i_callV 5 1 0 0 0 0 (sp_X5_rate ca) 40 := rfl
theorem k_X7_tripsAt_40 (ca : Nat → ClassId) : k_X7_tripsAt ca 40 = i_istore 4 42 := rfl
theorem k_X7_tripsAt_42 (ca : Nat → ClassId) : k_X7_tripsAt ca 42 = i_iload 2 43 := rfl
theorem k_X7_tripsAt_43 (ca : Nat → ClassId) : k_X7_tripsAt ca 43 = i_if (fun x => ¬ x = 0) 58 46 := rfl
theorem k_X7_tripsAt_46 (ca : Nat → ClassId) : k_X7_tripsAt ca 46 = i_iload 4 48 := rfl
theorem k_X7_tripsAt_48 (ca : Nat → ClassId) : k_X7_tripsAt ca 48 = i_aload 3 49 := rfl
theorem k_X7_tripsAt_49 (ca : Nat → ClassId) : k_X7_tripsAt ca 49 = i_getf 5 5 52 := rfl
theorem k_X7_tripsAt_52 (ca : Nat → ClassId) : k_X7_tripsAt ca 52 = i_callS 2 0 0 0 0 (sp_X7_leastPulledUp ca) 55 := rfl
theorem k_X7_tripsAt_55 (ca : Nat → ClassId) : k_X7_tripsAt ca 55 = i_goto 67 := rfl
theorem k_X7_tripsAt_58 (ca : Nat → ClassId) : k_X7_tripsAt ca 58 = i_iload 4 60 := rfl
theorem k_X7_tripsAt_60 (ca : Nat → ClassId) : k_X7_tripsAt ca 60 = i_aload 3 61 := rfl
theorem k_X7_tripsAt_61 (ca : Nat → ClassId) : k_X7_tripsAt ca 61 = i_getf 5 4 64 := rfl
theorem k_X7_tripsAt_64 (ca : Nat → ClassId) : k_X7_tripsAt ca 64 = i_callS 2 0 0 0 0 (sp_X7_greatestPulledBack ca) 67 := rfl
theorem k_X7_tripsAt_67 (ca : Nat → ClassId) : k_X7_tripsAt ca 67 = i_ret := rfl
set_option maxHeartbeats 4000000 in
set_option maxRecDepth 20000 in
theorem ok_X7_tripsAt (l : Launch) (D : va_G) (ca : Nat → ClassId) : OkAll l D ca yX7_tripsAt cX7_tripsAt 5 (some .int) 2 0 0 (sp_X7_tripsAt ca) := by
  intro av h post hs
  obtain ⟨o, b, qh, qa, B, x3, x4, x5, lk, s, oo, ss, S, x, w, rfl, ⟨c0, hS, hH⟩, hW, hs⟩ := hs
  obtain ⟨z0, ⟨f3, z3, y3⟩, ⟨f4, z4, y4⟩, ⟨f1, z1, y1⟩, ⟨f2, z2, y2⟩⟩ := hS.c
  unfold aTripC at hs
  refine okM_of t_X7_tripsAt (by decide +kernel) (c1_ref (c1_int (c1_int c1_nil))) (Nat.le_of_ble_eq_true rfl) ?_
  intro K go
  cases q1 : isIn x 0 2 with
  | false =>
    rw [q1, if_neg (by decide)] at hs
    refine goN go (stp []) 160 _ _ _ _ _ _ (fun F hF hF0 => ?_)
    simp only [hF, hF0, ite_not, i_push, i_iload, i_lload, i_aload, i_istore, i_astore, i_lstore, i_iinc, i_bin, i_dv, i_un, i_lbin, i_lsh, i_i2l, i_l2i, i_lcmp, i_dup, i_dup2, i_pop, i_if, i_icmp, i_goto, swG, i_sw, i_getf, i_puti, i_putz, i_putr, i_ald, i_lald, i_aald, i_ast, i_last, i_aast, i_alen, i_new, i_newi, i_newl, i_newq, i_oinit, i_ret, i_zret, i_lret, i_vret, catS, tk, rpush, isO, i_m1, i_m2, i_acopy, i_callV, i_callS, KRet, lget, lput, lputL, lcl0, isL, lv0, List.map_cons, List.map_nil, List.length_cons, List.length_nil, List.cons_append, List.nil_append, Nat.reduceAdd, Nat.reduceSub, Nat.reduceLeDiff, List.replicate_succ, List.replicate_zero, List.getElem?_cons_succ, List.getElem?_cons_zero, List.set_cons_succ, List.set_cons_zero, true_and, and_true, if_true, if_false, ↓reduceIte, Nat.le_refl, Value.category, va_up_app, eq_self, stp, Nat.reduceBEq, Bool.or_false, Bool.false_or, Bool.true_or, Bool.or_true, or_true, true_or, bx_uu, implies_true, true_implies, not_true, not_false_eq_true, false_implies, and_self, Nat.reduceLT, Int32.reduceAdd, Int32.reduceSub, Int32.reduceMul, Int32.reduceLE, Int32.reduceLT, Int32.reduceToNatClampNeg, va_rf_some, Bool.false_eq_true, k_X7_tripsAt_0 ca, k_X7_tripsAt_1 ca, k_X7_tripsAt_4 ca, k_X7_tripsAt_7 ca, k_X7_tripsAt_8 ca, k_X7_tripsAt_9 ca, k_X7_tripsAt_10 ca, k_X7_tripsAt_13 ca, k_X7_tripsAt_16 ca, k_X7_tripsAt_18 ca, k_X7_tripsAt_19 ca, k_X7_tripsAt_20 ca, k_X7_tripsAt_23 ca, k_X7_tripsAt_26 ca, k_X7_tripsAt_27 ca, k_X7_tripsAt_28 ca, k_X7_tripsAt_29 ca, k_X7_tripsAt_30 ca, k_X7_tripsAt_31 ca, k_X7_tripsAt_34 ca, k_X7_tripsAt_37 ca, k_X7_tripsAt_40 ca, k_X7_tripsAt_42 ca, k_X7_tripsAt_43 ca, k_X7_tripsAt_46 ca, k_X7_tripsAt_48 ca, k_X7_tripsAt_49 ca, k_X7_tripsAt_52 ca, k_X7_tripsAt_55 ca, k_X7_tripsAt_58 ca, k_X7_tripsAt_60 ca, k_X7_tripsAt_61 ca, k_X7_tripsAt_64 ca, k_X7_tripsAt_67 ca, sp_X7_isRoom, q1, b2i_f]
    try clear hF hF0 F
    exact hs
  | true =>
    rw [q1, if_pos rfl] at hs
    cases q2 : isIn w 0 1 with
    | false =>
      rw [q2, if_neg (by decide)] at hs
      refine goN go (stp []) 160 _ _ _ _ _ _ (fun F hF hF0 => ?_)
      simp only [hF, hF0, ite_not, i_push, i_iload, i_lload, i_aload, i_istore, i_astore, i_lstore, i_iinc, i_bin, i_dv, i_un, i_lbin, i_lsh, i_i2l, i_l2i, i_lcmp, i_dup, i_dup2, i_pop, i_if, i_icmp, i_goto, swG, i_sw, i_getf, i_puti, i_putz, i_putr, i_ald, i_lald, i_aald, i_ast, i_last, i_aast, i_alen, i_new, i_newi, i_newl, i_newq, i_oinit, i_ret, i_zret, i_lret, i_vret, catS, tk, rpush, isO, i_m1, i_m2, i_acopy, i_callV, i_callS, KRet, lget, lput, lputL, lcl0, isL, lv0, List.map_cons, List.map_nil, List.length_cons, List.length_nil, List.cons_append, List.nil_append, Nat.reduceAdd, Nat.reduceSub, Nat.reduceLeDiff, List.replicate_succ, List.replicate_zero, List.getElem?_cons_succ, List.getElem?_cons_zero, List.set_cons_succ, List.set_cons_zero, true_and, and_true, if_true, if_false, ↓reduceIte, Nat.le_refl, Value.category, va_up_app, eq_self, stp, Nat.reduceBEq, Bool.or_false, Bool.false_or, Bool.true_or, Bool.or_true, or_true, true_or, bx_uu, implies_true, true_implies, not_true, not_false_eq_true, false_implies, and_self, Nat.reduceLT, Int32.reduceAdd, Int32.reduceSub, Int32.reduceMul, Int32.reduceLE, Int32.reduceLT, Int32.reduceToNatClampNeg, va_rf_some, Bool.false_eq_true, k_X7_tripsAt_0 ca, k_X7_tripsAt_1 ca, k_X7_tripsAt_4 ca, k_X7_tripsAt_7 ca, k_X7_tripsAt_8 ca, k_X7_tripsAt_9 ca, k_X7_tripsAt_10 ca, k_X7_tripsAt_13 ca, k_X7_tripsAt_16 ca, k_X7_tripsAt_18 ca, k_X7_tripsAt_19 ca, k_X7_tripsAt_20 ca, k_X7_tripsAt_23 ca, k_X7_tripsAt_26 ca, k_X7_tripsAt_27 ca, k_X7_tripsAt_28 ca, k_X7_tripsAt_29 ca, k_X7_tripsAt_30 ca, k_X7_tripsAt_31 ca, k_X7_tripsAt_34 ca, k_X7_tripsAt_37 ca, k_X7_tripsAt_40 ca, k_X7_tripsAt_42 ca, k_X7_tripsAt_43 ca, k_X7_tripsAt_46 ca, k_X7_tripsAt_48 ca, k_X7_tripsAt_49 ca, k_X7_tripsAt_52 ca, k_X7_tripsAt_55 ca, k_X7_tripsAt_58 ca, k_X7_tripsAt_60 ca, k_X7_tripsAt_61 ca, k_X7_tripsAt_64 ca, k_X7_tripsAt_67 ca, sp_X7_isRoom, sp_X7_isWithin, q1, q2, b2i_t, b2i_f, one0]
      try clear hF hF0 F
      exact hs
    | true =>
      rw [q2, if_pos rfl] at hs
      obtain ⟨X, hX, rfl⟩ := isIn0 (B := 2) rfl q1
      have xx : (nI X).toNatClampNeg = X := tn127 (by omega)
      have vx := vp3 (k := X) (by omega)
      rw [xx] at hs
      have z6 := y3 X (by omega)
      have z7 := hS.st (k := X) (by omega)
      have z8 := y4 X (by omega)
      have z9 := hS.rm (k := X) (by omega)
      obtain ⟨⟨fl, l1, l2⟩, ⟨fu, u1, u2⟩, ⟨fw, w1, w2⟩⟩ := hS.pl (k := X) (by omega)
      have Wk := hW.k (k := X) (by omega)
      obtain ⟨hN0, hN8, hN9⟩ := id Wk
      obtain ⟨g1, g2⟩ := rate_of Wk l2 u2 w2 y1
      refine goN go (stp [42]) 160 _ _ _ _ _ _ (fun F hF hF0 => ?_)
      simp only [hF, hF0, ite_not, i_push, i_iload, i_lload, i_aload, i_istore, i_astore, i_lstore, i_iinc, i_bin, i_dv, i_un, i_lbin, i_lsh, i_i2l, i_l2i, i_lcmp, i_dup, i_dup2, i_pop, i_if, i_icmp, i_goto, swG, i_sw, i_getf, i_puti, i_putz, i_putr, i_ald, i_lald, i_aald, i_ast, i_last, i_aast, i_alen, i_new, i_newi, i_newl, i_newq, i_oinit, i_ret, i_zret, i_lret, i_vret, catS, tk, rpush, isO, i_m1, i_m2, i_acopy, i_callV, i_callS, KRet, lget, lput, lputL, lcl0, isL, lv0, List.map_cons, List.map_nil, List.length_cons, List.length_nil, List.cons_append, List.nil_append, Nat.reduceAdd, Nat.reduceSub, Nat.reduceLeDiff, List.replicate_succ, List.replicate_zero, List.getElem?_cons_succ, List.getElem?_cons_zero, List.set_cons_succ, List.set_cons_zero, true_and, and_true, if_true, if_false, ↓reduceIte, Nat.le_refl, Value.category, va_up_app, eq_self, stp, Nat.reduceBEq, Bool.or_false, Bool.false_or, Bool.true_or, Bool.or_true, or_true, true_or, bx_uu, implies_true, true_implies, not_true, not_false_eq_true, false_implies, and_self, Nat.reduceLT, Int32.reduceAdd, Int32.reduceSub, Int32.reduceMul, Int32.reduceLE, Int32.reduceLT, Int32.reduceToNatClampNeg, va_rf_some, Bool.false_eq_true, k_X7_tripsAt_0 ca, k_X7_tripsAt_1 ca, k_X7_tripsAt_4 ca, k_X7_tripsAt_7 ca, k_X7_tripsAt_8 ca, k_X7_tripsAt_9 ca, k_X7_tripsAt_10 ca, k_X7_tripsAt_13 ca, k_X7_tripsAt_16 ca, k_X7_tripsAt_18 ca, k_X7_tripsAt_19 ca, k_X7_tripsAt_20 ca, k_X7_tripsAt_23 ca, k_X7_tripsAt_26 ca, k_X7_tripsAt_27 ca, k_X7_tripsAt_28 ca, k_X7_tripsAt_29 ca, k_X7_tripsAt_30 ca, k_X7_tripsAt_31 ca, k_X7_tripsAt_34 ca, k_X7_tripsAt_37 ca, k_X7_tripsAt_40 ca, k_X7_tripsAt_42 ca, k_X7_tripsAt_43 ca, k_X7_tripsAt_46 ca, k_X7_tripsAt_48 ca, k_X7_tripsAt_49 ca, k_X7_tripsAt_52 ca, k_X7_tripsAt_55 ca, k_X7_tripsAt_58 ca, k_X7_tripsAt_60 ca, k_X7_tripsAt_61 ca, k_X7_tripsAt_64 ca, k_X7_tripsAt_67 ca, sp_X7_isRoom, sp_X7_isWithin, q1, q2, b2i_t, one0, c0, z0, z1, z3, z6, z7, vx, xx, l1, u1, w1, sp_X5_rate, hN0, hN8, g2]
      try clear hF hF0 F
      refine ⟨g1, ?_⟩
      by_cases q3 : w = 0
      · rw [if_pos q3] at hs
        refine goN go (stp []) 160 _ _ _ _ _ _ (fun F hF hF0 => ?_)
        simp only [hF, hF0, ite_not, i_push, i_iload, i_lload, i_aload, i_istore, i_astore, i_lstore, i_iinc, i_bin, i_dv, i_un, i_lbin, i_lsh, i_i2l, i_l2i, i_lcmp, i_dup, i_dup2, i_pop, i_if, i_icmp, i_goto, swG, i_sw, i_getf, i_puti, i_putz, i_putr, i_ald, i_lald, i_aald, i_ast, i_last, i_aast, i_alen, i_new, i_newi, i_newl, i_newq, i_oinit, i_ret, i_zret, i_lret, i_vret, catS, tk, rpush, isO, i_m1, i_m2, i_acopy, i_callV, i_callS, KRet, lget, lput, lputL, lcl0, isL, lv0, List.map_cons, List.map_nil, List.length_cons, List.length_nil, List.cons_append, List.nil_append, Nat.reduceAdd, Nat.reduceSub, Nat.reduceLeDiff, List.replicate_succ, List.replicate_zero, List.getElem?_cons_succ, List.getElem?_cons_zero, List.set_cons_succ, List.set_cons_zero, true_and, and_true, if_true, if_false, ↓reduceIte, Nat.le_refl, Value.category, va_up_app, eq_self, stp, Nat.reduceBEq, Bool.or_false, Bool.false_or, Bool.true_or, Bool.or_true, or_true, true_or, bx_uu, implies_true, true_implies, not_true, not_false_eq_true, false_implies, and_self, Nat.reduceLT, Int32.reduceAdd, Int32.reduceSub, Int32.reduceMul, Int32.reduceLE, Int32.reduceLT, Int32.reduceToNatClampNeg, va_rf_some, Bool.false_eq_true, k_X7_tripsAt_0 ca, k_X7_tripsAt_1 ca, k_X7_tripsAt_4 ca, k_X7_tripsAt_7 ca, k_X7_tripsAt_8 ca, k_X7_tripsAt_9 ca, k_X7_tripsAt_10 ca, k_X7_tripsAt_13 ca, k_X7_tripsAt_16 ca, k_X7_tripsAt_18 ca, k_X7_tripsAt_19 ca, k_X7_tripsAt_20 ca, k_X7_tripsAt_23 ca, k_X7_tripsAt_26 ca, k_X7_tripsAt_27 ca, k_X7_tripsAt_28 ca, k_X7_tripsAt_29 ca, k_X7_tripsAt_30 ca, k_X7_tripsAt_31 ca, k_X7_tripsAt_34 ca, k_X7_tripsAt_37 ca, k_X7_tripsAt_40 ca, k_X7_tripsAt_42 ca, k_X7_tripsAt_43 ca, k_X7_tripsAt_46 ca, k_X7_tripsAt_48 ca, k_X7_tripsAt_49 ca, k_X7_tripsAt_52 ca, k_X7_tripsAt_55 ca, k_X7_tripsAt_58 ca, k_X7_tripsAt_60 ca, k_X7_tripsAt_61 ca, k_X7_tripsAt_64 ca, k_X7_tripsAt_67 ca, z7, q3, sp_X7_leastPulledUp]
        try clear hF hF0 F
        exact hs
      · rw [if_neg q3] at hs
        refine goN go (stp []) 160 _ _ _ _ _ _ (fun F hF hF0 => ?_)
        simp only [hF, hF0, ite_not, i_push, i_iload, i_lload, i_aload, i_istore, i_astore, i_lstore, i_iinc, i_bin, i_dv, i_un, i_lbin, i_lsh, i_i2l, i_l2i, i_lcmp, i_dup, i_dup2, i_pop, i_if, i_icmp, i_goto, swG, i_sw, i_getf, i_puti, i_putz, i_putr, i_ald, i_lald, i_aald, i_ast, i_last, i_aast, i_alen, i_new, i_newi, i_newl, i_newq, i_oinit, i_ret, i_zret, i_lret, i_vret, catS, tk, rpush, isO, i_m1, i_m2, i_acopy, i_callV, i_callS, KRet, lget, lput, lputL, lcl0, isL, lv0, List.map_cons, List.map_nil, List.length_cons, List.length_nil, List.cons_append, List.nil_append, Nat.reduceAdd, Nat.reduceSub, Nat.reduceLeDiff, List.replicate_succ, List.replicate_zero, List.getElem?_cons_succ, List.getElem?_cons_zero, List.set_cons_succ, List.set_cons_zero, true_and, and_true, if_true, if_false, ↓reduceIte, Nat.le_refl, Value.category, va_up_app, eq_self, stp, Nat.reduceBEq, Bool.or_false, Bool.false_or, Bool.true_or, Bool.or_true, or_true, true_or, bx_uu, implies_true, true_implies, not_true, not_false_eq_true, false_implies, and_self, Nat.reduceLT, Int32.reduceAdd, Int32.reduceSub, Int32.reduceMul, Int32.reduceLE, Int32.reduceLT, Int32.reduceToNatClampNeg, va_rf_some, Bool.false_eq_true, k_X7_tripsAt_0 ca, k_X7_tripsAt_1 ca, k_X7_tripsAt_4 ca, k_X7_tripsAt_7 ca, k_X7_tripsAt_8 ca, k_X7_tripsAt_9 ca, k_X7_tripsAt_10 ca, k_X7_tripsAt_13 ca, k_X7_tripsAt_16 ca, k_X7_tripsAt_18 ca, k_X7_tripsAt_19 ca, k_X7_tripsAt_20 ca, k_X7_tripsAt_23 ca, k_X7_tripsAt_26 ca, k_X7_tripsAt_27 ca, k_X7_tripsAt_28 ca, k_X7_tripsAt_29 ca, k_X7_tripsAt_30 ca, k_X7_tripsAt_31 ca, k_X7_tripsAt_34 ca, k_X7_tripsAt_37 ca, k_X7_tripsAt_40 ca, k_X7_tripsAt_42 ca, k_X7_tripsAt_43 ca, k_X7_tripsAt_46 ca, k_X7_tripsAt_48 ca, k_X7_tripsAt_49 ca, k_X7_tripsAt_52 ca, k_X7_tripsAt_55 ca, k_X7_tripsAt_58 ca, k_X7_tripsAt_60 ca, k_X7_tripsAt_61 ca, k_X7_tripsAt_64 ca, k_X7_tripsAt_67 ca, z7, q3, sp_X7_greatestPulledBack]
        try clear hF hF0 F
        exact hs
def sp_X7_undo (ca : Nat → ClassId) : SPEC := fun av h post => ∃ o b qh qa B x3 x4 x5 lk s oo ss S, av = [.ref o] ∧ DJ o b qh qa B ∧ CN ca h o b qh qa B x3 x4 x5 lk s oo ss S ∧
  (ss = 0 → post (some (.int (-10000002))) h) ∧ (∀ u, ss = u + 1 → BoS (S ((oo + u) % 4)) ∧ ∀ h', CN ca h' o b qh qa B x3 x4 x5 0 (S ((oo + u) % 4)) oo u S → SmC o b qh B h h' → post (some (.int (nI u))) h')
def k_X7_undo (ca : Nat → ClassId) : Nat → IT := fun pc => lk pc [(0, i_aload 0 1),
  (1, i_getf 7 1 4),
  (4, i_getf 0 2 7),
  (7, i_if (fun x => ¬ x = 0) 13 10),
  (10, i_push (.int (-10000002)) 12),
  (12, i_ret),
  (13, i_aload 0 14),
  (14, i_getf 7 1 17),
  (17, i_aload 0 18),
  (18, i_getf 7 0 21),
  (21, i_callV 0 1 0 0 0 0 (sp_X0_giveBack ca) 24),
  (24, i_aload 0 25),
  (25, i_push (.int 0) 26),
  (26, i_putz 7 5 29),
  (29, i_aload 0 30),
  (30, i_getf 7 1 33),
  (33, i_getf 0 2 36),
  (36, i_ret)]
set_option maxRecDepth 20000 in
theorem t_X7_undo : Tb k_X7_undo yX7_undo cX7_undo 1 (some .int) 4 0 0 := by
  intro l D ca A p e s m args below meth c post X
  unfold k_X7_undo
  refine snd_cons (snd_aload_n X dX7_undo_0 rfl) ?_
  refine snd_cons (snd_getf X Fk7 1 (by decide) w_251 dX7_undo_1) ?_
  refine snd_cons (snd_getf X Fk0 2 (by decide) w_166 dX7_undo_4) ?_
  refine snd_cons (snd_if_ne X dX7_undo_7 (by decide)) ?_
  refine snd_cons (snd_ldc X w_289 dX7_undo_10) ?_
  refine snd_cons (snd_ret X dX7_undo_12) ?_
  refine snd_cons (snd_aload_n X dX7_undo_13 rfl) ?_
  refine snd_cons (snd_getf X Fk7 1 (by decide) w_251 dX7_undo_14) ?_
  refine snd_cons (snd_aload_n X dX7_undo_17 rfl) ?_
  refine snd_cons (snd_getf X Fk7 0 (by decide) w_250 dX7_undo_18) ?_
  refine snd_cons (snd_callV X Fk0 (ok_X0_giveBack l D ca) rfl rfl w_290 w_291 w_292 w_5 w_293 (by decide) (by decide) dX7_undo_21) ?_
  refine snd_cons (snd_aload_n X dX7_undo_24 rfl) ?_
  refine snd_cons (snd_iconst X dX7_undo_25 (by decide)) ?_
  refine snd_cons (snd_putz X Fk7 5 (by decide) rfl rfl w_255 dX7_undo_26) ?_
  refine snd_cons (snd_aload_n X dX7_undo_29 rfl) ?_
  refine snd_cons (snd_getf X Fk7 1 (by decide) w_251 dX7_undo_30) ?_
  refine snd_cons (snd_getf X Fk0 2 (by decide) w_166 dX7_undo_33) ?_
  refine snd_cons (snd_ret X dX7_undo_36) ?_
  exact snd_nil
theorem k_X7_undo_0 (ca : Nat → ClassId) : k_X7_undo ca 0 = i_aload 0 1 := rfl
theorem k_X7_undo_1 (ca : Nat → ClassId) : k_X7_undo ca 1 = i_getf 7 1 4 := rfl
theorem k_X7_undo_4 (ca : Nat → ClassId) : k_X7_undo ca 4 = i_getf 0 2 7 := rfl
theorem k_X7_undo_7 (ca : Nat → ClassId) : k_X7_undo ca 7 = i_if (fun x => ¬ x = 0) 13 10 := rfl
theorem k_X7_undo_10 (ca : Nat → ClassId) : k_X7_undo ca 10 = i_push (.int (-10000002)) 12 := rfl
theorem k_X7_undo_12 (ca : Nat → ClassId) : k_X7_undo ca 12 = i_ret := rfl
theorem k_X7_undo_13 (ca : Nat → ClassId) : k_X7_undo ca 13 = i_aload 0 14 := rfl
theorem k_X7_undo_14 (ca : Nat → ClassId) : k_X7_undo ca 14 = i_getf 7 1 17 := rfl
theorem k_X7_undo_17 (ca : Nat → ClassId) : k_X7_undo ca 17 = i_aload 0 18 := rfl
theorem k_X7_undo_18 (ca : Nat → ClassId) : k_X7_undo ca 18 = i_getf 7 0 21 := rfl
theorem k_X7_undo_21 (ca : Nat → ClassId) : k_X7_undo ca 21 = i_callV 0 1 0 0 0 0 (sp_X0_giveBack ca) 24 := rfl
theorem k_X7_undo_24 (ca : Nat → ClassId) : k_X7_undo ca 24 = i_aload 0 25 := rfl
theorem k_X7_undo_25 (ca : Nat → ClassId) : k_X7_undo ca 25 = i_push (.int 0) 26 := rfl
theorem k_X7_undo_26 (ca : Nat → ClassId) : k_X7_undo ca 26 = i_putz 7 5 29 := rfl
theorem k_X7_undo_29 (ca : Nat → ClassId) : k_X7_undo ca 29 = i_aload 0 30 := rfl
theorem k_X7_undo_30 (ca : Nat → ClassId) : k_X7_undo ca 30 = i_getf 7 1 33 := rfl
theorem k_X7_undo_33 (ca : Nat → ClassId) : k_X7_undo ca 33 = i_getf 0 2 36 := rfl
theorem k_X7_undo_36 (ca : Nat → ClassId) : k_X7_undo ca 36 = i_ret := rfl
set_option maxHeartbeats 4000000 in
set_option maxRecDepth 20000 in
theorem ok_X7_undo (l : Launch) (D : va_G) (ca : Nat → ClassId) : OkAll l D ca yX7_undo cX7_undo 1 (some .int) 4 0 0 (sp_X7_undo ca) := by
  intro av h post hs
  obtain ⟨o, b, qh, qa, B, x3, x4, x5, lk, s, oo, ss, S, rfl, J, ⟨c0, hS, hH⟩, hA, hB⟩ := hs
  obtain ⟨j1, j2, j3, j4, j5, j6, j7, j8, j9, j10, j11⟩ := id J
  obtain ⟨e1, ⟨f, e2, e3⟩, e4, e5, e6⟩ := id hH
  unfold eHist at e1
  refine okM_of t_X7_undo (by decide +kernel) (c1_ref c1_nil) (Nat.le_of_ble_eq_true rfl) ?_
  intro K go
  cases ss with
  | zero =>
    have hs := hA rfl
    have g0 : (nI 0 = 0) = True := eq_true nI_0
    refine goN go (stp []) 160 _ _ _ _ _ _ (fun F hF hF0 => ?_)
    simp only [hF, hF0, ite_not, i_push, i_iload, i_lload, i_aload, i_istore, i_astore, i_lstore, i_iinc, i_bin, i_dv, i_un, i_lbin, i_lsh, i_i2l, i_l2i, i_lcmp, i_dup, i_dup2, i_pop, i_if, i_icmp, i_goto, swG, i_sw, i_getf, i_puti, i_putz, i_putr, i_ald, i_lald, i_aald, i_ast, i_last, i_aast, i_alen, i_new, i_newi, i_newl, i_newq, i_oinit, i_ret, i_zret, i_lret, i_vret, catS, tk, rpush, isO, i_m1, i_m2, i_acopy, i_callV, i_callS, KRet, lget, lput, lputL, lcl0, isL, lv0, List.map_cons, List.map_nil, List.length_cons, List.length_nil, List.cons_append, List.nil_append, Nat.reduceAdd, Nat.reduceSub, Nat.reduceLeDiff, List.replicate_succ, List.replicate_zero, List.getElem?_cons_succ, List.getElem?_cons_zero, List.set_cons_succ, List.set_cons_zero, true_and, and_true, if_true, if_false, ↓reduceIte, Nat.le_refl, Value.category, va_up_app, eq_self, stp, Nat.reduceBEq, Bool.or_false, Bool.false_or, Bool.true_or, Bool.or_true, or_true, true_or, bx_uu, implies_true, true_implies, not_true, not_false_eq_true, false_implies, and_self, Nat.reduceLT, Int32.reduceAdd, Int32.reduceSub, Int32.reduceMul, Int32.reduceLE, Int32.reduceLT, Int32.reduceToNatClampNeg, va_rf_some, Bool.false_eq_true, k_X7_undo_0 ca, k_X7_undo_1 ca, k_X7_undo_4 ca, k_X7_undo_7 ca, k_X7_undo_10 ca, k_X7_undo_12 ca, k_X7_undo_13 ca, k_X7_undo_14 ca, k_X7_undo_17 ca, k_X7_undo_18 ca, k_X7_undo_21 ca, k_X7_undo_24 ca, k_X7_undo_25 ca, k_X7_undo_26 ca, k_X7_undo_29 ca, k_X7_undo_30 ca, k_X7_undo_33 ca, k_X7_undo_36 ca, c0, e1, g0]
    try clear hF hF0 F
    exact hs
  | succ u =>
    obtain ⟨hbo, hs⟩ := hB u rfl
    have g0 : (nI (u + 1) = 0) = False := eq_false (nI_ne0 (by omega) (by omega))
    have hsym : ∀ i, i < 4 → Dis b (B i) := fun i hi n k hn hk => ⟨fun z => ((j2 i hi).2.1 k n hk hn).mp z.symm, False.elim⟩
    refine goN go (stp [24]) 160 _ _ _ _ _ _ (fun F hF hF0 => ?_)
    simp only [hF, hF0, ite_not, i_push, i_iload, i_lload, i_aload, i_istore, i_astore, i_lstore, i_iinc, i_bin, i_dv, i_un, i_lbin, i_lsh, i_i2l, i_l2i, i_lcmp, i_dup, i_dup2, i_pop, i_if, i_icmp, i_goto, swG, i_sw, i_getf, i_puti, i_putz, i_putr, i_ald, i_lald, i_aald, i_ast, i_last, i_aast, i_alen, i_new, i_newi, i_newl, i_newq, i_oinit, i_ret, i_zret, i_lret, i_vret, catS, tk, rpush, isO, i_m1, i_m2, i_acopy, i_callV, i_callS, KRet, lget, lput, lputL, lcl0, isL, lv0, List.map_cons, List.map_nil, List.length_cons, List.length_nil, List.cons_append, List.nil_append, Nat.reduceAdd, Nat.reduceSub, Nat.reduceLeDiff, List.replicate_succ, List.replicate_zero, List.getElem?_cons_succ, List.getElem?_cons_zero, List.set_cons_succ, List.set_cons_zero, true_and, and_true, if_true, if_false, ↓reduceIte, Nat.le_refl, Value.category, va_up_app, eq_self, stp, Nat.reduceBEq, Bool.or_false, Bool.false_or, Bool.true_or, Bool.or_true, or_true, true_or, bx_uu, implies_true, true_implies, not_true, not_false_eq_true, false_implies, and_self, Nat.reduceLT, Int32.reduceAdd, Int32.reduceSub, Int32.reduceMul, Int32.reduceLE, Int32.reduceLT, Int32.reduceToNatClampNeg, va_rf_some, Bool.false_eq_true, k_X7_undo_0 ca, k_X7_undo_1 ca, k_X7_undo_4 ca, k_X7_undo_7 ca, k_X7_undo_10 ca, k_X7_undo_12 ca, k_X7_undo_13 ca, k_X7_undo_14 ca, k_X7_undo_17 ca, k_X7_undo_18 ca, k_X7_undo_21 ca, k_X7_undo_24 ca, k_X7_undo_25 ca, k_X7_undo_26 ca, k_X7_undo_29 ca, k_X7_undo_30 ca, k_X7_undo_33 ca, k_X7_undo_36 ca, c0, e1, g0]
    try clear hF hF0 F
    refine ⟨qh, qa, B, b, oo, u, S, s, rfl, hH, fun i hi => ⟨(j2 i hi).1, hsym i hi, (j2 i hi).2.2⟩, j1, j7, j8, hS, hbo, fun h' p1 p2 p3 => ?_⟩
    have g1 : h' o = some (.inr (7, [.ref (b 0), .ref qh, .ref x3, .ref x4, .ref x5, .int lk])) := (p3 o j4 j5).trans c0
    have hC1 : CN ca h' o b qh qa B x3 x4 x5 lk (S ((oo + u) % 4)) oo u S := ⟨g1, p2, p1, ⟨f, (p3 qa j8 j10).trans e2, e3⟩, fun i hi => SAt_kept (e4 i hi) (fun n hn => p3 _ (fun z => (j2 i hi).2.2 n hn z.symm) (fun k hk z => ((j2 i hi).2.1 n k hn hk).mp z)), e5, by omega⟩
    have k0 := hs _ (hC1.setl J 0) (fun z a1 a2 a3 a4 => (va_up_ne _ _ a1).trans (p3 z a3 a2))
    have p1' := p1
    unfold eHist at p1'
    have d4 : (qh = o) = False := eq_false (fun z => j4 z.symm)
    refine goN go (stp []) 160 _ _ _ _ _ _ (fun F hF hF0 => ?_)
    simp only [hF, hF0, ite_not, i_push, i_iload, i_lload, i_aload, i_istore, i_astore, i_lstore, i_iinc, i_bin, i_dv, i_un, i_lbin, i_lsh, i_i2l, i_l2i, i_lcmp, i_dup, i_dup2, i_pop, i_if, i_icmp, i_goto, swG, i_sw, i_getf, i_puti, i_putz, i_putr, i_ald, i_lald, i_aald, i_ast, i_last, i_aast, i_alen, i_new, i_newi, i_newl, i_newq, i_oinit, i_ret, i_zret, i_lret, i_vret, catS, tk, rpush, isO, i_m1, i_m2, i_acopy, i_callV, i_callS, KRet, lget, lput, lputL, lcl0, isL, lv0, List.map_cons, List.map_nil, List.length_cons, List.length_nil, List.cons_append, List.nil_append, Nat.reduceAdd, Nat.reduceSub, Nat.reduceLeDiff, List.replicate_succ, List.replicate_zero, List.getElem?_cons_succ, List.getElem?_cons_zero, List.set_cons_succ, List.set_cons_zero, true_and, and_true, if_true, if_false, ↓reduceIte, Nat.le_refl, Value.category, va_up_app, eq_self, stp, Nat.reduceBEq, Bool.or_false, Bool.false_or, Bool.true_or, Bool.or_true, or_true, true_or, bx_uu, implies_true, true_implies, not_true, not_false_eq_true, false_implies, and_self, Nat.reduceLT, Int32.reduceAdd, Int32.reduceSub, Int32.reduceMul, Int32.reduceLE, Int32.reduceLT, Int32.reduceToNatClampNeg, va_rf_some, Bool.false_eq_true, k_X7_undo_0 ca, k_X7_undo_1 ca, k_X7_undo_4 ca, k_X7_undo_7 ca, k_X7_undo_10 ca, k_X7_undo_12 ca, k_X7_undo_13 ca, k_X7_undo_14 ca, k_X7_undo_17 ca, k_X7_undo_18 ca, k_X7_undo_21 ca, k_X7_undo_24 ca, k_X7_undo_25 ca, k_X7_undo_26 ca, k_X7_undo_29 ca, k_X7_undo_30 ca, k_X7_undo_33 ca, k_X7_undo_36 ca, g1, p1', d4]
    try clear hF hF0 F
    exact k0
def SmT (x3 qc : Nat) (h h' : PH) : Prop := ∀ x : Nat, ¬ x = x3 → ¬ x = qc → h' x = h x
def nar16 (x : Int32) : Int32 := (x.toUInt32 % 65536).toInt32
def sp_X7_type (ca : Nat → ClassId) : SPEC := fun av h post => ∃ o r0 r1 x3 r qc n f x, av = [.ref o, .int x] ∧ h o = some (.inr (7, .ref r0 :: .ref r1 :: .ref x3 :: r)) ∧ XAt ca h x3 qc n f ∧ ¬ qc = x3 ∧ ¬ o = x3 ∧ ¬ o = qc ∧
  (isIn x 32 126 = false → post (some (.int (-10000001))) h) ∧ (isIn x 32 126 = true → n = 60 → post (some (.int (-10000003))) h) ∧ (isIn x 32 126 = true → n < 60 → ∀ h', XAt ca h' x3 qc (n + 1) (upd f n (vp_nar .char (nar16 x))) → SmT x3 qc h h' → post (some (.int (nI (n + 1)))) h')
def k_X7_type (ca : Nat → ClassId) : Nat → IT := fun pc => lk pc [(0, i_iload 1 1),
  (1, i_push (.int 32) 3),
  (3, i_push (.int 126) 5),
  (5, i_callS 3 0 0 0 0 (sp_X7_isWithin ca) 8),
  (8, i_if (fun x => ¬ x = 0) 14 11),
  (11, i_push (.int (-10000001)) 13),
  (13, i_ret),
  (14, i_aload 0 15),
  (15, i_getf 7 2 18),
  (18, i_getf 6 1 21),
  (21, i_push (.int 60) 23),
  (23, i_icmp (fun x y => x < y) 29 26),
  (26, i_push (.int (-10000003)) 28),
  (28, i_ret),
  (29, i_aload 0 30),
  (30, i_getf 7 2 33),
  (33, i_iload 1 34),
  (34, i_un (fun x => (x.toUInt32 % 65536).toInt32) 35),
  (35, i_callV 6 1 0 0 0 0 (sp_X6_append ca) 38),
  (38, i_aload 0 39),
  (39, i_getf 7 2 42),
  (42, i_getf 6 1 45),
  (45, i_ret)]
set_option maxRecDepth 20000 in
theorem t_X7_type : Tb k_X7_type yX7_type cX7_type 2 (some .int) 1 0 0 := by
  intro l D ca A p e s m args below meth c post X
  unfold k_X7_type
  refine snd_cons (snd_iload_n X dX7_type_0 rfl) ?_
  refine snd_cons (snd_bipush X dX7_type_1 (by decide)) ?_
  refine snd_cons (snd_bipush X dX7_type_3 (by decide)) ?_
  refine snd_cons (snd_callS X (ok_X7_isWithin l D ca) rfl rfl w_281 w_282 w_1 w_283 (by decide) (by decide) dX7_type_5) ?_
  refine snd_cons (snd_if_ne X dX7_type_8 (by decide)) ?_
  refine snd_cons (snd_ldc X w_284 dX7_type_11) ?_
  refine snd_cons (snd_ret X dX7_type_13) ?_
  refine snd_cons (snd_aload_n X dX7_type_14 rfl) ?_
  refine snd_cons (snd_getf X Fk7 2 (by decide) w_252 dX7_type_15) ?_
  refine snd_cons (snd_getf X Fk6 1 (by decide) w_182 dX7_type_18) ?_
  refine snd_cons (snd_bipush X dX7_type_21 (by decide)) ?_
  refine snd_cons (snd_icmp_lt X dX7_type_23 (by decide)) ?_
  refine snd_cons (snd_ldc X w_473 dX7_type_26) ?_
  refine snd_cons (snd_ret X dX7_type_28) ?_
  refine snd_cons (snd_aload_n X dX7_type_29 rfl) ?_
  refine snd_cons (snd_getf X Fk7 2 (by decide) w_252 dX7_type_30) ?_
  refine snd_cons (snd_iload_n X dX7_type_33 rfl) ?_
  refine snd_cons (snd_i2c X dX7_type_34) ?_
  refine snd_cons (snd_callV X Fk6 (ok_X6_append l D ca) rfl rfl w_552 w_553 w_554 w_6 w_555 (by decide) (by decide) dX7_type_35) ?_
  refine snd_cons (snd_aload_n X dX7_type_38 rfl) ?_
  refine snd_cons (snd_getf X Fk7 2 (by decide) w_252 dX7_type_39) ?_
  refine snd_cons (snd_getf X Fk6 1 (by decide) w_182 dX7_type_42) ?_
  refine snd_cons (snd_ret X dX7_type_45) ?_
  exact snd_nil
theorem k_X7_type_0 (ca : Nat → ClassId) : k_X7_type ca 0 = i_iload 1 1 := rfl
theorem k_X7_type_1 (ca : Nat → ClassId) : k_X7_type ca 1 = i_push (.int 32) 3 := rfl
theorem k_X7_type_3 (ca : Nat → ClassId) : k_X7_type ca 3 = i_push (.int 126) 5 := rfl
theorem k_X7_type_5 (ca : Nat → ClassId) : k_X7_type ca 5 = i_callS 3 0 0 0 0 (sp_X7_isWithin ca) 8 := rfl
theorem k_X7_type_8 (ca : Nat → ClassId) : k_X7_type ca 8 = i_if (fun x => ¬ x = 0) 14 11 := rfl
theorem k_X7_type_11 (ca : Nat → ClassId) : k_X7_type ca 11 = i_push (.int (-10000001)) 13 := rfl
theorem k_X7_type_13 (ca : Nat → ClassId) : k_X7_type ca 13 = i_ret := rfl
theorem k_X7_type_14 (ca : Nat → ClassId) : k_X7_type ca 14 = i_aload 0 15 := rfl
theorem k_X7_type_15 (ca : Nat → ClassId) : k_X7_type ca 15 = i_getf 7 2 18 := rfl
theorem k_X7_type_18 (ca : Nat → ClassId) : k_X7_type ca 18 = i_getf 6 1 21 := rfl
theorem k_X7_type_21 (ca : Nat → ClassId) : k_X7_type ca 21 = i_push (.int 60) 23 := rfl
theorem k_X7_type_23 (ca : Nat → ClassId) : k_X7_type ca 23 = i_icmp (fun x y => x < y) 29 26 := rfl
theorem k_X7_type_26 (ca : Nat → ClassId) : k_X7_type ca 26 = i_push (.int (-10000003)) 28 := rfl
theorem k_X7_type_28 (ca : Nat → ClassId) : k_X7_type ca 28 = i_ret := rfl
theorem k_X7_type_29 (ca : Nat → ClassId) : k_X7_type ca 29 = i_aload 0 30 := rfl
theorem k_X7_type_30 (ca : Nat → ClassId) : k_X7_type ca 30 = i_getf 7 2 33 := rfl
theorem k_X7_type_33 (ca : Nat → ClassId) : k_X7_type ca 33 = i_iload 1 34 := rfl
theorem k_X7_type_34 (ca : Nat → ClassId) : k_X7_type ca 34 = i_un (fun x => (x.toUInt32 % 65536).toInt32) 35 := rfl
theorem k_X7_type_35 (ca : Nat → ClassId) : k_X7_type ca 35 = i_callV 6 1 0 0 0 0 (sp_X6_append ca) 38 := rfl
theorem k_X7_type_38 (ca : Nat → ClassId) : k_X7_type ca 38 = i_aload 0 39 := rfl
theorem k_X7_type_39 (ca : Nat → ClassId) : k_X7_type ca 39 = i_getf 7 2 42 := rfl
theorem k_X7_type_42 (ca : Nat → ClassId) : k_X7_type ca 42 = i_getf 6 1 45 := rfl
theorem k_X7_type_45 (ca : Nat → ClassId) : k_X7_type ca 45 = i_ret := rfl
set_option maxHeartbeats 4000000 in
set_option maxRecDepth 20000 in
theorem ok_X7_type (l : Launch) (D : va_G) (ca : Nat → ClassId) : OkAll l D ca yX7_type cX7_type 2 (some .int) 1 0 0 (sp_X7_type ca) := by
  intro av h post hs
  obtain ⟨o, r0, r1, x3, r, qc, n, f, x, rfl, c0, ⟨t0, t1, hn⟩, d1, d2, d3, hA, hB, hC⟩ := hs
  refine okM_of t_X7_type (by decide +kernel) (c1_ref (c1_int c1_nil)) (Nat.le_of_ble_eq_true rfl) ?_
  intro K go
  cases q1 : isIn x 32 126 with
  | false =>
    have hs := hA q1
    refine goN go (stp []) 160 _ _ _ _ _ _ (fun F hF hF0 => ?_)
    simp only [hF, hF0, ite_not, i_push, i_iload, i_lload, i_aload, i_istore, i_astore, i_lstore, i_iinc, i_bin, i_dv, i_un, i_lbin, i_lsh, i_i2l, i_l2i, i_lcmp, i_dup, i_dup2, i_pop, i_if, i_icmp, i_goto, swG, i_sw, i_getf, i_puti, i_putz, i_putr, i_ald, i_lald, i_aald, i_ast, i_last, i_aast, i_alen, i_new, i_newi, i_newl, i_newq, i_oinit, i_ret, i_zret, i_lret, i_vret, catS, tk, rpush, isO, i_m1, i_m2, i_acopy, i_callV, i_callS, KRet, lget, lput, lputL, lcl0, isL, lv0, List.map_cons, List.map_nil, List.length_cons, List.length_nil, List.cons_append, List.nil_append, Nat.reduceAdd, Nat.reduceSub, Nat.reduceLeDiff, List.replicate_succ, List.replicate_zero, List.getElem?_cons_succ, List.getElem?_cons_zero, List.set_cons_succ, List.set_cons_zero, true_and, and_true, if_true, if_false, ↓reduceIte, Nat.le_refl, Value.category, va_up_app, eq_self, stp, Nat.reduceBEq, Bool.or_false, Bool.false_or, Bool.true_or, Bool.or_true, or_true, true_or, bx_uu, implies_true, true_implies, not_true, not_false_eq_true, false_implies, and_self, Nat.reduceLT, Int32.reduceAdd, Int32.reduceSub, Int32.reduceMul, Int32.reduceLE, Int32.reduceLT, Int32.reduceToNatClampNeg, va_rf_some, Bool.false_eq_true, k_X7_type_0 ca, k_X7_type_1 ca, k_X7_type_3 ca, k_X7_type_5 ca, k_X7_type_8 ca, k_X7_type_11 ca, k_X7_type_13 ca, k_X7_type_14 ca, k_X7_type_15 ca, k_X7_type_18 ca, k_X7_type_21 ca, k_X7_type_23 ca, k_X7_type_26 ca, k_X7_type_28 ca, k_X7_type_29 ca, k_X7_type_30 ca, k_X7_type_33 ca, k_X7_type_34 ca, k_X7_type_35 ca, k_X7_type_38 ca, k_X7_type_39 ca, k_X7_type_42 ca, k_X7_type_45 ca, sp_X7_isWithin, q1, b2i_f]
    try clear hF hF0 F
    exact hs
  | true =>
    have e60 : (nI n < 60) = (n < 60) := propext (nI_ltI (b := 60) (by omega) (by decide))
    by_cases q2 : n = 60
    · have hs := hB q1 q2
      have e3 : (n < 60) = False := eq_false (by omega)
      refine goN go (stp []) 160 _ _ _ _ _ _ (fun F hF hF0 => ?_)
      simp only [hF, hF0, ite_not, i_push, i_iload, i_lload, i_aload, i_istore, i_astore, i_lstore, i_iinc, i_bin, i_dv, i_un, i_lbin, i_lsh, i_i2l, i_l2i, i_lcmp, i_dup, i_dup2, i_pop, i_if, i_icmp, i_goto, swG, i_sw, i_getf, i_puti, i_putz, i_putr, i_ald, i_lald, i_aald, i_ast, i_last, i_aast, i_alen, i_new, i_newi, i_newl, i_newq, i_oinit, i_ret, i_zret, i_lret, i_vret, catS, tk, rpush, isO, i_m1, i_m2, i_acopy, i_callV, i_callS, KRet, lget, lput, lputL, lcl0, isL, lv0, List.map_cons, List.map_nil, List.length_cons, List.length_nil, List.cons_append, List.nil_append, Nat.reduceAdd, Nat.reduceSub, Nat.reduceLeDiff, List.replicate_succ, List.replicate_zero, List.getElem?_cons_succ, List.getElem?_cons_zero, List.set_cons_succ, List.set_cons_zero, true_and, and_true, if_true, if_false, ↓reduceIte, Nat.le_refl, Value.category, va_up_app, eq_self, stp, Nat.reduceBEq, Bool.or_false, Bool.false_or, Bool.true_or, Bool.or_true, or_true, true_or, bx_uu, implies_true, true_implies, not_true, not_false_eq_true, false_implies, and_self, Nat.reduceLT, Int32.reduceAdd, Int32.reduceSub, Int32.reduceMul, Int32.reduceLE, Int32.reduceLT, Int32.reduceToNatClampNeg, va_rf_some, Bool.false_eq_true, k_X7_type_0 ca, k_X7_type_1 ca, k_X7_type_3 ca, k_X7_type_5 ca, k_X7_type_8 ca, k_X7_type_11 ca, k_X7_type_13 ca, k_X7_type_14 ca, k_X7_type_15 ca, k_X7_type_18 ca, k_X7_type_21 ca, k_X7_type_23 ca, k_X7_type_26 ca, k_X7_type_28 ca, k_X7_type_29 ca, k_X7_type_30 ca, k_X7_type_33 ca, k_X7_type_34 ca, k_X7_type_35 ca, k_X7_type_38 ca, k_X7_type_39 ca, k_X7_type_42 ca, k_X7_type_45 ca, sp_X7_isWithin, q1, b2i_t, one0, c0, t0, e60, e3]
      try clear hF hF0 F
      exact hs
    · have hs := hC q1 (by omega)
      have e3 : (n < 60) = True := eq_true (by omega)
      refine goN go (stp [38]) 160 _ _ _ _ _ _ (fun F hF hF0 => ?_)
      simp only [hF, hF0, ite_not, i_push, i_iload, i_lload, i_aload, i_istore, i_astore, i_lstore, i_iinc, i_bin, i_dv, i_un, i_lbin, i_lsh, i_i2l, i_l2i, i_lcmp, i_dup, i_dup2, i_pop, i_if, i_icmp, i_goto, swG, i_sw, i_getf, i_puti, i_putz, i_putr, i_ald, i_lald, i_aald, i_ast, i_last, i_aast, i_alen, i_new, i_newi, i_newl, i_newq, i_oinit, i_ret, i_zret, i_lret, i_vret, catS, tk, rpush, isO, i_m1, i_m2, i_acopy, i_callV, i_callS, KRet, lget, lput, lputL, lcl0, isL, lv0, List.map_cons, List.map_nil, List.length_cons, List.length_nil, List.cons_append, List.nil_append, Nat.reduceAdd, Nat.reduceSub, Nat.reduceLeDiff, List.replicate_succ, List.replicate_zero, List.getElem?_cons_succ, List.getElem?_cons_zero, List.set_cons_succ, List.set_cons_zero, true_and, and_true, if_true, if_false, ↓reduceIte, Nat.le_refl, Value.category, va_up_app, eq_self, stp, Nat.reduceBEq, Bool.or_false, Bool.false_or, Bool.true_or, Bool.or_true, or_true, true_or, bx_uu, implies_true, true_implies, not_true, not_false_eq_true, false_implies, and_self, Nat.reduceLT, Int32.reduceAdd, Int32.reduceSub, Int32.reduceMul, Int32.reduceLE, Int32.reduceLT, Int32.reduceToNatClampNeg, va_rf_some, Bool.false_eq_true, k_X7_type_0 ca, k_X7_type_1 ca, k_X7_type_3 ca, k_X7_type_5 ca, k_X7_type_8 ca, k_X7_type_11 ca, k_X7_type_13 ca, k_X7_type_14 ca, k_X7_type_15 ca, k_X7_type_18 ca, k_X7_type_21 ca, k_X7_type_23 ca, k_X7_type_26 ca, k_X7_type_28 ca, k_X7_type_29 ca, k_X7_type_30 ca, k_X7_type_33 ca, k_X7_type_34 ca, k_X7_type_35 ca, k_X7_type_38 ca, k_X7_type_39 ca, k_X7_type_42 ca, k_X7_type_45 ca, sp_X7_isWithin, q1, b2i_t, one0, c0, t0, e60, e3]
      try clear hF hF0 F
      refine ⟨x3, qc, n, f, nar16 x, rfl, ⟨t0, t1, hn⟩, by omega, d1, ?_⟩
      have k0 := hs _ ⟨va_up_self _ _ _, (va_up_ne _ _ d1).trans (va_up_self _ _ _), by omega⟩ (fun z a1 a2 => (va_up_ne _ _ a1).trans (va_up_ne _ _ a2))
      refine goN go (stp []) 160 _ _ _ _ _ _ (fun F hF hF0 => ?_)
      simp only [hF, hF0, ite_not, i_push, i_iload, i_lload, i_aload, i_istore, i_astore, i_lstore, i_iinc, i_bin, i_dv, i_un, i_lbin, i_lsh, i_i2l, i_l2i, i_lcmp, i_dup, i_dup2, i_pop, i_if, i_icmp, i_goto, swG, i_sw, i_getf, i_puti, i_putz, i_putr, i_ald, i_lald, i_aald, i_ast, i_last, i_aast, i_alen, i_new, i_newi, i_newl, i_newq, i_oinit, i_ret, i_zret, i_lret, i_vret, catS, tk, rpush, isO, i_m1, i_m2, i_acopy, i_callV, i_callS, KRet, lget, lput, lputL, lcl0, isL, lv0, List.map_cons, List.map_nil, List.length_cons, List.length_nil, List.cons_append, List.nil_append, Nat.reduceAdd, Nat.reduceSub, Nat.reduceLeDiff, List.replicate_succ, List.replicate_zero, List.getElem?_cons_succ, List.getElem?_cons_zero, List.set_cons_succ, List.set_cons_zero, true_and, and_true, if_true, if_false, ↓reduceIte, Nat.le_refl, Value.category, va_up_app, eq_self, stp, Nat.reduceBEq, Bool.or_false, Bool.false_or, Bool.true_or, Bool.or_true, or_true, true_or, bx_uu, implies_true, true_implies, not_true, not_false_eq_true, false_implies, and_self, Nat.reduceLT, Int32.reduceAdd, Int32.reduceSub, Int32.reduceMul, Int32.reduceLE, Int32.reduceLT, Int32.reduceToNatClampNeg, va_rf_some, Bool.false_eq_true, k_X7_type_0 ca, k_X7_type_1 ca, k_X7_type_3 ca, k_X7_type_5 ca, k_X7_type_8 ca, k_X7_type_11 ca, k_X7_type_13 ca, k_X7_type_14 ca, k_X7_type_15 ca, k_X7_type_18 ca, k_X7_type_21 ca, k_X7_type_23 ca, k_X7_type_26 ca, k_X7_type_28 ca, k_X7_type_29 ca, k_X7_type_30 ca, k_X7_type_33 ca, k_X7_type_34 ca, k_X7_type_35 ca, k_X7_type_38 ca, k_X7_type_39 ca, k_X7_type_42 ca, k_X7_type_45 ca, c0, d2, d3]
      try clear hF hF0 F
      exact k0
def sp_X7_clearText (ca : Nat → ClassId) : SPEC := fun av h post => ∃ o r0 r1 x3 r qc n f, av = [.ref o] ∧ h o = some (.inr (7, .ref r0 :: .ref r1 :: .ref x3 :: r)) ∧ XAt ca h x3 qc n f ∧ ¬ qc = x3 ∧ ∀ h', XAt ca h' x3 qc 0 f → SmT x3 qc h h' → post (some (.int (nI n))) h'
def k_X7_clearText (ca : Nat → ClassId) : Nat → IT := fun pc => lk pc [(0, i_aload 0 1),
  (1, i_getf 7 2 4),
  (4, i_getf 6 1 7),
  (7, i_istore 1 8),
  (8, i_aload 0 9),
  (9, i_getf 7 2 12),
  (12, i_push (.int 0) 13),
  (13, i_puti 6 1 16),
  (16, i_iload 1 17),
  (17, i_ret)]
set_option maxRecDepth 20000 in
theorem t_X7_clearText : Tb k_X7_clearText yX7_clearText cX7_clearText 2 (some .int) 0 0 0 := by
  intro l D ca A p e s m args below meth c post X
  unfold k_X7_clearText
  refine snd_cons (snd_aload_n X dX7_clearText_0 rfl) ?_
  refine snd_cons (snd_getf X Fk7 2 (by decide) w_252 dX7_clearText_1) ?_
  refine snd_cons (snd_getf X Fk6 1 (by decide) w_182 dX7_clearText_4) ?_
  refine snd_cons (snd_istore_n X dX7_clearText_7 rfl (by decide)) ?_
  refine snd_cons (snd_aload_n X dX7_clearText_8 rfl) ?_
  refine snd_cons (snd_getf X Fk7 2 (by decide) w_252 dX7_clearText_9) ?_
  refine snd_cons (snd_iconst X dX7_clearText_12 (by decide)) ?_
  refine snd_cons (snd_puti X Fk6 1 (by decide) rfl rfl w_182 dX7_clearText_13) ?_
  refine snd_cons (snd_iload_n X dX7_clearText_16 rfl) ?_
  refine snd_cons (snd_ret X dX7_clearText_17) ?_
  exact snd_nil
theorem k_X7_clearText_0 (ca : Nat → ClassId) : k_X7_clearText ca 0 = i_aload 0 1 := rfl
theorem k_X7_clearText_1 (ca : Nat → ClassId) : k_X7_clearText ca 1 = i_getf 7 2 4 := rfl
theorem k_X7_clearText_4 (ca : Nat → ClassId) : k_X7_clearText ca 4 = i_getf 6 1 7 := rfl
theorem k_X7_clearText_7 (ca : Nat → ClassId) : k_X7_clearText ca 7 = i_istore 1 8 := rfl
theorem k_X7_clearText_8 (ca : Nat → ClassId) : k_X7_clearText ca 8 = i_aload 0 9 := rfl
theorem k_X7_clearText_9 (ca : Nat → ClassId) : k_X7_clearText ca 9 = i_getf 7 2 12 := rfl
theorem k_X7_clearText_12 (ca : Nat → ClassId) : k_X7_clearText ca 12 = i_push (.int 0) 13 := rfl
theorem k_X7_clearText_13 (ca : Nat → ClassId) : k_X7_clearText ca 13 = i_puti 6 1 16 := rfl
theorem k_X7_clearText_16 (ca : Nat → ClassId) : k_X7_clearText ca 16 = i_iload 1 17 := rfl
theorem k_X7_clearText_17 (ca : Nat → ClassId) : k_X7_clearText ca 17 = i_ret := rfl
set_option maxHeartbeats 4000000 in
set_option maxRecDepth 20000 in
theorem ok_X7_clearText (l : Launch) (D : va_G) (ca : Nat → ClassId) : OkAll l D ca yX7_clearText cX7_clearText 2 (some .int) 0 0 0 (sp_X7_clearText ca) := by
  intro av h post hs
  obtain ⟨o, r0, r1, x3, r, qc, n, f, rfl, c0, ⟨t0, t1, hn⟩, d1, hs⟩ := hs
  have k0 := hs _ ⟨va_up_self h x3 (some (.inr (6, [.ref qc, .int (nI 0)]))), (va_up_ne _ _ d1).trans t1, by omega⟩ (fun z a1 _ => va_up_ne _ _ a1)
  rw [nI_0] at k0
  refine okM_of t_X7_clearText (by decide +kernel) (c1_ref c1_nil) (Nat.le_of_ble_eq_true rfl) ?_
  intro K go
  refine goN go (stp []) 160 _ _ _ _ _ _ (fun F hF hF0 => ?_)
  simp only [hF, hF0, ite_not, i_push, i_iload, i_lload, i_aload, i_istore, i_astore, i_lstore, i_iinc, i_bin, i_dv, i_un, i_lbin, i_lsh, i_i2l, i_l2i, i_lcmp, i_dup, i_dup2, i_pop, i_if, i_icmp, i_goto, swG, i_sw, i_getf, i_puti, i_putz, i_putr, i_ald, i_lald, i_aald, i_ast, i_last, i_aast, i_alen, i_new, i_newi, i_newl, i_newq, i_oinit, i_ret, i_zret, i_lret, i_vret, catS, tk, rpush, isO, i_m1, i_m2, i_acopy, i_callV, i_callS, KRet, lget, lput, lputL, lcl0, isL, lv0, List.map_cons, List.map_nil, List.length_cons, List.length_nil, List.cons_append, List.nil_append, Nat.reduceAdd, Nat.reduceSub, Nat.reduceLeDiff, List.replicate_succ, List.replicate_zero, List.getElem?_cons_succ, List.getElem?_cons_zero, List.set_cons_succ, List.set_cons_zero, true_and, and_true, if_true, if_false, ↓reduceIte, Nat.le_refl, Value.category, va_up_app, eq_self, stp, Nat.reduceBEq, Bool.or_false, Bool.false_or, Bool.true_or, Bool.or_true, or_true, true_or, bx_uu, implies_true, true_implies, not_true, not_false_eq_true, false_implies, and_self, Nat.reduceLT, Int32.reduceAdd, Int32.reduceSub, Int32.reduceMul, Int32.reduceLE, Int32.reduceLT, Int32.reduceToNatClampNeg, va_rf_some, Bool.false_eq_true, k_X7_clearText_0 ca, k_X7_clearText_1 ca, k_X7_clearText_4 ca, k_X7_clearText_7 ca, k_X7_clearText_8 ca, k_X7_clearText_9 ca, k_X7_clearText_12 ca, k_X7_clearText_13 ca, k_X7_clearText_16 ca, k_X7_clearText_17 ca, c0, t0]
  try clear hF hF0 F
  exact k0
def aFaultC (f : Nat → Int32) (n : Nat) (x : Int32) : Int32 := if isIn x 0 1 = true then (if placeF f n = -1 then -10000004 else if x = 0 then placeF f n else if placeF f n = 32 then (if n ≤ 32 then 1 else 2) else 1) else -10000001
def sp_X7_fault (ca : Nat → ClassId) : SPEC := fun av h post => ∃ o r0 r1 x3 r qc n f x, av = [.ref o, .int x] ∧ h o = some (.inr (7, .ref r0 :: .ref r1 :: .ref x3 :: r)) ∧ XAt ca h x3 qc n f ∧ post (some (.int (aFaultC f n x))) h
def k_X7_fault (ca : Nat → ClassId) : Nat → IT := fun pc => lk pc [(0, i_iload 1 1),
  (1, i_push (.int 0) 2),
  (2, i_push (.int 1) 3),
  (3, i_callS 3 0 0 0 0 (sp_X7_isWithin ca) 6),
  (6, i_if (fun x => ¬ x = 0) 12 9),
  (9, i_push (.int (-10000001)) 11),
  (11, i_ret),
  (12, i_aload 0 13),
  (13, i_getf 7 2 16),
  (16, i_callV 6 0 0 0 0 0 (sp_X6_faultyPlace ca) 19),
  (19, i_istore 2 20),
  (20, i_iload 2 21),
  (21, i_push (.int (-1)) 22),
  (22, i_icmp (fun x y => ¬ x = y) 28 25),
  (25, i_push (.int (-10000004)) 27),
  (27, i_ret),
  (28, i_iload 1 29),
  (29, i_if (fun x => ¬ x = 0) 36 32),
  (32, i_iload 2 33),
  (33, i_goto 44),
  (36, i_aload 0 37),
  (37, i_getf 7 2 40),
  (40, i_iload 2 41),
  (41, i_callV 6 1 0 0 0 0 (sp_X6_reasonAt ca) 44),
  (44, i_ret)]
set_option maxRecDepth 20000 in
theorem t_X7_fault : Tb k_X7_fault yX7_fault cX7_fault 3 (some .int) 3 0 0 := by
  intro l D ca A p e s m args below meth c post X
  unfold k_X7_fault
  refine snd_cons (snd_iload_n X dX7_fault_0 rfl) ?_
  refine snd_cons (snd_iconst X dX7_fault_1 (by decide)) ?_
  refine snd_cons (snd_iconst X dX7_fault_2 (by decide)) ?_
  refine snd_cons (snd_callS X (ok_X7_isWithin l D ca) rfl rfl w_281 w_282 w_1 w_283 (by decide) (by decide) dX7_fault_3) ?_
  refine snd_cons (snd_if_ne X dX7_fault_6 (by decide)) ?_
  refine snd_cons (snd_ldc X w_284 dX7_fault_9) ?_
  refine snd_cons (snd_ret X dX7_fault_11) ?_
  refine snd_cons (snd_aload_n X dX7_fault_12 rfl) ?_
  refine snd_cons (snd_getf X Fk7 2 (by decide) w_252 dX7_fault_13) ?_
  refine snd_cons (snd_callV X Fk6 (ok_X6_faultyPlace l D ca) rfl rfl w_563 w_564 w_565 w_6 w_566 (by decide) (by decide) dX7_fault_16) ?_
  refine snd_cons (snd_istore_n X dX7_fault_19 rfl (by decide)) ?_
  refine snd_cons (snd_iload_n X dX7_fault_20 rfl) ?_
  refine snd_cons (snd_iconst X dX7_fault_21 (by decide)) ?_
  refine snd_cons (snd_icmp_ne X dX7_fault_22 (by decide)) ?_
  refine snd_cons (snd_ldc X w_361 dX7_fault_25) ?_
  refine snd_cons (snd_ret X dX7_fault_27) ?_
  refine snd_cons (snd_iload_n X dX7_fault_28 rfl) ?_
  refine snd_cons (snd_if_ne X dX7_fault_29 (by decide)) ?_
  refine snd_cons (snd_iload_n X dX7_fault_32 rfl) ?_
  refine snd_cons (snd_goto X dX7_fault_33 (by decide)) ?_
  refine snd_cons (snd_aload_n X dX7_fault_36 rfl) ?_
  refine snd_cons (snd_getf X Fk7 2 (by decide) w_252 dX7_fault_37) ?_
  refine snd_cons (snd_iload_n X dX7_fault_40 rfl) ?_
  refine snd_cons (snd_callV X Fk6 (ok_X6_reasonAt l D ca) rfl rfl w_573 w_574 w_575 w_6 w_576 (by decide) (by decide) dX7_fault_41) ?_
  refine snd_cons (snd_ret X dX7_fault_44) ?_
  exact snd_nil
theorem k_X7_fault_0 (ca : Nat → ClassId) : k_X7_fault ca 0 = i_iload 1 1 := rfl
theorem k_X7_fault_1 (ca : Nat → ClassId) : k_X7_fault ca 1 = i_push (.int 0) 2 := rfl
theorem k_X7_fault_2 (ca : Nat → ClassId) : k_X7_fault ca 2 = i_push (.int 1) 3 := rfl
theorem k_X7_fault_3 (ca : Nat → ClassId) : k_X7_fault ca 3 = i_callS 3 0 0 0 0 (sp_X7_isWithin ca) 6 := rfl
theorem k_X7_fault_6 (ca : Nat → ClassId) : k_X7_fault ca 6 = i_if (fun x => ¬ x = 0) 12 9 := rfl
theorem k_X7_fault_9 (ca : Nat → ClassId) : k_X7_fault ca 9 = i_push (.int (-10000001)) 11 := rfl
theorem k_X7_fault_11 (ca : Nat → ClassId) : k_X7_fault ca 11 = i_ret := rfl
theorem k_X7_fault_12 (ca : Nat → ClassId) : k_X7_fault ca 12 = i_aload 0 13 := rfl
theorem k_X7_fault_13 (ca : Nat → ClassId) : k_X7_fault ca 13 = i_getf 7 2 16 := rfl
theorem k_X7_fault_16 (ca : Nat → ClassId) : k_X7_fault ca 16 = i_callV 6 0 0 0 0 0 (sp_X6_faultyPlace ca) 19 := rfl
theorem k_X7_fault_19 (ca : Nat → ClassId) : k_X7_fault ca 19 = i_istore 2 20 := rfl
theorem k_X7_fault_20 (ca : Nat → ClassId) : k_X7_fault ca 20 = i_iload 2 21 := rfl
theorem k_X7_fault_21 (ca : Nat → ClassId) : k_X7_fault ca 21 = i_push (.int (-1)) 22 := rfl
theorem k_X7_fault_22 (ca : Nat → ClassId) : k_X7_fault ca 22 = i_icmp (fun x y => ¬ x = y) 28 25 := rfl
theorem k_X7_fault_25 (ca : Nat → ClassId) : k_X7_fault ca 25 = i_push (.int (-10000004)) 27 := rfl
theorem k_X7_fault_27 (ca : Nat → ClassId) : k_X7_fault ca 27 = i_ret := rfl
theorem k_X7_fault_28 (ca : Nat → ClassId) : k_X7_fault ca 28 = i_iload 1 29 := rfl
theorem k_X7_fault_29 (ca : Nat → ClassId) : k_X7_fault ca 29 = i_if (fun x => ¬ x = 0) 36 32 := rfl
theorem k_X7_fault_32 (ca : Nat → ClassId) : k_X7_fault ca 32 = i_iload 2 33 := rfl
theorem k_X7_fault_33 (ca : Nat → ClassId) : k_X7_fault ca 33 = i_goto 44 := rfl
theorem k_X7_fault_36 (ca : Nat → ClassId) : k_X7_fault ca 36 = i_aload 0 37 := rfl
theorem k_X7_fault_37 (ca : Nat → ClassId) : k_X7_fault ca 37 = i_getf 7 2 40 := rfl
theorem k_X7_fault_40 (ca : Nat → ClassId) : k_X7_fault ca 40 = i_iload 2 41 := rfl
theorem k_X7_fault_41 (ca : Nat → ClassId) : k_X7_fault ca 41 = i_callV 6 1 0 0 0 0 (sp_X6_reasonAt ca) 44 := rfl
theorem k_X7_fault_44 (ca : Nat → ClassId) : k_X7_fault ca 44 = i_ret := rfl
set_option maxHeartbeats 4000000 in
set_option maxRecDepth 20000 in
theorem ok_X7_fault (l : Launch) (D : va_G) (ca : Nat → ClassId) : OkAll l D ca yX7_fault cX7_fault 3 (some .int) 3 0 0 (sp_X7_fault ca) := by
  intro av h post hs
  obtain ⟨o, r0, r1, x3, r, qc, n, f, x, rfl, c0, hX, hs⟩ := hs
  have t0 := hX.1
  unfold aFaultC at hs
  refine okM_of t_X7_fault (by decide +kernel) (c1_ref (c1_int c1_nil)) (Nat.le_of_ble_eq_true rfl) ?_
  intro K go
  cases q1 : isIn x 0 1 with
  | false =>
    rw [q1, if_neg (by decide)] at hs
    refine goN go (stp []) 160 _ _ _ _ _ _ (fun F hF hF0 => ?_)
    simp only [hF, hF0, ite_not, i_push, i_iload, i_lload, i_aload, i_istore, i_astore, i_lstore, i_iinc, i_bin, i_dv, i_un, i_lbin, i_lsh, i_i2l, i_l2i, i_lcmp, i_dup, i_dup2, i_pop, i_if, i_icmp, i_goto, swG, i_sw, i_getf, i_puti, i_putz, i_putr, i_ald, i_lald, i_aald, i_ast, i_last, i_aast, i_alen, i_new, i_newi, i_newl, i_newq, i_oinit, i_ret, i_zret, i_lret, i_vret, catS, tk, rpush, isO, i_m1, i_m2, i_acopy, i_callV, i_callS, KRet, lget, lput, lputL, lcl0, isL, lv0, List.map_cons, List.map_nil, List.length_cons, List.length_nil, List.cons_append, List.nil_append, Nat.reduceAdd, Nat.reduceSub, Nat.reduceLeDiff, List.replicate_succ, List.replicate_zero, List.getElem?_cons_succ, List.getElem?_cons_zero, List.set_cons_succ, List.set_cons_zero, true_and, and_true, if_true, if_false, ↓reduceIte, Nat.le_refl, Value.category, va_up_app, eq_self, stp, Nat.reduceBEq, Bool.or_false, Bool.false_or, Bool.true_or, Bool.or_true, or_true, true_or, bx_uu, implies_true, true_implies, not_true, not_false_eq_true, false_implies, and_self, Nat.reduceLT, Int32.reduceAdd, Int32.reduceSub, Int32.reduceMul, Int32.reduceLE, Int32.reduceLT, Int32.reduceToNatClampNeg, va_rf_some, Bool.false_eq_true, k_X7_fault_0 ca, k_X7_fault_1 ca, k_X7_fault_2 ca, k_X7_fault_3 ca, k_X7_fault_6 ca, k_X7_fault_9 ca, k_X7_fault_11 ca, k_X7_fault_12 ca, k_X7_fault_13 ca, k_X7_fault_16 ca, k_X7_fault_19 ca, k_X7_fault_20 ca, k_X7_fault_21 ca, k_X7_fault_22 ca, k_X7_fault_25 ca, k_X7_fault_27 ca, k_X7_fault_28 ca, k_X7_fault_29 ca, k_X7_fault_32 ca, k_X7_fault_33 ca, k_X7_fault_36 ca, k_X7_fault_37 ca, k_X7_fault_40 ca, k_X7_fault_41 ca, k_X7_fault_44 ca, sp_X7_isWithin, q1, b2i_f]
    try clear hF hF0 F
    exact hs
  | true =>
    rw [q1, if_pos rfl] at hs
    refine goN go (stp [19]) 160 _ _ _ _ _ _ (fun F hF hF0 => ?_)
    simp only [hF, hF0, ite_not, i_push, i_iload, i_lload, i_aload, i_istore, i_astore, i_lstore, i_iinc, i_bin, i_dv, i_un, i_lbin, i_lsh, i_i2l, i_l2i, i_lcmp, i_dup, i_dup2, i_pop, i_if, i_icmp, i_goto, swG, i_sw, i_getf, i_puti, i_putz, i_putr, i_ald, i_lald, i_aald, i_ast, i_last, i_aast, i_alen, i_new, i_newi, i_newl, i_newq, i_oinit, i_ret, i_zret, i_lret, i_vret, catS, tk, rpush, isO, i_m1, i_m2, i_acopy, i_callV, i_callS, KRet, lget, lput, lputL, lcl0, isL, lv0, List.map_cons, List.map_nil, List.length_cons, List.length_nil, List.cons_append, List.nil_append, Nat.reduceAdd, Nat.reduceSub, Nat.reduceLeDiff, List.replicate_succ, List.replicate_zero, List.getElem?_cons_succ, List.getElem?_cons_zero, List.set_cons_succ, List.set_cons_zero, true_and, and_true, if_true, if_false, ↓reduceIte, Nat.le_refl, Value.category, va_up_app, eq_self, stp, Nat.reduceBEq, Bool.or_false, Bool.false_or, Bool.true_or, Bool.or_true, or_true, true_or, bx_uu, implies_true, true_implies, not_true, not_false_eq_true, false_implies, and_self, Nat.reduceLT, Int32.reduceAdd, Int32.reduceSub, Int32.reduceMul, Int32.reduceLE, Int32.reduceLT, Int32.reduceToNatClampNeg, va_rf_some, Bool.false_eq_true, k_X7_fault_0 ca, k_X7_fault_1 ca, k_X7_fault_2 ca, k_X7_fault_3 ca, k_X7_fault_6 ca, k_X7_fault_9 ca, k_X7_fault_11 ca, k_X7_fault_12 ca, k_X7_fault_13 ca, k_X7_fault_16 ca, k_X7_fault_19 ca, k_X7_fault_20 ca, k_X7_fault_21 ca, k_X7_fault_22 ca, k_X7_fault_25 ca, k_X7_fault_27 ca, k_X7_fault_28 ca, k_X7_fault_29 ca, k_X7_fault_32 ca, k_X7_fault_33 ca, k_X7_fault_36 ca, k_X7_fault_37 ca, k_X7_fault_40 ca, k_X7_fault_41 ca, k_X7_fault_44 ca, sp_X7_isWithin, q1, b2i_t, one0, c0, t0]
    try clear hF hF0 F
    refine ⟨x3, qc, n, f, rfl, hX, ?_⟩
    by_cases q2 : placeF f n = -1
    · rw [if_pos q2] at hs
      refine goN go (stp []) 160 _ _ _ _ _ _ (fun F hF hF0 => ?_)
      simp only [hF, hF0, ite_not, i_push, i_iload, i_lload, i_aload, i_istore, i_astore, i_lstore, i_iinc, i_bin, i_dv, i_un, i_lbin, i_lsh, i_i2l, i_l2i, i_lcmp, i_dup, i_dup2, i_pop, i_if, i_icmp, i_goto, swG, i_sw, i_getf, i_puti, i_putz, i_putr, i_ald, i_lald, i_aald, i_ast, i_last, i_aast, i_alen, i_new, i_newi, i_newl, i_newq, i_oinit, i_ret, i_zret, i_lret, i_vret, catS, tk, rpush, isO, i_m1, i_m2, i_acopy, i_callV, i_callS, KRet, lget, lput, lputL, lcl0, isL, lv0, List.map_cons, List.map_nil, List.length_cons, List.length_nil, List.cons_append, List.nil_append, Nat.reduceAdd, Nat.reduceSub, Nat.reduceLeDiff, List.replicate_succ, List.replicate_zero, List.getElem?_cons_succ, List.getElem?_cons_zero, List.set_cons_succ, List.set_cons_zero, true_and, and_true, if_true, if_false, ↓reduceIte, Nat.le_refl, Value.category, va_up_app, eq_self, stp, Nat.reduceBEq, Bool.or_false, Bool.false_or, Bool.true_or, Bool.or_true, or_true, true_or, bx_uu, implies_true, true_implies, not_true, not_false_eq_true, false_implies, and_self, Nat.reduceLT, Int32.reduceAdd, Int32.reduceSub, Int32.reduceMul, Int32.reduceLE, Int32.reduceLT, Int32.reduceToNatClampNeg, va_rf_some, Bool.false_eq_true, k_X7_fault_0 ca, k_X7_fault_1 ca, k_X7_fault_2 ca, k_X7_fault_3 ca, k_X7_fault_6 ca, k_X7_fault_9 ca, k_X7_fault_11 ca, k_X7_fault_12 ca, k_X7_fault_13 ca, k_X7_fault_16 ca, k_X7_fault_19 ca, k_X7_fault_20 ca, k_X7_fault_21 ca, k_X7_fault_22 ca, k_X7_fault_25 ca, k_X7_fault_27 ca, k_X7_fault_28 ca, k_X7_fault_29 ca, k_X7_fault_32 ca, k_X7_fault_33 ca, k_X7_fault_36 ca, k_X7_fault_37 ca, k_X7_fault_40 ca, k_X7_fault_41 ca, k_X7_fault_44 ca, q2]
      try clear hF hF0 F
      exact hs
    · rw [if_neg q2] at hs
      by_cases q3 : x = 0
      · rw [if_pos q3] at hs
        refine goN go (stp []) 160 _ _ _ _ _ _ (fun F hF hF0 => ?_)
        simp only [hF, hF0, ite_not, i_push, i_iload, i_lload, i_aload, i_istore, i_astore, i_lstore, i_iinc, i_bin, i_dv, i_un, i_lbin, i_lsh, i_i2l, i_l2i, i_lcmp, i_dup, i_dup2, i_pop, i_if, i_icmp, i_goto, swG, i_sw, i_getf, i_puti, i_putz, i_putr, i_ald, i_lald, i_aald, i_ast, i_last, i_aast, i_alen, i_new, i_newi, i_newl, i_newq, i_oinit, i_ret, i_zret, i_lret, i_vret, catS, tk, rpush, isO, i_m1, i_m2, i_acopy, i_callV, i_callS, KRet, lget, lput, lputL, lcl0, isL, lv0, List.map_cons, List.map_nil, List.length_cons, List.length_nil, List.cons_append, List.nil_append, Nat.reduceAdd, Nat.reduceSub, Nat.reduceLeDiff, List.replicate_succ, List.replicate_zero, List.getElem?_cons_succ, List.getElem?_cons_zero, List.set_cons_succ, List.set_cons_zero, true_and, and_true, if_true, if_false, ↓reduceIte, Nat.le_refl, Value.category, va_up_app, eq_self, stp, Nat.reduceBEq, Bool.or_false, Bool.false_or, Bool.true_or, Bool.or_true, or_true, true_or, bx_uu, implies_true, true_implies, not_true, not_false_eq_true, false_implies, and_self, Nat.reduceLT, Int32.reduceAdd, Int32.reduceSub, Int32.reduceMul, Int32.reduceLE, Int32.reduceLT, Int32.reduceToNatClampNeg, va_rf_some, Bool.false_eq_true, k_X7_fault_0 ca, k_X7_fault_1 ca, k_X7_fault_2 ca, k_X7_fault_3 ca, k_X7_fault_6 ca, k_X7_fault_9 ca, k_X7_fault_11 ca, k_X7_fault_12 ca, k_X7_fault_13 ca, k_X7_fault_16 ca, k_X7_fault_19 ca, k_X7_fault_20 ca, k_X7_fault_21 ca, k_X7_fault_22 ca, k_X7_fault_25 ca, k_X7_fault_27 ca, k_X7_fault_28 ca, k_X7_fault_29 ca, k_X7_fault_32 ca, k_X7_fault_33 ca, k_X7_fault_36 ca, k_X7_fault_37 ca, k_X7_fault_40 ca, k_X7_fault_41 ca, k_X7_fault_44 ca, q2, q3]
        try clear hF hF0 F
        exact hs
      · rw [if_neg q3] at hs
        refine goN go (stp [44]) 160 _ _ _ _ _ _ (fun F hF hF0 => ?_)
        simp only [hF, hF0, ite_not, i_push, i_iload, i_lload, i_aload, i_istore, i_astore, i_lstore, i_iinc, i_bin, i_dv, i_un, i_lbin, i_lsh, i_i2l, i_l2i, i_lcmp, i_dup, i_dup2, i_pop, i_if, i_icmp, i_goto, swG, i_sw, i_getf, i_puti, i_putz, i_putr, i_ald, i_lald, i_aald, i_ast, i_last, i_aast, i_alen, i_new, i_newi, i_newl, i_newq, i_oinit, i_ret, i_zret, i_lret, i_vret, catS, tk, rpush, isO, i_m1, i_m2, i_acopy, i_callV, i_callS, KRet, lget, lput, lputL, lcl0, isL, lv0, List.map_cons, List.map_nil, List.length_cons, List.length_nil, List.cons_append, List.nil_append, Nat.reduceAdd, Nat.reduceSub, Nat.reduceLeDiff, List.replicate_succ, List.replicate_zero, List.getElem?_cons_succ, List.getElem?_cons_zero, List.set_cons_succ, List.set_cons_zero, true_and, and_true, if_true, if_false, ↓reduceIte, Nat.le_refl, Value.category, va_up_app, eq_self, stp, Nat.reduceBEq, Bool.or_false, Bool.false_or, Bool.true_or, Bool.or_true, or_true, true_or, bx_uu, implies_true, true_implies, not_true, not_false_eq_true, false_implies, and_self, Nat.reduceLT, Int32.reduceAdd, Int32.reduceSub, Int32.reduceMul, Int32.reduceLE, Int32.reduceLT, Int32.reduceToNatClampNeg, va_rf_some, Bool.false_eq_true, k_X7_fault_0 ca, k_X7_fault_1 ca, k_X7_fault_2 ca, k_X7_fault_3 ca, k_X7_fault_6 ca, k_X7_fault_9 ca, k_X7_fault_11 ca, k_X7_fault_12 ca, k_X7_fault_13 ca, k_X7_fault_16 ca, k_X7_fault_19 ca, k_X7_fault_20 ca, k_X7_fault_21 ca, k_X7_fault_22 ca, k_X7_fault_25 ca, k_X7_fault_27 ca, k_X7_fault_28 ca, k_X7_fault_29 ca, k_X7_fault_32 ca, k_X7_fault_33 ca, k_X7_fault_36 ca, k_X7_fault_37 ca, k_X7_fault_40 ca, k_X7_fault_41 ca, k_X7_fault_44 ca, q2, q3, c0, t0]
        try clear hF hF0 F
        refine ⟨x3, qc, n, f, placeF f n, rfl, hX, ?_⟩
        refine goN go (stp []) 160 _ _ _ _ _ _ (fun F hF hF0 => ?_)
        simp only [hF, hF0, ite_not, i_push, i_iload, i_lload, i_aload, i_istore, i_astore, i_lstore, i_iinc, i_bin, i_dv, i_un, i_lbin, i_lsh, i_i2l, i_l2i, i_lcmp, i_dup, i_dup2, i_pop, i_if, i_icmp, i_goto, swG, i_sw, i_getf, i_puti, i_putz, i_putr, i_ald, i_lald, i_aald, i_ast, i_last, i_aast, i_alen, i_new, i_newi, i_newl, i_newq, i_oinit, i_ret, i_zret, i_lret, i_vret, catS, tk, rpush, isO, i_m1, i_m2, i_acopy, i_callV, i_callS, KRet, lget, lput, lputL, lcl0, isL, lv0, List.map_cons, List.map_nil, List.length_cons, List.length_nil, List.cons_append, List.nil_append, Nat.reduceAdd, Nat.reduceSub, Nat.reduceLeDiff, List.replicate_succ, List.replicate_zero, List.getElem?_cons_succ, List.getElem?_cons_zero, List.set_cons_succ, List.set_cons_zero, true_and, and_true, if_true, if_false, ↓reduceIte, Nat.le_refl, Value.category, va_up_app, eq_self, stp, Nat.reduceBEq, Bool.or_false, Bool.false_or, Bool.true_or, Bool.or_true, or_true, true_or, bx_uu, implies_true, true_implies, not_true, not_false_eq_true, false_implies, and_self, Nat.reduceLT, Int32.reduceAdd, Int32.reduceSub, Int32.reduceMul, Int32.reduceLE, Int32.reduceLT, Int32.reduceToNatClampNeg, va_rf_some, Bool.false_eq_true, k_X7_fault_0 ca, k_X7_fault_1 ca, k_X7_fault_2 ca, k_X7_fault_3 ca, k_X7_fault_6 ca, k_X7_fault_9 ca, k_X7_fault_11 ca, k_X7_fault_12 ca, k_X7_fault_13 ca, k_X7_fault_16 ca, k_X7_fault_19 ca, k_X7_fault_20 ca, k_X7_fault_21 ca, k_X7_fault_22 ca, k_X7_fault_25 ca, k_X7_fault_27 ca, k_X7_fault_28 ca, k_X7_fault_29 ca, k_X7_fault_32 ca, k_X7_fault_33 ca, k_X7_fault_36 ca, k_X7_fault_37 ca, k_X7_fault_40 ca, k_X7_fault_41 ca, k_X7_fault_44 ca]
        try clear hF hF0 F
        exact hs

