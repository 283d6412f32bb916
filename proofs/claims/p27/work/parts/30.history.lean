/-! the loop's key of a State; History -/
def kyF (s : Nat → Int32) (k : Nat) (x : Int64) : Int64 :=
  ((x <<< ((11 : Int32).toInt64 &&& 63) ||| (s (106 + 7 * k) - -500).toInt64) <<< ((1 : Int32).toInt64 &&& 63) ||| (if s (14 + 32 * k) = 0 then (0 : Int32) else 1).toInt64) <<< ((3 : Int32).toInt64 &&& 63) ||| (s (15 + 32 * k)).toInt64
def kyS (s : Nat → Int32) : Int64 := kyF s 2 (kyF s 1 (kyF s 0 0))
def sp_X4_loopKey (ca : Nat → ClassId) : SPEC := fun av h post => ∃ b s, av = [.ref (b 0)] ∧ SAt ca h b s ∧ post (some (.long (kyS s))) h
def k_X4_loopKey (ca : Nat → ClassId) : Nat → IT := fun pc => lk pc [(0, i_push (.long 0) 1),
  (1, i_lstore 1 2),
  (2, i_push (.int 0) 3),
  (3, i_istore 3 4),
  (4, i_iload 3 5),
  (5, i_push (.int 3) 6),
  (6, i_icmp (fun x y => y ≤ x) 68 9),
  (9, i_lload 1 10),
  (10, i_push (.int 11) 12),
  (12, i_lsh (fun x y => x <<< (y.toInt64 &&& 63)) 13),
  (13, i_aload 0 14),
  (14, i_getf 4 3 17),
  (17, i_iload 3 18),
  (18, i_aald (ca 4) 19),
  (19, i_getf 2 0 22),
  (22, i_push (.int (-500)) 25),
  (25, i_bin (fun x y => x - y) 26),
  (26, i_i2l 27),
  (27, i_lbin (fun x y => x ||| y) 28),
  (28, i_lstore 1 29),
  (29, i_lload 1 30),
  (30, i_push (.int 1) 31),
  (31, i_lsh (fun x y => x <<< (y.toInt64 &&& 63)) 32),
  (32, i_aload 0 33),
  (33, i_getf 4 2 36),
  (36, i_iload 3 37),
  (37, i_aald (ca 6) 38),
  (38, i_getf 5 10 41),
  (41, i_callS 1 0 0 0 0 (sp_X7_oneIf ca) 44),
  (44, i_i2l 45),
  (45, i_lbin (fun x y => x ||| y) 46),
  (46, i_lstore 1 47),
  (47, i_lload 1 48),
  (48, i_push (.int 3) 49),
  (49, i_lsh (fun x y => x <<< (y.toInt64 &&& 63)) 50),
  (50, i_aload 0 51),
  (51, i_getf 4 2 54),
  (54, i_iload 3 55),
  (55, i_aald (ca 6) 56),
  (56, i_getf 5 7 59),
  (59, i_i2l 60),
  (60, i_lbin (fun x y => x ||| y) 61),
  (61, i_lstore 1 62),
  (62, i_iinc 3 1 65),
  (65, i_goto 4),
  (68, i_lload 1 69),
  (69, i_lret)]
set_option maxRecDepth 20000 in
theorem t_X4_loopKey : Tb k_X4_loopKey yX4_loopKey cX4_loopKey 4 (some .long) 1 0 0 := by
  intro l D ca A p e s m args below meth c post X
  unfold k_X4_loopKey
  refine snd_cons (snd_lconst X dX4_loopKey_0 (by decide)) ?_
  refine snd_cons (snd_lstore_n X dX4_loopKey_1 rfl (by decide)) ?_
  refine snd_cons (snd_iconst X dX4_loopKey_2 (by decide)) ?_
  refine snd_cons (snd_istore_n X dX4_loopKey_3 rfl (by decide)) ?_
  refine snd_cons (snd_iload_n X dX4_loopKey_4 rfl) ?_
  refine snd_cons (snd_iconst X dX4_loopKey_5 (by decide)) ?_
  refine snd_cons (snd_icmp_ge X dX4_loopKey_6 (by decide)) ?_
  refine snd_cons (snd_lload_n X dX4_loopKey_9 rfl) ?_
  refine snd_cons (snd_bipush X dX4_loopKey_10 (by decide)) ?_
  refine snd_cons (snd_lshl X dX4_loopKey_12) ?_
  refine snd_cons (snd_aload_n X dX4_loopKey_13 rfl) ?_
  refine snd_cons (snd_getf X Fk4 3 (by decide) w_129 dX4_loopKey_14) ?_
  refine snd_cons (snd_iload_n X dX4_loopKey_17 rfl) ?_
  refine snd_cons (snd_aaload X 4 rfl dX4_loopKey_18) ?_
  refine snd_cons (snd_getf X Fk2 0 (by decide) w_90 dX4_loopKey_19) ?_
  refine snd_cons (snd_sipush X dX4_loopKey_22 (by decide)) ?_
  refine snd_cons (snd_isub X dX4_loopKey_25) ?_
  refine snd_cons (snd_i2l X dX4_loopKey_26) ?_
  refine snd_cons (snd_lor X dX4_loopKey_27) ?_
  refine snd_cons (snd_lstore_n X dX4_loopKey_28 rfl (by decide)) ?_
  refine snd_cons (snd_lload_n X dX4_loopKey_29 rfl) ?_
  refine snd_cons (snd_iconst X dX4_loopKey_30 (by decide)) ?_
  refine snd_cons (snd_lshl X dX4_loopKey_31) ?_
  refine snd_cons (snd_aload_n X dX4_loopKey_32 rfl) ?_
  refine snd_cons (snd_getf X Fk4 2 (by decide) w_127 dX4_loopKey_33) ?_
  refine snd_cons (snd_iload_n X dX4_loopKey_36 rfl) ?_
  refine snd_cons (snd_aaload X 6 rfl dX4_loopKey_37) ?_
  refine snd_cons (snd_getf X Fk5 10 (by decide) w_58 dX4_loopKey_38) ?_
  refine snd_cons (snd_callSN X (ok_X7_oneIf l D ca) rfl rfl (fun h => h.2.1) w_351 w_1 w_352 (by decide) (by decide) dX4_loopKey_41) ?_
  refine snd_cons (snd_i2l X dX4_loopKey_44) ?_
  refine snd_cons (snd_lor X dX4_loopKey_45) ?_
  refine snd_cons (snd_lstore_n X dX4_loopKey_46 rfl (by decide)) ?_
  refine snd_cons (snd_lload_n X dX4_loopKey_47 rfl) ?_
  refine snd_cons (snd_iconst X dX4_loopKey_48 (by decide)) ?_
  refine snd_cons (snd_lshl X dX4_loopKey_49) ?_
  refine snd_cons (snd_aload_n X dX4_loopKey_50 rfl) ?_
  refine snd_cons (snd_getf X Fk4 2 (by decide) w_127 dX4_loopKey_51) ?_
  refine snd_cons (snd_iload_n X dX4_loopKey_54 rfl) ?_
  refine snd_cons (snd_aaload X 6 rfl dX4_loopKey_55) ?_
  refine snd_cons (snd_getf X Fk5 7 (by decide) w_50 dX4_loopKey_56) ?_
  refine snd_cons (snd_i2l X dX4_loopKey_59) ?_
  refine snd_cons (snd_lor X dX4_loopKey_60) ?_
  refine snd_cons (snd_lstore_n X dX4_loopKey_61 rfl (by decide)) ?_
  refine snd_cons (snd_iinc X dX4_loopKey_62 (by decide) (by decide)) ?_
  refine snd_cons (snd_goto X dX4_loopKey_65 (by decide)) ?_
  refine snd_cons (snd_lload_n X dX4_loopKey_68 rfl) ?_
  refine snd_cons (snd_lret X dX4_loopKey_69) ?_
  exact snd_nil
theorem k_X4_loopKey_0 (ca : Nat → ClassId) : k_X4_loopKey ca 0 = i_push (.long 0) 1 := rfl
theorem k_X4_loopKey_1 (ca : Nat → ClassId) : k_X4_loopKey ca 1 = i_lstore 1 2 := rfl
theorem k_X4_loopKey_2 (ca : Nat → ClassId) : k_X4_loopKey ca 2 = i_push (.int 0) 3 := rfl
theorem k_X4_loopKey_3 (ca : Nat → ClassId) : k_X4_loopKey ca 3 = i_istore 3 4 := rfl
theorem k_X4_loopKey_4 (ca : Nat → ClassId) : k_X4_loopKey ca 4 = i_iload 3 5 := rfl
theorem k_X4_loopKey_5 (ca : Nat → ClassId) : k_X4_loopKey ca 5 = i_push (.int 3) 6 := rfl
theorem k_X4_loopKey_6 (ca : Nat → ClassId) : k_X4_loopKey ca 6 = i_icmp (fun x y => y ≤ x) 68 9 := rfl
theorem k_X4_loopKey_9 (ca : Nat → ClassId) : k_X4_loopKey ca 9 = i_lload 1 10 := rfl
theorem k_X4_loopKey_10 (ca : Nat → ClassId) : k_X4_loopKey ca 10 = i_push (.int 11) 12 := rfl
theorem k_X4_loopKey_12 (ca : Nat → ClassId) : k_X4_loopKey ca 12 = i_lsh (fun x y => x <<< (y.toInt64 &&& 63)) 13 := rfl
theorem k_X4_loopKey_13 (ca : Nat → ClassId) : k_X4_loopKey ca 13 = i_aload 0 14 := rfl
theorem k_X4_loopKey_14 (ca : Nat → ClassId) : k_X4_loopKey ca 14 = i_getf 4 3 17 := rfl
theorem k_X4_loopKey_17 (ca : Nat → ClassId) : k_X4_loopKey ca 17 = i_iload 3 18 := rfl
theorem k_X4_loopKey_18 (ca : Nat → ClassId) : k_X4_loopKey ca 18 = i_aald (ca 4) 19 := rfl
theorem k_X4_loopKey_19 (ca : Nat → ClassId) : k_X4_loopKey ca 19 = i_getf 2 0 22 := rfl
theorem k_X4_loopKey_22 (ca : Nat → ClassId) : k_X4_loopKey ca 22 = i_push (.int (-500)) 25 := rfl
theorem k_X4_loopKey_25 (ca : Nat → ClassId) : k_X4_loopKey ca 25 = i_bin (fun x y => x - y) 26 := rfl
theorem k_X4_loopKey_26 (ca : Nat → ClassId) : k_X4_loopKey ca 26 = i_i2l 27 := rfl
theorem k_X4_loopKey_27 (ca : Nat → ClassId) : k_X4_loopKey ca 27 = i_lbin (fun x y => x ||| y) 28 := rfl
theorem k_X4_loopKey_28 (ca : Nat → ClassId) : k_X4_loopKey ca 28 = i_lstore 1 29 := rfl
theorem k_X4_loopKey_29 (ca : Nat → ClassId) : k_X4_loopKey ca 29 = i_lload 1 30 := rfl
theorem k_X4_loopKey_30 (ca : Nat → ClassId) : k_X4_loopKey ca 30 = i_push (.int 1) 31 := rfl
theorem k_X4_loopKey_31 (ca : Nat → ClassId) : k_X4_loopKey ca 31 = i_lsh (fun x y => x <<< (y.toInt64 &&& 63)) 32 := rfl
theorem k_X4_loopKey_32 (ca : Nat → ClassId) : k_X4_loopKey ca 32 = i_aload 0 33 := rfl
theorem k_X4_loopKey_33 (ca : Nat → ClassId) : k_X4_loopKey ca 33 = i_getf 4 2 36 := rfl
theorem k_X4_loopKey_36 (ca : Nat → ClassId) : k_X4_loopKey ca 36 = i_iload 3 37 := rfl
theorem k_X4_loopKey_37 (ca : Nat → ClassId) : k_X4_loopKey ca 37 = i_aald (ca 6) 38 := rfl
theorem k_X4_loopKey_38 (ca : Nat → ClassId) : k_X4_loopKey ca 38 = i_getf 5 10 41 := rfl
theorem k_X4_loopKey_41 (ca : Nat → ClassId) : k_X4_loopKey ca 41 = i_callS 1 0 0 0 0 (sp_X7_oneIf ca) 44 := rfl
theorem k_X4_loopKey_44 (ca : Nat → ClassId) : k_X4_loopKey ca 44 = i_i2l 45 := rfl
theorem k_X4_loopKey_45 (ca : Nat → ClassId) : k_X4_loopKey ca 45 = i_lbin (fun x y => x ||| y) 46 := rfl
theorem k_X4_loopKey_46 (ca : Nat → ClassId) : k_X4_loopKey ca 46 = i_lstore 1 47 := rfl
theorem k_X4_loopKey_47 (ca : Nat → ClassId) : k_X4_loopKey ca 47 = i_lload 1 48 := rfl
theorem k_X4_loopKey_48 (ca : Nat → ClassId) : k_X4_loopKey ca 48 = i_push (.int 3) 49 := rfl
theorem k_X4_loopKey_49 (ca : Nat → ClassId) : k_X4_loopKey ca 49 = i_lsh (fun x y => x <<< (y.toInt64 &&& 63)) 50 := rfl
theorem k_X4_loopKey_50 (ca : Nat → ClassId) : k_X4_loopKey ca 50 = i_aload 0 51 := rfl
theorem k_X4_loopKey_51 (ca : Nat → ClassId) : k_X4_loopKey ca 51 = i_getf 4 2 54 := rfl
theorem k_X4_loopKey_54 (ca : Nat → ClassId) : k_X4_loopKey ca 54 = i_iload 3 55 := rfl
theorem k_X4_loopKey_55 (ca : Nat → ClassId) : k_X4_loopKey ca 55 = i_aald (ca 6) 56 := rfl
theorem k_X4_loopKey_56 (ca : Nat → ClassId) : k_X4_loopKey ca 56 = i_getf 5 7 59 := rfl
theorem k_X4_loopKey_59 (ca : Nat → ClassId) : k_X4_loopKey ca 59 = i_i2l 60 := rfl
theorem k_X4_loopKey_60 (ca : Nat → ClassId) : k_X4_loopKey ca 60 = i_lbin (fun x y => x ||| y) 61 := rfl
theorem k_X4_loopKey_61 (ca : Nat → ClassId) : k_X4_loopKey ca 61 = i_lstore 1 62 := rfl
theorem k_X4_loopKey_62 (ca : Nat → ClassId) : k_X4_loopKey ca 62 = i_iinc 3 1 65 := rfl
theorem k_X4_loopKey_65 (ca : Nat → ClassId) : k_X4_loopKey ca 65 = i_goto 4 := rfl
theorem k_X4_loopKey_68 (ca : Nat → ClassId) : k_X4_loopKey ca 68 = i_lload 1 69 := rfl
theorem k_X4_loopKey_69 (ca : Nat → ClassId) : k_X4_loopKey ca 69 = i_lret := rfl
set_option maxHeartbeats 4000000 in
set_option maxRecDepth 20000 in
theorem ok_X4_loopKey (l : Launch) (D : va_G) (ca : Nat → ClassId) : OkAll l D ca yX4_loopKey cX4_loopKey 4 (some .long) 1 0 0 (sp_X4_loopKey ca) := by
  intro av h post hs
  obtain ⟨b, s, rfl, hS, hs⟩ := hs
  obtain ⟨x0, ⟨xf1, xa1, xx1⟩, ⟨xf2, xa2, xx2⟩, ⟨xf3, xa3, xx3⟩, ⟨xf4, xa4, xx4⟩, ⟨xf5, xa5⟩, ⟨xf6, xa6⟩, ⟨xt7, ⟨xf8, xa8, xx8⟩, ⟨xf9, xa9, xx9⟩, ⟨xf10, xa10, xx10⟩⟩, xr11, ⟨xt12, ⟨xf13, xa13, xx13⟩, ⟨xf14, xa14, xx14⟩, ⟨xf15, xa15, xx15⟩⟩, xr16, ⟨xt17, ⟨xf18, xa18, xx18⟩, ⟨xf19, xa19, xx19⟩, ⟨xf20, xa20, xx20⟩⟩, xr21⟩ := id hS
  have xq30 : xf3 0 = some (b 7) := xx3 0 (by decide)
  have xq40 : xf4 0 = some (b 11) := xx4 0 (by decide)
  have xq31 : xf3 1 = some (b 12) := xx3 1 (by decide)
  have xq41 : xf4 1 = some (b 16) := xx4 1 (by decide)
  have xq32 : xf3 2 = some (b 17) := xx3 2 (by decide)
  have xq42 : xf4 2 = some (b 21) := xx4 2 (by decide)
  refine okM_of t_X4_loopKey (by decide +kernel) (c1_ref c1_nil) (Nat.le_of_ble_eq_true rfl) ?_
  intro K go
  have it : ∀ k, k < 3 → ∀ (x : Int64), K 0 0 4 [some (.ref (b 0)), some (.long (kyF s k x)), none, some (.int (nI k + 1))] [] h → K 0 0 4 [some (.ref (b 0)), some (.long x), none, some (.int (nI k))] [] h := by
    intro k hk x hn
    have hk3 : k = 0 ∨ k = 1 ∨ k = 2 := by omega
    rcases hk3 with rfl | rfl | rfl
    · rw [nI_0] at hn ⊢
      refine go (stp [4]) 45 _ _ _ _ _ _ ?_
      simp only [wpS, ite_not, i_push, i_iload, i_lload, i_aload, i_istore, i_astore, i_lstore, i_iinc, i_bin, i_dv, i_un, i_lbin, i_lsh, i_i2l, i_l2i, i_lcmp, i_dup, i_dup2, i_pop, i_if, i_icmp, i_goto, swG, i_sw, i_getf, i_puti, i_putz, i_putr, i_ald, i_lald, i_aald, i_ast, i_last, i_aast, i_alen, i_new, i_newi, i_newl, i_newq, i_oinit, i_ret, i_zret, i_lret, i_vret, catS, tk, rpush, isO, i_m1, i_m2, i_acopy, i_callV, i_callS, KRet, lget, lput, lputL, lcl0, isL, lv0, List.map_cons, List.map_nil, List.length_cons, List.length_nil, List.cons_append, List.nil_append, Nat.reduceAdd, Nat.reduceSub, Nat.reduceLeDiff, List.replicate_succ, List.replicate_zero, List.getElem?_cons_succ, List.getElem?_cons_zero, List.set_cons_succ, List.set_cons_zero, true_and, and_true, if_true, if_false, reduceIte, Nat.le_refl, Value.category, va_up_app, eq_self, stp, Nat.reduceBEq, Bool.or_false, Bool.false_or, Bool.true_or, Bool.or_true, or_true, true_or, bx_uu, implies_true, true_implies, not_true, not_false_eq_true, false_implies, and_self, Nat.reduceLT, Int32.reduceAdd, Int32.reduceSub, Int32.reduceMul, Int32.reduceLE, Int32.reduceLT, Int32.reduceToNatClampNeg, va_rf_some, Bool.false_eq_true, k_X4_loopKey_0 ca, k_X4_loopKey_1 ca, k_X4_loopKey_2 ca, k_X4_loopKey_3 ca, k_X4_loopKey_4 ca, k_X4_loopKey_5 ca, k_X4_loopKey_6 ca, k_X4_loopKey_9 ca, k_X4_loopKey_10 ca, k_X4_loopKey_12 ca, k_X4_loopKey_13 ca, k_X4_loopKey_14 ca, k_X4_loopKey_17 ca, k_X4_loopKey_18 ca, k_X4_loopKey_19 ca, k_X4_loopKey_22 ca, k_X4_loopKey_25 ca, k_X4_loopKey_26 ca, k_X4_loopKey_27 ca, k_X4_loopKey_28 ca, k_X4_loopKey_29 ca, k_X4_loopKey_30 ca, k_X4_loopKey_31 ca, k_X4_loopKey_32 ca, k_X4_loopKey_33 ca, k_X4_loopKey_36 ca, k_X4_loopKey_37 ca, k_X4_loopKey_38 ca, k_X4_loopKey_41 ca, k_X4_loopKey_44 ca, k_X4_loopKey_45 ca, k_X4_loopKey_46 ca, k_X4_loopKey_47 ca, k_X4_loopKey_48 ca, k_X4_loopKey_49 ca, k_X4_loopKey_50 ca, k_X4_loopKey_51 ca, k_X4_loopKey_54 ca, k_X4_loopKey_55 ca, k_X4_loopKey_56 ca, k_X4_loopKey_59 ca, k_X4_loopKey_60 ca, k_X4_loopKey_61 ca, k_X4_loopKey_62 ca, k_X4_loopKey_65 ca, k_X4_loopKey_68 ca, k_X4_loopKey_69 ca, eState, eStrip, eRoom, x0, xa1, xa2, xa3, xa4, xa5, xa6, xa8, xa9, xa10, xa13, xa14, xa15, xa18, xa19, xa20, xt7, xt12, xt17, xr11, xr16, xr21, xq30, xq31, xq32, xq40, xq41, xq42, v03, v13, v23, sp_X7_oneIf]
      exact hn
    · rw [n1] at hn ⊢
      refine go (stp [4]) 45 _ _ _ _ _ _ ?_
      simp only [wpS, ite_not, i_push, i_iload, i_lload, i_aload, i_istore, i_astore, i_lstore, i_iinc, i_bin, i_dv, i_un, i_lbin, i_lsh, i_i2l, i_l2i, i_lcmp, i_dup, i_dup2, i_pop, i_if, i_icmp, i_goto, swG, i_sw, i_getf, i_puti, i_putz, i_putr, i_ald, i_lald, i_aald, i_ast, i_last, i_aast, i_alen, i_new, i_newi, i_newl, i_newq, i_oinit, i_ret, i_zret, i_lret, i_vret, catS, tk, rpush, isO, i_m1, i_m2, i_acopy, i_callV, i_callS, KRet, lget, lput, lputL, lcl0, isL, lv0, List.map_cons, List.map_nil, List.length_cons, List.length_nil, List.cons_append, List.nil_append, Nat.reduceAdd, Nat.reduceSub, Nat.reduceLeDiff, List.replicate_succ, List.replicate_zero, List.getElem?_cons_succ, List.getElem?_cons_zero, List.set_cons_succ, List.set_cons_zero, true_and, and_true, if_true, if_false, reduceIte, Nat.le_refl, Value.category, va_up_app, eq_self, stp, Nat.reduceBEq, Bool.or_false, Bool.false_or, Bool.true_or, Bool.or_true, or_true, true_or, bx_uu, implies_true, true_implies, not_true, not_false_eq_true, false_implies, and_self, Nat.reduceLT, Int32.reduceAdd, Int32.reduceSub, Int32.reduceMul, Int32.reduceLE, Int32.reduceLT, Int32.reduceToNatClampNeg, va_rf_some, Bool.false_eq_true, k_X4_loopKey_0 ca, k_X4_loopKey_1 ca, k_X4_loopKey_2 ca, k_X4_loopKey_3 ca, k_X4_loopKey_4 ca, k_X4_loopKey_5 ca, k_X4_loopKey_6 ca, k_X4_loopKey_9 ca, k_X4_loopKey_10 ca, k_X4_loopKey_12 ca, k_X4_loopKey_13 ca, k_X4_loopKey_14 ca, k_X4_loopKey_17 ca, k_X4_loopKey_18 ca, k_X4_loopKey_19 ca, k_X4_loopKey_22 ca, k_X4_loopKey_25 ca, k_X4_loopKey_26 ca, k_X4_loopKey_27 ca, k_X4_loopKey_28 ca, k_X4_loopKey_29 ca, k_X4_loopKey_30 ca, k_X4_loopKey_31 ca, k_X4_loopKey_32 ca, k_X4_loopKey_33 ca, k_X4_loopKey_36 ca, k_X4_loopKey_37 ca, k_X4_loopKey_38 ca, k_X4_loopKey_41 ca, k_X4_loopKey_44 ca, k_X4_loopKey_45 ca, k_X4_loopKey_46 ca, k_X4_loopKey_47 ca, k_X4_loopKey_48 ca, k_X4_loopKey_49 ca, k_X4_loopKey_50 ca, k_X4_loopKey_51 ca, k_X4_loopKey_54 ca, k_X4_loopKey_55 ca, k_X4_loopKey_56 ca, k_X4_loopKey_59 ca, k_X4_loopKey_60 ca, k_X4_loopKey_61 ca, k_X4_loopKey_62 ca, k_X4_loopKey_65 ca, k_X4_loopKey_68 ca, k_X4_loopKey_69 ca, eState, eStrip, eRoom, x0, xa1, xa2, xa3, xa4, xa5, xa6, xa8, xa9, xa10, xa13, xa14, xa15, xa18, xa19, xa20, xt7, xt12, xt17, xr11, xr16, xr21, xq30, xq31, xq32, xq40, xq41, xq42, v03, v13, v23, sp_X7_oneIf]
      exact hn
    · rw [n2] at hn ⊢
      refine go (stp [4]) 45 _ _ _ _ _ _ ?_
      simp only [wpS, ite_not, i_push, i_iload, i_lload, i_aload, i_istore, i_astore, i_lstore, i_iinc, i_bin, i_dv, i_un, i_lbin, i_lsh, i_i2l, i_l2i, i_lcmp, i_dup, i_dup2, i_pop, i_if, i_icmp, i_goto, swG, i_sw, i_getf, i_puti, i_putz, i_putr, i_ald, i_lald, i_aald, i_ast, i_last, i_aast, i_alen, i_new, i_newi, i_newl, i_newq, i_oinit, i_ret, i_zret, i_lret, i_vret, catS, tk, rpush, isO, i_m1, i_m2, i_acopy, i_callV, i_callS, KRet, lget, lput, lputL, lcl0, isL, lv0, List.map_cons, List.map_nil, List.length_cons, List.length_nil, List.cons_append, List.nil_append, Nat.reduceAdd, Nat.reduceSub, Nat.reduceLeDiff, List.replicate_succ, List.replicate_zero, List.getElem?_cons_succ, List.getElem?_cons_zero, List.set_cons_succ, List.set_cons_zero, true_and, and_true, if_true, if_false, reduceIte, Nat.le_refl, Value.category, va_up_app, eq_self, stp, Nat.reduceBEq, Bool.or_false, Bool.false_or, Bool.true_or, Bool.or_true, or_true, true_or, bx_uu, implies_true, true_implies, not_true, not_false_eq_true, false_implies, and_self, Nat.reduceLT, Int32.reduceAdd, Int32.reduceSub, Int32.reduceMul, Int32.reduceLE, Int32.reduceLT, Int32.reduceToNatClampNeg, va_rf_some, Bool.false_eq_true, k_X4_loopKey_0 ca, k_X4_loopKey_1 ca, k_X4_loopKey_2 ca, k_X4_loopKey_3 ca, k_X4_loopKey_4 ca, k_X4_loopKey_5 ca, k_X4_loopKey_6 ca, k_X4_loopKey_9 ca, k_X4_loopKey_10 ca, k_X4_loopKey_12 ca, k_X4_loopKey_13 ca, k_X4_loopKey_14 ca, k_X4_loopKey_17 ca, k_X4_loopKey_18 ca, k_X4_loopKey_19 ca, k_X4_loopKey_22 ca, k_X4_loopKey_25 ca, k_X4_loopKey_26 ca, k_X4_loopKey_27 ca, k_X4_loopKey_28 ca, k_X4_loopKey_29 ca, k_X4_loopKey_30 ca, k_X4_loopKey_31 ca, k_X4_loopKey_32 ca, k_X4_loopKey_33 ca, k_X4_loopKey_36 ca, k_X4_loopKey_37 ca, k_X4_loopKey_38 ca, k_X4_loopKey_41 ca, k_X4_loopKey_44 ca, k_X4_loopKey_45 ca, k_X4_loopKey_46 ca, k_X4_loopKey_47 ca, k_X4_loopKey_48 ca, k_X4_loopKey_49 ca, k_X4_loopKey_50 ca, k_X4_loopKey_51 ca, k_X4_loopKey_54 ca, k_X4_loopKey_55 ca, k_X4_loopKey_56 ca, k_X4_loopKey_59 ca, k_X4_loopKey_60 ca, k_X4_loopKey_61 ca, k_X4_loopKey_62 ca, k_X4_loopKey_65 ca, k_X4_loopKey_68 ca, k_X4_loopKey_69 ca, eState, eStrip, eRoom, x0, xa1, xa2, xa3, xa4, xa5, xa6, xa8, xa9, xa10, xa13, xa14, xa15, xa18, xa19, xa20, xt7, xt12, xt17, xr11, xr16, xr21, xq30, xq31, xq32, xq40, xq41, xq42, v03, v13, v23, sp_X7_oneIf]
      exact hn
  refine go (stp [4]) 6 _ _ _ _ _ _ ?_
  simp only [wpS, ite_not, i_push, i_iload, i_lload, i_aload, i_istore, i_astore, i_lstore, i_iinc, i_bin, i_dv, i_un, i_lbin, i_lsh, i_i2l, i_l2i, i_lcmp, i_dup, i_dup2, i_pop, i_if, i_icmp, i_goto, swG, i_sw, i_getf, i_puti, i_putz, i_putr, i_ald, i_lald, i_aald, i_ast, i_last, i_aast, i_alen, i_new, i_newi, i_newl, i_newq, i_oinit, i_ret, i_zret, i_lret, i_vret, catS, tk, rpush, isO, i_m1, i_m2, i_acopy, i_callV, i_callS, KRet, lget, lput, lputL, lcl0, isL, lv0, List.map_cons, List.map_nil, List.length_cons, List.length_nil, List.cons_append, List.nil_append, Nat.reduceAdd, Nat.reduceSub, Nat.reduceLeDiff, List.replicate_succ, List.replicate_zero, List.getElem?_cons_succ, List.getElem?_cons_zero, List.set_cons_succ, List.set_cons_zero, true_and, and_true, if_true, if_false, reduceIte, Nat.le_refl, Value.category, va_up_app, eq_self, stp, Nat.reduceBEq, Bool.or_false, Bool.false_or, Bool.true_or, Bool.or_true, or_true, true_or, bx_uu, implies_true, true_implies, not_true, not_false_eq_true, false_implies, and_self, Nat.reduceLT, Int32.reduceAdd, Int32.reduceSub, Int32.reduceMul, Int32.reduceLE, Int32.reduceLT, Int32.reduceToNatClampNeg, va_rf_some, Bool.false_eq_true, k_X4_loopKey_0 ca, k_X4_loopKey_1 ca, k_X4_loopKey_2 ca, k_X4_loopKey_3 ca, k_X4_loopKey_4 ca, k_X4_loopKey_5 ca, k_X4_loopKey_6 ca, k_X4_loopKey_9 ca, k_X4_loopKey_10 ca, k_X4_loopKey_12 ca, k_X4_loopKey_13 ca, k_X4_loopKey_14 ca, k_X4_loopKey_17 ca, k_X4_loopKey_18 ca, k_X4_loopKey_19 ca, k_X4_loopKey_22 ca, k_X4_loopKey_25 ca, k_X4_loopKey_26 ca, k_X4_loopKey_27 ca, k_X4_loopKey_28 ca, k_X4_loopKey_29 ca, k_X4_loopKey_30 ca, k_X4_loopKey_31 ca, k_X4_loopKey_32 ca, k_X4_loopKey_33 ca, k_X4_loopKey_36 ca, k_X4_loopKey_37 ca, k_X4_loopKey_38 ca, k_X4_loopKey_41 ca, k_X4_loopKey_44 ca, k_X4_loopKey_45 ca, k_X4_loopKey_46 ca, k_X4_loopKey_47 ca, k_X4_loopKey_48 ca, k_X4_loopKey_49 ca, k_X4_loopKey_50 ca, k_X4_loopKey_51 ca, k_X4_loopKey_54 ca, k_X4_loopKey_55 ca, k_X4_loopKey_56 ca, k_X4_loopKey_59 ca, k_X4_loopKey_60 ca, k_X4_loopKey_61 ca, k_X4_loopKey_62 ca, k_X4_loopKey_65 ca, k_X4_loopKey_68 ca, k_X4_loopKey_69 ca]
  refine it 0 (by omega) _ (it 1 (by omega) _ (it 2 (by omega) _ ?_))
  have e3 : nI 2 + 1 = 3 := rfl
  rw [e3]
  clear it
  refine go (stp []) 7 _ _ _ _ _ _ ?_
  simp only [wpS, ite_not, i_push, i_iload, i_lload, i_aload, i_istore, i_astore, i_lstore, i_iinc, i_bin, i_dv, i_un, i_lbin, i_lsh, i_i2l, i_l2i, i_lcmp, i_dup, i_dup2, i_pop, i_if, i_icmp, i_goto, swG, i_sw, i_getf, i_puti, i_putz, i_putr, i_ald, i_lald, i_aald, i_ast, i_last, i_aast, i_alen, i_new, i_newi, i_newl, i_newq, i_oinit, i_ret, i_zret, i_lret, i_vret, catS, tk, rpush, isO, i_m1, i_m2, i_acopy, i_callV, i_callS, KRet, lget, lput, lputL, lcl0, isL, lv0, List.map_cons, List.map_nil, List.length_cons, List.length_nil, List.cons_append, List.nil_append, Nat.reduceAdd, Nat.reduceSub, Nat.reduceLeDiff, List.replicate_succ, List.replicate_zero, List.getElem?_cons_succ, List.getElem?_cons_zero, List.set_cons_succ, List.set_cons_zero, true_and, and_true, if_true, if_false, reduceIte, Nat.le_refl, Value.category, va_up_app, eq_self, stp, Nat.reduceBEq, Bool.or_false, Bool.false_or, Bool.true_or, Bool.or_true, or_true, true_or, bx_uu, implies_true, true_implies, not_true, not_false_eq_true, false_implies, and_self, Nat.reduceLT, Int32.reduceAdd, Int32.reduceSub, Int32.reduceMul, Int32.reduceLE, Int32.reduceLT, Int32.reduceToNatClampNeg, va_rf_some, Bool.false_eq_true, k_X4_loopKey_0 ca, k_X4_loopKey_1 ca, k_X4_loopKey_2 ca, k_X4_loopKey_3 ca, k_X4_loopKey_4 ca, k_X4_loopKey_5 ca, k_X4_loopKey_6 ca, k_X4_loopKey_9 ca, k_X4_loopKey_10 ca, k_X4_loopKey_12 ca, k_X4_loopKey_13 ca, k_X4_loopKey_14 ca, k_X4_loopKey_17 ca, k_X4_loopKey_18 ca, k_X4_loopKey_19 ca, k_X4_loopKey_22 ca, k_X4_loopKey_25 ca, k_X4_loopKey_26 ca, k_X4_loopKey_27 ca, k_X4_loopKey_28 ca, k_X4_loopKey_29 ca, k_X4_loopKey_30 ca, k_X4_loopKey_31 ca, k_X4_loopKey_32 ca, k_X4_loopKey_33 ca, k_X4_loopKey_36 ca, k_X4_loopKey_37 ca, k_X4_loopKey_38 ca, k_X4_loopKey_41 ca, k_X4_loopKey_44 ca, k_X4_loopKey_45 ca, k_X4_loopKey_46 ca, k_X4_loopKey_47 ca, k_X4_loopKey_48 ca, k_X4_loopKey_49 ca, k_X4_loopKey_50 ca, k_X4_loopKey_51 ca, k_X4_loopKey_54 ca, k_X4_loopKey_55 ca, k_X4_loopKey_56 ca, k_X4_loopKey_59 ca, k_X4_loopKey_60 ca, k_X4_loopKey_61 ca, k_X4_loopKey_62 ca, k_X4_loopKey_65 ca, k_X4_loopKey_68 ca, k_X4_loopKey_69 ca]
  exact hs
def eHist (qa : Nat) (o z : Int32) : va_E := .inr (0, [.ref qa, .int o, .int z])
def HAt (ca : Nat → ClassId) (h : PH) (qh qa : Nat) (B : Nat → Nat → Nat) (oo ss : Nat) (S : Nat → Nat → Int32) : Prop :=
  h qh = some (eHist qa (nI oo) (nI ss)) ∧ Aq h qa (ca 5) 4 (fun i => B i 0) ∧ (∀ i, i < 4 → SAt ca h (B i) (S i)) ∧ oo < 4 ∧ ss ≤ 4
def hiO (oo ss : Nat) : Nat := if ss < 4 then oo else (oo + 1) % 4
def hiZ (ss : Nat) : Nat := if ss < 4 then ss + 1 else 4
def sp_X0_take (ca : Nat → ClassId) : SPEC := fun av h post => ∃ qh qa B c oo ss S t, av = [.ref qh, .ref (c 0)] ∧ HAt ca h qh qa B oo ss S ∧ (∀ i, i < 4 → Inj (B i) ∧ Dis (B i) c ∧ ∀ o, o < 22 → ¬ qh = B i o) ∧ Inj c ∧ SAt ca h c t ∧ BoS t ∧
  ∀ h', h' qh = some (eHist qa (nI (hiO oo ss)) (nI (hiZ ss))) → SAt ca h' (B ((oo + ss) % 4)) t → (∀ x, ¬ x = qh → (∀ o, o < 22 → ¬ x = B ((oo + ss) % 4) o) → h' x = h x) → post none h'
theorem n4 : nI 4 = 4 := rfl
def k_X0_take (ca : Nat → ClassId) : Nat → IT := fun pc => lk pc [(0, i_aload 0 1),
  (1, i_getf 0 0 4),
  (4, i_aload 0 5),
  (5, i_getf 0 1 8),
  (8, i_aload 0 9),
  (9, i_getf 0 2 12),
  (12, i_bin (fun x y => x + y) 13),
  (13, i_push (.int 4) 14),
  (14, i_dv (fun x y => x - x / y * y) 15),
  (15, i_aald (ca 5) 16),
  (16, i_aload 1 17),
  (17, i_callV 4 1 0 0 0 0 (sp_X4_copyFrom ca) 20),
  (20, i_aload 0 21),
  (21, i_getf 0 2 24),
  (24, i_push (.int 4) 25),
  (25, i_icmp (fun x y => y ≤ x) 41 28),
  (28, i_aload 0 29),
  (29, i_dup 30),
  (30, i_getf 0 2 33),
  (33, i_push (.int 1) 34),
  (34, i_bin (fun x y => x + y) 35),
  (35, i_puti 0 2 38),
  (38, i_goto 53),
  (41, i_aload 0 42),
  (42, i_aload 0 43),
  (43, i_getf 0 1 46),
  (46, i_push (.int 1) 47),
  (47, i_bin (fun x y => x + y) 48),
  (48, i_push (.int 4) 49),
  (49, i_dv (fun x y => x - x / y * y) 50),
  (50, i_puti 0 1 53),
  (53, i_vret)]
set_option maxRecDepth 20000 in
theorem t_X0_take : Tb k_X0_take yX0_take cX0_take 2 none 3 0 0 := by
  intro l D ca A p e s m args below meth c post X
  unfold k_X0_take
  refine snd_cons (snd_aload_n X dX0_take_0 rfl) ?_
  refine snd_cons (snd_getf X Fk0 0 (by decide) w_163 dX0_take_1) ?_
  refine snd_cons (snd_aload_n X dX0_take_4 rfl) ?_
  refine snd_cons (snd_getf X Fk0 1 (by decide) w_164 dX0_take_5) ?_
  refine snd_cons (snd_aload_n X dX0_take_8 rfl) ?_
  refine snd_cons (snd_getf X Fk0 2 (by decide) w_165 dX0_take_9) ?_
  refine snd_cons (snd_iadd X dX0_take_12) ?_
  refine snd_cons (snd_iconst X dX0_take_13 (by decide)) ?_
  refine snd_cons (snd_irem X dX0_take_14) ?_
  refine snd_cons (snd_aaload X 5 rfl dX0_take_15) ?_
  refine snd_cons (snd_aload_n X dX0_take_16 rfl) ?_
  refine snd_cons (snd_callV X Fk4 (ok_X4_copyFrom l D ca) rfl rfl w_294 w_295 w_296 w_2 w_297 (by decide) (by decide) dX0_take_17) ?_
  refine snd_cons (snd_aload_n X dX0_take_20 rfl) ?_
  refine snd_cons (snd_getf X Fk0 2 (by decide) w_165 dX0_take_21) ?_
  refine snd_cons (snd_iconst X dX0_take_24 (by decide)) ?_
  refine snd_cons (snd_icmp_ge X dX0_take_25 (by decide)) ?_
  refine snd_cons (snd_aload_n X dX0_take_28 rfl) ?_
  refine snd_cons (snd_dup X dX0_take_29) ?_
  refine snd_cons (snd_getf X Fk0 2 (by decide) w_165 dX0_take_30) ?_
  refine snd_cons (snd_iconst X dX0_take_33 (by decide)) ?_
  refine snd_cons (snd_iadd X dX0_take_34) ?_
  refine snd_cons (snd_puti X Fk0 2 (by decide) rfl rfl w_165 dX0_take_35) ?_
  refine snd_cons (snd_goto X dX0_take_38 (by decide)) ?_
  refine snd_cons (snd_aload_n X dX0_take_41 rfl) ?_
  refine snd_cons (snd_aload_n X dX0_take_42 rfl) ?_
  refine snd_cons (snd_getf X Fk0 1 (by decide) w_164 dX0_take_43) ?_
  refine snd_cons (snd_iconst X dX0_take_46 (by decide)) ?_
  refine snd_cons (snd_iadd X dX0_take_47) ?_
  refine snd_cons (snd_iconst X dX0_take_48 (by decide)) ?_
  refine snd_cons (snd_irem X dX0_take_49) ?_
  refine snd_cons (snd_puti X Fk0 1 (by decide) rfl rfl w_164 dX0_take_50) ?_
  refine snd_cons (snd_vret X dX0_take_53) ?_
  exact snd_nil
theorem k_X0_take_0 (ca : Nat → ClassId) : k_X0_take ca 0 = i_aload 0 1 := rfl
theorem k_X0_take_1 (ca : Nat → ClassId) : k_X0_take ca 1 = i_getf 0 0 4 := rfl
theorem k_X0_take_4 (ca : Nat → ClassId) : k_X0_take ca 4 = i_aload 0 5 := rfl
theorem k_X0_take_5 (ca : Nat → ClassId) : k_X0_take ca 5 = i_getf 0 1 8 := rfl
theorem k_X0_take_8 (ca : Nat → ClassId) : k_X0_take ca 8 = i_aload 0 9 := rfl
theorem k_X0_take_9 (ca : Nat → ClassId) : k_X0_take ca 9 = i_getf 0 2 12 := rfl
theorem k_X0_take_12 (ca : Nat → ClassId) : k_X0_take ca 12 = i_bin (fun x y => x + y) 13 := rfl
theorem k_X0_take_13 (ca : Nat → ClassId) : k_X0_take ca 13 = i_push (.int 4) 14 := rfl
theorem k_X0_take_14 (ca : Nat → ClassId) : k_X0_take ca 14 = i_dv (fun x y => x - x / y * y) 15 := rfl
theorem k_X0_take_15 (ca : Nat → ClassId) : k_X0_take ca 15 = i_aald (ca 5) 16 := rfl
theorem k_X0_take_16 (ca : Nat → ClassId) : k_X0_take ca 16 = i_aload 1 17 := rfl
theorem k_X0_take_17 (ca : Nat → ClassId) : k_X0_take ca 17 = i_callV 4 1 0 0 0 0 (sp_X4_copyFrom ca) 20 := rfl
theorem k_X0_take_20 (ca : Nat → ClassId) : k_X0_take ca 20 = i_aload 0 21 := rfl
theorem k_X0_take_21 (ca : Nat → ClassId) : k_X0_take ca 21 = i_getf 0 2 24 := rfl
theorem k_X0_take_24 (ca : Nat → ClassId) : k_X0_take ca 24 = i_push (.int 4) 25 := rfl
theorem k_X0_take_25 (ca : Nat → ClassId) : k_X0_take ca 25 = i_icmp (fun x y => y ≤ x) 41 28 := rfl
theorem k_X0_take_28 (ca : Nat → ClassId) : k_X0_take ca 28 = i_aload 0 29 := rfl
theorem k_X0_take_29 (ca : Nat → ClassId) : k_X0_take ca 29 = i_dup 30 := rfl
theorem k_X0_take_30 (ca : Nat → ClassId) : k_X0_take ca 30 = i_getf 0 2 33 := rfl
theorem k_X0_take_33 (ca : Nat → ClassId) : k_X0_take ca 33 = i_push (.int 1) 34 := rfl
theorem k_X0_take_34 (ca : Nat → ClassId) : k_X0_take ca 34 = i_bin (fun x y => x + y) 35 := rfl
theorem k_X0_take_35 (ca : Nat → ClassId) : k_X0_take ca 35 = i_puti 0 2 38 := rfl
theorem k_X0_take_38 (ca : Nat → ClassId) : k_X0_take ca 38 = i_goto 53 := rfl
theorem k_X0_take_41 (ca : Nat → ClassId) : k_X0_take ca 41 = i_aload 0 42 := rfl
theorem k_X0_take_42 (ca : Nat → ClassId) : k_X0_take ca 42 = i_aload 0 43 := rfl
theorem k_X0_take_43 (ca : Nat → ClassId) : k_X0_take ca 43 = i_getf 0 1 46 := rfl
theorem k_X0_take_46 (ca : Nat → ClassId) : k_X0_take ca 46 = i_push (.int 1) 47 := rfl
theorem k_X0_take_47 (ca : Nat → ClassId) : k_X0_take ca 47 = i_bin (fun x y => x + y) 48 := rfl
theorem k_X0_take_48 (ca : Nat → ClassId) : k_X0_take ca 48 = i_push (.int 4) 49 := rfl
theorem k_X0_take_49 (ca : Nat → ClassId) : k_X0_take ca 49 = i_dv (fun x y => x - x / y * y) 50 := rfl
theorem k_X0_take_50 (ca : Nat → ClassId) : k_X0_take ca 50 = i_puti 0 1 53 := rfl
theorem k_X0_take_53 (ca : Nat → ClassId) : k_X0_take ca 53 = i_vret := rfl
set_option maxHeartbeats 4000000 in
set_option maxRecDepth 20000 in
theorem ok_X0_take (l : Launch) (D : va_G) (ca : Nat → ClassId) : OkAll l D ca yX0_take cX0_take 2 none 3 0 0 (sp_X0_take ca) := by
  intro av h post hs
  obtain ⟨qh, qa, B, c, oo, ss, S, t, rfl, ⟨h0, ⟨f, ha, hf⟩, hB, hoo, hss⟩, hD, hc, hT, hbo, hs⟩ := hs
  unfold eHist at h0
  have hj : (oo + ss) % 4 < 4 := Nat.mod_lt _ (by decide)
  have hrem : nI oo + nI ss - (nI oo + nI ss) / 4 * 4 = nI ((oo + ss) % 4) := by rw [nI_add, ← n4]; exact pk_rem (by omega) (by decide) (by decide)
  have hv : vp_in (nI ((oo + ss) % 4)) 4 := vp_in_nI hj (by decide)
  have ht : (nI ((oo + ss) % 4)).toNatClampNeg = (oo + ss) % 4 := nI_clamp (by omega)
  have hfj := hf _ hj
  generalize hJ : (oo + ss) % 4 = j at *
  obtain ⟨d1, d2, d3⟩ := hD j hj
  have h40 : ¬ (4 : Int32) = 0 := by decide
  refine okM_of t_X0_take (by decide +kernel) (c1_ref (c1_ref c1_nil)) (Nat.le_of_ble_eq_true rfl) ?_
  intro K go
  have hOj : h (B j 0) = some (eState (B j) (S j)) := (hB j hj).1
  refine go (stp [20]) 14 _ _ _ _ _ _ ?_
  simp only [wpS, ite_not, i_push, i_iload, i_lload, i_aload, i_istore, i_astore, i_lstore, i_iinc, i_bin, i_dv, i_un, i_lbin, i_lsh, i_i2l, i_l2i, i_lcmp, i_dup, i_dup2, i_pop, i_if, i_icmp, i_goto, swG, i_sw, i_getf, i_puti, i_putz, i_putr, i_ald, i_lald, i_aald, i_ast, i_last, i_aast, i_alen, i_new, i_newi, i_newl, i_newq, i_oinit, i_ret, i_zret, i_lret, i_vret, catS, tk, rpush, isO, i_m1, i_m2, i_acopy, i_callV, i_callS, KRet, lget, lput, lputL, lcl0, isL, lv0, List.map_cons, List.map_nil, List.length_cons, List.length_nil, List.cons_append, List.nil_append, Nat.reduceAdd, Nat.reduceSub, Nat.reduceLeDiff, List.replicate_succ, List.replicate_zero, List.getElem?_cons_succ, List.getElem?_cons_zero, List.set_cons_succ, List.set_cons_zero, true_and, and_true, if_true, if_false, reduceIte, Nat.le_refl, Value.category, va_up_app, eq_self, stp, Nat.reduceBEq, Bool.or_false, Bool.false_or, Bool.true_or, Bool.or_true, or_true, true_or, bx_uu, implies_true, true_implies, not_true, not_false_eq_true, false_implies, and_self, Nat.reduceLT, Int32.reduceAdd, Int32.reduceSub, Int32.reduceMul, Int32.reduceLE, Int32.reduceLT, Int32.reduceToNatClampNeg, va_rf_some, Bool.false_eq_true, k_X0_take_0 ca, k_X0_take_1 ca, k_X0_take_4 ca, k_X0_take_5 ca, k_X0_take_8 ca, k_X0_take_9 ca, k_X0_take_12 ca, k_X0_take_13 ca, k_X0_take_14 ca, k_X0_take_15 ca, k_X0_take_16 ca, k_X0_take_17 ca, k_X0_take_20 ca, k_X0_take_21 ca, k_X0_take_24 ca, k_X0_take_25 ca, k_X0_take_28 ca, k_X0_take_29 ca, k_X0_take_30 ca, k_X0_take_33 ca, k_X0_take_34 ca, k_X0_take_35 ca, k_X0_take_38 ca, k_X0_take_41 ca, k_X0_take_42 ca, k_X0_take_43 ca, k_X0_take_46 ca, k_X0_take_47 ca, k_X0_take_48 ca, k_X0_take_49 ca, k_X0_take_50 ca, k_X0_take_53 ca, h0, ha, hrem, hv, ht, hfj, h40, hOj, eState]
  refine ⟨B j, c, S j, t, rfl, d1, hc, d2, hB j hj, hT, hbo, fun h' p1 p2 => ?_⟩
  have g0 : h' qh = some (.inr (0, [.ref qa, .int (nI oo), .int (nI ss)])) := (p2 _ d3).trans h0
  have fin : ∀ e, SAt ca (va_up h' qh e) (B j) t ∧ (∀ x, ¬ x = qh → (∀ o, o < 22 → ¬ x = B j o) → va_up h' qh e x = h x) := fun e => ⟨SAt_kept p1 (fun i hi => va_up_ne _ _ (fun z => d3 i hi z.symm)), fun x q1 q2 => (va_up_ne _ _ q1).trans (p2 x q2)⟩
  by_cases h4 : ss < 4
  · have hlt : ¬ 4 ≤ nI ss := by rw [← n4]; exact nI_ge h4 (by decide)
    have e1 : nI ss + 1 = nI (ss + 1) := nI_1 ss
    refine go (stp []) 14 _ _ _ _ _ _ ?_
    simp only [wpS, ite_not, i_push, i_iload, i_lload, i_aload, i_istore, i_astore, i_lstore, i_iinc, i_bin, i_dv, i_un, i_lbin, i_lsh, i_i2l, i_l2i, i_lcmp, i_dup, i_dup2, i_pop, i_if, i_icmp, i_goto, swG, i_sw, i_getf, i_puti, i_putz, i_putr, i_ald, i_lald, i_aald, i_ast, i_last, i_aast, i_alen, i_new, i_newi, i_newl, i_newq, i_oinit, i_ret, i_zret, i_lret, i_vret, catS, tk, rpush, isO, i_m1, i_m2, i_acopy, i_callV, i_callS, KRet, lget, lput, lputL, lcl0, isL, lv0, List.map_cons, List.map_nil, List.length_cons, List.length_nil, List.cons_append, List.nil_append, Nat.reduceAdd, Nat.reduceSub, Nat.reduceLeDiff, List.replicate_succ, List.replicate_zero, List.getElem?_cons_succ, List.getElem?_cons_zero, List.set_cons_succ, List.set_cons_zero, true_and, and_true, if_true, if_false, reduceIte, Nat.le_refl, Value.category, va_up_app, eq_self, stp, Nat.reduceBEq, Bool.or_false, Bool.false_or, Bool.true_or, Bool.or_true, or_true, true_or, bx_uu, implies_true, true_implies, not_true, not_false_eq_true, false_implies, and_self, Nat.reduceLT, Int32.reduceAdd, Int32.reduceSub, Int32.reduceMul, Int32.reduceLE, Int32.reduceLT, Int32.reduceToNatClampNeg, va_rf_some, Bool.false_eq_true, k_X0_take_0 ca, k_X0_take_1 ca, k_X0_take_4 ca, k_X0_take_5 ca, k_X0_take_8 ca, k_X0_take_9 ca, k_X0_take_12 ca, k_X0_take_13 ca, k_X0_take_14 ca, k_X0_take_15 ca, k_X0_take_16 ca, k_X0_take_17 ca, k_X0_take_20 ca, k_X0_take_21 ca, k_X0_take_24 ca, k_X0_take_25 ca, k_X0_take_28 ca, k_X0_take_29 ca, k_X0_take_30 ca, k_X0_take_33 ca, k_X0_take_34 ca, k_X0_take_35 ca, k_X0_take_38 ca, k_X0_take_41 ca, k_X0_take_42 ca, k_X0_take_43 ca, k_X0_take_46 ca, k_X0_take_47 ca, k_X0_take_48 ca, k_X0_take_49 ca, k_X0_take_50 ca, k_X0_take_53 ca, g0, hlt, e1]
    refine hs _ ?_ (fin _).1 (fin _).2
    rw [va_up_self, hiO, hiZ, if_pos h4, if_pos h4]
    rfl
  · have e4 : ss = 4 := by omega
    subst e4
    have hrem2 : nI oo + 1 - (nI oo + 1) / 4 * 4 = nI ((oo + 1) % 4) := by rw [nI_1, ← n4]; exact pk_rem (by omega) (by decide) (by decide)
    rw [n4] at g0
    refine go (stp []) 18 _ _ _ _ _ _ ?_
    simp only [wpS, ite_not, i_push, i_iload, i_lload, i_aload, i_istore, i_astore, i_lstore, i_iinc, i_bin, i_dv, i_un, i_lbin, i_lsh, i_i2l, i_l2i, i_lcmp, i_dup, i_dup2, i_pop, i_if, i_icmp, i_goto, swG, i_sw, i_getf, i_puti, i_putz, i_putr, i_ald, i_lald, i_aald, i_ast, i_last, i_aast, i_alen, i_new, i_newi, i_newl, i_newq, i_oinit, i_ret, i_zret, i_lret, i_vret, catS, tk, rpush, isO, i_m1, i_m2, i_acopy, i_callV, i_callS, KRet, lget, lput, lputL, lcl0, isL, lv0, List.map_cons, List.map_nil, List.length_cons, List.length_nil, List.cons_append, List.nil_append, Nat.reduceAdd, Nat.reduceSub, Nat.reduceLeDiff, List.replicate_succ, List.replicate_zero, List.getElem?_cons_succ, List.getElem?_cons_zero, List.set_cons_succ, List.set_cons_zero, true_and, and_true, if_true, if_false, reduceIte, Nat.le_refl, Value.category, va_up_app, eq_self, stp, Nat.reduceBEq, Bool.or_false, Bool.false_or, Bool.true_or, Bool.or_true, or_true, true_or, bx_uu, implies_true, true_implies, not_true, not_false_eq_true, false_implies, and_self, Nat.reduceLT, Int32.reduceAdd, Int32.reduceSub, Int32.reduceMul, Int32.reduceLE, Int32.reduceLT, Int32.reduceToNatClampNeg, va_rf_some, Bool.false_eq_true, k_X0_take_0 ca, k_X0_take_1 ca, k_X0_take_4 ca, k_X0_take_5 ca, k_X0_take_8 ca, k_X0_take_9 ca, k_X0_take_12 ca, k_X0_take_13 ca, k_X0_take_14 ca, k_X0_take_15 ca, k_X0_take_16 ca, k_X0_take_17 ca, k_X0_take_20 ca, k_X0_take_21 ca, k_X0_take_24 ca, k_X0_take_25 ca, k_X0_take_28 ca, k_X0_take_29 ca, k_X0_take_30 ca, k_X0_take_33 ca, k_X0_take_34 ca, k_X0_take_35 ca, k_X0_take_38 ca, k_X0_take_41 ca, k_X0_take_42 ca, k_X0_take_43 ca, k_X0_take_46 ca, k_X0_take_47 ca, k_X0_take_48 ca, k_X0_take_49 ca, k_X0_take_50 ca, k_X0_take_53 ca, g0, hrem2, h40]
    refine hs _ ?_ (fin _).1 (fin _).2
    rw [va_up_self, hiO, hiZ, if_neg h4, if_neg h4]
    rfl
def sp_X0_giveBack (ca : Nat → ClassId) : SPEC := fun av h post => ∃ qh qa B c oo ss S t, av = [.ref qh, .ref (c 0)] ∧ HAt ca h qh qa B oo (ss + 1) S ∧ (∀ i, i < 4 → Inj (B i) ∧ Dis c (B i) ∧ ∀ o, o < 22 → ¬ qh = B i o) ∧ Inj c ∧ (∀ o, o < 22 → ¬ qh = c o) ∧ ¬ qa = qh ∧ SAt ca h c t ∧ BoS (S ((oo + ss) % 4)) ∧
  ∀ h', h' qh = some (eHist qa (nI oo) (nI ss)) → SAt ca h' c (S ((oo + ss) % 4)) → (∀ x, ¬ x = qh → (∀ o, o < 22 → ¬ x = c o) → h' x = h x) → post none h'
def k_X0_giveBack (ca : Nat → ClassId) : Nat → IT := fun pc => lk pc [(0, i_aload 0 1),
  (1, i_getf 0 2 4),
  (4, i_if (fun x => x ≤ 0) 37 7),
  (7, i_aload 0 8),
  (8, i_dup 9),
  (9, i_getf 0 2 12),
  (12, i_push (.int 1) 13),
  (13, i_bin (fun x y => x - y) 14),
  (14, i_puti 0 2 17),
  (17, i_aload 1 18),
  (18, i_aload 0 19),
  (19, i_getf 0 0 22),
  (22, i_aload 0 23),
  (23, i_getf 0 1 26),
  (26, i_aload 0 27),
  (27, i_getf 0 2 30),
  (30, i_bin (fun x y => x + y) 31),
  (31, i_push (.int 4) 32),
  (32, i_dv (fun x y => x - x / y * y) 33),
  (33, i_aald (ca 5) 34),
  (34, i_callV 4 1 0 0 0 0 (sp_X4_copyFrom ca) 37),
  (37, i_vret)]
set_option maxRecDepth 20000 in
theorem t_X0_giveBack : Tb k_X0_giveBack yX0_giveBack cX0_giveBack 2 none 3 0 0 := by
  intro l D ca A p e s m args below meth c post X
  unfold k_X0_giveBack
  refine snd_cons (snd_aload_n X dX0_giveBack_0 rfl) ?_
  refine snd_cons (snd_getf X Fk0 2 (by decide) w_165 dX0_giveBack_1) ?_
  refine snd_cons (snd_if_le X dX0_giveBack_4 (by decide)) ?_
  refine snd_cons (snd_aload_n X dX0_giveBack_7 rfl) ?_
  refine snd_cons (snd_dup X dX0_giveBack_8) ?_
  refine snd_cons (snd_getf X Fk0 2 (by decide) w_165 dX0_giveBack_9) ?_
  refine snd_cons (snd_iconst X dX0_giveBack_12 (by decide)) ?_
  refine snd_cons (snd_isub X dX0_giveBack_13) ?_
  refine snd_cons (snd_puti X Fk0 2 (by decide) rfl rfl w_165 dX0_giveBack_14) ?_
  refine snd_cons (snd_aload_n X dX0_giveBack_17 rfl) ?_
  refine snd_cons (snd_aload_n X dX0_giveBack_18 rfl) ?_
  refine snd_cons (snd_getf X Fk0 0 (by decide) w_163 dX0_giveBack_19) ?_
  refine snd_cons (snd_aload_n X dX0_giveBack_22 rfl) ?_
  refine snd_cons (snd_getf X Fk0 1 (by decide) w_164 dX0_giveBack_23) ?_
  refine snd_cons (snd_aload_n X dX0_giveBack_26 rfl) ?_
  refine snd_cons (snd_getf X Fk0 2 (by decide) w_165 dX0_giveBack_27) ?_
  refine snd_cons (snd_iadd X dX0_giveBack_30) ?_
  refine snd_cons (snd_iconst X dX0_giveBack_31 (by decide)) ?_
  refine snd_cons (snd_irem X dX0_giveBack_32) ?_
  refine snd_cons (snd_aaload X 5 rfl dX0_giveBack_33) ?_
  refine snd_cons (snd_callV X Fk4 (ok_X4_copyFrom l D ca) rfl rfl w_294 w_295 w_296 w_2 w_297 (by decide) (by decide) dX0_giveBack_34) ?_
  refine snd_cons (snd_vret X dX0_giveBack_37) ?_
  exact snd_nil
theorem k_X0_giveBack_0 (ca : Nat → ClassId) : k_X0_giveBack ca 0 = i_aload 0 1 := rfl
theorem k_X0_giveBack_1 (ca : Nat → ClassId) : k_X0_giveBack ca 1 = i_getf 0 2 4 := rfl
theorem k_X0_giveBack_4 (ca : Nat → ClassId) : k_X0_giveBack ca 4 = i_if (fun x => x ≤ 0) 37 7 := rfl
theorem k_X0_giveBack_7 (ca : Nat → ClassId) : k_X0_giveBack ca 7 = i_aload 0 8 := rfl
theorem k_X0_giveBack_8 (ca : Nat → ClassId) : k_X0_giveBack ca 8 = i_dup 9 := rfl
theorem k_X0_giveBack_9 (ca : Nat → ClassId) : k_X0_giveBack ca 9 = i_getf 0 2 12 := rfl
theorem k_X0_giveBack_12 (ca : Nat → ClassId) : k_X0_giveBack ca 12 = i_push (.int 1) 13 := rfl
theorem k_X0_giveBack_13 (ca : Nat → ClassId) : k_X0_giveBack ca 13 = i_bin (fun x y => x - y) 14 := rfl
theorem k_X0_giveBack_14 (ca : Nat → ClassId) : k_X0_giveBack ca 14 = i_puti 0 2 17 := rfl
theorem k_X0_giveBack_17 (ca : Nat → ClassId) : k_X0_giveBack ca 17 = i_aload 1 18 := rfl
theorem k_X0_giveBack_18 (ca : Nat → ClassId) : k_X0_giveBack ca 18 = i_aload 0 19 := rfl
theorem k_X0_giveBack_19 (ca : Nat → ClassId) : k_X0_giveBack ca 19 = i_getf 0 0 22 := rfl
theorem k_X0_giveBack_22 (ca : Nat → ClassId) : k_X0_giveBack ca 22 = i_aload 0 23 := rfl
theorem k_X0_giveBack_23 (ca : Nat → ClassId) : k_X0_giveBack ca 23 = i_getf 0 1 26 := rfl
theorem k_X0_giveBack_26 (ca : Nat → ClassId) : k_X0_giveBack ca 26 = i_aload 0 27 := rfl
theorem k_X0_giveBack_27 (ca : Nat → ClassId) : k_X0_giveBack ca 27 = i_getf 0 2 30 := rfl
theorem k_X0_giveBack_30 (ca : Nat → ClassId) : k_X0_giveBack ca 30 = i_bin (fun x y => x + y) 31 := rfl
theorem k_X0_giveBack_31 (ca : Nat → ClassId) : k_X0_giveBack ca 31 = i_push (.int 4) 32 := rfl
theorem k_X0_giveBack_32 (ca : Nat → ClassId) : k_X0_giveBack ca 32 = i_dv (fun x y => x - x / y * y) 33 := rfl
theorem k_X0_giveBack_33 (ca : Nat → ClassId) : k_X0_giveBack ca 33 = i_aald (ca 5) 34 := rfl
theorem k_X0_giveBack_34 (ca : Nat → ClassId) : k_X0_giveBack ca 34 = i_callV 4 1 0 0 0 0 (sp_X4_copyFrom ca) 37 := rfl
theorem k_X0_giveBack_37 (ca : Nat → ClassId) : k_X0_giveBack ca 37 = i_vret := rfl
set_option maxHeartbeats 4000000 in
set_option maxRecDepth 20000 in
theorem ok_X0_giveBack (l : Launch) (D : va_G) (ca : Nat → ClassId) : OkAll l D ca yX0_giveBack cX0_giveBack 2 none 3 0 0 (sp_X0_giveBack ca) := by
  intro av h post hs
  obtain ⟨qh, qa, B, c, oo, ss, S, t, rfl, ⟨h0, ⟨f, ha, hf⟩, hB, hoo, hss⟩, hD, hc, hqc, hqa, hT, hbo, hs⟩ := hs
  unfold eHist at h0
  have hj : (oo + ss) % 4 < 4 := Nat.mod_lt _ (by decide)
  have hrem : nI oo + nI ss - (nI oo + nI ss) / 4 * 4 = nI ((oo + ss) % 4) := by rw [nI_add, ← n4]; exact pk_rem (by omega) (by decide) (by decide)
  have hv : vp_in (nI ((oo + ss) % 4)) 4 := vp_in_nI hj (by decide)
  have ht : (nI ((oo + ss) % 4)).toNatClampNeg = (oo + ss) % 4 := nI_clamp (by omega)
  have hfj := hf _ hj
  have e1 : nI (ss + 1) - 1 = nI ss := nI_pred ss
  have hpos : ¬ nI (ss + 1) ≤ 0 := nI_nle (by omega) (by omega)
  generalize hJ : (oo + ss) % 4 = j at *
  obtain ⟨d1, d2, d3⟩ := hD j hj
  have h40 : ¬ (4 : Int32) = 0 := by decide
  have hc0 : h (c 0) = some (eState c t) := hT.1
  have hq0 : ¬ c 0 = qh := fun z => hqc 0 (by decide) z.symm
  refine okM_of t_X0_giveBack (by decide +kernel) (c1_ref (c1_ref c1_nil)) (Nat.le_of_ble_eq_true rfl) ?_
  intro K go
  refine go (stp [37]) 26 _ _ _ _ _ _ ?_
  simp only [wpS, ite_not, i_push, i_iload, i_lload, i_aload, i_istore, i_astore, i_lstore, i_iinc, i_bin, i_dv, i_un, i_lbin, i_lsh, i_i2l, i_l2i, i_lcmp, i_dup, i_dup2, i_pop, i_if, i_icmp, i_goto, swG, i_sw, i_getf, i_puti, i_putz, i_putr, i_ald, i_lald, i_aald, i_ast, i_last, i_aast, i_alen, i_new, i_newi, i_newl, i_newq, i_oinit, i_ret, i_zret, i_lret, i_vret, catS, tk, rpush, isO, i_m1, i_m2, i_acopy, i_callV, i_callS, KRet, lget, lput, lputL, lcl0, isL, lv0, List.map_cons, List.map_nil, List.length_cons, List.length_nil, List.cons_append, List.nil_append, Nat.reduceAdd, Nat.reduceSub, Nat.reduceLeDiff, List.replicate_succ, List.replicate_zero, List.getElem?_cons_succ, List.getElem?_cons_zero, List.set_cons_succ, List.set_cons_zero, true_and, and_true, if_true, if_false, reduceIte, Nat.le_refl, Value.category, va_up_app, eq_self, stp, Nat.reduceBEq, Bool.or_false, Bool.false_or, Bool.true_or, Bool.or_true, or_true, true_or, bx_uu, implies_true, true_implies, not_true, not_false_eq_true, false_implies, and_self, Nat.reduceLT, Int32.reduceAdd, Int32.reduceSub, Int32.reduceMul, Int32.reduceLE, Int32.reduceLT, Int32.reduceToNatClampNeg, va_rf_some, Bool.false_eq_true, k_X0_giveBack_0 ca, k_X0_giveBack_1 ca, k_X0_giveBack_4 ca, k_X0_giveBack_7 ca, k_X0_giveBack_8 ca, k_X0_giveBack_9 ca, k_X0_giveBack_12 ca, k_X0_giveBack_13 ca, k_X0_giveBack_14 ca, k_X0_giveBack_17 ca, k_X0_giveBack_18 ca, k_X0_giveBack_19 ca, k_X0_giveBack_22 ca, k_X0_giveBack_23 ca, k_X0_giveBack_26 ca, k_X0_giveBack_27 ca, k_X0_giveBack_30 ca, k_X0_giveBack_31 ca, k_X0_giveBack_32 ca, k_X0_giveBack_33 ca, k_X0_giveBack_34 ca, k_X0_giveBack_37 ca, h0, ha, hrem, hv, ht, hfj, h40, e1, hpos, hqa, hc0, hq0, eState]
  refine ⟨c, B j, t, S j, rfl, hc, d1, d2, SAt_kept hT (fun i hi => va_up_ne _ _ (fun z => hqc i hi z.symm)), SAt_kept (hB j hj) (fun i hi => va_up_ne _ _ (fun z => d3 i hi z.symm)), hbo, fun h' p1 p2 => ?_⟩
  refine go (stp []) 3 _ _ _ _ _ _ ?_
  simp only [wpS, ite_not, i_push, i_iload, i_lload, i_aload, i_istore, i_astore, i_lstore, i_iinc, i_bin, i_dv, i_un, i_lbin, i_lsh, i_i2l, i_l2i, i_lcmp, i_dup, i_dup2, i_pop, i_if, i_icmp, i_goto, swG, i_sw, i_getf, i_puti, i_putz, i_putr, i_ald, i_lald, i_aald, i_ast, i_last, i_aast, i_alen, i_new, i_newi, i_newl, i_newq, i_oinit, i_ret, i_zret, i_lret, i_vret, catS, tk, rpush, isO, i_m1, i_m2, i_acopy, i_callV, i_callS, KRet, lget, lput, lputL, lcl0, isL, lv0, List.map_cons, List.map_nil, List.length_cons, List.length_nil, List.cons_append, List.nil_append, Nat.reduceAdd, Nat.reduceSub, Nat.reduceLeDiff, List.replicate_succ, List.replicate_zero, List.getElem?_cons_succ, List.getElem?_cons_zero, List.set_cons_succ, List.set_cons_zero, true_and, and_true, if_true, if_false, reduceIte, Nat.le_refl, Value.category, va_up_app, eq_self, stp, Nat.reduceBEq, Bool.or_false, Bool.false_or, Bool.true_or, Bool.or_true, or_true, true_or, bx_uu, implies_true, true_implies, not_true, not_false_eq_true, false_implies, and_self, Nat.reduceLT, Int32.reduceAdd, Int32.reduceSub, Int32.reduceMul, Int32.reduceLE, Int32.reduceLT, Int32.reduceToNatClampNeg, va_rf_some, Bool.false_eq_true, k_X0_giveBack_0 ca, k_X0_giveBack_1 ca, k_X0_giveBack_4 ca, k_X0_giveBack_7 ca, k_X0_giveBack_8 ca, k_X0_giveBack_9 ca, k_X0_giveBack_12 ca, k_X0_giveBack_13 ca, k_X0_giveBack_14 ca, k_X0_giveBack_17 ca, k_X0_giveBack_18 ca, k_X0_giveBack_19 ca, k_X0_giveBack_22 ca, k_X0_giveBack_23 ca, k_X0_giveBack_26 ca, k_X0_giveBack_27 ca, k_X0_giveBack_30 ca, k_X0_giveBack_31 ca, k_X0_giveBack_32 ca, k_X0_giveBack_33 ca, k_X0_giveBack_34 ca, k_X0_giveBack_37 ca]
  refine hs _ ?_ p1 (fun x q1 q2 => (p2 x q2).trans (va_up_ne _ _ q1))
  exact (p2 _ hqc).trans (va_up_self _ _ _)

