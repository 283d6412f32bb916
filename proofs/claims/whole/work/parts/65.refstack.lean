/-! SnapStacksModel: stacks -/
theorem isInN {v a b : Int32} {A B : Nat} (ha : a.toInt = -(A : Int)) (hb : b.toInt = (B : Int)) (hAB : A + B < 2 ^ 30) (h : isIn v a b = true) : ∃ V, V ≤ A + B ∧ v + nI A = nI V := by
  unfold isIn at h
  simp only [Bool.and_eq_true, Bool.not_eq_true', decide_eq_false_iff_not, Int32.not_lt, Int32.le_iff_toInt_le] at h
  rw [ha, hb] at h
  refine ⟨(v.toInt + A).toNat, by omega, Int32.toInt_inj.mp ?_⟩
  rw [nI_toInt (by omega), Int32.toInt_add, nI_toInt (by omega)]
  rw [Int.bmod_eq_of_le (by omega) (by omega)]
  omega
theorem rem61 {k : Nat} (h : k < 2 ^ 31) : nI k - nI k / 61 * 61 = nI (k % 61) := by rw [show (61 : Int32) = nI 61 from rfl]; exact pk_rem h (by decide) (by decide)
theorem div61 {k : Nat} (h : k < 2 ^ 31) : nI k / 61 = nI (k / 61) := by rw [show (61 : Int32) = nI 61 from rfl]; exact pk_div h (by decide) (by decide)
theorem rem6 {k : Nat} (h : k < 2 ^ 31) : nI k - nI k / 6 * 6 = nI (k % 6) := by rw [show (6 : Int32) = nI 6 from rfl]; exact pk_rem h (by decide) (by decide)
theorem div6 {k : Nat} (h : k < 2 ^ 31) : nI k / 6 = nI (k / 6) := by rw [show (6 : Int32) = nI 6 from rfl]; exact pk_div h (by decide) (by decide)
theorem rem61b {k : Nat} (h : k < 2 ^ 31) : nI k - nI (k / 61) * 61 = nI (k % 61) := by rw [← div61 h]; exact rem61 h
theorem div36 {k : Nat} (h : k < 2 ^ 31) : nI k / 36 = nI (k / 36) := by rw [show (36 : Int32) = nI 36 from rfl]; exact pk_div h (by decide) (by decide)
theorem rem6b {k : Nat} (h : k < 2 ^ 31) : nI k - nI (k / 6) * 6 = nI (k % 6) := by rw [← div6 h]; exact rem6 h
theorem n610 : ¬ (61 : Int32) = 0 := by decide
theorem n60 : ¬ (6 : Int32) = 0 := by decide
theorem n360 : ¬ (36 : Int32) = 0 := by decide
def MC (h : PH) (m : Nat) (a : Nat → Nat) : Prop := ∃ st len fm at' re, h m = some (eMod a st len fm at' re)
def sgB (iw : Nat → Int32) (T b : Int32) : Bool := isIn T 1 9 && (decide (b - b / T * T = 0) && (isIn (b / T) (-30) 30 && !(decide (iw (b / T + 30).toNatClampNeg = 0))))
theorem isIn1_ne {v b : Int32} (h : isIn v 1 b = true) : ¬ v = 0 := by
  intro z
  rw [z] at h
  unfold isIn at h
  rw [show decide ((0 : Int32) < 1) = true from rfl] at h
  simp at h
def sp_X8_isSingle (ca : Nat → ClassId) : SPEC := fun av h post => ∃ m a iw T b, av = [.ref m, .int T, .int b] ∧ MC h m a ∧ h (a 7) = some (.inl (ca 2, 61, .inl iw)) ∧ post (some (.int (b2i (sgB iw T b)))) h
def k_X8_isSingle (ca : Nat → ClassId) : Nat → IT := fun pc => lk pc [(0, i_iload 1 1),
  (1, i_push (.int 1) 2),
  (2, i_push (.int 9) 4),
  (4, i_callS 3 0 0 0 0 (sp_X8_in ca) 7),
  (7, i_if (fun x => x = 0) 47 10),
  (10, i_iload 2 11),
  (11, i_iload 1 12),
  (12, i_dv (fun x y => x - x / y * y) 13),
  (13, i_if (fun x => ¬ x = 0) 47 16),
  (16, i_iload 2 17),
  (17, i_iload 1 18),
  (18, i_dv (fun x y => x / y) 19),
  (19, i_push (.int (-30)) 21),
  (21, i_push (.int 30) 23),
  (23, i_callS 3 0 0 0 0 (sp_X8_in ca) 26),
  (26, i_if (fun x => x = 0) 47 29),
  (29, i_aload 0 30),
  (30, i_getf 8 9 33),
  (33, i_iload 2 34),
  (34, i_iload 1 35),
  (35, i_dv (fun x y => x / y) 36),
  (36, i_push (.int 30) 38),
  (38, i_bin (fun x y => x + y) 39),
  (39, i_ald (ca 2) 40),
  (40, i_if (fun x => x = 0) 47 43),
  (43, i_push (.int 1) 44),
  (44, i_goto 48),
  (47, i_push (.int 0) 48),
  (48, i_zret)]
set_option maxRecDepth 20000 in
theorem t_X8_isSingle : Tb k_X8_isSingle yX8_isSingle cX8_isSingle 3 (some .boolean) 1 0 0 := by
  intro l D ca A p e s m args below meth c post X
  unfold k_X8_isSingle
  refine snd_cons (snd_iload_n X dX8_isSingle_0 rfl) ?_
  refine snd_cons (snd_iconst X dX8_isSingle_1 (by decide)) ?_
  refine snd_cons (snd_bipush X dX8_isSingle_2 (by decide)) ?_
  refine snd_cons (snd_callS X (ok_X8_in l D ca) rfl rfl w_702 w_703 w_9 w_704 (by decide) (by decide) dX8_isSingle_4) ?_
  refine snd_cons (snd_if_eq X dX8_isSingle_7 (by decide)) ?_
  refine snd_cons (snd_iload_n X dX8_isSingle_10 rfl) ?_
  refine snd_cons (snd_iload_n X dX8_isSingle_11 rfl) ?_
  refine snd_cons (snd_irem X dX8_isSingle_12) ?_
  refine snd_cons (snd_if_ne X dX8_isSingle_13 (by decide)) ?_
  refine snd_cons (snd_iload_n X dX8_isSingle_16 rfl) ?_
  refine snd_cons (snd_iload_n X dX8_isSingle_17 rfl) ?_
  refine snd_cons (snd_idiv X dX8_isSingle_18) ?_
  refine snd_cons (snd_bipush X dX8_isSingle_19 (by decide)) ?_
  refine snd_cons (snd_bipush X dX8_isSingle_21 (by decide)) ?_
  refine snd_cons (snd_callS X (ok_X8_in l D ca) rfl rfl w_702 w_703 w_9 w_704 (by decide) (by decide) dX8_isSingle_23) ?_
  refine snd_cons (snd_if_eq X dX8_isSingle_26 (by decide)) ?_
  refine snd_cons (snd_aload_n X dX8_isSingle_29 rfl) ?_
  refine snd_cons (snd_getf X Fk8 9 (by decide) w_656 dX8_isSingle_30) ?_
  refine snd_cons (snd_iload_n X dX8_isSingle_33 rfl) ?_
  refine snd_cons (snd_iload_n X dX8_isSingle_34 rfl) ?_
  refine snd_cons (snd_idiv X dX8_isSingle_35) ?_
  refine snd_cons (snd_bipush X dX8_isSingle_36 (by decide)) ?_
  refine snd_cons (snd_iadd X dX8_isSingle_38) ?_
  refine snd_cons (snd_baload X dX8_isSingle_39) ?_
  refine snd_cons (snd_if_eq X dX8_isSingle_40 (by decide)) ?_
  refine snd_cons (snd_iconst X dX8_isSingle_43 (by decide)) ?_
  refine snd_cons (snd_goto X dX8_isSingle_44 (by decide)) ?_
  refine snd_cons (snd_iconst X dX8_isSingle_47 (by decide)) ?_
  refine snd_cons (snd_zret X dX8_isSingle_48) ?_
  exact snd_nil
theorem k_X8_isSingle_0 (ca : Nat → ClassId) : k_X8_isSingle ca 0 = i_iload 1 1 := rfl
theorem k_X8_isSingle_1 (ca : Nat → ClassId) : k_X8_isSingle ca 1 = i_push (.int 1) 2 := rfl
theorem k_X8_isSingle_2 (ca : Nat → ClassId) : k_X8_isSingle ca 2 = i_push (.int 9) 4 := rfl
theorem k_X8_isSingle_4 (ca : Nat → ClassId) : k_X8_isSingle ca 4 = i_callS 3 0 0 0 0 (sp_X8_in ca) 7 := rfl
theorem k_X8_isSingle_7 (ca : Nat → ClassId) : k_X8_isSingle ca 7 = i_if (fun x => x = 0) 47 10 := rfl
theorem k_X8_isSingle_10 (ca : Nat → ClassId) : k_X8_isSingle ca 10 = i_iload 2 11 := rfl
theorem k_X8_isSingle_11 (ca : Nat → ClassId) : k_X8_isSingle ca 11 = i_iload 1 12 := rfl
theorem k_X8_isSingle_12 (ca : Nat → ClassId) : k_X8_isSingle ca 12 = i_dv (fun x y => x - x / y * y) 13 := rfl
theorem k_X8_isSingle_13 (ca : Nat → ClassId) : k_X8_isSingle ca 13 = i_if (fun x => ¬ x = 0) 47 16 := rfl
theorem k_X8_isSingle_16 (ca : Nat → ClassId) : k_X8_isSingle ca 16 = i_iload 2 17 := rfl
theorem k_X8_isSingle_17 (ca : Nat → ClassId) : k_X8_isSingle ca 17 = i_iload 1 18 := rfl
theorem k_X8_isSingle_18 (ca : Nat → ClassId) : k_X8_isSingle ca 18 = i_dv (fun x y => x / y) 19 := rfl
theorem k_X8_isSingle_19 (ca : Nat → ClassId) : k_X8_isSingle ca 19 = i_push (.int (-30)) 21 := rfl
theorem k_X8_isSingle_21 (ca : Nat → ClassId) : k_X8_isSingle ca 21 = i_push (.int 30) 23 := rfl
theorem k_X8_isSingle_23 (ca : Nat → ClassId) : k_X8_isSingle ca 23 = i_callS 3 0 0 0 0 (sp_X8_in ca) 26 := rfl
theorem k_X8_isSingle_26 (ca : Nat → ClassId) : k_X8_isSingle ca 26 = i_if (fun x => x = 0) 47 29 := rfl
theorem k_X8_isSingle_29 (ca : Nat → ClassId) : k_X8_isSingle ca 29 = i_aload 0 30 := rfl
theorem k_X8_isSingle_30 (ca : Nat → ClassId) : k_X8_isSingle ca 30 = i_getf 8 9 33 := rfl
theorem k_X8_isSingle_33 (ca : Nat → ClassId) : k_X8_isSingle ca 33 = i_iload 2 34 := rfl
theorem k_X8_isSingle_34 (ca : Nat → ClassId) : k_X8_isSingle ca 34 = i_iload 1 35 := rfl
theorem k_X8_isSingle_35 (ca : Nat → ClassId) : k_X8_isSingle ca 35 = i_dv (fun x y => x / y) 36 := rfl
theorem k_X8_isSingle_36 (ca : Nat → ClassId) : k_X8_isSingle ca 36 = i_push (.int 30) 38 := rfl
theorem k_X8_isSingle_38 (ca : Nat → ClassId) : k_X8_isSingle ca 38 = i_bin (fun x y => x + y) 39 := rfl
theorem k_X8_isSingle_39 (ca : Nat → ClassId) : k_X8_isSingle ca 39 = i_ald (ca 2) 40 := rfl
theorem k_X8_isSingle_40 (ca : Nat → ClassId) : k_X8_isSingle ca 40 = i_if (fun x => x = 0) 47 43 := rfl
theorem k_X8_isSingle_43 (ca : Nat → ClassId) : k_X8_isSingle ca 43 = i_push (.int 1) 44 := rfl
theorem k_X8_isSingle_44 (ca : Nat → ClassId) : k_X8_isSingle ca 44 = i_goto 48 := rfl
theorem k_X8_isSingle_47 (ca : Nat → ClassId) : k_X8_isSingle ca 47 = i_push (.int 0) 48 := rfl
theorem k_X8_isSingle_48 (ca : Nat → ClassId) : k_X8_isSingle ca 48 = i_zret := rfl
set_option maxHeartbeats 4000000 in
set_option maxRecDepth 20000 in
theorem ok_X8_isSingle (l : Launch) (D : va_G) (ca : Nat → ClassId) : OkAll l D ca yX8_isSingle cX8_isSingle 3 (some .boolean) 1 0 0 (sp_X8_isSingle ca) := by
  intro av h post hs
  obtain ⟨m, a, iw, T, b, rfl, ⟨st, len, fm, at', re, hm⟩, h7, hs⟩ := hs
  unfold eMod at hm
  unfold sgB at hs
  refine okM_of t_X8_isSingle (by decide +kernel) (c1_ref (c1_int (c1_int c1_nil))) (Nat.le_of_ble_eq_true rfl) ?_
  intro K go
  cases q1 : isIn T 1 9 with
  | false =>
    rw [q1, Bool.false_and, b2i_f] at hs
    refine goN go (stp []) 160 _ _ _ _ _ _ (fun F hF hF0 => ?_)
    simp only [hF, hF0, ite_not, i_push, i_iload, i_lload, i_aload, i_istore, i_astore, i_lstore, i_iinc, i_bin, i_dv, i_un, i_lbin, i_lsh, i_i2l, i_l2i, i_lcmp, i_dup, i_dup2, i_pop, i_if, i_icmp, i_goto, swG, i_sw, i_getf, i_puti, i_putz, i_putr, i_ald, i_lald, i_aald, i_ast, i_last, i_aast, i_alen, i_new, i_newi, i_newl, i_newq, i_oinit, i_ret, i_zret, i_lret, i_vret, catS, tk, rpush, isO, i_m1, i_m2, i_acopy, i_callV, i_callS, KRet, lget, lput, lputL, lcl0, isL, lv0, List.map_cons, List.map_nil, List.length_cons, List.length_nil, List.cons_append, List.nil_append, Nat.reduceAdd, Nat.reduceSub, Nat.reduceLeDiff, List.replicate_succ, List.replicate_zero, List.getElem?_cons_succ, List.getElem?_cons_zero, List.set_cons_succ, List.set_cons_zero, true_and, and_true, if_true, if_false, ↓reduceIte, Nat.le_refl, Value.category, va_up_app, eq_self, stp, Nat.reduceBEq, Bool.or_false, Bool.false_or, Bool.true_or, Bool.or_true, or_true, true_or, bx_uu, implies_true, true_implies, not_true, not_false_eq_true, false_implies, and_self, Nat.reduceLT, Int32.reduceAdd, Int32.reduceSub, Int32.reduceMul, Int32.reduceLE, Int32.reduceLT, Int32.reduceToNatClampNeg, va_rf_some, Bool.false_eq_true, k_X8_isSingle_0 ca, k_X8_isSingle_1 ca, k_X8_isSingle_2 ca, k_X8_isSingle_4 ca, k_X8_isSingle_7 ca, k_X8_isSingle_10 ca, k_X8_isSingle_11 ca, k_X8_isSingle_12 ca, k_X8_isSingle_13 ca, k_X8_isSingle_16 ca, k_X8_isSingle_17 ca, k_X8_isSingle_18 ca, k_X8_isSingle_19 ca, k_X8_isSingle_21 ca, k_X8_isSingle_23 ca, k_X8_isSingle_26 ca, k_X8_isSingle_29 ca, k_X8_isSingle_30 ca, k_X8_isSingle_33 ca, k_X8_isSingle_34 ca, k_X8_isSingle_35 ca, k_X8_isSingle_36 ca, k_X8_isSingle_38 ca, k_X8_isSingle_39 ca, k_X8_isSingle_40 ca, k_X8_isSingle_43 ca, k_X8_isSingle_44 ca, k_X8_isSingle_47 ca, k_X8_isSingle_48 ca, sp_X8_in, sp_X7_isWithin, q1, b2i_f]
    try clear hF hF0 F
    exact hs
  | true =>
    rw [q1, Bool.true_and] at hs
    have hT := isIn1_ne q1
    by_cases q2 : b - b / T * T = 0
    · rw [decide_eq_true q2, Bool.true_and] at hs
      cases q3 : isIn (b / T) (-30) 30 with
      | false =>
        rw [q3, Bool.false_and, b2i_f] at hs
        refine goN go (stp []) 160 _ _ _ _ _ _ (fun F hF hF0 => ?_)
        simp only [hF, hF0, ite_not, i_push, i_iload, i_lload, i_aload, i_istore, i_astore, i_lstore, i_iinc, i_bin, i_dv, i_un, i_lbin, i_lsh, i_i2l, i_l2i, i_lcmp, i_dup, i_dup2, i_pop, i_if, i_icmp, i_goto, swG, i_sw, i_getf, i_puti, i_putz, i_putr, i_ald, i_lald, i_aald, i_ast, i_last, i_aast, i_alen, i_new, i_newi, i_newl, i_newq, i_oinit, i_ret, i_zret, i_lret, i_vret, catS, tk, rpush, isO, i_m1, i_m2, i_acopy, i_callV, i_callS, KRet, lget, lput, lputL, lcl0, isL, lv0, List.map_cons, List.map_nil, List.length_cons, List.length_nil, List.cons_append, List.nil_append, Nat.reduceAdd, Nat.reduceSub, Nat.reduceLeDiff, List.replicate_succ, List.replicate_zero, List.getElem?_cons_succ, List.getElem?_cons_zero, List.set_cons_succ, List.set_cons_zero, true_and, and_true, if_true, if_false, ↓reduceIte, Nat.le_refl, Value.category, va_up_app, eq_self, stp, Nat.reduceBEq, Bool.or_false, Bool.false_or, Bool.true_or, Bool.or_true, or_true, true_or, bx_uu, implies_true, true_implies, not_true, not_false_eq_true, false_implies, and_self, Nat.reduceLT, Int32.reduceAdd, Int32.reduceSub, Int32.reduceMul, Int32.reduceLE, Int32.reduceLT, Int32.reduceToNatClampNeg, va_rf_some, Bool.false_eq_true, k_X8_isSingle_0 ca, k_X8_isSingle_1 ca, k_X8_isSingle_2 ca, k_X8_isSingle_4 ca, k_X8_isSingle_7 ca, k_X8_isSingle_10 ca, k_X8_isSingle_11 ca, k_X8_isSingle_12 ca, k_X8_isSingle_13 ca, k_X8_isSingle_16 ca, k_X8_isSingle_17 ca, k_X8_isSingle_18 ca, k_X8_isSingle_19 ca, k_X8_isSingle_21 ca, k_X8_isSingle_23 ca, k_X8_isSingle_26 ca, k_X8_isSingle_29 ca, k_X8_isSingle_30 ca, k_X8_isSingle_33 ca, k_X8_isSingle_34 ca, k_X8_isSingle_35 ca, k_X8_isSingle_36 ca, k_X8_isSingle_38 ca, k_X8_isSingle_39 ca, k_X8_isSingle_40 ca, k_X8_isSingle_43 ca, k_X8_isSingle_44 ca, k_X8_isSingle_47 ca, k_X8_isSingle_48 ca, sp_X8_in, sp_X7_isWithin, q1, q2, q3, b2i_f, b2i_t, one0, hT]
        try clear hF hF0 F
        exact hs
      | true =>
        rw [q3, Bool.true_and] at hs
        obtain ⟨V, hV, eV⟩ := isInN (A := 30) (B := 30) (by decide) (by decide) (by decide) q3
        have eV' : b / T + 30 = nI V := eV
        have z0 : vp_in (nI V) 61 := vp_in_nI (by omega) (by decide)
        rw [eV', show (nI V).toNatClampNeg = V from nI_clamp (by omega)] at hs
        have z1 : (nI V).toNatClampNeg = V := nI_clamp (by omega)
        by_cases q4 : iw V = 0
        · rw [decide_eq_true q4, Bool.not_true, b2i_f] at hs
          refine goN go (stp []) 160 _ _ _ _ _ _ (fun F hF hF0 => ?_)
          simp only [hF, hF0, ite_not, i_push, i_iload, i_lload, i_aload, i_istore, i_astore, i_lstore, i_iinc, i_bin, i_dv, i_un, i_lbin, i_lsh, i_i2l, i_l2i, i_lcmp, i_dup, i_dup2, i_pop, i_if, i_icmp, i_goto, swG, i_sw, i_getf, i_puti, i_putz, i_putr, i_ald, i_lald, i_aald, i_ast, i_last, i_aast, i_alen, i_new, i_newi, i_newl, i_newq, i_oinit, i_ret, i_zret, i_lret, i_vret, catS, tk, rpush, isO, i_m1, i_m2, i_acopy, i_callV, i_callS, KRet, lget, lput, lputL, lcl0, isL, lv0, List.map_cons, List.map_nil, List.length_cons, List.length_nil, List.cons_append, List.nil_append, Nat.reduceAdd, Nat.reduceSub, Nat.reduceLeDiff, List.replicate_succ, List.replicate_zero, List.getElem?_cons_succ, List.getElem?_cons_zero, List.set_cons_succ, List.set_cons_zero, true_and, and_true, if_true, if_false, ↓reduceIte, Nat.le_refl, Value.category, va_up_app, eq_self, stp, Nat.reduceBEq, Bool.or_false, Bool.false_or, Bool.true_or, Bool.or_true, or_true, true_or, bx_uu, implies_true, true_implies, not_true, not_false_eq_true, false_implies, and_self, Nat.reduceLT, Int32.reduceAdd, Int32.reduceSub, Int32.reduceMul, Int32.reduceLE, Int32.reduceLT, Int32.reduceToNatClampNeg, va_rf_some, Bool.false_eq_true, k_X8_isSingle_0 ca, k_X8_isSingle_1 ca, k_X8_isSingle_2 ca, k_X8_isSingle_4 ca, k_X8_isSingle_7 ca, k_X8_isSingle_10 ca, k_X8_isSingle_11 ca, k_X8_isSingle_12 ca, k_X8_isSingle_13 ca, k_X8_isSingle_16 ca, k_X8_isSingle_17 ca, k_X8_isSingle_18 ca, k_X8_isSingle_19 ca, k_X8_isSingle_21 ca, k_X8_isSingle_23 ca, k_X8_isSingle_26 ca, k_X8_isSingle_29 ca, k_X8_isSingle_30 ca, k_X8_isSingle_33 ca, k_X8_isSingle_34 ca, k_X8_isSingle_35 ca, k_X8_isSingle_36 ca, k_X8_isSingle_38 ca, k_X8_isSingle_39 ca, k_X8_isSingle_40 ca, k_X8_isSingle_43 ca, k_X8_isSingle_44 ca, k_X8_isSingle_47 ca, k_X8_isSingle_48 ca, sp_X8_in, sp_X7_isWithin, q1, q2, q3, b2i_f, b2i_t, one0, hT, hm, h7, eV', z0, z1, q4]
          try clear hF hF0 F
          exact hs
        · rw [decide_eq_false q4, Bool.not_false, b2i_t] at hs
          refine goN go (stp []) 160 _ _ _ _ _ _ (fun F hF hF0 => ?_)
          simp only [hF, hF0, ite_not, i_push, i_iload, i_lload, i_aload, i_istore, i_astore, i_lstore, i_iinc, i_bin, i_dv, i_un, i_lbin, i_lsh, i_i2l, i_l2i, i_lcmp, i_dup, i_dup2, i_pop, i_if, i_icmp, i_goto, swG, i_sw, i_getf, i_puti, i_putz, i_putr, i_ald, i_lald, i_aald, i_ast, i_last, i_aast, i_alen, i_new, i_newi, i_newl, i_newq, i_oinit, i_ret, i_zret, i_lret, i_vret, catS, tk, rpush, isO, i_m1, i_m2, i_acopy, i_callV, i_callS, KRet, lget, lput, lputL, lcl0, isL, lv0, List.map_cons, List.map_nil, List.length_cons, List.length_nil, List.cons_append, List.nil_append, Nat.reduceAdd, Nat.reduceSub, Nat.reduceLeDiff, List.replicate_succ, List.replicate_zero, List.getElem?_cons_succ, List.getElem?_cons_zero, List.set_cons_succ, List.set_cons_zero, true_and, and_true, if_true, if_false, ↓reduceIte, Nat.le_refl, Value.category, va_up_app, eq_self, stp, Nat.reduceBEq, Bool.or_false, Bool.false_or, Bool.true_or, Bool.or_true, or_true, true_or, bx_uu, implies_true, true_implies, not_true, not_false_eq_true, false_implies, and_self, Nat.reduceLT, Int32.reduceAdd, Int32.reduceSub, Int32.reduceMul, Int32.reduceLE, Int32.reduceLT, Int32.reduceToNatClampNeg, va_rf_some, Bool.false_eq_true, k_X8_isSingle_0 ca, k_X8_isSingle_1 ca, k_X8_isSingle_2 ca, k_X8_isSingle_4 ca, k_X8_isSingle_7 ca, k_X8_isSingle_10 ca, k_X8_isSingle_11 ca, k_X8_isSingle_12 ca, k_X8_isSingle_13 ca, k_X8_isSingle_16 ca, k_X8_isSingle_17 ca, k_X8_isSingle_18 ca, k_X8_isSingle_19 ca, k_X8_isSingle_21 ca, k_X8_isSingle_23 ca, k_X8_isSingle_26 ca, k_X8_isSingle_29 ca, k_X8_isSingle_30 ca, k_X8_isSingle_33 ca, k_X8_isSingle_34 ca, k_X8_isSingle_35 ca, k_X8_isSingle_36 ca, k_X8_isSingle_38 ca, k_X8_isSingle_39 ca, k_X8_isSingle_40 ca, k_X8_isSingle_43 ca, k_X8_isSingle_44 ca, k_X8_isSingle_47 ca, k_X8_isSingle_48 ca, sp_X8_in, sp_X7_isWithin, q1, q2, q3, b2i_f, b2i_t, one0, hT, hm, h7, eV', z0, z1, q4]
          try clear hF hF0 F
          exact hs
    · rw [decide_eq_false q2, Bool.false_and, b2i_f] at hs
      refine goN go (stp []) 160 _ _ _ _ _ _ (fun F hF hF0 => ?_)
      simp only [hF, hF0, ite_not, i_push, i_iload, i_lload, i_aload, i_istore, i_astore, i_lstore, i_iinc, i_bin, i_dv, i_un, i_lbin, i_lsh, i_i2l, i_l2i, i_lcmp, i_dup, i_dup2, i_pop, i_if, i_icmp, i_goto, swG, i_sw, i_getf, i_puti, i_putz, i_putr, i_ald, i_lald, i_aald, i_ast, i_last, i_aast, i_alen, i_new, i_newi, i_newl, i_newq, i_oinit, i_ret, i_zret, i_lret, i_vret, catS, tk, rpush, isO, i_m1, i_m2, i_acopy, i_callV, i_callS, KRet, lget, lput, lputL, lcl0, isL, lv0, List.map_cons, List.map_nil, List.length_cons, List.length_nil, List.cons_append, List.nil_append, Nat.reduceAdd, Nat.reduceSub, Nat.reduceLeDiff, List.replicate_succ, List.replicate_zero, List.getElem?_cons_succ, List.getElem?_cons_zero, List.set_cons_succ, List.set_cons_zero, true_and, and_true, if_true, if_false, ↓reduceIte, Nat.le_refl, Value.category, va_up_app, eq_self, stp, Nat.reduceBEq, Bool.or_false, Bool.false_or, Bool.true_or, Bool.or_true, or_true, true_or, bx_uu, implies_true, true_implies, not_true, not_false_eq_true, false_implies, and_self, Nat.reduceLT, Int32.reduceAdd, Int32.reduceSub, Int32.reduceMul, Int32.reduceLE, Int32.reduceLT, Int32.reduceToNatClampNeg, va_rf_some, Bool.false_eq_true, k_X8_isSingle_0 ca, k_X8_isSingle_1 ca, k_X8_isSingle_2 ca, k_X8_isSingle_4 ca, k_X8_isSingle_7 ca, k_X8_isSingle_10 ca, k_X8_isSingle_11 ca, k_X8_isSingle_12 ca, k_X8_isSingle_13 ca, k_X8_isSingle_16 ca, k_X8_isSingle_17 ca, k_X8_isSingle_18 ca, k_X8_isSingle_19 ca, k_X8_isSingle_21 ca, k_X8_isSingle_23 ca, k_X8_isSingle_26 ca, k_X8_isSingle_29 ca, k_X8_isSingle_30 ca, k_X8_isSingle_33 ca, k_X8_isSingle_34 ca, k_X8_isSingle_35 ca, k_X8_isSingle_36 ca, k_X8_isSingle_38 ca, k_X8_isSingle_39 ca, k_X8_isSingle_40 ca, k_X8_isSingle_43 ca, k_X8_isSingle_44 ca, k_X8_isSingle_47 ca, k_X8_isSingle_48 ca, sp_X8_in, sp_X7_isWithin, q1, q2, b2i_f, b2i_t, one0, hT]
      try clear hF hF0 F
      exact hs
def dbB (ip : Nat → Int32) (T b : Int32) : Bool := isIn T 2 18 && (isIn b (-540) 540 && !(decide (ip (1081 * (T - 2) + b + 540).toNatClampNeg = 0)))
theorem isIn_lo {v a b : Int32} (h : isIn v a b = true) : a ≤ v := by
  unfold isIn at h
  simp only [Bool.and_eq_true, Bool.not_eq_true', decide_eq_false_iff_not, Int32.not_lt] at h
  exact h.1
theorem db_ix {T b : Int32} (h1 : isIn T 2 18 = true) (h2 : isIn b (-540) 540 = true) : ∃ X V, 2 ≤ X ∧ X ≤ 18 ∧ V ≤ 1080 ∧ T = nI X ∧ b + 540 = nI V ∧ 1081 * (T - 2) + b + 540 = nI (1081 * (X - 2) + V) := by
  obtain ⟨X, hX, rfl⟩ := isIn1 (B := 18) (by decide) rfl h1
  have hX2 : 2 ≤ X := by
    have := isIn_lo h1
    exact (nI_leI (a := 2) (by decide) (by omega)).mp this
  obtain ⟨V, hV, eV⟩ := isInN (A := 540) (B := 540) (by decide) (by decide) (by decide) h2
  have eV' : b + 540 = nI V := eV
  refine ⟨X, V, hX2, hX, hV, rfl, eV', ?_⟩
  rw [Int32.add_assoc, eV', show (2 : Int32) = nI 2 from rfl, sub_nI hX2, show (1081 : Int32) = nI 1081 from rfl, pk_mul, nI_add]
def sp_X8_isDouble (ca : Nat → ClassId) : SPEC := fun av h post => ∃ m a ip T b, av = [.ref m, .int T, .int b] ∧ MC h m a ∧ h (a 8) = some (.inl (ca 2, 18377, .inl ip)) ∧ post (some (.int (b2i (dbB ip T b)))) h
def k_X8_isDouble (ca : Nat → ClassId) : Nat → IT := fun pc => lk pc [(0, i_iload 1 1),
  (1, i_push (.int 2) 2),
  (2, i_push (.int 18) 4),
  (4, i_callS 3 0 0 0 0 (sp_X8_in ca) 7),
  (7, i_if (fun x => x = 0) 48 10),
  (10, i_iload 2 11),
  (11, i_push (.int (-540)) 14),
  (14, i_push (.int 540) 17),
  (17, i_callS 3 0 0 0 0 (sp_X8_in ca) 20),
  (20, i_if (fun x => x = 0) 48 23),
  (23, i_aload 0 24),
  (24, i_getf 8 10 27),
  (27, i_push (.int 1081) 30),
  (30, i_iload 1 31),
  (31, i_push (.int 2) 32),
  (32, i_bin (fun x y => x - y) 33),
  (33, i_bin (fun x y => x * y) 34),
  (34, i_iload 2 35),
  (35, i_bin (fun x y => x + y) 36),
  (36, i_push (.int 540) 39),
  (39, i_bin (fun x y => x + y) 40),
  (40, i_ald (ca 2) 41),
  (41, i_if (fun x => x = 0) 48 44),
  (44, i_push (.int 1) 45),
  (45, i_goto 49),
  (48, i_push (.int 0) 49),
  (49, i_zret)]
set_option maxRecDepth 20000 in
theorem t_X8_isDouble : Tb k_X8_isDouble yX8_isDouble cX8_isDouble 3 (some .boolean) 1 0 0 := by
  intro l D ca A p e s m args below meth c post X
  unfold k_X8_isDouble
  refine snd_cons (snd_iload_n X dX8_isDouble_0 rfl) ?_
  refine snd_cons (snd_iconst X dX8_isDouble_1 (by decide)) ?_
  refine snd_cons (snd_bipush X dX8_isDouble_2 (by decide)) ?_
  refine snd_cons (snd_callS X (ok_X8_in l D ca) rfl rfl w_702 w_703 w_9 w_704 (by decide) (by decide) dX8_isDouble_4) ?_
  refine snd_cons (snd_if_eq X dX8_isDouble_7 (by decide)) ?_
  refine snd_cons (snd_iload_n X dX8_isDouble_10 rfl) ?_
  refine snd_cons (snd_sipush X dX8_isDouble_11 (by decide)) ?_
  refine snd_cons (snd_sipush X dX8_isDouble_14 (by decide)) ?_
  refine snd_cons (snd_callS X (ok_X8_in l D ca) rfl rfl w_702 w_703 w_9 w_704 (by decide) (by decide) dX8_isDouble_17) ?_
  refine snd_cons (snd_if_eq X dX8_isDouble_20 (by decide)) ?_
  refine snd_cons (snd_aload_n X dX8_isDouble_23 rfl) ?_
  refine snd_cons (snd_getf X Fk8 10 (by decide) w_657 dX8_isDouble_24) ?_
  refine snd_cons (snd_sipush X dX8_isDouble_27 (by decide)) ?_
  refine snd_cons (snd_iload_n X dX8_isDouble_30 rfl) ?_
  refine snd_cons (snd_iconst X dX8_isDouble_31 (by decide)) ?_
  refine snd_cons (snd_isub X dX8_isDouble_32) ?_
  refine snd_cons (snd_imul X dX8_isDouble_33) ?_
  refine snd_cons (snd_iload_n X dX8_isDouble_34 rfl) ?_
  refine snd_cons (snd_iadd X dX8_isDouble_35) ?_
  refine snd_cons (snd_sipush X dX8_isDouble_36 (by decide)) ?_
  refine snd_cons (snd_iadd X dX8_isDouble_39) ?_
  refine snd_cons (snd_baload X dX8_isDouble_40) ?_
  refine snd_cons (snd_if_eq X dX8_isDouble_41 (by decide)) ?_
  refine snd_cons (snd_iconst X dX8_isDouble_44 (by decide)) ?_
  refine snd_cons (snd_goto X dX8_isDouble_45 (by decide)) ?_
  refine snd_cons (snd_iconst X dX8_isDouble_48 (by decide)) ?_
  refine snd_cons (snd_zret X dX8_isDouble_49) ?_
  exact snd_nil
theorem k_X8_isDouble_0 (ca : Nat → ClassId) : k_X8_isDouble ca 0 = i_iload 1 1 := rfl
theorem k_X8_isDouble_1 (ca : Nat → ClassId) : k_X8_isDouble ca 1 = i_push (.int 2) 2 := rfl
theorem k_X8_isDouble_2 (ca : Nat → ClassId) : k_X8_isDouble ca 2 = i_push (.int 18) 4 := rfl
theorem k_X8_isDouble_4 (ca : Nat → ClassId) : k_X8_isDouble ca 4 = i_callS 3 0 0 0 0 (sp_X8_in ca) 7 := rfl
theorem k_X8_isDouble_7 (ca : Nat → ClassId) : k_X8_isDouble ca 7 = i_if (fun x => x = 0) 48 10 := rfl
theorem k_X8_isDouble_10 (ca : Nat → ClassId) : k_X8_isDouble ca 10 = i_iload 2 11 := rfl
theorem k_X8_isDouble_11 (ca : Nat → ClassId) : k_X8_isDouble ca 11 = i_push (.int (-540)) 14 := rfl
theorem k_X8_isDouble_14 (ca : Nat → ClassId) : k_X8_isDouble ca 14 = i_push (.int 540) 17 := rfl
theorem k_X8_isDouble_17 (ca : Nat → ClassId) : k_X8_isDouble ca 17 = i_callS 3 0 0 0 0 (sp_X8_in ca) 20 := rfl
theorem k_X8_isDouble_20 (ca : Nat → ClassId) : k_X8_isDouble ca 20 = i_if (fun x => x = 0) 48 23 := rfl
theorem k_X8_isDouble_23 (ca : Nat → ClassId) : k_X8_isDouble ca 23 = i_aload 0 24 := rfl
theorem k_X8_isDouble_24 (ca : Nat → ClassId) : k_X8_isDouble ca 24 = i_getf 8 10 27 := rfl
theorem k_X8_isDouble_27 (ca : Nat → ClassId) : k_X8_isDouble ca 27 = i_push (.int 1081) 30 := rfl
theorem k_X8_isDouble_30 (ca : Nat → ClassId) : k_X8_isDouble ca 30 = i_iload 1 31 := rfl
theorem k_X8_isDouble_31 (ca : Nat → ClassId) : k_X8_isDouble ca 31 = i_push (.int 2) 32 := rfl
theorem k_X8_isDouble_32 (ca : Nat → ClassId) : k_X8_isDouble ca 32 = i_bin (fun x y => x - y) 33 := rfl
theorem k_X8_isDouble_33 (ca : Nat → ClassId) : k_X8_isDouble ca 33 = i_bin (fun x y => x * y) 34 := rfl
theorem k_X8_isDouble_34 (ca : Nat → ClassId) : k_X8_isDouble ca 34 = i_iload 2 35 := rfl
theorem k_X8_isDouble_35 (ca : Nat → ClassId) : k_X8_isDouble ca 35 = i_bin (fun x y => x + y) 36 := rfl
theorem k_X8_isDouble_36 (ca : Nat → ClassId) : k_X8_isDouble ca 36 = i_push (.int 540) 39 := rfl
theorem k_X8_isDouble_39 (ca : Nat → ClassId) : k_X8_isDouble ca 39 = i_bin (fun x y => x + y) 40 := rfl
theorem k_X8_isDouble_40 (ca : Nat → ClassId) : k_X8_isDouble ca 40 = i_ald (ca 2) 41 := rfl
theorem k_X8_isDouble_41 (ca : Nat → ClassId) : k_X8_isDouble ca 41 = i_if (fun x => x = 0) 48 44 := rfl
theorem k_X8_isDouble_44 (ca : Nat → ClassId) : k_X8_isDouble ca 44 = i_push (.int 1) 45 := rfl
theorem k_X8_isDouble_45 (ca : Nat → ClassId) : k_X8_isDouble ca 45 = i_goto 49 := rfl
theorem k_X8_isDouble_48 (ca : Nat → ClassId) : k_X8_isDouble ca 48 = i_push (.int 0) 49 := rfl
theorem k_X8_isDouble_49 (ca : Nat → ClassId) : k_X8_isDouble ca 49 = i_zret := rfl
set_option maxHeartbeats 4000000 in
set_option maxRecDepth 20000 in
theorem ok_X8_isDouble (l : Launch) (D : va_G) (ca : Nat → ClassId) : OkAll l D ca yX8_isDouble cX8_isDouble 3 (some .boolean) 1 0 0 (sp_X8_isDouble ca) := by
  intro av h post hs
  obtain ⟨m, a, ip, T, b, rfl, ⟨st, len, fm, at', re, hm⟩, h8, hs⟩ := hs
  unfold eMod at hm
  unfold dbB at hs
  refine okM_of t_X8_isDouble (by decide +kernel) (c1_ref (c1_int (c1_int c1_nil))) (Nat.le_of_ble_eq_true rfl) ?_
  intro K go
  cases q1 : isIn T 2 18 with
  | false =>
    rw [q1, Bool.false_and, b2i_f] at hs
    refine goN go (stp []) 160 _ _ _ _ _ _ (fun F hF hF0 => ?_)
    simp only [hF, hF0, ite_not, i_push, i_iload, i_lload, i_aload, i_istore, i_astore, i_lstore, i_iinc, i_bin, i_dv, i_un, i_lbin, i_lsh, i_i2l, i_l2i, i_lcmp, i_dup, i_dup2, i_pop, i_if, i_icmp, i_goto, swG, i_sw, i_getf, i_puti, i_putz, i_putr, i_ald, i_lald, i_aald, i_ast, i_last, i_aast, i_alen, i_new, i_newi, i_newl, i_newq, i_oinit, i_ret, i_zret, i_lret, i_vret, catS, tk, rpush, isO, i_m1, i_m2, i_acopy, i_callV, i_callS, KRet, lget, lput, lputL, lcl0, isL, lv0, List.map_cons, List.map_nil, List.length_cons, List.length_nil, List.cons_append, List.nil_append, Nat.reduceAdd, Nat.reduceSub, Nat.reduceLeDiff, List.replicate_succ, List.replicate_zero, List.getElem?_cons_succ, List.getElem?_cons_zero, List.set_cons_succ, List.set_cons_zero, true_and, and_true, if_true, if_false, ↓reduceIte, Nat.le_refl, Value.category, va_up_app, eq_self, stp, Nat.reduceBEq, Bool.or_false, Bool.false_or, Bool.true_or, Bool.or_true, or_true, true_or, bx_uu, implies_true, true_implies, not_true, not_false_eq_true, false_implies, and_self, Nat.reduceLT, Int32.reduceAdd, Int32.reduceSub, Int32.reduceMul, Int32.reduceLE, Int32.reduceLT, Int32.reduceToNatClampNeg, va_rf_some, Bool.false_eq_true, k_X8_isDouble_0 ca, k_X8_isDouble_1 ca, k_X8_isDouble_2 ca, k_X8_isDouble_4 ca, k_X8_isDouble_7 ca, k_X8_isDouble_10 ca, k_X8_isDouble_11 ca, k_X8_isDouble_14 ca, k_X8_isDouble_17 ca, k_X8_isDouble_20 ca, k_X8_isDouble_23 ca, k_X8_isDouble_24 ca, k_X8_isDouble_27 ca, k_X8_isDouble_30 ca, k_X8_isDouble_31 ca, k_X8_isDouble_32 ca, k_X8_isDouble_33 ca, k_X8_isDouble_34 ca, k_X8_isDouble_35 ca, k_X8_isDouble_36 ca, k_X8_isDouble_39 ca, k_X8_isDouble_40 ca, k_X8_isDouble_41 ca, k_X8_isDouble_44 ca, k_X8_isDouble_45 ca, k_X8_isDouble_48 ca, k_X8_isDouble_49 ca, sp_X8_in, sp_X7_isWithin, q1, b2i_f]
    try clear hF hF0 F
    exact hs
  | true =>
    rw [q1, Bool.true_and] at hs
    cases q3 : isIn b (-540) 540 with
    | false =>
      rw [q3, Bool.false_and, b2i_f] at hs
      refine goN go (stp []) 160 _ _ _ _ _ _ (fun F hF hF0 => ?_)
      simp only [hF, hF0, ite_not, i_push, i_iload, i_lload, i_aload, i_istore, i_astore, i_lstore, i_iinc, i_bin, i_dv, i_un, i_lbin, i_lsh, i_i2l, i_l2i, i_lcmp, i_dup, i_dup2, i_pop, i_if, i_icmp, i_goto, swG, i_sw, i_getf, i_puti, i_putz, i_putr, i_ald, i_lald, i_aald, i_ast, i_last, i_aast, i_alen, i_new, i_newi, i_newl, i_newq, i_oinit, i_ret, i_zret, i_lret, i_vret, catS, tk, rpush, isO, i_m1, i_m2, i_acopy, i_callV, i_callS, KRet, lget, lput, lputL, lcl0, isL, lv0, List.map_cons, List.map_nil, List.length_cons, List.length_nil, List.cons_append, List.nil_append, Nat.reduceAdd, Nat.reduceSub, Nat.reduceLeDiff, List.replicate_succ, List.replicate_zero, List.getElem?_cons_succ, List.getElem?_cons_zero, List.set_cons_succ, List.set_cons_zero, true_and, and_true, if_true, if_false, ↓reduceIte, Nat.le_refl, Value.category, va_up_app, eq_self, stp, Nat.reduceBEq, Bool.or_false, Bool.false_or, Bool.true_or, Bool.or_true, or_true, true_or, bx_uu, implies_true, true_implies, not_true, not_false_eq_true, false_implies, and_self, Nat.reduceLT, Int32.reduceAdd, Int32.reduceSub, Int32.reduceMul, Int32.reduceLE, Int32.reduceLT, Int32.reduceToNatClampNeg, va_rf_some, Bool.false_eq_true, k_X8_isDouble_0 ca, k_X8_isDouble_1 ca, k_X8_isDouble_2 ca, k_X8_isDouble_4 ca, k_X8_isDouble_7 ca, k_X8_isDouble_10 ca, k_X8_isDouble_11 ca, k_X8_isDouble_14 ca, k_X8_isDouble_17 ca, k_X8_isDouble_20 ca, k_X8_isDouble_23 ca, k_X8_isDouble_24 ca, k_X8_isDouble_27 ca, k_X8_isDouble_30 ca, k_X8_isDouble_31 ca, k_X8_isDouble_32 ca, k_X8_isDouble_33 ca, k_X8_isDouble_34 ca, k_X8_isDouble_35 ca, k_X8_isDouble_36 ca, k_X8_isDouble_39 ca, k_X8_isDouble_40 ca, k_X8_isDouble_41 ca, k_X8_isDouble_44 ca, k_X8_isDouble_45 ca, k_X8_isDouble_48 ca, k_X8_isDouble_49 ca, sp_X8_in, sp_X7_isWithin, q1, q3, b2i_f, b2i_t, one0]
      try clear hF hF0 F
      exact hs
    | true =>
      rw [q3, Bool.true_and] at hs
      obtain ⟨X, V, hX2, hX, hV, -, -, ei⟩ := db_ix q1 q3
      have z0 : vp_in (nI (1081 * (X - 2) + V)) 18377 := vp_in_nI (by omega) (by decide)
      have z1 : (nI (1081 * (X - 2) + V)).toNatClampNeg = 1081 * (X - 2) + V := nI_clamp (by omega)
      rw [ei, z1] at hs
      by_cases q4 : ip (1081 * (X - 2) + V) = 0
      · rw [decide_eq_true q4, Bool.not_true, b2i_f] at hs
        refine goN go (stp []) 160 _ _ _ _ _ _ (fun F hF hF0 => ?_)
        simp only [hF, hF0, ite_not, i_push, i_iload, i_lload, i_aload, i_istore, i_astore, i_lstore, i_iinc, i_bin, i_dv, i_un, i_lbin, i_lsh, i_i2l, i_l2i, i_lcmp, i_dup, i_dup2, i_pop, i_if, i_icmp, i_goto, swG, i_sw, i_getf, i_puti, i_putz, i_putr, i_ald, i_lald, i_aald, i_ast, i_last, i_aast, i_alen, i_new, i_newi, i_newl, i_newq, i_oinit, i_ret, i_zret, i_lret, i_vret, catS, tk, rpush, isO, i_m1, i_m2, i_acopy, i_callV, i_callS, KRet, lget, lput, lputL, lcl0, isL, lv0, List.map_cons, List.map_nil, List.length_cons, List.length_nil, List.cons_append, List.nil_append, Nat.reduceAdd, Nat.reduceSub, Nat.reduceLeDiff, List.replicate_succ, List.replicate_zero, List.getElem?_cons_succ, List.getElem?_cons_zero, List.set_cons_succ, List.set_cons_zero, true_and, and_true, if_true, if_false, ↓reduceIte, Nat.le_refl, Value.category, va_up_app, eq_self, stp, Nat.reduceBEq, Bool.or_false, Bool.false_or, Bool.true_or, Bool.or_true, or_true, true_or, bx_uu, implies_true, true_implies, not_true, not_false_eq_true, false_implies, and_self, Nat.reduceLT, Int32.reduceAdd, Int32.reduceSub, Int32.reduceMul, Int32.reduceLE, Int32.reduceLT, Int32.reduceToNatClampNeg, va_rf_some, Bool.false_eq_true, k_X8_isDouble_0 ca, k_X8_isDouble_1 ca, k_X8_isDouble_2 ca, k_X8_isDouble_4 ca, k_X8_isDouble_7 ca, k_X8_isDouble_10 ca, k_X8_isDouble_11 ca, k_X8_isDouble_14 ca, k_X8_isDouble_17 ca, k_X8_isDouble_20 ca, k_X8_isDouble_23 ca, k_X8_isDouble_24 ca, k_X8_isDouble_27 ca, k_X8_isDouble_30 ca, k_X8_isDouble_31 ca, k_X8_isDouble_32 ca, k_X8_isDouble_33 ca, k_X8_isDouble_34 ca, k_X8_isDouble_35 ca, k_X8_isDouble_36 ca, k_X8_isDouble_39 ca, k_X8_isDouble_40 ca, k_X8_isDouble_41 ca, k_X8_isDouble_44 ca, k_X8_isDouble_45 ca, k_X8_isDouble_48 ca, k_X8_isDouble_49 ca, sp_X8_in, sp_X7_isWithin, q1, q3, b2i_f, b2i_t, one0, hm, h8, ei, z0, z1, q4]
        try clear hF hF0 F
        exact hs
      · rw [decide_eq_false q4, Bool.not_false, b2i_t] at hs
        refine goN go (stp []) 160 _ _ _ _ _ _ (fun F hF hF0 => ?_)
        simp only [hF, hF0, ite_not, i_push, i_iload, i_lload, i_aload, i_istore, i_astore, i_lstore, i_iinc, i_bin, i_dv, i_un, i_lbin, i_lsh, i_i2l, i_l2i, i_lcmp, i_dup, i_dup2, i_pop, i_if, i_icmp, i_goto, swG, i_sw, i_getf, i_puti, i_putz, i_putr, i_ald, i_lald, i_aald, i_ast, i_last, i_aast, i_alen, i_new, i_newi, i_newl, i_newq, i_oinit, i_ret, i_zret, i_lret, i_vret, catS, tk, rpush, isO, i_m1, i_m2, i_acopy, i_callV, i_callS, KRet, lget, lput, lputL, lcl0, isL, lv0, List.map_cons, List.map_nil, List.length_cons, List.length_nil, List.cons_append, List.nil_append, Nat.reduceAdd, Nat.reduceSub, Nat.reduceLeDiff, List.replicate_succ, List.replicate_zero, List.getElem?_cons_succ, List.getElem?_cons_zero, List.set_cons_succ, List.set_cons_zero, true_and, and_true, if_true, if_false, ↓reduceIte, Nat.le_refl, Value.category, va_up_app, eq_self, stp, Nat.reduceBEq, Bool.or_false, Bool.false_or, Bool.true_or, Bool.or_true, or_true, true_or, bx_uu, implies_true, true_implies, not_true, not_false_eq_true, false_implies, and_self, Nat.reduceLT, Int32.reduceAdd, Int32.reduceSub, Int32.reduceMul, Int32.reduceLE, Int32.reduceLT, Int32.reduceToNatClampNeg, va_rf_some, Bool.false_eq_true, k_X8_isDouble_0 ca, k_X8_isDouble_1 ca, k_X8_isDouble_2 ca, k_X8_isDouble_4 ca, k_X8_isDouble_7 ca, k_X8_isDouble_10 ca, k_X8_isDouble_11 ca, k_X8_isDouble_14 ca, k_X8_isDouble_17 ca, k_X8_isDouble_20 ca, k_X8_isDouble_23 ca, k_X8_isDouble_24 ca, k_X8_isDouble_27 ca, k_X8_isDouble_30 ca, k_X8_isDouble_31 ca, k_X8_isDouble_32 ca, k_X8_isDouble_33 ca, k_X8_isDouble_34 ca, k_X8_isDouble_35 ca, k_X8_isDouble_36 ca, k_X8_isDouble_39 ca, k_X8_isDouble_40 ca, k_X8_isDouble_41 ca, k_X8_isDouble_44 ca, k_X8_isDouble_45 ca, k_X8_isDouble_48 ca, k_X8_isDouble_49 ca, sp_X8_in, sp_X7_isWithin, q1, q3, b2i_f, b2i_t, one0, hm, h8, ei, z0, z1, q4]
        try clear hF hF0 F
        exact hs
def hitB (iw ip : Nat → Int32) (T b : Int32) (k : Nat) : Bool := !(decide (iw (k % 61) = 0)) && dbB ip (T - nI (k / 61) - 1) (b - nI (k / 61 + 1) * (nI (k % 61) - 30))
def cbG (iw ip : Nat → Int32) (T b : Int32) : Nat → Nat → Bool
  | 0, _ => false
  | r + 1, k => if hitB iw ip T b k = true then true else cbG iw ip T b r (k + 1)
def cbB (iw ip : Nat → Int32) (P : Nat) (T b : Int32) : Bool := if P = 0 then decide (T = 0) && decide (b = 0) else if P = 1 then sgB iw T b else if P = 2 then dbB ip T b else cbG iw ip T b 549 0
def sp_X8_canBend (ca : Nat → ClassId) : SPEC := fun av h post => ∃ m a iw ip P T b, P ≤ 3 ∧ av = [.ref m, .int (nI P), .int T, .int b] ∧ MC h m a ∧ h (a 7) = some (.inl (ca 2, 61, .inl iw)) ∧ h (a 8) = some (.inl (ca 2, 18377, .inl ip)) ∧ post (some (.int (b2i (cbB iw ip P T b)))) h
def k_X8_canBend (ca : Nat → ClassId) : Nat → IT := fun pc => if pc < 72 then lk pc [(0, i_iload 1 1),
  (1, i_push (.int 2) 2),
  (2, i_icmp (fun x y => y ≤ x) 32 5),
  (5, i_iload 1 6),
  (6, i_if (fun x => ¬ x = 0) 25 9),
  (9, i_iload 2 10),
  (10, i_if (fun x => ¬ x = 0) 21 13),
  (13, i_iload 3 14),
  (14, i_if (fun x => ¬ x = 0) 21 17),
  (17, i_push (.int 1) 18),
  (18, i_goto 31),
  (21, i_push (.int 0) 22),
  (22, i_goto 31),
  (25, i_aload 0 26),
  (26, i_iload 2 27),
  (27, i_iload 3 28),
  (28, i_callV 8 2 0 0 0 0 (sp_X8_isSingle ca) 31),
  (31, i_zret),
  (32, i_iload 1 33),
  (33, i_push (.int 2) 34),
  (34, i_icmp (fun x y => ¬ x = y) 44 37),
  (37, i_aload 0 38),
  (38, i_iload 2 39),
  (39, i_iload 3 40),
  (40, i_callV 8 2 0 0 0 0 (sp_X8_isDouble ca) 43),
  (43, i_zret),
  (44, i_push (.int 0) 45),
  (45, i_istore 4 47),
  (47, i_push (.int 0) 48),
  (48, i_istore 5 50),
  (50, i_iload 5 52),
  (52, i_push (.int 549) 55),
  (55, i_icmp (fun x y => y ≤ x) 123 58),
  (58, i_iload 4 60),
  (60, i_if (fun x => ¬ x = 0) 123 63),
  (63, i_aload 0 64),
  (64, i_getf 8 9 67),
  (67, i_iload 5 69),
  (69, i_push (.int 61) 71),
  (71, i_dv (fun x y => x - x / y * y) 72)] else
  lk pc [(72, i_ald (ca 2) 73),
  (73, i_if (fun x => x = 0) 114 76),
  (76, i_aload 0 77),
  (77, i_iload 2 78),
  (78, i_iload 5 80),
  (80, i_push (.int 61) 82),
  (82, i_dv (fun x y => x / y) 83),
  (83, i_bin (fun x y => x - y) 84),
  (84, i_push (.int 1) 85),
  (85, i_bin (fun x y => x - y) 86),
  (86, i_iload 3 87),
  (87, i_iload 5 89),
  (89, i_push (.int 61) 91),
  (91, i_dv (fun x y => x / y) 92),
  (92, i_push (.int 1) 93),
  (93, i_bin (fun x y => x + y) 94),
  (94, i_iload 5 96),
  (96, i_push (.int 61) 98),
  (98, i_dv (fun x y => x - x / y * y) 99),
  (99, i_push (.int 30) 101),
  (101, i_bin (fun x y => x - y) 102),
  (102, i_bin (fun x y => x * y) 103),
  (103, i_bin (fun x y => x - y) 104),
  (104, i_callV 8 2 0 0 0 0 (sp_X8_isDouble ca) 107),
  (107, i_if (fun x => x = 0) 114 110),
  (110, i_push (.int 1) 111),
  (111, i_goto 115),
  (114, i_push (.int 0) 115),
  (115, i_istore 4 117),
  (117, i_iinc 5 1 120),
  (120, i_goto 50),
  (123, i_iload 4 125),
  (125, i_zret)]
set_option maxRecDepth 20000 in
theorem t_X8_canBend : Tb k_X8_canBend yX8_canBend cX8_canBend 6 (some .boolean) 2 0 0 := by
  intro l D ca A p e s m args below meth c post X
  unfold k_X8_canBend
  refine snd_split (72) ?_ ?_
  · refine snd_cons (snd_iload_n X dX8_canBend_0 rfl) ?_
    refine snd_cons (snd_iconst X dX8_canBend_1 (by decide)) ?_
    refine snd_cons (snd_icmp_ge X dX8_canBend_2 (by decide)) ?_
    refine snd_cons (snd_iload_n X dX8_canBend_5 rfl) ?_
    refine snd_cons (snd_if_ne X dX8_canBend_6 (by decide)) ?_
    refine snd_cons (snd_iload_n X dX8_canBend_9 rfl) ?_
    refine snd_cons (snd_if_ne X dX8_canBend_10 (by decide)) ?_
    refine snd_cons (snd_iload_n X dX8_canBend_13 rfl) ?_
    refine snd_cons (snd_if_ne X dX8_canBend_14 (by decide)) ?_
    refine snd_cons (snd_iconst X dX8_canBend_17 (by decide)) ?_
    refine snd_cons (snd_goto X dX8_canBend_18 (by decide)) ?_
    refine snd_cons (snd_iconst X dX8_canBend_21 (by decide)) ?_
    refine snd_cons (snd_goto X dX8_canBend_22 (by decide)) ?_
    refine snd_cons (snd_aload_n X dX8_canBend_25 rfl) ?_
    refine snd_cons (snd_iload_n X dX8_canBend_26 rfl) ?_
    refine snd_cons (snd_iload_n X dX8_canBend_27 rfl) ?_
    refine snd_cons (snd_callV X Fk8 (ok_X8_isSingle l D ca) rfl rfl w_914 w_916 wp_46 w_9 w_917 (by decide) (by decide) dX8_canBend_28) ?_
    refine snd_cons (snd_zret X dX8_canBend_31) ?_
    refine snd_cons (snd_iload_n X dX8_canBend_32 rfl) ?_
    refine snd_cons (snd_iconst X dX8_canBend_33 (by decide)) ?_
    refine snd_cons (snd_icmp_ne X dX8_canBend_34 (by decide)) ?_
    refine snd_cons (snd_aload_n X dX8_canBend_37 rfl) ?_
    refine snd_cons (snd_iload_n X dX8_canBend_38 rfl) ?_
    refine snd_cons (snd_iload_n X dX8_canBend_39 rfl) ?_
    refine snd_cons (snd_callV X Fk8 (ok_X8_isDouble l D ca) rfl rfl w_918 w_920 wp_47 w_9 w_921 (by decide) (by decide) dX8_canBend_40) ?_
    refine snd_cons (snd_zret X dX8_canBend_43) ?_
    refine snd_cons (snd_iconst X dX8_canBend_44 (by decide)) ?_
    refine snd_cons (snd_istore X dX8_canBend_45 (by decide)) ?_
    refine snd_cons (snd_iconst X dX8_canBend_47 (by decide)) ?_
    refine snd_cons (snd_istore X dX8_canBend_48 (by decide)) ?_
    refine snd_cons (snd_iload X dX8_canBend_50) ?_
    refine snd_cons (snd_sipush X dX8_canBend_52 (by decide)) ?_
    refine snd_cons (snd_icmp_ge X dX8_canBend_55 (by decide)) ?_
    refine snd_cons (snd_iload X dX8_canBend_58) ?_
    refine snd_cons (snd_if_ne X dX8_canBend_60 (by decide)) ?_
    refine snd_cons (snd_aload_n X dX8_canBend_63 rfl) ?_
    refine snd_cons (snd_getf X Fk8 9 (by decide) w_656 dX8_canBend_64) ?_
    refine snd_cons (snd_iload X dX8_canBend_67) ?_
    refine snd_cons (snd_bipush X dX8_canBend_69 (by decide)) ?_
    refine snd_cons (snd_irem X dX8_canBend_71) ?_
    exact snd_nil
  refine snd_cons (snd_baload X dX8_canBend_72) ?_
  refine snd_cons (snd_if_eq X dX8_canBend_73 (by decide)) ?_
  refine snd_cons (snd_aload_n X dX8_canBend_76 rfl) ?_
  refine snd_cons (snd_iload_n X dX8_canBend_77 rfl) ?_
  refine snd_cons (snd_iload X dX8_canBend_78) ?_
  refine snd_cons (snd_bipush X dX8_canBend_80 (by decide)) ?_
  refine snd_cons (snd_idiv X dX8_canBend_82) ?_
  refine snd_cons (snd_isub X dX8_canBend_83) ?_
  refine snd_cons (snd_iconst X dX8_canBend_84 (by decide)) ?_
  refine snd_cons (snd_isub X dX8_canBend_85) ?_
  refine snd_cons (snd_iload_n X dX8_canBend_86 rfl) ?_
  refine snd_cons (snd_iload X dX8_canBend_87) ?_
  refine snd_cons (snd_bipush X dX8_canBend_89 (by decide)) ?_
  refine snd_cons (snd_idiv X dX8_canBend_91) ?_
  refine snd_cons (snd_iconst X dX8_canBend_92 (by decide)) ?_
  refine snd_cons (snd_iadd X dX8_canBend_93) ?_
  refine snd_cons (snd_iload X dX8_canBend_94) ?_
  refine snd_cons (snd_bipush X dX8_canBend_96 (by decide)) ?_
  refine snd_cons (snd_irem X dX8_canBend_98) ?_
  refine snd_cons (snd_bipush X dX8_canBend_99 (by decide)) ?_
  refine snd_cons (snd_isub X dX8_canBend_101) ?_
  refine snd_cons (snd_imul X dX8_canBend_102) ?_
  refine snd_cons (snd_isub X dX8_canBend_103) ?_
  refine snd_cons (snd_callV X Fk8 (ok_X8_isDouble l D ca) rfl rfl w_918 w_920 wp_47 w_9 w_921 (by decide) (by decide) dX8_canBend_104) ?_
  refine snd_cons (snd_if_eq X dX8_canBend_107 (by decide)) ?_
  refine snd_cons (snd_iconst X dX8_canBend_110 (by decide)) ?_
  refine snd_cons (snd_goto X dX8_canBend_111 (by decide)) ?_
  refine snd_cons (snd_iconst X dX8_canBend_114 (by decide)) ?_
  refine snd_cons (snd_istore X dX8_canBend_115 (by decide)) ?_
  refine snd_cons (snd_iinc X dX8_canBend_117 (by decide) (by decide)) ?_
  refine snd_cons (snd_goto X dX8_canBend_120 (by decide)) ?_
  refine snd_cons (snd_iload X dX8_canBend_123) ?_
  refine snd_cons (snd_zret X dX8_canBend_125) ?_
  exact snd_nil
theorem k_X8_canBend_0 (ca : Nat → ClassId) : k_X8_canBend ca 0 = i_iload 1 1 := rfl
theorem k_X8_canBend_1 (ca : Nat → ClassId) : k_X8_canBend ca 1 = i_push (.int 2) 2 := rfl
theorem k_X8_canBend_2 (ca : Nat → ClassId) : k_X8_canBend ca 2 = i_icmp (fun x y => y ≤ x) 32 5 := rfl
theorem k_X8_canBend_5 (ca : Nat → ClassId) : k_X8_canBend ca 5 = i_iload 1 6 := rfl
theorem k_X8_canBend_6 (ca : Nat → ClassId) : k_X8_canBend ca 6 = i_if (fun x => ¬ x = 0) 25 9 := rfl
theorem k_X8_canBend_9 (ca : Nat → ClassId) : k_X8_canBend ca 9 = i_iload 2 10 := rfl
theorem k_X8_canBend_10 (ca : Nat → ClassId) : k_X8_canBend ca 10 = i_if (fun x => ¬ x = 0) 21 13 := rfl
theorem k_X8_canBend_13 (ca : Nat → ClassId) : k_X8_canBend ca 13 = i_iload 3 14 := rfl
theorem k_X8_canBend_14 (ca : Nat → ClassId) : k_X8_canBend ca 14 = i_if (fun x => ¬ x = 0) 21 17 := rfl
theorem k_X8_canBend_17 (ca : Nat → ClassId) : k_X8_canBend ca 17 = i_push (.int 1) 18 := rfl
theorem k_X8_canBend_18 (ca : Nat → ClassId) : k_X8_canBend ca 18 = i_goto 31 := rfl
theorem k_X8_canBend_21 (ca : Nat → ClassId) : k_X8_canBend ca 21 = i_push (.int 0) 22 := rfl
theorem k_X8_canBend_22 (ca : Nat → ClassId) : k_X8_canBend ca 22 = i_goto 31 := rfl
theorem k_X8_canBend_25 (ca : Nat → ClassId) : k_X8_canBend ca 25 = i_aload 0 26 := rfl
theorem k_X8_canBend_26 (ca : Nat → ClassId) : k_X8_canBend ca 26 = i_iload 2 27 := rfl
theorem k_X8_canBend_27 (ca : Nat → ClassId) : k_X8_canBend ca 27 = i_iload 3 28 := rfl
theorem k_X8_canBend_28 (ca : Nat → ClassId) : k_X8_canBend ca 28 = i_callV 8 2 0 0 0 0 (sp_X8_isSingle ca) 31 := rfl
theorem k_X8_canBend_31 (ca : Nat → ClassId) : k_X8_canBend ca 31 = i_zret := rfl
theorem k_X8_canBend_32 (ca : Nat → ClassId) : k_X8_canBend ca 32 = i_iload 1 33 := rfl
theorem k_X8_canBend_33 (ca : Nat → ClassId) : k_X8_canBend ca 33 = i_push (.int 2) 34 := rfl
theorem k_X8_canBend_34 (ca : Nat → ClassId) : k_X8_canBend ca 34 = i_icmp (fun x y => ¬ x = y) 44 37 := rfl
theorem k_X8_canBend_37 (ca : Nat → ClassId) : k_X8_canBend ca 37 = i_aload 0 38 := rfl
theorem k_X8_canBend_38 (ca : Nat → ClassId) : k_X8_canBend ca 38 = i_iload 2 39 := rfl
theorem k_X8_canBend_39 (ca : Nat → ClassId) : k_X8_canBend ca 39 = i_iload 3 40 := rfl
theorem k_X8_canBend_40 (ca : Nat → ClassId) : k_X8_canBend ca 40 = i_callV 8 2 0 0 0 0 (sp_X8_isDouble ca) 43 := rfl
theorem k_X8_canBend_43 (ca : Nat → ClassId) : k_X8_canBend ca 43 = i_zret := rfl
theorem k_X8_canBend_44 (ca : Nat → ClassId) : k_X8_canBend ca 44 = i_push (.int 0) 45 := rfl
theorem k_X8_canBend_45 (ca : Nat → ClassId) : k_X8_canBend ca 45 = i_istore 4 47 := rfl
theorem k_X8_canBend_47 (ca : Nat → ClassId) : k_X8_canBend ca 47 = i_push (.int 0) 48 := rfl
theorem k_X8_canBend_48 (ca : Nat → ClassId) : k_X8_canBend ca 48 = i_istore 5 50 := rfl
theorem k_X8_canBend_50 (ca : Nat → ClassId) : k_X8_canBend ca 50 = i_iload 5 52 := rfl
theorem k_X8_canBend_52 (ca : Nat → ClassId) : k_X8_canBend ca 52 = i_push (.int 549) 55 := rfl
theorem k_X8_canBend_55 (ca : Nat → ClassId) : k_X8_canBend ca 55 = i_icmp (fun x y => y ≤ x) 123 58 := rfl
theorem k_X8_canBend_58 (ca : Nat → ClassId) : k_X8_canBend ca 58 = i_iload 4 60 := rfl
theorem k_X8_canBend_60 (ca : Nat → ClassId) : k_X8_canBend ca 60 = i_if (fun x => ¬ x = 0) 123 63 := rfl
theorem k_X8_canBend_63 (ca : Nat → ClassId) : k_X8_canBend ca 63 = i_aload 0 64 := rfl
theorem k_X8_canBend_64 (ca : Nat → ClassId) : k_X8_canBend ca 64 = i_getf 8 9 67 := rfl
theorem k_X8_canBend_67 (ca : Nat → ClassId) : k_X8_canBend ca 67 = i_iload 5 69 := rfl
theorem k_X8_canBend_69 (ca : Nat → ClassId) : k_X8_canBend ca 69 = i_push (.int 61) 71 := rfl
theorem k_X8_canBend_71 (ca : Nat → ClassId) : k_X8_canBend ca 71 = i_dv (fun x y => x - x / y * y) 72 := rfl
theorem k_X8_canBend_72 (ca : Nat → ClassId) : k_X8_canBend ca 72 = i_ald (ca 2) 73 := rfl
theorem k_X8_canBend_73 (ca : Nat → ClassId) : k_X8_canBend ca 73 = i_if (fun x => x = 0) 114 76 := rfl
theorem k_X8_canBend_76 (ca : Nat → ClassId) : k_X8_canBend ca 76 = i_aload 0 77 := rfl
theorem k_X8_canBend_77 (ca : Nat → ClassId) : k_X8_canBend ca 77 = i_iload 2 78 := rfl
theorem k_X8_canBend_78 (ca : Nat → ClassId) : k_X8_canBend ca 78 = i_iload 5 80 := rfl
theorem k_X8_canBend_80 (ca : Nat → ClassId) : k_X8_canBend ca 80 = i_push (.int 61) 82 := rfl
theorem k_X8_canBend_82 (ca : Nat → ClassId) : k_X8_canBend ca 82 = i_dv (fun x y => x / y) 83 := rfl
theorem k_X8_canBend_83 (ca : Nat → ClassId) : k_X8_canBend ca 83 = i_bin (fun x y => x - y) 84 := rfl
theorem k_X8_canBend_84 (ca : Nat → ClassId) : k_X8_canBend ca 84 = i_push (.int 1) 85 := rfl
theorem k_X8_canBend_85 (ca : Nat → ClassId) : k_X8_canBend ca 85 = i_bin (fun x y => x - y) 86 := rfl
theorem k_X8_canBend_86 (ca : Nat → ClassId) : k_X8_canBend ca 86 = i_iload 3 87 := rfl
theorem k_X8_canBend_87 (ca : Nat → ClassId) : k_X8_canBend ca 87 = i_iload 5 89 := rfl
theorem k_X8_canBend_89 (ca : Nat → ClassId) : k_X8_canBend ca 89 = i_push (.int 61) 91 := rfl
theorem k_X8_canBend_91 (ca : Nat → ClassId) : k_X8_canBend ca 91 = i_dv (fun x y => x / y) 92 := rfl
theorem k_X8_canBend_92 (ca : Nat → ClassId) : k_X8_canBend ca 92 = i_push (.int 1) 93 := rfl
theorem k_X8_canBend_93 (ca : Nat → ClassId) : k_X8_canBend ca 93 = i_bin (fun x y => x + y) 94 := rfl
theorem k_X8_canBend_94 (ca : Nat → ClassId) : k_X8_canBend ca 94 = i_iload 5 96 := rfl
theorem k_X8_canBend_96 (ca : Nat → ClassId) : k_X8_canBend ca 96 = i_push (.int 61) 98 := rfl
theorem k_X8_canBend_98 (ca : Nat → ClassId) : k_X8_canBend ca 98 = i_dv (fun x y => x - x / y * y) 99 := rfl
theorem k_X8_canBend_99 (ca : Nat → ClassId) : k_X8_canBend ca 99 = i_push (.int 30) 101 := rfl
theorem k_X8_canBend_101 (ca : Nat → ClassId) : k_X8_canBend ca 101 = i_bin (fun x y => x - y) 102 := rfl
theorem k_X8_canBend_102 (ca : Nat → ClassId) : k_X8_canBend ca 102 = i_bin (fun x y => x * y) 103 := rfl
theorem k_X8_canBend_103 (ca : Nat → ClassId) : k_X8_canBend ca 103 = i_bin (fun x y => x - y) 104 := rfl
theorem k_X8_canBend_104 (ca : Nat → ClassId) : k_X8_canBend ca 104 = i_callV 8 2 0 0 0 0 (sp_X8_isDouble ca) 107 := rfl
theorem k_X8_canBend_107 (ca : Nat → ClassId) : k_X8_canBend ca 107 = i_if (fun x => x = 0) 114 110 := rfl
theorem k_X8_canBend_110 (ca : Nat → ClassId) : k_X8_canBend ca 110 = i_push (.int 1) 111 := rfl
theorem k_X8_canBend_111 (ca : Nat → ClassId) : k_X8_canBend ca 111 = i_goto 115 := rfl
theorem k_X8_canBend_114 (ca : Nat → ClassId) : k_X8_canBend ca 114 = i_push (.int 0) 115 := rfl
theorem k_X8_canBend_115 (ca : Nat → ClassId) : k_X8_canBend ca 115 = i_istore 4 117 := rfl
theorem k_X8_canBend_117 (ca : Nat → ClassId) : k_X8_canBend ca 117 = i_iinc 5 1 120 := rfl
theorem k_X8_canBend_120 (ca : Nat → ClassId) : k_X8_canBend ca 120 = i_goto 50 := rfl
theorem k_X8_canBend_123 (ca : Nat → ClassId) : k_X8_canBend ca 123 = i_iload 4 125 := rfl
theorem k_X8_canBend_125 (ca : Nat → ClassId) : k_X8_canBend ca 125 = i_zret := rfl
set_option maxHeartbeats 4000000 in
set_option maxRecDepth 20000 in
theorem ok_X8_canBend (l : Launch) (D : va_G) (ca : Nat → ClassId) : OkAll l D ca yX8_canBend cX8_canBend 6 (some .boolean) 2 0 0 (sp_X8_canBend ca) := by
  intro av h post hs
  obtain ⟨m, a, iw, ip, P, T, b, hP, rfl, hMC, h7, h8, hs⟩ := hs
  obtain ⟨st, len, fm, at', re, hm⟩ := id hMC
  unfold eMod at hm
  unfold cbB at hs
  refine okM_of t_X8_canBend (by decide +kernel) (c1_ref (c1_int (c1_int (c1_int c1_nil)))) (Nat.le_of_ble_eq_true rfl) ?_
  intro K go
  have hP4 : P = 0 ∨ P = 1 ∨ P = 2 ∨ P = 3 := by omega
  rcases hP4 with rfl | rfl | rfl | rfl
  · rw [if_pos rfl] at hs
    rw [nI_0]
    by_cases q1 : T = 0
    · rw [decide_eq_true q1, Bool.true_and] at hs
      by_cases q2 : b = 0
      · rw [decide_eq_true q2, b2i_t] at hs
        refine goN go (stp []) 160 _ _ _ _ _ _ (fun F hF hF0 => ?_)
        simp only [hF, hF0, ite_not, i_push, i_iload, i_lload, i_aload, i_istore, i_astore, i_lstore, i_iinc, i_bin, i_dv, i_un, i_lbin, i_lsh, i_i2l, i_l2i, i_lcmp, i_dup, i_dup2, i_pop, i_if, i_icmp, i_goto, swG, i_sw, i_getf, i_puti, i_putz, i_putr, i_ald, i_lald, i_aald, i_ast, i_last, i_aast, i_alen, i_new, i_newi, i_newl, i_newq, i_oinit, i_ret, i_zret, i_lret, i_vret, catS, tk, rpush, isO, i_m1, i_m2, i_acopy, i_callV, i_callS, KRet, lget, lput, lputL, lcl0, isL, lv0, List.map_cons, List.map_nil, List.length_cons, List.length_nil, List.cons_append, List.nil_append, Nat.reduceAdd, Nat.reduceSub, Nat.reduceLeDiff, List.replicate_succ, List.replicate_zero, List.getElem?_cons_succ, List.getElem?_cons_zero, List.set_cons_succ, List.set_cons_zero, true_and, and_true, if_true, if_false, ↓reduceIte, Nat.le_refl, Value.category, va_up_app, eq_self, stp, Nat.reduceBEq, Bool.or_false, Bool.false_or, Bool.true_or, Bool.or_true, or_true, true_or, bx_uu, implies_true, true_implies, not_true, not_false_eq_true, false_implies, and_self, Nat.reduceLT, Int32.reduceAdd, Int32.reduceSub, Int32.reduceMul, Int32.reduceLE, Int32.reduceLT, Int32.reduceToNatClampNeg, va_rf_some, Bool.false_eq_true, k_X8_canBend_0 ca, k_X8_canBend_1 ca, k_X8_canBend_2 ca, k_X8_canBend_5 ca, k_X8_canBend_6 ca, k_X8_canBend_9 ca, k_X8_canBend_10 ca, k_X8_canBend_13 ca, k_X8_canBend_14 ca, k_X8_canBend_17 ca, k_X8_canBend_18 ca, k_X8_canBend_21 ca, k_X8_canBend_22 ca, k_X8_canBend_25 ca, k_X8_canBend_26 ca, k_X8_canBend_27 ca, k_X8_canBend_28 ca, k_X8_canBend_31 ca, k_X8_canBend_32 ca, k_X8_canBend_33 ca, k_X8_canBend_34 ca, k_X8_canBend_37 ca, k_X8_canBend_38 ca, k_X8_canBend_39 ca, k_X8_canBend_40 ca, k_X8_canBend_43 ca, k_X8_canBend_44 ca, k_X8_canBend_45 ca, k_X8_canBend_47 ca, k_X8_canBend_48 ca, k_X8_canBend_50 ca, k_X8_canBend_52 ca, k_X8_canBend_55 ca, k_X8_canBend_58 ca, k_X8_canBend_60 ca, k_X8_canBend_63 ca, k_X8_canBend_64 ca, k_X8_canBend_67 ca, k_X8_canBend_69 ca, k_X8_canBend_71 ca, k_X8_canBend_72 ca, k_X8_canBend_73 ca, k_X8_canBend_76 ca, k_X8_canBend_77 ca, k_X8_canBend_78 ca, k_X8_canBend_80 ca, k_X8_canBend_82 ca, k_X8_canBend_83 ca, k_X8_canBend_84 ca, k_X8_canBend_85 ca, k_X8_canBend_86 ca, k_X8_canBend_87 ca, k_X8_canBend_89 ca, k_X8_canBend_91 ca, k_X8_canBend_92 ca, k_X8_canBend_93 ca, k_X8_canBend_94 ca, k_X8_canBend_96 ca, k_X8_canBend_98 ca, k_X8_canBend_99 ca, k_X8_canBend_101 ca, k_X8_canBend_102 ca, k_X8_canBend_103 ca, k_X8_canBend_104 ca, k_X8_canBend_107 ca, k_X8_canBend_110 ca, k_X8_canBend_111 ca, k_X8_canBend_114 ca, k_X8_canBend_115 ca, k_X8_canBend_117 ca, k_X8_canBend_120 ca, k_X8_canBend_123 ca, k_X8_canBend_125 ca, q1, q2]
        try clear hF hF0 F
        exact hs
      · rw [decide_eq_false q2, b2i_f] at hs
        refine goN go (stp []) 160 _ _ _ _ _ _ (fun F hF hF0 => ?_)
        simp only [hF, hF0, ite_not, i_push, i_iload, i_lload, i_aload, i_istore, i_astore, i_lstore, i_iinc, i_bin, i_dv, i_un, i_lbin, i_lsh, i_i2l, i_l2i, i_lcmp, i_dup, i_dup2, i_pop, i_if, i_icmp, i_goto, swG, i_sw, i_getf, i_puti, i_putz, i_putr, i_ald, i_lald, i_aald, i_ast, i_last, i_aast, i_alen, i_new, i_newi, i_newl, i_newq, i_oinit, i_ret, i_zret, i_lret, i_vret, catS, tk, rpush, isO, i_m1, i_m2, i_acopy, i_callV, i_callS, KRet, lget, lput, lputL, lcl0, isL, lv0, List.map_cons, List.map_nil, List.length_cons, List.length_nil, List.cons_append, List.nil_append, Nat.reduceAdd, Nat.reduceSub, Nat.reduceLeDiff, List.replicate_succ, List.replicate_zero, List.getElem?_cons_succ, List.getElem?_cons_zero, List.set_cons_succ, List.set_cons_zero, true_and, and_true, if_true, if_false, ↓reduceIte, Nat.le_refl, Value.category, va_up_app, eq_self, stp, Nat.reduceBEq, Bool.or_false, Bool.false_or, Bool.true_or, Bool.or_true, or_true, true_or, bx_uu, implies_true, true_implies, not_true, not_false_eq_true, false_implies, and_self, Nat.reduceLT, Int32.reduceAdd, Int32.reduceSub, Int32.reduceMul, Int32.reduceLE, Int32.reduceLT, Int32.reduceToNatClampNeg, va_rf_some, Bool.false_eq_true, k_X8_canBend_0 ca, k_X8_canBend_1 ca, k_X8_canBend_2 ca, k_X8_canBend_5 ca, k_X8_canBend_6 ca, k_X8_canBend_9 ca, k_X8_canBend_10 ca, k_X8_canBend_13 ca, k_X8_canBend_14 ca, k_X8_canBend_17 ca, k_X8_canBend_18 ca, k_X8_canBend_21 ca, k_X8_canBend_22 ca, k_X8_canBend_25 ca, k_X8_canBend_26 ca, k_X8_canBend_27 ca, k_X8_canBend_28 ca, k_X8_canBend_31 ca, k_X8_canBend_32 ca, k_X8_canBend_33 ca, k_X8_canBend_34 ca, k_X8_canBend_37 ca, k_X8_canBend_38 ca, k_X8_canBend_39 ca, k_X8_canBend_40 ca, k_X8_canBend_43 ca, k_X8_canBend_44 ca, k_X8_canBend_45 ca, k_X8_canBend_47 ca, k_X8_canBend_48 ca, k_X8_canBend_50 ca, k_X8_canBend_52 ca, k_X8_canBend_55 ca, k_X8_canBend_58 ca, k_X8_canBend_60 ca, k_X8_canBend_63 ca, k_X8_canBend_64 ca, k_X8_canBend_67 ca, k_X8_canBend_69 ca, k_X8_canBend_71 ca, k_X8_canBend_72 ca, k_X8_canBend_73 ca, k_X8_canBend_76 ca, k_X8_canBend_77 ca, k_X8_canBend_78 ca, k_X8_canBend_80 ca, k_X8_canBend_82 ca, k_X8_canBend_83 ca, k_X8_canBend_84 ca, k_X8_canBend_85 ca, k_X8_canBend_86 ca, k_X8_canBend_87 ca, k_X8_canBend_89 ca, k_X8_canBend_91 ca, k_X8_canBend_92 ca, k_X8_canBend_93 ca, k_X8_canBend_94 ca, k_X8_canBend_96 ca, k_X8_canBend_98 ca, k_X8_canBend_99 ca, k_X8_canBend_101 ca, k_X8_canBend_102 ca, k_X8_canBend_103 ca, k_X8_canBend_104 ca, k_X8_canBend_107 ca, k_X8_canBend_110 ca, k_X8_canBend_111 ca, k_X8_canBend_114 ca, k_X8_canBend_115 ca, k_X8_canBend_117 ca, k_X8_canBend_120 ca, k_X8_canBend_123 ca, k_X8_canBend_125 ca, q1, q2]
        try clear hF hF0 F
        exact hs
    · rw [decide_eq_false q1, Bool.false_and, b2i_f] at hs
      refine goN go (stp []) 160 _ _ _ _ _ _ (fun F hF hF0 => ?_)
      simp only [hF, hF0, ite_not, i_push, i_iload, i_lload, i_aload, i_istore, i_astore, i_lstore, i_iinc, i_bin, i_dv, i_un, i_lbin, i_lsh, i_i2l, i_l2i, i_lcmp, i_dup, i_dup2, i_pop, i_if, i_icmp, i_goto, swG, i_sw, i_getf, i_puti, i_putz, i_putr, i_ald, i_lald, i_aald, i_ast, i_last, i_aast, i_alen, i_new, i_newi, i_newl, i_newq, i_oinit, i_ret, i_zret, i_lret, i_vret, catS, tk, rpush, isO, i_m1, i_m2, i_acopy, i_callV, i_callS, KRet, lget, lput, lputL, lcl0, isL, lv0, List.map_cons, List.map_nil, List.length_cons, List.length_nil, List.cons_append, List.nil_append, Nat.reduceAdd, Nat.reduceSub, Nat.reduceLeDiff, List.replicate_succ, List.replicate_zero, List.getElem?_cons_succ, List.getElem?_cons_zero, List.set_cons_succ, List.set_cons_zero, true_and, and_true, if_true, if_false, ↓reduceIte, Nat.le_refl, Value.category, va_up_app, eq_self, stp, Nat.reduceBEq, Bool.or_false, Bool.false_or, Bool.true_or, Bool.or_true, or_true, true_or, bx_uu, implies_true, true_implies, not_true, not_false_eq_true, false_implies, and_self, Nat.reduceLT, Int32.reduceAdd, Int32.reduceSub, Int32.reduceMul, Int32.reduceLE, Int32.reduceLT, Int32.reduceToNatClampNeg, va_rf_some, Bool.false_eq_true, k_X8_canBend_0 ca, k_X8_canBend_1 ca, k_X8_canBend_2 ca, k_X8_canBend_5 ca, k_X8_canBend_6 ca, k_X8_canBend_9 ca, k_X8_canBend_10 ca, k_X8_canBend_13 ca, k_X8_canBend_14 ca, k_X8_canBend_17 ca, k_X8_canBend_18 ca, k_X8_canBend_21 ca, k_X8_canBend_22 ca, k_X8_canBend_25 ca, k_X8_canBend_26 ca, k_X8_canBend_27 ca, k_X8_canBend_28 ca, k_X8_canBend_31 ca, k_X8_canBend_32 ca, k_X8_canBend_33 ca, k_X8_canBend_34 ca, k_X8_canBend_37 ca, k_X8_canBend_38 ca, k_X8_canBend_39 ca, k_X8_canBend_40 ca, k_X8_canBend_43 ca, k_X8_canBend_44 ca, k_X8_canBend_45 ca, k_X8_canBend_47 ca, k_X8_canBend_48 ca, k_X8_canBend_50 ca, k_X8_canBend_52 ca, k_X8_canBend_55 ca, k_X8_canBend_58 ca, k_X8_canBend_60 ca, k_X8_canBend_63 ca, k_X8_canBend_64 ca, k_X8_canBend_67 ca, k_X8_canBend_69 ca, k_X8_canBend_71 ca, k_X8_canBend_72 ca, k_X8_canBend_73 ca, k_X8_canBend_76 ca, k_X8_canBend_77 ca, k_X8_canBend_78 ca, k_X8_canBend_80 ca, k_X8_canBend_82 ca, k_X8_canBend_83 ca, k_X8_canBend_84 ca, k_X8_canBend_85 ca, k_X8_canBend_86 ca, k_X8_canBend_87 ca, k_X8_canBend_89 ca, k_X8_canBend_91 ca, k_X8_canBend_92 ca, k_X8_canBend_93 ca, k_X8_canBend_94 ca, k_X8_canBend_96 ca, k_X8_canBend_98 ca, k_X8_canBend_99 ca, k_X8_canBend_101 ca, k_X8_canBend_102 ca, k_X8_canBend_103 ca, k_X8_canBend_104 ca, k_X8_canBend_107 ca, k_X8_canBend_110 ca, k_X8_canBend_111 ca, k_X8_canBend_114 ca, k_X8_canBend_115 ca, k_X8_canBend_117 ca, k_X8_canBend_120 ca, k_X8_canBend_123 ca, k_X8_canBend_125 ca, q1]
      try clear hF hF0 F
      exact hs
  · rw [if_neg (by decide), if_pos rfl] at hs
    rw [n1]
    refine goN go (stp [31]) 160 _ _ _ _ _ _ (fun F hF hF0 => ?_)
    simp only [hF, hF0, ite_not, i_push, i_iload, i_lload, i_aload, i_istore, i_astore, i_lstore, i_iinc, i_bin, i_dv, i_un, i_lbin, i_lsh, i_i2l, i_l2i, i_lcmp, i_dup, i_dup2, i_pop, i_if, i_icmp, i_goto, swG, i_sw, i_getf, i_puti, i_putz, i_putr, i_ald, i_lald, i_aald, i_ast, i_last, i_aast, i_alen, i_new, i_newi, i_newl, i_newq, i_oinit, i_ret, i_zret, i_lret, i_vret, catS, tk, rpush, isO, i_m1, i_m2, i_acopy, i_callV, i_callS, KRet, lget, lput, lputL, lcl0, isL, lv0, List.map_cons, List.map_nil, List.length_cons, List.length_nil, List.cons_append, List.nil_append, Nat.reduceAdd, Nat.reduceSub, Nat.reduceLeDiff, List.replicate_succ, List.replicate_zero, List.getElem?_cons_succ, List.getElem?_cons_zero, List.set_cons_succ, List.set_cons_zero, true_and, and_true, if_true, if_false, ↓reduceIte, Nat.le_refl, Value.category, va_up_app, eq_self, stp, Nat.reduceBEq, Bool.or_false, Bool.false_or, Bool.true_or, Bool.or_true, or_true, true_or, bx_uu, implies_true, true_implies, not_true, not_false_eq_true, false_implies, and_self, Nat.reduceLT, Int32.reduceAdd, Int32.reduceSub, Int32.reduceMul, Int32.reduceLE, Int32.reduceLT, Int32.reduceToNatClampNeg, va_rf_some, Bool.false_eq_true, k_X8_canBend_0 ca, k_X8_canBend_1 ca, k_X8_canBend_2 ca, k_X8_canBend_5 ca, k_X8_canBend_6 ca, k_X8_canBend_9 ca, k_X8_canBend_10 ca, k_X8_canBend_13 ca, k_X8_canBend_14 ca, k_X8_canBend_17 ca, k_X8_canBend_18 ca, k_X8_canBend_21 ca, k_X8_canBend_22 ca, k_X8_canBend_25 ca, k_X8_canBend_26 ca, k_X8_canBend_27 ca, k_X8_canBend_28 ca, k_X8_canBend_31 ca, k_X8_canBend_32 ca, k_X8_canBend_33 ca, k_X8_canBend_34 ca, k_X8_canBend_37 ca, k_X8_canBend_38 ca, k_X8_canBend_39 ca, k_X8_canBend_40 ca, k_X8_canBend_43 ca, k_X8_canBend_44 ca, k_X8_canBend_45 ca, k_X8_canBend_47 ca, k_X8_canBend_48 ca, k_X8_canBend_50 ca, k_X8_canBend_52 ca, k_X8_canBend_55 ca, k_X8_canBend_58 ca, k_X8_canBend_60 ca, k_X8_canBend_63 ca, k_X8_canBend_64 ca, k_X8_canBend_67 ca, k_X8_canBend_69 ca, k_X8_canBend_71 ca, k_X8_canBend_72 ca, k_X8_canBend_73 ca, k_X8_canBend_76 ca, k_X8_canBend_77 ca, k_X8_canBend_78 ca, k_X8_canBend_80 ca, k_X8_canBend_82 ca, k_X8_canBend_83 ca, k_X8_canBend_84 ca, k_X8_canBend_85 ca, k_X8_canBend_86 ca, k_X8_canBend_87 ca, k_X8_canBend_89 ca, k_X8_canBend_91 ca, k_X8_canBend_92 ca, k_X8_canBend_93 ca, k_X8_canBend_94 ca, k_X8_canBend_96 ca, k_X8_canBend_98 ca, k_X8_canBend_99 ca, k_X8_canBend_101 ca, k_X8_canBend_102 ca, k_X8_canBend_103 ca, k_X8_canBend_104 ca, k_X8_canBend_107 ca, k_X8_canBend_110 ca, k_X8_canBend_111 ca, k_X8_canBend_114 ca, k_X8_canBend_115 ca, k_X8_canBend_117 ca, k_X8_canBend_120 ca, k_X8_canBend_123 ca, k_X8_canBend_125 ca, hm, one0]
    try clear hF hF0 F
    refine ⟨m, a, iw, T, b, rfl, hMC, h7, ?_⟩
    have g := b2i_01 (sgB iw T b)
    refine goN go (stp []) 160 _ _ _ _ _ _ (fun F hF hF0 => ?_)
    simp only [hF, hF0, ite_not, i_push, i_iload, i_lload, i_aload, i_istore, i_astore, i_lstore, i_iinc, i_bin, i_dv, i_un, i_lbin, i_lsh, i_i2l, i_l2i, i_lcmp, i_dup, i_dup2, i_pop, i_if, i_icmp, i_goto, swG, i_sw, i_getf, i_puti, i_putz, i_putr, i_ald, i_lald, i_aald, i_ast, i_last, i_aast, i_alen, i_new, i_newi, i_newl, i_newq, i_oinit, i_ret, i_zret, i_lret, i_vret, catS, tk, rpush, isO, i_m1, i_m2, i_acopy, i_callV, i_callS, KRet, lget, lput, lputL, lcl0, isL, lv0, List.map_cons, List.map_nil, List.length_cons, List.length_nil, List.cons_append, List.nil_append, Nat.reduceAdd, Nat.reduceSub, Nat.reduceLeDiff, List.replicate_succ, List.replicate_zero, List.getElem?_cons_succ, List.getElem?_cons_zero, List.set_cons_succ, List.set_cons_zero, true_and, and_true, if_true, if_false, ↓reduceIte, Nat.le_refl, Value.category, va_up_app, eq_self, stp, Nat.reduceBEq, Bool.or_false, Bool.false_or, Bool.true_or, Bool.or_true, or_true, true_or, bx_uu, implies_true, true_implies, not_true, not_false_eq_true, false_implies, and_self, Nat.reduceLT, Int32.reduceAdd, Int32.reduceSub, Int32.reduceMul, Int32.reduceLE, Int32.reduceLT, Int32.reduceToNatClampNeg, va_rf_some, Bool.false_eq_true, k_X8_canBend_0 ca, k_X8_canBend_1 ca, k_X8_canBend_2 ca, k_X8_canBend_5 ca, k_X8_canBend_6 ca, k_X8_canBend_9 ca, k_X8_canBend_10 ca, k_X8_canBend_13 ca, k_X8_canBend_14 ca, k_X8_canBend_17 ca, k_X8_canBend_18 ca, k_X8_canBend_21 ca, k_X8_canBend_22 ca, k_X8_canBend_25 ca, k_X8_canBend_26 ca, k_X8_canBend_27 ca, k_X8_canBend_28 ca, k_X8_canBend_31 ca, k_X8_canBend_32 ca, k_X8_canBend_33 ca, k_X8_canBend_34 ca, k_X8_canBend_37 ca, k_X8_canBend_38 ca, k_X8_canBend_39 ca, k_X8_canBend_40 ca, k_X8_canBend_43 ca, k_X8_canBend_44 ca, k_X8_canBend_45 ca, k_X8_canBend_47 ca, k_X8_canBend_48 ca, k_X8_canBend_50 ca, k_X8_canBend_52 ca, k_X8_canBend_55 ca, k_X8_canBend_58 ca, k_X8_canBend_60 ca, k_X8_canBend_63 ca, k_X8_canBend_64 ca, k_X8_canBend_67 ca, k_X8_canBend_69 ca, k_X8_canBend_71 ca, k_X8_canBend_72 ca, k_X8_canBend_73 ca, k_X8_canBend_76 ca, k_X8_canBend_77 ca, k_X8_canBend_78 ca, k_X8_canBend_80 ca, k_X8_canBend_82 ca, k_X8_canBend_83 ca, k_X8_canBend_84 ca, k_X8_canBend_85 ca, k_X8_canBend_86 ca, k_X8_canBend_87 ca, k_X8_canBend_89 ca, k_X8_canBend_91 ca, k_X8_canBend_92 ca, k_X8_canBend_93 ca, k_X8_canBend_94 ca, k_X8_canBend_96 ca, k_X8_canBend_98 ca, k_X8_canBend_99 ca, k_X8_canBend_101 ca, k_X8_canBend_102 ca, k_X8_canBend_103 ca, k_X8_canBend_104 ca, k_X8_canBend_107 ca, k_X8_canBend_110 ca, k_X8_canBend_111 ca, k_X8_canBend_114 ca, k_X8_canBend_115 ca, k_X8_canBend_117 ca, k_X8_canBend_120 ca, k_X8_canBend_123 ca, k_X8_canBend_125 ca, g]
    try clear hF hF0 F
    exact hs
  · rw [if_neg (by decide), if_neg (by decide), if_pos rfl] at hs
    rw [n2]
    refine goN go (stp [43]) 160 _ _ _ _ _ _ (fun F hF hF0 => ?_)
    simp only [hF, hF0, ite_not, i_push, i_iload, i_lload, i_aload, i_istore, i_astore, i_lstore, i_iinc, i_bin, i_dv, i_un, i_lbin, i_lsh, i_i2l, i_l2i, i_lcmp, i_dup, i_dup2, i_pop, i_if, i_icmp, i_goto, swG, i_sw, i_getf, i_puti, i_putz, i_putr, i_ald, i_lald, i_aald, i_ast, i_last, i_aast, i_alen, i_new, i_newi, i_newl, i_newq, i_oinit, i_ret, i_zret, i_lret, i_vret, catS, tk, rpush, isO, i_m1, i_m2, i_acopy, i_callV, i_callS, KRet, lget, lput, lputL, lcl0, isL, lv0, List.map_cons, List.map_nil, List.length_cons, List.length_nil, List.cons_append, List.nil_append, Nat.reduceAdd, Nat.reduceSub, Nat.reduceLeDiff, List.replicate_succ, List.replicate_zero, List.getElem?_cons_succ, List.getElem?_cons_zero, List.set_cons_succ, List.set_cons_zero, true_and, and_true, if_true, if_false, ↓reduceIte, Nat.le_refl, Value.category, va_up_app, eq_self, stp, Nat.reduceBEq, Bool.or_false, Bool.false_or, Bool.true_or, Bool.or_true, or_true, true_or, bx_uu, implies_true, true_implies, not_true, not_false_eq_true, false_implies, and_self, Nat.reduceLT, Int32.reduceAdd, Int32.reduceSub, Int32.reduceMul, Int32.reduceLE, Int32.reduceLT, Int32.reduceToNatClampNeg, va_rf_some, Bool.false_eq_true, k_X8_canBend_0 ca, k_X8_canBend_1 ca, k_X8_canBend_2 ca, k_X8_canBend_5 ca, k_X8_canBend_6 ca, k_X8_canBend_9 ca, k_X8_canBend_10 ca, k_X8_canBend_13 ca, k_X8_canBend_14 ca, k_X8_canBend_17 ca, k_X8_canBend_18 ca, k_X8_canBend_21 ca, k_X8_canBend_22 ca, k_X8_canBend_25 ca, k_X8_canBend_26 ca, k_X8_canBend_27 ca, k_X8_canBend_28 ca, k_X8_canBend_31 ca, k_X8_canBend_32 ca, k_X8_canBend_33 ca, k_X8_canBend_34 ca, k_X8_canBend_37 ca, k_X8_canBend_38 ca, k_X8_canBend_39 ca, k_X8_canBend_40 ca, k_X8_canBend_43 ca, k_X8_canBend_44 ca, k_X8_canBend_45 ca, k_X8_canBend_47 ca, k_X8_canBend_48 ca, k_X8_canBend_50 ca, k_X8_canBend_52 ca, k_X8_canBend_55 ca, k_X8_canBend_58 ca, k_X8_canBend_60 ca, k_X8_canBend_63 ca, k_X8_canBend_64 ca, k_X8_canBend_67 ca, k_X8_canBend_69 ca, k_X8_canBend_71 ca, k_X8_canBend_72 ca, k_X8_canBend_73 ca, k_X8_canBend_76 ca, k_X8_canBend_77 ca, k_X8_canBend_78 ca, k_X8_canBend_80 ca, k_X8_canBend_82 ca, k_X8_canBend_83 ca, k_X8_canBend_84 ca, k_X8_canBend_85 ca, k_X8_canBend_86 ca, k_X8_canBend_87 ca, k_X8_canBend_89 ca, k_X8_canBend_91 ca, k_X8_canBend_92 ca, k_X8_canBend_93 ca, k_X8_canBend_94 ca, k_X8_canBend_96 ca, k_X8_canBend_98 ca, k_X8_canBend_99 ca, k_X8_canBend_101 ca, k_X8_canBend_102 ca, k_X8_canBend_103 ca, k_X8_canBend_104 ca, k_X8_canBend_107 ca, k_X8_canBend_110 ca, k_X8_canBend_111 ca, k_X8_canBend_114 ca, k_X8_canBend_115 ca, k_X8_canBend_117 ca, k_X8_canBend_120 ca, k_X8_canBend_123 ca, k_X8_canBend_125 ca, hm]
    try clear hF hF0 F
    refine ⟨m, a, ip, T, b, rfl, hMC, h8, ?_⟩
    have g := b2i_01 (dbB ip T b)
    refine goN go (stp []) 160 _ _ _ _ _ _ (fun F hF hF0 => ?_)
    simp only [hF, hF0, ite_not, i_push, i_iload, i_lload, i_aload, i_istore, i_astore, i_lstore, i_iinc, i_bin, i_dv, i_un, i_lbin, i_lsh, i_i2l, i_l2i, i_lcmp, i_dup, i_dup2, i_pop, i_if, i_icmp, i_goto, swG, i_sw, i_getf, i_puti, i_putz, i_putr, i_ald, i_lald, i_aald, i_ast, i_last, i_aast, i_alen, i_new, i_newi, i_newl, i_newq, i_oinit, i_ret, i_zret, i_lret, i_vret, catS, tk, rpush, isO, i_m1, i_m2, i_acopy, i_callV, i_callS, KRet, lget, lput, lputL, lcl0, isL, lv0, List.map_cons, List.map_nil, List.length_cons, List.length_nil, List.cons_append, List.nil_append, Nat.reduceAdd, Nat.reduceSub, Nat.reduceLeDiff, List.replicate_succ, List.replicate_zero, List.getElem?_cons_succ, List.getElem?_cons_zero, List.set_cons_succ, List.set_cons_zero, true_and, and_true, if_true, if_false, ↓reduceIte, Nat.le_refl, Value.category, va_up_app, eq_self, stp, Nat.reduceBEq, Bool.or_false, Bool.false_or, Bool.true_or, Bool.or_true, or_true, true_or, bx_uu, implies_true, true_implies, not_true, not_false_eq_true, false_implies, and_self, Nat.reduceLT, Int32.reduceAdd, Int32.reduceSub, Int32.reduceMul, Int32.reduceLE, Int32.reduceLT, Int32.reduceToNatClampNeg, va_rf_some, Bool.false_eq_true, k_X8_canBend_0 ca, k_X8_canBend_1 ca, k_X8_canBend_2 ca, k_X8_canBend_5 ca, k_X8_canBend_6 ca, k_X8_canBend_9 ca, k_X8_canBend_10 ca, k_X8_canBend_13 ca, k_X8_canBend_14 ca, k_X8_canBend_17 ca, k_X8_canBend_18 ca, k_X8_canBend_21 ca, k_X8_canBend_22 ca, k_X8_canBend_25 ca, k_X8_canBend_26 ca, k_X8_canBend_27 ca, k_X8_canBend_28 ca, k_X8_canBend_31 ca, k_X8_canBend_32 ca, k_X8_canBend_33 ca, k_X8_canBend_34 ca, k_X8_canBend_37 ca, k_X8_canBend_38 ca, k_X8_canBend_39 ca, k_X8_canBend_40 ca, k_X8_canBend_43 ca, k_X8_canBend_44 ca, k_X8_canBend_45 ca, k_X8_canBend_47 ca, k_X8_canBend_48 ca, k_X8_canBend_50 ca, k_X8_canBend_52 ca, k_X8_canBend_55 ca, k_X8_canBend_58 ca, k_X8_canBend_60 ca, k_X8_canBend_63 ca, k_X8_canBend_64 ca, k_X8_canBend_67 ca, k_X8_canBend_69 ca, k_X8_canBend_71 ca, k_X8_canBend_72 ca, k_X8_canBend_73 ca, k_X8_canBend_76 ca, k_X8_canBend_77 ca, k_X8_canBend_78 ca, k_X8_canBend_80 ca, k_X8_canBend_82 ca, k_X8_canBend_83 ca, k_X8_canBend_84 ca, k_X8_canBend_85 ca, k_X8_canBend_86 ca, k_X8_canBend_87 ca, k_X8_canBend_89 ca, k_X8_canBend_91 ca, k_X8_canBend_92 ca, k_X8_canBend_93 ca, k_X8_canBend_94 ca, k_X8_canBend_96 ca, k_X8_canBend_98 ca, k_X8_canBend_99 ca, k_X8_canBend_101 ca, k_X8_canBend_102 ca, k_X8_canBend_103 ca, k_X8_canBend_104 ca, k_X8_canBend_107 ca, k_X8_canBend_110 ca, k_X8_canBend_111 ca, k_X8_canBend_114 ca, k_X8_canBend_115 ca, k_X8_canBend_117 ca, k_X8_canBend_120 ca, k_X8_canBend_123 ca, k_X8_canBend_125 ca, g]
    try clear hF hF0 F
    exact hs
  · rw [if_neg (by decide), if_neg (by decide), if_neg (by decide)] at hs
    have e3 : nI 3 = 3 := rfl
    rw [e3]
    have key : ∀ r k, k + r = 549 → cbG iw ip T b 549 0 = cbG iw ip T b r k → K 0 0 50 [some (.ref m), some (.int 3), some (.int T), some (.int b), some (.int 0), some (.int (nI k))] [] h := by
      intro r
      induction r with
      | zero =>
        intro k hk e
        have hk : k = 549 := hk
        subst hk
        rw [e, show cbG iw ip T b 0 549 = false from rfl, b2i_f] at hs
        have e5 : nI 549 = 549 := rfl
        refine goN go (stp []) 160 _ _ _ _ _ _ (fun F hF hF0 => ?_)
        simp only [hF, hF0, ite_not, i_push, i_iload, i_lload, i_aload, i_istore, i_astore, i_lstore, i_iinc, i_bin, i_dv, i_un, i_lbin, i_lsh, i_i2l, i_l2i, i_lcmp, i_dup, i_dup2, i_pop, i_if, i_icmp, i_goto, swG, i_sw, i_getf, i_puti, i_putz, i_putr, i_ald, i_lald, i_aald, i_ast, i_last, i_aast, i_alen, i_new, i_newi, i_newl, i_newq, i_oinit, i_ret, i_zret, i_lret, i_vret, catS, tk, rpush, isO, i_m1, i_m2, i_acopy, i_callV, i_callS, KRet, lget, lput, lputL, lcl0, isL, lv0, List.map_cons, List.map_nil, List.length_cons, List.length_nil, List.cons_append, List.nil_append, Nat.reduceAdd, Nat.reduceSub, Nat.reduceLeDiff, List.replicate_succ, List.replicate_zero, List.getElem?_cons_succ, List.getElem?_cons_zero, List.set_cons_succ, List.set_cons_zero, true_and, and_true, if_true, if_false, ↓reduceIte, Nat.le_refl, Value.category, va_up_app, eq_self, stp, Nat.reduceBEq, Bool.or_false, Bool.false_or, Bool.true_or, Bool.or_true, or_true, true_or, bx_uu, implies_true, true_implies, not_true, not_false_eq_true, false_implies, and_self, Nat.reduceLT, Int32.reduceAdd, Int32.reduceSub, Int32.reduceMul, Int32.reduceLE, Int32.reduceLT, Int32.reduceToNatClampNeg, va_rf_some, Bool.false_eq_true, k_X8_canBend_0 ca, k_X8_canBend_1 ca, k_X8_canBend_2 ca, k_X8_canBend_5 ca, k_X8_canBend_6 ca, k_X8_canBend_9 ca, k_X8_canBend_10 ca, k_X8_canBend_13 ca, k_X8_canBend_14 ca, k_X8_canBend_17 ca, k_X8_canBend_18 ca, k_X8_canBend_21 ca, k_X8_canBend_22 ca, k_X8_canBend_25 ca, k_X8_canBend_26 ca, k_X8_canBend_27 ca, k_X8_canBend_28 ca, k_X8_canBend_31 ca, k_X8_canBend_32 ca, k_X8_canBend_33 ca, k_X8_canBend_34 ca, k_X8_canBend_37 ca, k_X8_canBend_38 ca, k_X8_canBend_39 ca, k_X8_canBend_40 ca, k_X8_canBend_43 ca, k_X8_canBend_44 ca, k_X8_canBend_45 ca, k_X8_canBend_47 ca, k_X8_canBend_48 ca, k_X8_canBend_50 ca, k_X8_canBend_52 ca, k_X8_canBend_55 ca, k_X8_canBend_58 ca, k_X8_canBend_60 ca, k_X8_canBend_63 ca, k_X8_canBend_64 ca, k_X8_canBend_67 ca, k_X8_canBend_69 ca, k_X8_canBend_71 ca, k_X8_canBend_72 ca, k_X8_canBend_73 ca, k_X8_canBend_76 ca, k_X8_canBend_77 ca, k_X8_canBend_78 ca, k_X8_canBend_80 ca, k_X8_canBend_82 ca, k_X8_canBend_83 ca, k_X8_canBend_84 ca, k_X8_canBend_85 ca, k_X8_canBend_86 ca, k_X8_canBend_87 ca, k_X8_canBend_89 ca, k_X8_canBend_91 ca, k_X8_canBend_92 ca, k_X8_canBend_93 ca, k_X8_canBend_94 ca, k_X8_canBend_96 ca, k_X8_canBend_98 ca, k_X8_canBend_99 ca, k_X8_canBend_101 ca, k_X8_canBend_102 ca, k_X8_canBend_103 ca, k_X8_canBend_104 ca, k_X8_canBend_107 ca, k_X8_canBend_110 ca, k_X8_canBend_111 ca, k_X8_canBend_114 ca, k_X8_canBend_115 ca, k_X8_canBend_117 ca, k_X8_canBend_120 ca, k_X8_canBend_123 ca, k_X8_canBend_125 ca, e5]
        try clear hF hF0 F
        exact hs
      | succ r ih =>
        intro k hk e
        rw [show cbG iw ip T b (r + 1) k = if hitB iw ip T b k = true then true else cbG iw ip T b r (k + 1) from rfl] at e
        have g1 : ¬ 549 ≤ nI k := nI_ge (b := 549) (by omega) (by decide)
        have r61 := rem61 (k := k) (by omega)
        have r61b := rem61b (k := k) (by omega)
        have d61 := div61 (k := k) (by omega)
        have z0 : vp_in (nI (k % 61)) 61 := vp_in_nI (Nat.mod_lt _ (by decide)) (by decide)
        have z1 : (nI (k % 61)).toNatClampNeg = k % 61 := nI_clamp (by have := Nat.mod_lt k (show 61 > 0 by decide); omega)
        have no : (cbG iw ip T b 549 0 = cbG iw ip T b r (k + 1)) → K 0 0 117 [some (.ref m), some (.int 3), some (.int T), some (.int b), some (.int 0), some (.int (nI k))] [] h := by
          intro e2
          have k0 := ih (k + 1) (by omega) e2
          refine goN go (stp [50]) 160 _ _ _ _ _ _ (fun F hF hF0 => ?_)
          simp only [hF, hF0, ite_not, i_push, i_iload, i_lload, i_aload, i_istore, i_astore, i_lstore, i_iinc, i_bin, i_dv, i_un, i_lbin, i_lsh, i_i2l, i_l2i, i_lcmp, i_dup, i_dup2, i_pop, i_if, i_icmp, i_goto, swG, i_sw, i_getf, i_puti, i_putz, i_putr, i_ald, i_lald, i_aald, i_ast, i_last, i_aast, i_alen, i_new, i_newi, i_newl, i_newq, i_oinit, i_ret, i_zret, i_lret, i_vret, catS, tk, rpush, isO, i_m1, i_m2, i_acopy, i_callV, i_callS, KRet, lget, lput, lputL, lcl0, isL, lv0, List.map_cons, List.map_nil, List.length_cons, List.length_nil, List.cons_append, List.nil_append, Nat.reduceAdd, Nat.reduceSub, Nat.reduceLeDiff, List.replicate_succ, List.replicate_zero, List.getElem?_cons_succ, List.getElem?_cons_zero, List.set_cons_succ, List.set_cons_zero, true_and, and_true, if_true, if_false, ↓reduceIte, Nat.le_refl, Value.category, va_up_app, eq_self, stp, Nat.reduceBEq, Bool.or_false, Bool.false_or, Bool.true_or, Bool.or_true, or_true, true_or, bx_uu, implies_true, true_implies, not_true, not_false_eq_true, false_implies, and_self, Nat.reduceLT, Int32.reduceAdd, Int32.reduceSub, Int32.reduceMul, Int32.reduceLE, Int32.reduceLT, Int32.reduceToNatClampNeg, va_rf_some, Bool.false_eq_true, k_X8_canBend_0 ca, k_X8_canBend_1 ca, k_X8_canBend_2 ca, k_X8_canBend_5 ca, k_X8_canBend_6 ca, k_X8_canBend_9 ca, k_X8_canBend_10 ca, k_X8_canBend_13 ca, k_X8_canBend_14 ca, k_X8_canBend_17 ca, k_X8_canBend_18 ca, k_X8_canBend_21 ca, k_X8_canBend_22 ca, k_X8_canBend_25 ca, k_X8_canBend_26 ca, k_X8_canBend_27 ca, k_X8_canBend_28 ca, k_X8_canBend_31 ca, k_X8_canBend_32 ca, k_X8_canBend_33 ca, k_X8_canBend_34 ca, k_X8_canBend_37 ca, k_X8_canBend_38 ca, k_X8_canBend_39 ca, k_X8_canBend_40 ca, k_X8_canBend_43 ca, k_X8_canBend_44 ca, k_X8_canBend_45 ca, k_X8_canBend_47 ca, k_X8_canBend_48 ca, k_X8_canBend_50 ca, k_X8_canBend_52 ca, k_X8_canBend_55 ca, k_X8_canBend_58 ca, k_X8_canBend_60 ca, k_X8_canBend_63 ca, k_X8_canBend_64 ca, k_X8_canBend_67 ca, k_X8_canBend_69 ca, k_X8_canBend_71 ca, k_X8_canBend_72 ca, k_X8_canBend_73 ca, k_X8_canBend_76 ca, k_X8_canBend_77 ca, k_X8_canBend_78 ca, k_X8_canBend_80 ca, k_X8_canBend_82 ca, k_X8_canBend_83 ca, k_X8_canBend_84 ca, k_X8_canBend_85 ca, k_X8_canBend_86 ca, k_X8_canBend_87 ca, k_X8_canBend_89 ca, k_X8_canBend_91 ca, k_X8_canBend_92 ca, k_X8_canBend_93 ca, k_X8_canBend_94 ca, k_X8_canBend_96 ca, k_X8_canBend_98 ca, k_X8_canBend_99 ca, k_X8_canBend_101 ca, k_X8_canBend_102 ca, k_X8_canBend_103 ca, k_X8_canBend_104 ca, k_X8_canBend_107 ca, k_X8_canBend_110 ca, k_X8_canBend_111 ca, k_X8_canBend_114 ca, k_X8_canBend_115 ca, k_X8_canBend_117 ca, k_X8_canBend_120 ca, k_X8_canBend_123 ca, k_X8_canBend_125 ca, a_1]
          try clear hF hF0 F
          exact k0
        unfold hitB at e
        by_cases q1 : iw (k % 61) = 0
        · rw [decide_eq_true q1, Bool.not_true, Bool.false_and, if_neg (by decide)] at e
          have k0 := no e
          refine goN go (stp [117]) 160 _ _ _ _ _ _ (fun F hF hF0 => ?_)
          simp only [hF, hF0, ite_not, i_push, i_iload, i_lload, i_aload, i_istore, i_astore, i_lstore, i_iinc, i_bin, i_dv, i_un, i_lbin, i_lsh, i_i2l, i_l2i, i_lcmp, i_dup, i_dup2, i_pop, i_if, i_icmp, i_goto, swG, i_sw, i_getf, i_puti, i_putz, i_putr, i_ald, i_lald, i_aald, i_ast, i_last, i_aast, i_alen, i_new, i_newi, i_newl, i_newq, i_oinit, i_ret, i_zret, i_lret, i_vret, catS, tk, rpush, isO, i_m1, i_m2, i_acopy, i_callV, i_callS, KRet, lget, lput, lputL, lcl0, isL, lv0, List.map_cons, List.map_nil, List.length_cons, List.length_nil, List.cons_append, List.nil_append, Nat.reduceAdd, Nat.reduceSub, Nat.reduceLeDiff, List.replicate_succ, List.replicate_zero, List.getElem?_cons_succ, List.getElem?_cons_zero, List.set_cons_succ, List.set_cons_zero, true_and, and_true, if_true, if_false, ↓reduceIte, Nat.le_refl, Value.category, va_up_app, eq_self, stp, Nat.reduceBEq, Bool.or_false, Bool.false_or, Bool.true_or, Bool.or_true, or_true, true_or, bx_uu, implies_true, true_implies, not_true, not_false_eq_true, false_implies, and_self, Nat.reduceLT, Int32.reduceAdd, Int32.reduceSub, Int32.reduceMul, Int32.reduceLE, Int32.reduceLT, Int32.reduceToNatClampNeg, va_rf_some, Bool.false_eq_true, k_X8_canBend_0 ca, k_X8_canBend_1 ca, k_X8_canBend_2 ca, k_X8_canBend_5 ca, k_X8_canBend_6 ca, k_X8_canBend_9 ca, k_X8_canBend_10 ca, k_X8_canBend_13 ca, k_X8_canBend_14 ca, k_X8_canBend_17 ca, k_X8_canBend_18 ca, k_X8_canBend_21 ca, k_X8_canBend_22 ca, k_X8_canBend_25 ca, k_X8_canBend_26 ca, k_X8_canBend_27 ca, k_X8_canBend_28 ca, k_X8_canBend_31 ca, k_X8_canBend_32 ca, k_X8_canBend_33 ca, k_X8_canBend_34 ca, k_X8_canBend_37 ca, k_X8_canBend_38 ca, k_X8_canBend_39 ca, k_X8_canBend_40 ca, k_X8_canBend_43 ca, k_X8_canBend_44 ca, k_X8_canBend_45 ca, k_X8_canBend_47 ca, k_X8_canBend_48 ca, k_X8_canBend_50 ca, k_X8_canBend_52 ca, k_X8_canBend_55 ca, k_X8_canBend_58 ca, k_X8_canBend_60 ca, k_X8_canBend_63 ca, k_X8_canBend_64 ca, k_X8_canBend_67 ca, k_X8_canBend_69 ca, k_X8_canBend_71 ca, k_X8_canBend_72 ca, k_X8_canBend_73 ca, k_X8_canBend_76 ca, k_X8_canBend_77 ca, k_X8_canBend_78 ca, k_X8_canBend_80 ca, k_X8_canBend_82 ca, k_X8_canBend_83 ca, k_X8_canBend_84 ca, k_X8_canBend_85 ca, k_X8_canBend_86 ca, k_X8_canBend_87 ca, k_X8_canBend_89 ca, k_X8_canBend_91 ca, k_X8_canBend_92 ca, k_X8_canBend_93 ca, k_X8_canBend_94 ca, k_X8_canBend_96 ca, k_X8_canBend_98 ca, k_X8_canBend_99 ca, k_X8_canBend_101 ca, k_X8_canBend_102 ca, k_X8_canBend_103 ca, k_X8_canBend_104 ca, k_X8_canBend_107 ca, k_X8_canBend_110 ca, k_X8_canBend_111 ca, k_X8_canBend_114 ca, k_X8_canBend_115 ca, k_X8_canBend_117 ca, k_X8_canBend_120 ca, k_X8_canBend_123 ca, k_X8_canBend_125 ca, g1, r61, r61b, d61, z0, z1, hm, h7, q1, n610]
          try clear hF hF0 F
          exact k0
        · rw [decide_eq_false q1, Bool.not_false, Bool.true_and] at e
          refine goN go (stp [107]) 160 _ _ _ _ _ _ (fun F hF hF0 => ?_)
          simp only [hF, hF0, ite_not, i_push, i_iload, i_lload, i_aload, i_istore, i_astore, i_lstore, i_iinc, i_bin, i_dv, i_un, i_lbin, i_lsh, i_i2l, i_l2i, i_lcmp, i_dup, i_dup2, i_pop, i_if, i_icmp, i_goto, swG, i_sw, i_getf, i_puti, i_putz, i_putr, i_ald, i_lald, i_aald, i_ast, i_last, i_aast, i_alen, i_new, i_newi, i_newl, i_newq, i_oinit, i_ret, i_zret, i_lret, i_vret, catS, tk, rpush, isO, i_m1, i_m2, i_acopy, i_callV, i_callS, KRet, lget, lput, lputL, lcl0, isL, lv0, List.map_cons, List.map_nil, List.length_cons, List.length_nil, List.cons_append, List.nil_append, Nat.reduceAdd, Nat.reduceSub, Nat.reduceLeDiff, List.replicate_succ, List.replicate_zero, List.getElem?_cons_succ, List.getElem?_cons_zero, List.set_cons_succ, List.set_cons_zero, true_and, and_true, if_true, if_false, ↓reduceIte, Nat.le_refl, Value.category, va_up_app, eq_self, stp, Nat.reduceBEq, Bool.or_false, Bool.false_or, Bool.true_or, Bool.or_true, or_true, true_or, bx_uu, implies_true, true_implies, not_true, not_false_eq_true, false_implies, and_self, Nat.reduceLT, Int32.reduceAdd, Int32.reduceSub, Int32.reduceMul, Int32.reduceLE, Int32.reduceLT, Int32.reduceToNatClampNeg, va_rf_some, Bool.false_eq_true, k_X8_canBend_0 ca, k_X8_canBend_1 ca, k_X8_canBend_2 ca, k_X8_canBend_5 ca, k_X8_canBend_6 ca, k_X8_canBend_9 ca, k_X8_canBend_10 ca, k_X8_canBend_13 ca, k_X8_canBend_14 ca, k_X8_canBend_17 ca, k_X8_canBend_18 ca, k_X8_canBend_21 ca, k_X8_canBend_22 ca, k_X8_canBend_25 ca, k_X8_canBend_26 ca, k_X8_canBend_27 ca, k_X8_canBend_28 ca, k_X8_canBend_31 ca, k_X8_canBend_32 ca, k_X8_canBend_33 ca, k_X8_canBend_34 ca, k_X8_canBend_37 ca, k_X8_canBend_38 ca, k_X8_canBend_39 ca, k_X8_canBend_40 ca, k_X8_canBend_43 ca, k_X8_canBend_44 ca, k_X8_canBend_45 ca, k_X8_canBend_47 ca, k_X8_canBend_48 ca, k_X8_canBend_50 ca, k_X8_canBend_52 ca, k_X8_canBend_55 ca, k_X8_canBend_58 ca, k_X8_canBend_60 ca, k_X8_canBend_63 ca, k_X8_canBend_64 ca, k_X8_canBend_67 ca, k_X8_canBend_69 ca, k_X8_canBend_71 ca, k_X8_canBend_72 ca, k_X8_canBend_73 ca, k_X8_canBend_76 ca, k_X8_canBend_77 ca, k_X8_canBend_78 ca, k_X8_canBend_80 ca, k_X8_canBend_82 ca, k_X8_canBend_83 ca, k_X8_canBend_84 ca, k_X8_canBend_85 ca, k_X8_canBend_86 ca, k_X8_canBend_87 ca, k_X8_canBend_89 ca, k_X8_canBend_91 ca, k_X8_canBend_92 ca, k_X8_canBend_93 ca, k_X8_canBend_94 ca, k_X8_canBend_96 ca, k_X8_canBend_98 ca, k_X8_canBend_99 ca, k_X8_canBend_101 ca, k_X8_canBend_102 ca, k_X8_canBend_103 ca, k_X8_canBend_104 ca, k_X8_canBend_107 ca, k_X8_canBend_110 ca, k_X8_canBend_111 ca, k_X8_canBend_114 ca, k_X8_canBend_115 ca, k_X8_canBend_117 ca, k_X8_canBend_120 ca, k_X8_canBend_123 ca, k_X8_canBend_125 ca, g1, r61, r61b, d61, z0, z1, hm, h7, q1, n610, a_1]
          try clear hF hF0 F
          refine ⟨m, a, ip, _, _, rfl, hMC, h8, ?_⟩
          cases q2 : dbB ip (T - nI (k / 61) - 1) (b - nI (k / 61 + 1) * (nI (k % 61) - 30)) with
          | false =>
            rw [q2, if_neg (by decide)] at e
            have k0 := no e
            rw [b2i_f]
            refine goN go (stp [117]) 160 _ _ _ _ _ _ (fun F hF hF0 => ?_)
            simp only [hF, hF0, ite_not, i_push, i_iload, i_lload, i_aload, i_istore, i_astore, i_lstore, i_iinc, i_bin, i_dv, i_un, i_lbin, i_lsh, i_i2l, i_l2i, i_lcmp, i_dup, i_dup2, i_pop, i_if, i_icmp, i_goto, swG, i_sw, i_getf, i_puti, i_putz, i_putr, i_ald, i_lald, i_aald, i_ast, i_last, i_aast, i_alen, i_new, i_newi, i_newl, i_newq, i_oinit, i_ret, i_zret, i_lret, i_vret, catS, tk, rpush, isO, i_m1, i_m2, i_acopy, i_callV, i_callS, KRet, lget, lput, lputL, lcl0, isL, lv0, List.map_cons, List.map_nil, List.length_cons, List.length_nil, List.cons_append, List.nil_append, Nat.reduceAdd, Nat.reduceSub, Nat.reduceLeDiff, List.replicate_succ, List.replicate_zero, List.getElem?_cons_succ, List.getElem?_cons_zero, List.set_cons_succ, List.set_cons_zero, true_and, and_true, if_true, if_false, ↓reduceIte, Nat.le_refl, Value.category, va_up_app, eq_self, stp, Nat.reduceBEq, Bool.or_false, Bool.false_or, Bool.true_or, Bool.or_true, or_true, true_or, bx_uu, implies_true, true_implies, not_true, not_false_eq_true, false_implies, and_self, Nat.reduceLT, Int32.reduceAdd, Int32.reduceSub, Int32.reduceMul, Int32.reduceLE, Int32.reduceLT, Int32.reduceToNatClampNeg, va_rf_some, Bool.false_eq_true, k_X8_canBend_0 ca, k_X8_canBend_1 ca, k_X8_canBend_2 ca, k_X8_canBend_5 ca, k_X8_canBend_6 ca, k_X8_canBend_9 ca, k_X8_canBend_10 ca, k_X8_canBend_13 ca, k_X8_canBend_14 ca, k_X8_canBend_17 ca, k_X8_canBend_18 ca, k_X8_canBend_21 ca, k_X8_canBend_22 ca, k_X8_canBend_25 ca, k_X8_canBend_26 ca, k_X8_canBend_27 ca, k_X8_canBend_28 ca, k_X8_canBend_31 ca, k_X8_canBend_32 ca, k_X8_canBend_33 ca, k_X8_canBend_34 ca, k_X8_canBend_37 ca, k_X8_canBend_38 ca, k_X8_canBend_39 ca, k_X8_canBend_40 ca, k_X8_canBend_43 ca, k_X8_canBend_44 ca, k_X8_canBend_45 ca, k_X8_canBend_47 ca, k_X8_canBend_48 ca, k_X8_canBend_50 ca, k_X8_canBend_52 ca, k_X8_canBend_55 ca, k_X8_canBend_58 ca, k_X8_canBend_60 ca, k_X8_canBend_63 ca, k_X8_canBend_64 ca, k_X8_canBend_67 ca, k_X8_canBend_69 ca, k_X8_canBend_71 ca, k_X8_canBend_72 ca, k_X8_canBend_73 ca, k_X8_canBend_76 ca, k_X8_canBend_77 ca, k_X8_canBend_78 ca, k_X8_canBend_80 ca, k_X8_canBend_82 ca, k_X8_canBend_83 ca, k_X8_canBend_84 ca, k_X8_canBend_85 ca, k_X8_canBend_86 ca, k_X8_canBend_87 ca, k_X8_canBend_89 ca, k_X8_canBend_91 ca, k_X8_canBend_92 ca, k_X8_canBend_93 ca, k_X8_canBend_94 ca, k_X8_canBend_96 ca, k_X8_canBend_98 ca, k_X8_canBend_99 ca, k_X8_canBend_101 ca, k_X8_canBend_102 ca, k_X8_canBend_103 ca, k_X8_canBend_104 ca, k_X8_canBend_107 ca, k_X8_canBend_110 ca, k_X8_canBend_111 ca, k_X8_canBend_114 ca, k_X8_canBend_115 ca, k_X8_canBend_117 ca, k_X8_canBend_120 ca, k_X8_canBend_123 ca, k_X8_canBend_125 ca]
            try clear hF hF0 F
            exact k0
          | true =>
            rw [q2, if_pos rfl] at e
            rw [e, b2i_t] at hs
            rw [b2i_t]
            by_cases q3 : 549 ≤ nI (k + 1)
            · refine goN go (stp []) 160 _ _ _ _ _ _ (fun F hF hF0 => ?_)
              simp only [hF, hF0, ite_not, i_push, i_iload, i_lload, i_aload, i_istore, i_astore, i_lstore, i_iinc, i_bin, i_dv, i_un, i_lbin, i_lsh, i_i2l, i_l2i, i_lcmp, i_dup, i_dup2, i_pop, i_if, i_icmp, i_goto, swG, i_sw, i_getf, i_puti, i_putz, i_putr, i_ald, i_lald, i_aald, i_ast, i_last, i_aast, i_alen, i_new, i_newi, i_newl, i_newq, i_oinit, i_ret, i_zret, i_lret, i_vret, catS, tk, rpush, isO, i_m1, i_m2, i_acopy, i_callV, i_callS, KRet, lget, lput, lputL, lcl0, isL, lv0, List.map_cons, List.map_nil, List.length_cons, List.length_nil, List.cons_append, List.nil_append, Nat.reduceAdd, Nat.reduceSub, Nat.reduceLeDiff, List.replicate_succ, List.replicate_zero, List.getElem?_cons_succ, List.getElem?_cons_zero, List.set_cons_succ, List.set_cons_zero, true_and, and_true, if_true, if_false, ↓reduceIte, Nat.le_refl, Value.category, va_up_app, eq_self, stp, Nat.reduceBEq, Bool.or_false, Bool.false_or, Bool.true_or, Bool.or_true, or_true, true_or, bx_uu, implies_true, true_implies, not_true, not_false_eq_true, false_implies, and_self, Nat.reduceLT, Int32.reduceAdd, Int32.reduceSub, Int32.reduceMul, Int32.reduceLE, Int32.reduceLT, Int32.reduceToNatClampNeg, va_rf_some, Bool.false_eq_true, k_X8_canBend_0 ca, k_X8_canBend_1 ca, k_X8_canBend_2 ca, k_X8_canBend_5 ca, k_X8_canBend_6 ca, k_X8_canBend_9 ca, k_X8_canBend_10 ca, k_X8_canBend_13 ca, k_X8_canBend_14 ca, k_X8_canBend_17 ca, k_X8_canBend_18 ca, k_X8_canBend_21 ca, k_X8_canBend_22 ca, k_X8_canBend_25 ca, k_X8_canBend_26 ca, k_X8_canBend_27 ca, k_X8_canBend_28 ca, k_X8_canBend_31 ca, k_X8_canBend_32 ca, k_X8_canBend_33 ca, k_X8_canBend_34 ca, k_X8_canBend_37 ca, k_X8_canBend_38 ca, k_X8_canBend_39 ca, k_X8_canBend_40 ca, k_X8_canBend_43 ca, k_X8_canBend_44 ca, k_X8_canBend_45 ca, k_X8_canBend_47 ca, k_X8_canBend_48 ca, k_X8_canBend_50 ca, k_X8_canBend_52 ca, k_X8_canBend_55 ca, k_X8_canBend_58 ca, k_X8_canBend_60 ca, k_X8_canBend_63 ca, k_X8_canBend_64 ca, k_X8_canBend_67 ca, k_X8_canBend_69 ca, k_X8_canBend_71 ca, k_X8_canBend_72 ca, k_X8_canBend_73 ca, k_X8_canBend_76 ca, k_X8_canBend_77 ca, k_X8_canBend_78 ca, k_X8_canBend_80 ca, k_X8_canBend_82 ca, k_X8_canBend_83 ca, k_X8_canBend_84 ca, k_X8_canBend_85 ca, k_X8_canBend_86 ca, k_X8_canBend_87 ca, k_X8_canBend_89 ca, k_X8_canBend_91 ca, k_X8_canBend_92 ca, k_X8_canBend_93 ca, k_X8_canBend_94 ca, k_X8_canBend_96 ca, k_X8_canBend_98 ca, k_X8_canBend_99 ca, k_X8_canBend_101 ca, k_X8_canBend_102 ca, k_X8_canBend_103 ca, k_X8_canBend_104 ca, k_X8_canBend_107 ca, k_X8_canBend_110 ca, k_X8_canBend_111 ca, k_X8_canBend_114 ca, k_X8_canBend_115 ca, k_X8_canBend_117 ca, k_X8_canBend_120 ca, k_X8_canBend_123 ca, k_X8_canBend_125 ca, one0, a_1, q3]
              try clear hF hF0 F
              exact hs
            · refine goN go (stp []) 160 _ _ _ _ _ _ (fun F hF hF0 => ?_)
              simp only [hF, hF0, ite_not, i_push, i_iload, i_lload, i_aload, i_istore, i_astore, i_lstore, i_iinc, i_bin, i_dv, i_un, i_lbin, i_lsh, i_i2l, i_l2i, i_lcmp, i_dup, i_dup2, i_pop, i_if, i_icmp, i_goto, swG, i_sw, i_getf, i_puti, i_putz, i_putr, i_ald, i_lald, i_aald, i_ast, i_last, i_aast, i_alen, i_new, i_newi, i_newl, i_newq, i_oinit, i_ret, i_zret, i_lret, i_vret, catS, tk, rpush, isO, i_m1, i_m2, i_acopy, i_callV, i_callS, KRet, lget, lput, lputL, lcl0, isL, lv0, List.map_cons, List.map_nil, List.length_cons, List.length_nil, List.cons_append, List.nil_append, Nat.reduceAdd, Nat.reduceSub, Nat.reduceLeDiff, List.replicate_succ, List.replicate_zero, List.getElem?_cons_succ, List.getElem?_cons_zero, List.set_cons_succ, List.set_cons_zero, true_and, and_true, if_true, if_false, ↓reduceIte, Nat.le_refl, Value.category, va_up_app, eq_self, stp, Nat.reduceBEq, Bool.or_false, Bool.false_or, Bool.true_or, Bool.or_true, or_true, true_or, bx_uu, implies_true, true_implies, not_true, not_false_eq_true, false_implies, and_self, Nat.reduceLT, Int32.reduceAdd, Int32.reduceSub, Int32.reduceMul, Int32.reduceLE, Int32.reduceLT, Int32.reduceToNatClampNeg, va_rf_some, Bool.false_eq_true, k_X8_canBend_0 ca, k_X8_canBend_1 ca, k_X8_canBend_2 ca, k_X8_canBend_5 ca, k_X8_canBend_6 ca, k_X8_canBend_9 ca, k_X8_canBend_10 ca, k_X8_canBend_13 ca, k_X8_canBend_14 ca, k_X8_canBend_17 ca, k_X8_canBend_18 ca, k_X8_canBend_21 ca, k_X8_canBend_22 ca, k_X8_canBend_25 ca, k_X8_canBend_26 ca, k_X8_canBend_27 ca, k_X8_canBend_28 ca, k_X8_canBend_31 ca, k_X8_canBend_32 ca, k_X8_canBend_33 ca, k_X8_canBend_34 ca, k_X8_canBend_37 ca, k_X8_canBend_38 ca, k_X8_canBend_39 ca, k_X8_canBend_40 ca, k_X8_canBend_43 ca, k_X8_canBend_44 ca, k_X8_canBend_45 ca, k_X8_canBend_47 ca, k_X8_canBend_48 ca, k_X8_canBend_50 ca, k_X8_canBend_52 ca, k_X8_canBend_55 ca, k_X8_canBend_58 ca, k_X8_canBend_60 ca, k_X8_canBend_63 ca, k_X8_canBend_64 ca, k_X8_canBend_67 ca, k_X8_canBend_69 ca, k_X8_canBend_71 ca, k_X8_canBend_72 ca, k_X8_canBend_73 ca, k_X8_canBend_76 ca, k_X8_canBend_77 ca, k_X8_canBend_78 ca, k_X8_canBend_80 ca, k_X8_canBend_82 ca, k_X8_canBend_83 ca, k_X8_canBend_84 ca, k_X8_canBend_85 ca, k_X8_canBend_86 ca, k_X8_canBend_87 ca, k_X8_canBend_89 ca, k_X8_canBend_91 ca, k_X8_canBend_92 ca, k_X8_canBend_93 ca, k_X8_canBend_94 ca, k_X8_canBend_96 ca, k_X8_canBend_98 ca, k_X8_canBend_99 ca, k_X8_canBend_101 ca, k_X8_canBend_102 ca, k_X8_canBend_103 ca, k_X8_canBend_104 ca, k_X8_canBend_107 ca, k_X8_canBend_110 ca, k_X8_canBend_111 ca, k_X8_canBend_114 ca, k_X8_canBend_115 ca, k_X8_canBend_117 ca, k_X8_canBend_120 ca, k_X8_canBend_123 ca, k_X8_canBend_125 ca, one0, a_1, q3]
              try clear hF hF0 F
              exact hs
    have k0 := key 549 0 (by omega) rfl
    rw [nI_0] at k0
    refine goN go (stp [50]) 160 _ _ _ _ _ _ (fun F hF hF0 => ?_)
    simp only [hF, hF0, ite_not, i_push, i_iload, i_lload, i_aload, i_istore, i_astore, i_lstore, i_iinc, i_bin, i_dv, i_un, i_lbin, i_lsh, i_i2l, i_l2i, i_lcmp, i_dup, i_dup2, i_pop, i_if, i_icmp, i_goto, swG, i_sw, i_getf, i_puti, i_putz, i_putr, i_ald, i_lald, i_aald, i_ast, i_last, i_aast, i_alen, i_new, i_newi, i_newl, i_newq, i_oinit, i_ret, i_zret, i_lret, i_vret, catS, tk, rpush, isO, i_m1, i_m2, i_acopy, i_callV, i_callS, KRet, lget, lput, lputL, lcl0, isL, lv0, List.map_cons, List.map_nil, List.length_cons, List.length_nil, List.cons_append, List.nil_append, Nat.reduceAdd, Nat.reduceSub, Nat.reduceLeDiff, List.replicate_succ, List.replicate_zero, List.getElem?_cons_succ, List.getElem?_cons_zero, List.set_cons_succ, List.set_cons_zero, true_and, and_true, if_true, if_false, ↓reduceIte, Nat.le_refl, Value.category, va_up_app, eq_self, stp, Nat.reduceBEq, Bool.or_false, Bool.false_or, Bool.true_or, Bool.or_true, or_true, true_or, bx_uu, implies_true, true_implies, not_true, not_false_eq_true, false_implies, and_self, Nat.reduceLT, Int32.reduceAdd, Int32.reduceSub, Int32.reduceMul, Int32.reduceLE, Int32.reduceLT, Int32.reduceToNatClampNeg, va_rf_some, Bool.false_eq_true, k_X8_canBend_0 ca, k_X8_canBend_1 ca, k_X8_canBend_2 ca, k_X8_canBend_5 ca, k_X8_canBend_6 ca, k_X8_canBend_9 ca, k_X8_canBend_10 ca, k_X8_canBend_13 ca, k_X8_canBend_14 ca, k_X8_canBend_17 ca, k_X8_canBend_18 ca, k_X8_canBend_21 ca, k_X8_canBend_22 ca, k_X8_canBend_25 ca, k_X8_canBend_26 ca, k_X8_canBend_27 ca, k_X8_canBend_28 ca, k_X8_canBend_31 ca, k_X8_canBend_32 ca, k_X8_canBend_33 ca, k_X8_canBend_34 ca, k_X8_canBend_37 ca, k_X8_canBend_38 ca, k_X8_canBend_39 ca, k_X8_canBend_40 ca, k_X8_canBend_43 ca, k_X8_canBend_44 ca, k_X8_canBend_45 ca, k_X8_canBend_47 ca, k_X8_canBend_48 ca, k_X8_canBend_50 ca, k_X8_canBend_52 ca, k_X8_canBend_55 ca, k_X8_canBend_58 ca, k_X8_canBend_60 ca, k_X8_canBend_63 ca, k_X8_canBend_64 ca, k_X8_canBend_67 ca, k_X8_canBend_69 ca, k_X8_canBend_71 ca, k_X8_canBend_72 ca, k_X8_canBend_73 ca, k_X8_canBend_76 ca, k_X8_canBend_77 ca, k_X8_canBend_78 ca, k_X8_canBend_80 ca, k_X8_canBend_82 ca, k_X8_canBend_83 ca, k_X8_canBend_84 ca, k_X8_canBend_85 ca, k_X8_canBend_86 ca, k_X8_canBend_87 ca, k_X8_canBend_89 ca, k_X8_canBend_91 ca, k_X8_canBend_92 ca, k_X8_canBend_93 ca, k_X8_canBend_94 ca, k_X8_canBend_96 ca, k_X8_canBend_98 ca, k_X8_canBend_99 ca, k_X8_canBend_101 ca, k_X8_canBend_102 ca, k_X8_canBend_103 ca, k_X8_canBend_104 ca, k_X8_canBend_107 ca, k_X8_canBend_110 ca, k_X8_canBend_111 ca, k_X8_canBend_114 ca, k_X8_canBend_115 ca, k_X8_canBend_117 ca, k_X8_canBend_120 ca, k_X8_canBend_123 ca, k_X8_canBend_125 ca]
    try clear hF hF0 F
    exact k0
def bnO (s : Nat → Int32) (k : Nat) : Int32 := nI (k / 36 + 1) * (s (k / 6 % 6) - s (k % 6))
def sp_X8_bendOf (ca : Nat → ClassId) : SPEC := fun av h post => ∃ m a0 s k, k < 324 ∧ av = [.ref m, .int (nI k)] ∧ MS ca h m a0 s ∧ post (some (.int (bnO s k))) h
def k_X8_bendOf (ca : Nat → ClassId) : Nat → IT := fun pc => lk pc [(0, i_iload 1 1),
  (1, i_callS 1 0 0 0 0 (sp_X8_lengthOf ca) 4),
  (4, i_aload 0 5),
  (5, i_getf 8 0 8),
  (8, i_push (.int 0) 9),
  (9, i_iload 1 10),
  (10, i_push (.int 6) 12),
  (12, i_dv (fun x y => x / y) 13),
  (13, i_push (.int 6) 15),
  (15, i_dv (fun x y => x - x / y * y) 16),
  (16, i_bin (fun x y => x + y) 17),
  (17, i_ald (ca 0) 18),
  (18, i_aload 0 19),
  (19, i_getf 8 0 22),
  (22, i_push (.int 0) 23),
  (23, i_iload 1 24),
  (24, i_push (.int 6) 26),
  (26, i_dv (fun x y => x - x / y * y) 27),
  (27, i_bin (fun x y => x + y) 28),
  (28, i_ald (ca 0) 29),
  (29, i_bin (fun x y => x - y) 30),
  (30, i_bin (fun x y => x * y) 31),
  (31, i_ret)]
set_option maxRecDepth 20000 in
theorem t_X8_bendOf : Tb k_X8_bendOf yX8_bendOf cX8_bendOf 2 (some .int) 1 0 0 := by
  intro l D ca A p e s m args below meth c post X
  unfold k_X8_bendOf
  refine snd_cons (snd_iload_n X dX8_bendOf_0 rfl) ?_
  refine snd_cons (snd_callS X (ok_X8_lengthOf l D ca) rfl rfl w_926 w_927 w_9 w_928 (by decide) (by decide) dX8_bendOf_1) ?_
  refine snd_cons (snd_aload_n X dX8_bendOf_4 rfl) ?_
  refine snd_cons (snd_getf X Fk8 0 (by decide) w_647 dX8_bendOf_5) ?_
  refine snd_cons (snd_iconst X dX8_bendOf_8 (by decide)) ?_
  refine snd_cons (snd_iload_n X dX8_bendOf_9 rfl) ?_
  refine snd_cons (snd_bipush X dX8_bendOf_10 (by decide)) ?_
  refine snd_cons (snd_idiv X dX8_bendOf_12) ?_
  refine snd_cons (snd_bipush X dX8_bendOf_13 (by decide)) ?_
  refine snd_cons (snd_irem X dX8_bendOf_15) ?_
  refine snd_cons (snd_iadd X dX8_bendOf_16) ?_
  refine snd_cons (snd_iaload X dX8_bendOf_17) ?_
  refine snd_cons (snd_aload_n X dX8_bendOf_18 rfl) ?_
  refine snd_cons (snd_getf X Fk8 0 (by decide) w_647 dX8_bendOf_19) ?_
  refine snd_cons (snd_iconst X dX8_bendOf_22 (by decide)) ?_
  refine snd_cons (snd_iload_n X dX8_bendOf_23 rfl) ?_
  refine snd_cons (snd_bipush X dX8_bendOf_24 (by decide)) ?_
  refine snd_cons (snd_irem X dX8_bendOf_26) ?_
  refine snd_cons (snd_iadd X dX8_bendOf_27) ?_
  refine snd_cons (snd_iaload X dX8_bendOf_28) ?_
  refine snd_cons (snd_isub X dX8_bendOf_29) ?_
  refine snd_cons (snd_imul X dX8_bendOf_30) ?_
  refine snd_cons (snd_ret X dX8_bendOf_31) ?_
  exact snd_nil
theorem k_X8_bendOf_0 (ca : Nat → ClassId) : k_X8_bendOf ca 0 = i_iload 1 1 := rfl
theorem k_X8_bendOf_1 (ca : Nat → ClassId) : k_X8_bendOf ca 1 = i_callS 1 0 0 0 0 (sp_X8_lengthOf ca) 4 := rfl
theorem k_X8_bendOf_4 (ca : Nat → ClassId) : k_X8_bendOf ca 4 = i_aload 0 5 := rfl
theorem k_X8_bendOf_5 (ca : Nat → ClassId) : k_X8_bendOf ca 5 = i_getf 8 0 8 := rfl
theorem k_X8_bendOf_8 (ca : Nat → ClassId) : k_X8_bendOf ca 8 = i_push (.int 0) 9 := rfl
theorem k_X8_bendOf_9 (ca : Nat → ClassId) : k_X8_bendOf ca 9 = i_iload 1 10 := rfl
theorem k_X8_bendOf_10 (ca : Nat → ClassId) : k_X8_bendOf ca 10 = i_push (.int 6) 12 := rfl
theorem k_X8_bendOf_12 (ca : Nat → ClassId) : k_X8_bendOf ca 12 = i_dv (fun x y => x / y) 13 := rfl
theorem k_X8_bendOf_13 (ca : Nat → ClassId) : k_X8_bendOf ca 13 = i_push (.int 6) 15 := rfl
theorem k_X8_bendOf_15 (ca : Nat → ClassId) : k_X8_bendOf ca 15 = i_dv (fun x y => x - x / y * y) 16 := rfl
theorem k_X8_bendOf_16 (ca : Nat → ClassId) : k_X8_bendOf ca 16 = i_bin (fun x y => x + y) 17 := rfl
theorem k_X8_bendOf_17 (ca : Nat → ClassId) : k_X8_bendOf ca 17 = i_ald (ca 0) 18 := rfl
theorem k_X8_bendOf_18 (ca : Nat → ClassId) : k_X8_bendOf ca 18 = i_aload 0 19 := rfl
theorem k_X8_bendOf_19 (ca : Nat → ClassId) : k_X8_bendOf ca 19 = i_getf 8 0 22 := rfl
theorem k_X8_bendOf_22 (ca : Nat → ClassId) : k_X8_bendOf ca 22 = i_push (.int 0) 23 := rfl
theorem k_X8_bendOf_23 (ca : Nat → ClassId) : k_X8_bendOf ca 23 = i_iload 1 24 := rfl
theorem k_X8_bendOf_24 (ca : Nat → ClassId) : k_X8_bendOf ca 24 = i_push (.int 6) 26 := rfl
theorem k_X8_bendOf_26 (ca : Nat → ClassId) : k_X8_bendOf ca 26 = i_dv (fun x y => x - x / y * y) 27 := rfl
theorem k_X8_bendOf_27 (ca : Nat → ClassId) : k_X8_bendOf ca 27 = i_bin (fun x y => x + y) 28 := rfl
theorem k_X8_bendOf_28 (ca : Nat → ClassId) : k_X8_bendOf ca 28 = i_ald (ca 0) 29 := rfl
theorem k_X8_bendOf_29 (ca : Nat → ClassId) : k_X8_bendOf ca 29 = i_bin (fun x y => x - y) 30 := rfl
theorem k_X8_bendOf_30 (ca : Nat → ClassId) : k_X8_bendOf ca 30 = i_bin (fun x y => x * y) 31 := rfl
theorem k_X8_bendOf_31 (ca : Nat → ClassId) : k_X8_bendOf ca 31 = i_ret := rfl
set_option maxHeartbeats 4000000 in
set_option maxRecDepth 20000 in
theorem ok_X8_bendOf (l : Launch) (D : va_G) (ca : Nat → ClassId) : OkAll l D ca yX8_bendOf cX8_bendOf 2 (some .int) 1 0 0 (sp_X8_bendOf ca) := by
  intro av h post hs
  obtain ⟨m, a0, s, k, hk, rfl, ⟨⟨r, hm⟩, hs0⟩, hs⟩ := hs
  refine okM_of t_X8_bendOf (by decide +kernel) (c1_ref (c1_int c1_nil)) (Nat.le_of_ble_eq_true rfl) ?_
  intro K go
  have r6 := rem6 (k := k) (by omega)
  have r6b := rem6b (k := k) (by omega)
  have d6 := div6 (k := k) (by omega)
  have d36 := div36 (k := k) (by omega)
  have r66 := rem6 (k := k / 6) (by omega)
  have r66b := rem6b (k := k / 6) (by omega)
  have m6 := Nat.mod_lt k (show 6 > 0 by decide)
  have m66 := Nat.mod_lt (k / 6) (show 6 > 0 by decide)
  have z0 : vp_in (nI (k % 6)) 127 := vp127 (by omega)
  have z1 : (nI (k % 6)).toNatClampNeg = k % 6 := tn127 (by omega)
  have z2 : vp_in (nI (k / 6 % 6)) 127 := vp127 (by omega)
  have z3 : (nI (k / 6 % 6)).toNatClampNeg = k / 6 % 6 := tn127 (by omega)
  refine goN go (stp []) 160 _ _ _ _ _ _ (fun F hF hF0 => ?_)
  simp only [hF, hF0, ite_not, i_push, i_iload, i_lload, i_aload, i_istore, i_astore, i_lstore, i_iinc, i_bin, i_dv, i_un, i_lbin, i_lsh, i_i2l, i_l2i, i_lcmp, i_dup, i_dup2, i_pop, i_if, i_icmp, i_goto, swG, i_sw, i_getf, i_puti, i_putz, i_putr, i_ald, i_lald, i_aald, i_ast, i_last, i_aast, i_alen, i_new, i_newi, i_newl, i_newq, i_oinit, i_ret, i_zret, i_lret, i_vret, catS, tk, rpush, isO, i_m1, i_m2, i_acopy, i_callV, i_callS, KRet, lget, lput, lputL, lcl0, isL, lv0, List.map_cons, List.map_nil, List.length_cons, List.length_nil, List.cons_append, List.nil_append, Nat.reduceAdd, Nat.reduceSub, Nat.reduceLeDiff, List.replicate_succ, List.replicate_zero, List.getElem?_cons_succ, List.getElem?_cons_zero, List.set_cons_succ, List.set_cons_zero, true_and, and_true, if_true, if_false, ↓reduceIte, Nat.le_refl, Value.category, va_up_app, eq_self, stp, Nat.reduceBEq, Bool.or_false, Bool.false_or, Bool.true_or, Bool.or_true, or_true, true_or, bx_uu, implies_true, true_implies, not_true, not_false_eq_true, false_implies, and_self, Nat.reduceLT, Int32.reduceAdd, Int32.reduceSub, Int32.reduceMul, Int32.reduceLE, Int32.reduceLT, Int32.reduceToNatClampNeg, va_rf_some, Bool.false_eq_true, k_X8_bendOf_0 ca, k_X8_bendOf_1 ca, k_X8_bendOf_4 ca, k_X8_bendOf_5 ca, k_X8_bendOf_8 ca, k_X8_bendOf_9 ca, k_X8_bendOf_10 ca, k_X8_bendOf_12 ca, k_X8_bendOf_13 ca, k_X8_bendOf_15 ca, k_X8_bendOf_16 ca, k_X8_bendOf_17 ca, k_X8_bendOf_18 ca, k_X8_bendOf_19 ca, k_X8_bendOf_22 ca, k_X8_bendOf_23 ca, k_X8_bendOf_24 ca, k_X8_bendOf_26 ca, k_X8_bendOf_27 ca, k_X8_bendOf_28 ca, k_X8_bendOf_29 ca, k_X8_bendOf_30 ca, k_X8_bendOf_31 ca, hm, hs0, sp_X8_lengthOf, d36, a_1, r6, r6b, r66, r66b, d6, n60, Int32.zero_add, z0, z1, z2, z3]
  try clear hF hF0 F
  exact hs
/-- the row of least parts: kk chosen at each place -/
def RowIs (iw ip s : Nat → Int32) (P : Nat) (T b : Int32) (kk : Nat → Nat) (LT RS : Nat → Int32) : Prop := LT 0 = T ∧ RS 0 = b ∧ ∀ n, n < P → kk n < 324 ∧ cbB iw ip (P - n - 1) (LT n - nI (kk n / 36 + 1)) (RS n - bnO s (kk n)) = true ∧ (∀ k, k < kk n → cbB iw ip (P - n - 1) (LT n - nI (k / 36 + 1)) (RS n - bnO s k) = false) ∧ LT (n + 1) = LT n - nI (kk n / 36 + 1) ∧ RS (n + 1) = RS n - bnO s (kk n)
def FoIs (fo : Nat → Int32) (kk : Nat → Nat) (P : Nat) : Prop := ∀ n, n < P → fo (3 * n) = nI (kk n / 36 + 1) ∧ fo (3 * n + 1) = nI (kk n / 6 % 6) ∧ fo (3 * n + 2) = nI (kk n % 6)
theorem FoIs.s {fo : Nat → Int32} {kk : Nat → Nat} {n : Nat} (h : FoIs fo kk n) : FoIs (upd (upd (upd fo (3 * n) (nI (kk n / 36 + 1))) (3 * n + 1) (nI (kk n / 6 % 6))) (3 * n + 2) (nI (kk n % 6))) kk (n + 1) := by
  intro i hi
  by_cases q : i = n
  · subst q
    refine ⟨?_, ?_, ?_⟩
    · rw [upd_app, if_neg (by omega), upd_app, if_neg (by omega), upd_app, if_pos rfl]
    · rw [upd_app, if_neg (by omega), upd_app, if_pos rfl]
    · rw [upd_app, if_pos rfl]
  · obtain ⟨x, y, z⟩ := h i (by omega)
    refine ⟨?_, ?_, ?_⟩
    · rw [upd_app, if_neg (by omega), upd_app, if_neg (by omega), upd_app, if_neg (by omega)]; exact x
    · rw [upd_app, if_neg (by omega), upd_app, if_neg (by omega), upd_app, if_neg (by omega)]; exact y
    · rw [upd_app, if_neg (by omega), upd_app, if_neg (by omega), upd_app, if_neg (by omega)]; exact z
def sp_X8_lays (ca : Nat → ClassId) : SPEC := fun av h post => ∃ m a st len fm at' re s iw ip fo P T b kk LT RS, P ≤ 3 ∧ av = [.ref m, .int (nI P), .int T, .int b] ∧ RI m a ∧ h m = some (eMod a st len fm at' re) ∧ h (a 0) = some (.inl (ca 0, 127, .inl s)) ∧ h (a 7) = some (.inl (ca 2, 61, .inl iw)) ∧ h (a 8) = some (.inl (ca 2, 18377, .inl ip)) ∧ h (a 9) = some (.inl (ca 0, 9, .inl fo)) ∧ RowIs iw ip s P T b kk LT RS ∧
  ∀ fo', FoIs fo' kk P → post none (va_up (va_up h m (some (eMod a st len (nI P) at' re))) (a 9) (some (.inl (ca 0, 9, .inl fo'))))
def k_X8_lays (ca : Nat → ClassId) : Nat → IT := fun pc => if pc < 72 then lk pc [(0, i_aload 0 1),
  (1, i_iload 1 2),
  (2, i_puti 8 12 5),
  (5, i_iload 2 6),
  (6, i_istore 4 8),
  (8, i_iload 3 9),
  (9, i_istore 5 11),
  (11, i_push (.int 0) 12),
  (12, i_istore 6 14),
  (14, i_iload 6 16),
  (16, i_iload 1 17),
  (17, i_icmp (fun x y => y ≤ x) 135 20),
  (20, i_push (.int 0) 21),
  (21, i_istore 7 23),
  (23, i_aload 0 24),
  (24, i_iload 1 25),
  (25, i_iload 6 27),
  (27, i_bin (fun x y => x - y) 28),
  (28, i_push (.int 1) 29),
  (29, i_bin (fun x y => x - y) 30),
  (30, i_iload 4 32),
  (32, i_iload 7 34),
  (34, i_callS 1 0 0 0 0 (sp_X8_lengthOf ca) 37),
  (37, i_bin (fun x y => x - y) 38),
  (38, i_iload 5 40),
  (40, i_aload 0 41),
  (41, i_iload 7 43),
  (43, i_callV 8 1 0 0 0 0 (sp_X8_bendOf ca) 46),
  (46, i_bin (fun x y => x - y) 47),
  (47, i_callV 8 3 0 0 0 0 (sp_X8_canBend ca) 50),
  (50, i_if (fun x => ¬ x = 0) 59 53),
  (53, i_iinc 7 1 56),
  (56, i_goto 23),
  (59, i_aload 0 60),
  (60, i_getf 8 11 63),
  (63, i_push (.int 3) 64),
  (64, i_iload 6 66),
  (66, i_bin (fun x y => x * y) 67),
  (67, i_iload 7 69),
  (69, i_callS 1 0 0 0 0 (sp_X8_lengthOf ca) 72)] else
  lk pc [(72, i_ast (fun x => x) (ca 0) 73),
  (73, i_aload 0 74),
  (74, i_getf 8 11 77),
  (77, i_push (.int 3) 78),
  (78, i_iload 6 80),
  (80, i_bin (fun x y => x * y) 81),
  (81, i_push (.int 1) 82),
  (82, i_bin (fun x y => x + y) 83),
  (83, i_iload 7 85),
  (85, i_push (.int 6) 87),
  (87, i_dv (fun x y => x / y) 88),
  (88, i_push (.int 6) 90),
  (90, i_dv (fun x y => x - x / y * y) 91),
  (91, i_ast (fun x => x) (ca 0) 92),
  (92, i_aload 0 93),
  (93, i_getf 8 11 96),
  (96, i_push (.int 3) 97),
  (97, i_iload 6 99),
  (99, i_bin (fun x y => x * y) 100),
  (100, i_push (.int 2) 101),
  (101, i_bin (fun x y => x + y) 102),
  (102, i_iload 7 104),
  (104, i_push (.int 6) 106),
  (106, i_dv (fun x y => x - x / y * y) 107),
  (107, i_ast (fun x => x) (ca 0) 108),
  (108, i_iload 4 110),
  (110, i_iload 7 112),
  (112, i_callS 1 0 0 0 0 (sp_X8_lengthOf ca) 115),
  (115, i_bin (fun x y => x - y) 116),
  (116, i_istore 4 118),
  (118, i_iload 5 120),
  (120, i_aload 0 121),
  (121, i_iload 7 123),
  (123, i_callV 8 1 0 0 0 0 (sp_X8_bendOf ca) 126),
  (126, i_bin (fun x y => x - y) 127),
  (127, i_istore 5 129),
  (129, i_iinc 6 1 132),
  (132, i_goto 14),
  (135, i_vret)]
set_option maxRecDepth 20000 in
theorem t_X8_lays : Tb k_X8_lays yX8_lays cX8_lays 8 none 3 0 0 := by
  intro l D ca A p e s m args below meth c post X
  unfold k_X8_lays
  refine snd_split (72) ?_ ?_
  · refine snd_cons (snd_aload_n X dX8_lays_0 rfl) ?_
    refine snd_cons (snd_iload_n X dX8_lays_1 rfl) ?_
    refine snd_cons (snd_puti X Fk8 12 (by decide) rfl rfl w_659 dX8_lays_2) ?_
    refine snd_cons (snd_iload_n X dX8_lays_5 rfl) ?_
    refine snd_cons (snd_istore X dX8_lays_6 (by decide)) ?_
    refine snd_cons (snd_iload_n X dX8_lays_8 rfl) ?_
    refine snd_cons (snd_istore X dX8_lays_9 (by decide)) ?_
    refine snd_cons (snd_iconst X dX8_lays_11 (by decide)) ?_
    refine snd_cons (snd_istore X dX8_lays_12 (by decide)) ?_
    refine snd_cons (snd_iload X dX8_lays_14) ?_
    refine snd_cons (snd_iload_n X dX8_lays_16 rfl) ?_
    refine snd_cons (snd_icmp_ge X dX8_lays_17 (by decide)) ?_
    refine snd_cons (snd_iconst X dX8_lays_20 (by decide)) ?_
    refine snd_cons (snd_istore X dX8_lays_21 (by decide)) ?_
    refine snd_cons (snd_aload_n X dX8_lays_23 rfl) ?_
    refine snd_cons (snd_iload_n X dX8_lays_24 rfl) ?_
    refine snd_cons (snd_iload X dX8_lays_25) ?_
    refine snd_cons (snd_isub X dX8_lays_27) ?_
    refine snd_cons (snd_iconst X dX8_lays_28 (by decide)) ?_
    refine snd_cons (snd_isub X dX8_lays_29) ?_
    refine snd_cons (snd_iload X dX8_lays_30) ?_
    refine snd_cons (snd_iload X dX8_lays_32) ?_
    refine snd_cons (snd_callS X (ok_X8_lengthOf l D ca) rfl rfl w_926 w_927 w_9 w_928 (by decide) (by decide) dX8_lays_34) ?_
    refine snd_cons (snd_isub X dX8_lays_37) ?_
    refine snd_cons (snd_iload X dX8_lays_38) ?_
    refine snd_cons (snd_aload_n X dX8_lays_40 rfl) ?_
    refine snd_cons (snd_iload X dX8_lays_41) ?_
    refine snd_cons (snd_callV X Fk8 (ok_X8_bendOf l D ca) rfl rfl w_929 w_931 wp_49 w_9 w_932 (by decide) (by decide) dX8_lays_43) ?_
    refine snd_cons (snd_isub X dX8_lays_46) ?_
    refine snd_cons (snd_callV X Fk8 (ok_X8_canBend l D ca) rfl rfl w_910 w_912 wp_45 w_9 w_913 (by decide) (by decide) dX8_lays_47) ?_
    refine snd_cons (snd_if_ne X dX8_lays_50 (by decide)) ?_
    refine snd_cons (snd_iinc X dX8_lays_53 (by decide) (by decide)) ?_
    refine snd_cons (snd_goto X dX8_lays_56 (by decide)) ?_
    refine snd_cons (snd_aload_n X dX8_lays_59 rfl) ?_
    refine snd_cons (snd_getf X Fk8 11 (by decide) w_658 dX8_lays_60) ?_
    refine snd_cons (snd_iconst X dX8_lays_63 (by decide)) ?_
    refine snd_cons (snd_iload X dX8_lays_64) ?_
    refine snd_cons (snd_imul X dX8_lays_66) ?_
    refine snd_cons (snd_iload X dX8_lays_67) ?_
    refine snd_cons (snd_callS X (ok_X8_lengthOf l D ca) rfl rfl w_926 w_927 w_9 w_928 (by decide) (by decide) dX8_lays_69) ?_
    exact snd_nil
  refine snd_cons (snd_iastore X dX8_lays_72) ?_
  refine snd_cons (snd_aload_n X dX8_lays_73 rfl) ?_
  refine snd_cons (snd_getf X Fk8 11 (by decide) w_658 dX8_lays_74) ?_
  refine snd_cons (snd_iconst X dX8_lays_77 (by decide)) ?_
  refine snd_cons (snd_iload X dX8_lays_78) ?_
  refine snd_cons (snd_imul X dX8_lays_80) ?_
  refine snd_cons (snd_iconst X dX8_lays_81 (by decide)) ?_
  refine snd_cons (snd_iadd X dX8_lays_82) ?_
  refine snd_cons (snd_iload X dX8_lays_83) ?_
  refine snd_cons (snd_bipush X dX8_lays_85 (by decide)) ?_
  refine snd_cons (snd_idiv X dX8_lays_87) ?_
  refine snd_cons (snd_bipush X dX8_lays_88 (by decide)) ?_
  refine snd_cons (snd_irem X dX8_lays_90) ?_
  refine snd_cons (snd_iastore X dX8_lays_91) ?_
  refine snd_cons (snd_aload_n X dX8_lays_92 rfl) ?_
  refine snd_cons (snd_getf X Fk8 11 (by decide) w_658 dX8_lays_93) ?_
  refine snd_cons (snd_iconst X dX8_lays_96 (by decide)) ?_
  refine snd_cons (snd_iload X dX8_lays_97) ?_
  refine snd_cons (snd_imul X dX8_lays_99) ?_
  refine snd_cons (snd_iconst X dX8_lays_100 (by decide)) ?_
  refine snd_cons (snd_iadd X dX8_lays_101) ?_
  refine snd_cons (snd_iload X dX8_lays_102) ?_
  refine snd_cons (snd_bipush X dX8_lays_104 (by decide)) ?_
  refine snd_cons (snd_irem X dX8_lays_106) ?_
  refine snd_cons (snd_iastore X dX8_lays_107) ?_
  refine snd_cons (snd_iload X dX8_lays_108) ?_
  refine snd_cons (snd_iload X dX8_lays_110) ?_
  refine snd_cons (snd_callS X (ok_X8_lengthOf l D ca) rfl rfl w_926 w_927 w_9 w_928 (by decide) (by decide) dX8_lays_112) ?_
  refine snd_cons (snd_isub X dX8_lays_115) ?_
  refine snd_cons (snd_istore X dX8_lays_116 (by decide)) ?_
  refine snd_cons (snd_iload X dX8_lays_118) ?_
  refine snd_cons (snd_aload_n X dX8_lays_120 rfl) ?_
  refine snd_cons (snd_iload X dX8_lays_121) ?_
  refine snd_cons (snd_callV X Fk8 (ok_X8_bendOf l D ca) rfl rfl w_929 w_931 wp_49 w_9 w_932 (by decide) (by decide) dX8_lays_123) ?_
  refine snd_cons (snd_isub X dX8_lays_126) ?_
  refine snd_cons (snd_istore X dX8_lays_127 (by decide)) ?_
  refine snd_cons (snd_iinc X dX8_lays_129 (by decide) (by decide)) ?_
  refine snd_cons (snd_goto X dX8_lays_132 (by decide)) ?_
  refine snd_cons (snd_vret X dX8_lays_135) ?_
  exact snd_nil
theorem k_X8_lays_0 (ca : Nat → ClassId) : k_X8_lays ca 0 = i_aload 0 1 := rfl
theorem k_X8_lays_1 (ca : Nat → ClassId) : k_X8_lays ca 1 = i_iload 1 2 := rfl
theorem k_X8_lays_2 (ca : Nat → ClassId) : k_X8_lays ca 2 = i_puti 8 12 5 := rfl
theorem k_X8_lays_5 (ca : Nat → ClassId) : k_X8_lays ca 5 = i_iload 2 6 := rfl
theorem k_X8_lays_6 (ca : Nat → ClassId) : k_X8_lays ca 6 = i_istore 4 8 := rfl
theorem k_X8_lays_8 (ca : Nat → ClassId) : k_X8_lays ca 8 = i_iload 3 9 := rfl
theorem k_X8_lays_9 (ca : Nat → ClassId) : k_X8_lays ca 9 = i_istore 5 11 := rfl
theorem k_X8_lays_11 (ca : Nat → ClassId) : k_X8_lays ca 11 = i_push (.int 0) 12 := rfl
theorem k_X8_lays_12 (ca : Nat → ClassId) : k_X8_lays ca 12 = i_istore 6 14 := rfl
theorem k_X8_lays_14 (ca : Nat → ClassId) : k_X8_lays ca 14 = i_iload 6 16 := rfl
theorem k_X8_lays_16 (ca : Nat → ClassId) : k_X8_lays ca 16 = i_iload 1 17 := rfl
theorem k_X8_lays_17 (ca : Nat → ClassId) : k_X8_lays ca 17 = i_icmp (fun x y => y ≤ x) 135 20 := rfl
theorem k_X8_lays_20 (ca : Nat → ClassId) : k_X8_lays ca 20 = i_push (.int 0) 21 := rfl
theorem k_X8_lays_21 (ca : Nat → ClassId) : k_X8_lays ca 21 = i_istore 7 23 := rfl
theorem k_X8_lays_23 (ca : Nat → ClassId) : k_X8_lays ca 23 = i_aload 0 24 := rfl
theorem k_X8_lays_24 (ca : Nat → ClassId) : k_X8_lays ca 24 = i_iload 1 25 := rfl
theorem k_X8_lays_25 (ca : Nat → ClassId) : k_X8_lays ca 25 = i_iload 6 27 := rfl
theorem k_X8_lays_27 (ca : Nat → ClassId) : k_X8_lays ca 27 = i_bin (fun x y => x - y) 28 := rfl
theorem k_X8_lays_28 (ca : Nat → ClassId) : k_X8_lays ca 28 = i_push (.int 1) 29 := rfl
theorem k_X8_lays_29 (ca : Nat → ClassId) : k_X8_lays ca 29 = i_bin (fun x y => x - y) 30 := rfl
theorem k_X8_lays_30 (ca : Nat → ClassId) : k_X8_lays ca 30 = i_iload 4 32 := rfl
theorem k_X8_lays_32 (ca : Nat → ClassId) : k_X8_lays ca 32 = i_iload 7 34 := rfl
theorem k_X8_lays_34 (ca : Nat → ClassId) : k_X8_lays ca 34 = i_callS 1 0 0 0 0 (sp_X8_lengthOf ca) 37 := rfl
theorem k_X8_lays_37 (ca : Nat → ClassId) : k_X8_lays ca 37 = i_bin (fun x y => x - y) 38 := rfl
theorem k_X8_lays_38 (ca : Nat → ClassId) : k_X8_lays ca 38 = i_iload 5 40 := rfl
theorem k_X8_lays_40 (ca : Nat → ClassId) : k_X8_lays ca 40 = i_aload 0 41 := rfl
theorem k_X8_lays_41 (ca : Nat → ClassId) : k_X8_lays ca 41 = i_iload 7 43 := rfl
theorem k_X8_lays_43 (ca : Nat → ClassId) : k_X8_lays ca 43 = i_callV 8 1 0 0 0 0 (sp_X8_bendOf ca) 46 := rfl
theorem k_X8_lays_46 (ca : Nat → ClassId) : k_X8_lays ca 46 = i_bin (fun x y => x - y) 47 := rfl
theorem k_X8_lays_47 (ca : Nat → ClassId) : k_X8_lays ca 47 = i_callV 8 3 0 0 0 0 (sp_X8_canBend ca) 50 := rfl
theorem k_X8_lays_50 (ca : Nat → ClassId) : k_X8_lays ca 50 = i_if (fun x => ¬ x = 0) 59 53 := rfl
theorem k_X8_lays_53 (ca : Nat → ClassId) : k_X8_lays ca 53 = i_iinc 7 1 56 := rfl
theorem k_X8_lays_56 (ca : Nat → ClassId) : k_X8_lays ca 56 = i_goto 23 := rfl
theorem k_X8_lays_59 (ca : Nat → ClassId) : k_X8_lays ca 59 = i_aload 0 60 := rfl
theorem k_X8_lays_60 (ca : Nat → ClassId) : k_X8_lays ca 60 = i_getf 8 11 63 := rfl
theorem k_X8_lays_63 (ca : Nat → ClassId) : k_X8_lays ca 63 = i_push (.int 3) 64 := rfl
theorem k_X8_lays_64 (ca : Nat → ClassId) : k_X8_lays ca 64 = i_iload 6 66 := rfl
theorem k_X8_lays_66 (ca : Nat → ClassId) : k_X8_lays ca 66 = i_bin (fun x y => x * y) 67 := rfl
theorem k_X8_lays_67 (ca : Nat → ClassId) : k_X8_lays ca 67 = i_iload 7 69 := rfl
theorem k_X8_lays_69 (ca : Nat → ClassId) : k_X8_lays ca 69 = i_callS 1 0 0 0 0 (sp_X8_lengthOf ca) 72 := rfl
theorem k_X8_lays_72 (ca : Nat → ClassId) : k_X8_lays ca 72 = i_ast (fun x => x) (ca 0) 73 := rfl
theorem k_X8_lays_73 (ca : Nat → ClassId) : k_X8_lays ca 73 = i_aload 0 74 := rfl
theorem k_X8_lays_74 (ca : Nat → ClassId) : k_X8_lays ca 74 = i_getf 8 11 77 := rfl
theorem k_X8_lays_77 (ca : Nat → ClassId) : k_X8_lays ca 77 = i_push (.int 3) 78 := rfl
theorem k_X8_lays_78 (ca : Nat → ClassId) : k_X8_lays ca 78 = i_iload 6 80 := rfl
theorem k_X8_lays_80 (ca : Nat → ClassId) : k_X8_lays ca 80 = i_bin (fun x y => x * y) 81 := rfl
theorem k_X8_lays_81 (ca : Nat → ClassId) : k_X8_lays ca 81 = i_push (.int 1) 82 := rfl
theorem k_X8_lays_82 (ca : Nat → ClassId) : k_X8_lays ca 82 = i_bin (fun x y => x + y) 83 := rfl
theorem k_X8_lays_83 (ca : Nat → ClassId) : k_X8_lays ca 83 = i_iload 7 85 := rfl
theorem k_X8_lays_85 (ca : Nat → ClassId) : k_X8_lays ca 85 = i_push (.int 6) 87 := rfl
theorem k_X8_lays_87 (ca : Nat → ClassId) : k_X8_lays ca 87 = i_dv (fun x y => x / y) 88 := rfl
theorem k_X8_lays_88 (ca : Nat → ClassId) : k_X8_lays ca 88 = i_push (.int 6) 90 := rfl
theorem k_X8_lays_90 (ca : Nat → ClassId) : k_X8_lays ca 90 = i_dv (fun x y => x - x / y * y) 91 := rfl
theorem k_X8_lays_91 (ca : Nat → ClassId) : k_X8_lays ca 91 = i_ast (fun x => x) (ca 0) 92 := rfl
theorem k_X8_lays_92 (ca : Nat → ClassId) : k_X8_lays ca 92 = i_aload 0 93 := rfl
theorem k_X8_lays_93 (ca : Nat → ClassId) : k_X8_lays ca 93 = i_getf 8 11 96 := rfl
theorem k_X8_lays_96 (ca : Nat → ClassId) : k_X8_lays ca 96 = i_push (.int 3) 97 := rfl
theorem k_X8_lays_97 (ca : Nat → ClassId) : k_X8_lays ca 97 = i_iload 6 99 := rfl
theorem k_X8_lays_99 (ca : Nat → ClassId) : k_X8_lays ca 99 = i_bin (fun x y => x * y) 100 := rfl
theorem k_X8_lays_100 (ca : Nat → ClassId) : k_X8_lays ca 100 = i_push (.int 2) 101 := rfl
theorem k_X8_lays_101 (ca : Nat → ClassId) : k_X8_lays ca 101 = i_bin (fun x y => x + y) 102 := rfl
theorem k_X8_lays_102 (ca : Nat → ClassId) : k_X8_lays ca 102 = i_iload 7 104 := rfl
theorem k_X8_lays_104 (ca : Nat → ClassId) : k_X8_lays ca 104 = i_push (.int 6) 106 := rfl
theorem k_X8_lays_106 (ca : Nat → ClassId) : k_X8_lays ca 106 = i_dv (fun x y => x - x / y * y) 107 := rfl
theorem k_X8_lays_107 (ca : Nat → ClassId) : k_X8_lays ca 107 = i_ast (fun x => x) (ca 0) 108 := rfl
theorem k_X8_lays_108 (ca : Nat → ClassId) : k_X8_lays ca 108 = i_iload 4 110 := rfl
theorem k_X8_lays_110 (ca : Nat → ClassId) : k_X8_lays ca 110 = i_iload 7 112 := rfl
theorem k_X8_lays_112 (ca : Nat → ClassId) : k_X8_lays ca 112 = i_callS 1 0 0 0 0 (sp_X8_lengthOf ca) 115 := rfl
theorem k_X8_lays_115 (ca : Nat → ClassId) : k_X8_lays ca 115 = i_bin (fun x y => x - y) 116 := rfl
theorem k_X8_lays_116 (ca : Nat → ClassId) : k_X8_lays ca 116 = i_istore 4 118 := rfl
theorem k_X8_lays_118 (ca : Nat → ClassId) : k_X8_lays ca 118 = i_iload 5 120 := rfl
theorem k_X8_lays_120 (ca : Nat → ClassId) : k_X8_lays ca 120 = i_aload 0 121 := rfl
theorem k_X8_lays_121 (ca : Nat → ClassId) : k_X8_lays ca 121 = i_iload 7 123 := rfl
theorem k_X8_lays_123 (ca : Nat → ClassId) : k_X8_lays ca 123 = i_callV 8 1 0 0 0 0 (sp_X8_bendOf ca) 126 := rfl
theorem k_X8_lays_126 (ca : Nat → ClassId) : k_X8_lays ca 126 = i_bin (fun x y => x - y) 127 := rfl
theorem k_X8_lays_127 (ca : Nat → ClassId) : k_X8_lays ca 127 = i_istore 5 129 := rfl
theorem k_X8_lays_129 (ca : Nat → ClassId) : k_X8_lays ca 129 = i_iinc 6 1 132 := rfl
theorem k_X8_lays_132 (ca : Nat → ClassId) : k_X8_lays ca 132 = i_goto 14 := rfl
theorem k_X8_lays_135 (ca : Nat → ClassId) : k_X8_lays ca 135 = i_vret := rfl
set_option maxHeartbeats 4000000 in
set_option maxRecDepth 20000 in
theorem ok_X8_lays (l : Launch) (D : va_G) (ca : Nat → ClassId) : OkAll l D ca yX8_lays cX8_lays 8 none 3 0 0 (sp_X8_lays ca) := by
  intro av h post hs
  obtain ⟨m, a, st, len, fm, at', re, s, iw, ip, fo, P, T, b, kk, LT, RS, hP, rfl, I, hm, h0, h7, h8, h9, ⟨hL0, hR0, hrow⟩, hs⟩ := hs
  have hm' := hm
  unfold eMod at hm'
  have d9 := I.2 9
  refine okM_of t_X8_lays (by decide +kernel) (c1_ref (c1_int (c1_int (c1_int c1_nil)))) (Nat.le_of_ble_eq_true rfl) ?_
  intro K go
  have h91 : va_up h m (some (eMod a st len (nI P) at' re)) (a 9) = some (.inl (ca 0, 9, .inl fo)) := (va_up_ne _ _ (I.am 9)).trans h9
  have hm1 : va_up h m (some (eMod a st len (nI P) at' re)) m = some (eMod a st len (nI P) at' re) := va_up_self _ _ _
  have h01 : va_up h m (some (eMod a st len (nI P) at' re)) (a 0) = some (.inl (ca 0, 127, .inl s)) := (va_up_ne _ _ (I.am _)).trans h0
  have h71 : va_up h m (some (eMod a st len (nI P) at' re)) (a 7) = some (.inl (ca 2, 61, .inl iw)) := (va_up_ne _ _ (I.am _)).trans h7
  have h81 : va_up h m (some (eMod a st len (nI P) at' re)) (a 8) = some (.inl (ca 2, 18377, .inl ip)) := (va_up_ne _ _ (I.am _)).trans h8
  have start : (∀ H, H = va_up h m (some (eMod a st len (nI P) at' re)) → K 0 0 14 [some (.ref m), some (.int (nI P)), some (.int T), some (.int b), some (.int T), some (.int b), some (.int 0), none] [] H) → K 0 0 0 (lv0 [.ref m, .int (nI P), .int T, .int b] 8) [] h := by
    intro k0
    have k0 := k0 _ rfl
    unfold eMod at k0
    refine goN go (stp [14]) 160 _ _ _ _ _ _ (fun F hF hF0 => ?_)
    simp only [hF, hF0, ite_not, i_push, i_iload, i_lload, i_aload, i_istore, i_astore, i_lstore, i_iinc, i_bin, i_dv, i_un, i_lbin, i_lsh, i_i2l, i_l2i, i_lcmp, i_dup, i_dup2, i_pop, i_if, i_icmp, i_goto, swG, i_sw, i_getf, i_puti, i_putz, i_putr, i_ald, i_lald, i_aald, i_ast, i_last, i_aast, i_alen, i_new, i_newi, i_newl, i_newq, i_oinit, i_ret, i_zret, i_lret, i_vret, catS, tk, rpush, isO, i_m1, i_m2, i_acopy, i_callV, i_callS, KRet, lget, lput, lputL, lcl0, isL, lv0, List.map_cons, List.map_nil, List.length_cons, List.length_nil, List.cons_append, List.nil_append, Nat.reduceAdd, Nat.reduceSub, Nat.reduceLeDiff, List.replicate_succ, List.replicate_zero, List.getElem?_cons_succ, List.getElem?_cons_zero, List.set_cons_succ, List.set_cons_zero, true_and, and_true, if_true, if_false, ↓reduceIte, Nat.le_refl, Value.category, va_up_app, eq_self, stp, Nat.reduceBEq, Bool.or_false, Bool.false_or, Bool.true_or, Bool.or_true, or_true, true_or, bx_uu, implies_true, true_implies, not_true, not_false_eq_true, false_implies, and_self, Nat.reduceLT, Int32.reduceAdd, Int32.reduceSub, Int32.reduceMul, Int32.reduceLE, Int32.reduceLT, Int32.reduceToNatClampNeg, va_rf_some, Bool.false_eq_true, k_X8_lays_0 ca, k_X8_lays_1 ca, k_X8_lays_2 ca, k_X8_lays_5 ca, k_X8_lays_6 ca, k_X8_lays_8 ca, k_X8_lays_9 ca, k_X8_lays_11 ca, k_X8_lays_12 ca, k_X8_lays_14 ca, k_X8_lays_16 ca, k_X8_lays_17 ca, k_X8_lays_20 ca, k_X8_lays_21 ca, k_X8_lays_23 ca, k_X8_lays_24 ca, k_X8_lays_25 ca, k_X8_lays_27 ca, k_X8_lays_28 ca, k_X8_lays_29 ca, k_X8_lays_30 ca, k_X8_lays_32 ca, k_X8_lays_34 ca, k_X8_lays_37 ca, k_X8_lays_38 ca, k_X8_lays_40 ca, k_X8_lays_41 ca, k_X8_lays_43 ca, k_X8_lays_46 ca, k_X8_lays_47 ca, k_X8_lays_50 ca, k_X8_lays_53 ca, k_X8_lays_56 ca, k_X8_lays_59 ca, k_X8_lays_60 ca, k_X8_lays_63 ca, k_X8_lays_64 ca, k_X8_lays_66 ca, k_X8_lays_67 ca, k_X8_lays_69 ca, k_X8_lays_72 ca, k_X8_lays_73 ca, k_X8_lays_74 ca, k_X8_lays_77 ca, k_X8_lays_78 ca, k_X8_lays_80 ca, k_X8_lays_81 ca, k_X8_lays_82 ca, k_X8_lays_83 ca, k_X8_lays_85 ca, k_X8_lays_87 ca, k_X8_lays_88 ca, k_X8_lays_90 ca, k_X8_lays_91 ca, k_X8_lays_92 ca, k_X8_lays_93 ca, k_X8_lays_96 ca, k_X8_lays_97 ca, k_X8_lays_99 ca, k_X8_lays_100 ca, k_X8_lays_101 ca, k_X8_lays_102 ca, k_X8_lays_104 ca, k_X8_lays_106 ca, k_X8_lays_107 ca, k_X8_lays_108 ca, k_X8_lays_110 ca, k_X8_lays_112 ca, k_X8_lays_115 ca, k_X8_lays_116 ca, k_X8_lays_118 ca, k_X8_lays_120 ca, k_X8_lays_121 ca, k_X8_lays_123 ca, k_X8_lays_126 ca, k_X8_lays_127 ca, k_X8_lays_129 ca, k_X8_lays_132 ca, k_X8_lays_135 ca, hm']
    try clear hF hF0 F
    exact k0
  refine start (fun H hH => ?_)
  rw [← hH] at h91 hm1 h01 h71 h81 hs
  clear hH start
  have em1 := hm1
  unfold eMod at em1
  have key : ∀ j n fo x7, n + j = P → FoIs fo kk n → K 0 0 14 [some (.ref m), some (.int (nI P)), some (.int T), some (.int b), some (.int (LT n)), some (.int (RS n)), some (.int (nI n)), x7] [] (va_up H (a 9) (some (.inl (ca 0, 9, .inl fo)))) := by
    intro j
    induction j with
    | zero =>
      intro n fo x7 hn hf
      have hn : n = P := hn
      subst hn
      refine goN go (stp []) 160 _ _ _ _ _ _ (fun F hF hF0 => ?_)
      simp only [hF, hF0, ite_not, i_push, i_iload, i_lload, i_aload, i_istore, i_astore, i_lstore, i_iinc, i_bin, i_dv, i_un, i_lbin, i_lsh, i_i2l, i_l2i, i_lcmp, i_dup, i_dup2, i_pop, i_if, i_icmp, i_goto, swG, i_sw, i_getf, i_puti, i_putz, i_putr, i_ald, i_lald, i_aald, i_ast, i_last, i_aast, i_alen, i_new, i_newi, i_newl, i_newq, i_oinit, i_ret, i_zret, i_lret, i_vret, catS, tk, rpush, isO, i_m1, i_m2, i_acopy, i_callV, i_callS, KRet, lget, lput, lputL, lcl0, isL, lv0, List.map_cons, List.map_nil, List.length_cons, List.length_nil, List.cons_append, List.nil_append, Nat.reduceAdd, Nat.reduceSub, Nat.reduceLeDiff, List.replicate_succ, List.replicate_zero, List.getElem?_cons_succ, List.getElem?_cons_zero, List.set_cons_succ, List.set_cons_zero, true_and, and_true, if_true, if_false, ↓reduceIte, Nat.le_refl, Value.category, va_up_app, eq_self, stp, Nat.reduceBEq, Bool.or_false, Bool.false_or, Bool.true_or, Bool.or_true, or_true, true_or, bx_uu, implies_true, true_implies, not_true, not_false_eq_true, false_implies, and_self, Nat.reduceLT, Int32.reduceAdd, Int32.reduceSub, Int32.reduceMul, Int32.reduceLE, Int32.reduceLT, Int32.reduceToNatClampNeg, va_rf_some, Bool.false_eq_true, k_X8_lays_0 ca, k_X8_lays_1 ca, k_X8_lays_2 ca, k_X8_lays_5 ca, k_X8_lays_6 ca, k_X8_lays_8 ca, k_X8_lays_9 ca, k_X8_lays_11 ca, k_X8_lays_12 ca, k_X8_lays_14 ca, k_X8_lays_16 ca, k_X8_lays_17 ca, k_X8_lays_20 ca, k_X8_lays_21 ca, k_X8_lays_23 ca, k_X8_lays_24 ca, k_X8_lays_25 ca, k_X8_lays_27 ca, k_X8_lays_28 ca, k_X8_lays_29 ca, k_X8_lays_30 ca, k_X8_lays_32 ca, k_X8_lays_34 ca, k_X8_lays_37 ca, k_X8_lays_38 ca, k_X8_lays_40 ca, k_X8_lays_41 ca, k_X8_lays_43 ca, k_X8_lays_46 ca, k_X8_lays_47 ca, k_X8_lays_50 ca, k_X8_lays_53 ca, k_X8_lays_56 ca, k_X8_lays_59 ca, k_X8_lays_60 ca, k_X8_lays_63 ca, k_X8_lays_64 ca, k_X8_lays_66 ca, k_X8_lays_67 ca, k_X8_lays_69 ca, k_X8_lays_72 ca, k_X8_lays_73 ca, k_X8_lays_74 ca, k_X8_lays_77 ca, k_X8_lays_78 ca, k_X8_lays_80 ca, k_X8_lays_81 ca, k_X8_lays_82 ca, k_X8_lays_83 ca, k_X8_lays_85 ca, k_X8_lays_87 ca, k_X8_lays_88 ca, k_X8_lays_90 ca, k_X8_lays_91 ca, k_X8_lays_92 ca, k_X8_lays_93 ca, k_X8_lays_96 ca, k_X8_lays_97 ca, k_X8_lays_99 ca, k_X8_lays_100 ca, k_X8_lays_101 ca, k_X8_lays_102 ca, k_X8_lays_104 ca, k_X8_lays_106 ca, k_X8_lays_107 ca, k_X8_lays_108 ca, k_X8_lays_110 ca, k_X8_lays_112 ca, k_X8_lays_115 ca, k_X8_lays_116 ca, k_X8_lays_118 ca, k_X8_lays_120 ca, k_X8_lays_121 ca, k_X8_lays_123 ca, k_X8_lays_126 ca, k_X8_lays_127 ca, k_X8_lays_129 ca, k_X8_lays_132 ca, k_X8_lays_135 ca, Int32.le_refl]
      try clear hF hF0 F
      exact hs fo hf
    | succ j ih =>
      intro n fo x7 hn hf
      obtain ⟨w1, w2, w3, w4, w5⟩ := hrow n (by omega)
      have g1 : ¬ nI P ≤ nI n := nI_ge (by omega) (by omega)
      have eP : nI P - nI n - 1 = nI (P - n - 1) := by rw [sub_nI (by omega), show (1 : Int32) = nI 1 from rfl, sub_nI (by omega)]
      have hmN : va_up H (a 9) (some (.inl (ca 0, 9, .inl fo))) m = some (eMod a st len (nI P) at' re) := (va_up_ne _ _ d9).trans hm1
      have h0N : va_up H (a 9) (some (.inl (ca 0, 9, .inl fo))) (a 0) = some (.inl (ca 0, 127, .inl s)) := (va_up_ne _ _ (I.ne (by decide))).trans h01
      have h7N : va_up H (a 9) (some (.inl (ca 0, 9, .inl fo))) (a 7) = some (.inl (ca 2, 61, .inl iw)) := (va_up_ne _ _ (I.ne (by decide))).trans h71
      have h8N : va_up H (a 9) (some (.inl (ca 0, 9, .inl fo))) (a 8) = some (.inl (ca 2, 18377, .inl ip)) := (va_up_ne _ _ (I.ne (by decide))).trans h81
      have ih' := fun fo hf => ih (n + 1) fo (some (.int (nI (kk n)))) (by omega) hf
      have inner : ∀ j k, k + j = kk n → K 0 0 23 [some (.ref m), some (.int (nI P)), some (.int T), some (.int b), some (.int (LT n)), some (.int (RS n)), some (.int (nI n)), some (.int (nI k))] [] (va_up H (a 9) (some (.inl (ca 0, 9, .inl fo)))) := by
        intro j
        induction j with
        | zero =>
          intro k hk
          have hk : k = kk n := hk
          subst hk
          have d36 := div36 (k := kk n) (by omega)
          have r6 := rem6 (k := kk n) (by omega)
          have r6b := rem6b (k := kk n) (by omega)
          have d6 := div6 (k := kk n) (by omega)
          have r66 := rem6 (k := kk n / 6) (by omega)
          have r66b := rem6b (k := kk n / 6) (by omega)
          refine goN go (stp [46]) 160 _ _ _ _ _ _ (fun F hF hF0 => ?_)
          simp only [hF, hF0, ite_not, i_push, i_iload, i_lload, i_aload, i_istore, i_astore, i_lstore, i_iinc, i_bin, i_dv, i_un, i_lbin, i_lsh, i_i2l, i_l2i, i_lcmp, i_dup, i_dup2, i_pop, i_if, i_icmp, i_goto, swG, i_sw, i_getf, i_puti, i_putz, i_putr, i_ald, i_lald, i_aald, i_ast, i_last, i_aast, i_alen, i_new, i_newi, i_newl, i_newq, i_oinit, i_ret, i_zret, i_lret, i_vret, catS, tk, rpush, isO, i_m1, i_m2, i_acopy, i_callV, i_callS, KRet, lget, lput, lputL, lcl0, isL, lv0, List.map_cons, List.map_nil, List.length_cons, List.length_nil, List.cons_append, List.nil_append, Nat.reduceAdd, Nat.reduceSub, Nat.reduceLeDiff, List.replicate_succ, List.replicate_zero, List.getElem?_cons_succ, List.getElem?_cons_zero, List.set_cons_succ, List.set_cons_zero, true_and, and_true, if_true, if_false, ↓reduceIte, Nat.le_refl, Value.category, va_up_app, eq_self, stp, Nat.reduceBEq, Bool.or_false, Bool.false_or, Bool.true_or, Bool.or_true, or_true, true_or, bx_uu, implies_true, true_implies, not_true, not_false_eq_true, false_implies, and_self, Nat.reduceLT, Int32.reduceAdd, Int32.reduceSub, Int32.reduceMul, Int32.reduceLE, Int32.reduceLT, Int32.reduceToNatClampNeg, va_rf_some, Bool.false_eq_true, k_X8_lays_0 ca, k_X8_lays_1 ca, k_X8_lays_2 ca, k_X8_lays_5 ca, k_X8_lays_6 ca, k_X8_lays_8 ca, k_X8_lays_9 ca, k_X8_lays_11 ca, k_X8_lays_12 ca, k_X8_lays_14 ca, k_X8_lays_16 ca, k_X8_lays_17 ca, k_X8_lays_20 ca, k_X8_lays_21 ca, k_X8_lays_23 ca, k_X8_lays_24 ca, k_X8_lays_25 ca, k_X8_lays_27 ca, k_X8_lays_28 ca, k_X8_lays_29 ca, k_X8_lays_30 ca, k_X8_lays_32 ca, k_X8_lays_34 ca, k_X8_lays_37 ca, k_X8_lays_38 ca, k_X8_lays_40 ca, k_X8_lays_41 ca, k_X8_lays_43 ca, k_X8_lays_46 ca, k_X8_lays_47 ca, k_X8_lays_50 ca, k_X8_lays_53 ca, k_X8_lays_56 ca, k_X8_lays_59 ca, k_X8_lays_60 ca, k_X8_lays_63 ca, k_X8_lays_64 ca, k_X8_lays_66 ca, k_X8_lays_67 ca, k_X8_lays_69 ca, k_X8_lays_72 ca, k_X8_lays_73 ca, k_X8_lays_74 ca, k_X8_lays_77 ca, k_X8_lays_78 ca, k_X8_lays_80 ca, k_X8_lays_81 ca, k_X8_lays_82 ca, k_X8_lays_83 ca, k_X8_lays_85 ca, k_X8_lays_87 ca, k_X8_lays_88 ca, k_X8_lays_90 ca, k_X8_lays_91 ca, k_X8_lays_92 ca, k_X8_lays_93 ca, k_X8_lays_96 ca, k_X8_lays_97 ca, k_X8_lays_99 ca, k_X8_lays_100 ca, k_X8_lays_101 ca, k_X8_lays_102 ca, k_X8_lays_104 ca, k_X8_lays_106 ca, k_X8_lays_107 ca, k_X8_lays_108 ca, k_X8_lays_110 ca, k_X8_lays_112 ca, k_X8_lays_115 ca, k_X8_lays_116 ca, k_X8_lays_118 ca, k_X8_lays_120 ca, k_X8_lays_121 ca, k_X8_lays_123 ca, k_X8_lays_126 ca, k_X8_lays_127 ca, k_X8_lays_129 ca, k_X8_lays_132 ca, k_X8_lays_135 ca, em1, d9, sp_X8_lengthOf, eP, d36, a_1]
          try clear hF hF0 F
          refine ⟨m, a 0, s, kk n, w1, rfl, ⟨⟨_, hmN⟩, h0N⟩, ?_⟩
          refine goN go (stp [50]) 160 _ _ _ _ _ _ (fun F hF hF0 => ?_)
          simp only [hF, hF0, ite_not, i_push, i_iload, i_lload, i_aload, i_istore, i_astore, i_lstore, i_iinc, i_bin, i_dv, i_un, i_lbin, i_lsh, i_i2l, i_l2i, i_lcmp, i_dup, i_dup2, i_pop, i_if, i_icmp, i_goto, swG, i_sw, i_getf, i_puti, i_putz, i_putr, i_ald, i_lald, i_aald, i_ast, i_last, i_aast, i_alen, i_new, i_newi, i_newl, i_newq, i_oinit, i_ret, i_zret, i_lret, i_vret, catS, tk, rpush, isO, i_m1, i_m2, i_acopy, i_callV, i_callS, KRet, lget, lput, lputL, lcl0, isL, lv0, List.map_cons, List.map_nil, List.length_cons, List.length_nil, List.cons_append, List.nil_append, Nat.reduceAdd, Nat.reduceSub, Nat.reduceLeDiff, List.replicate_succ, List.replicate_zero, List.getElem?_cons_succ, List.getElem?_cons_zero, List.set_cons_succ, List.set_cons_zero, true_and, and_true, if_true, if_false, ↓reduceIte, Nat.le_refl, Value.category, va_up_app, eq_self, stp, Nat.reduceBEq, Bool.or_false, Bool.false_or, Bool.true_or, Bool.or_true, or_true, true_or, bx_uu, implies_true, true_implies, not_true, not_false_eq_true, false_implies, and_self, Nat.reduceLT, Int32.reduceAdd, Int32.reduceSub, Int32.reduceMul, Int32.reduceLE, Int32.reduceLT, Int32.reduceToNatClampNeg, va_rf_some, Bool.false_eq_true, k_X8_lays_0 ca, k_X8_lays_1 ca, k_X8_lays_2 ca, k_X8_lays_5 ca, k_X8_lays_6 ca, k_X8_lays_8 ca, k_X8_lays_9 ca, k_X8_lays_11 ca, k_X8_lays_12 ca, k_X8_lays_14 ca, k_X8_lays_16 ca, k_X8_lays_17 ca, k_X8_lays_20 ca, k_X8_lays_21 ca, k_X8_lays_23 ca, k_X8_lays_24 ca, k_X8_lays_25 ca, k_X8_lays_27 ca, k_X8_lays_28 ca, k_X8_lays_29 ca, k_X8_lays_30 ca, k_X8_lays_32 ca, k_X8_lays_34 ca, k_X8_lays_37 ca, k_X8_lays_38 ca, k_X8_lays_40 ca, k_X8_lays_41 ca, k_X8_lays_43 ca, k_X8_lays_46 ca, k_X8_lays_47 ca, k_X8_lays_50 ca, k_X8_lays_53 ca, k_X8_lays_56 ca, k_X8_lays_59 ca, k_X8_lays_60 ca, k_X8_lays_63 ca, k_X8_lays_64 ca, k_X8_lays_66 ca, k_X8_lays_67 ca, k_X8_lays_69 ca, k_X8_lays_72 ca, k_X8_lays_73 ca, k_X8_lays_74 ca, k_X8_lays_77 ca, k_X8_lays_78 ca, k_X8_lays_80 ca, k_X8_lays_81 ca, k_X8_lays_82 ca, k_X8_lays_83 ca, k_X8_lays_85 ca, k_X8_lays_87 ca, k_X8_lays_88 ca, k_X8_lays_90 ca, k_X8_lays_91 ca, k_X8_lays_92 ca, k_X8_lays_93 ca, k_X8_lays_96 ca, k_X8_lays_97 ca, k_X8_lays_99 ca, k_X8_lays_100 ca, k_X8_lays_101 ca, k_X8_lays_102 ca, k_X8_lays_104 ca, k_X8_lays_106 ca, k_X8_lays_107 ca, k_X8_lays_108 ca, k_X8_lays_110 ca, k_X8_lays_112 ca, k_X8_lays_115 ca, k_X8_lays_116 ca, k_X8_lays_118 ca, k_X8_lays_120 ca, k_X8_lays_121 ca, k_X8_lays_123 ca, k_X8_lays_126 ca, k_X8_lays_127 ca, k_X8_lays_129 ca, k_X8_lays_132 ca, k_X8_lays_135 ca, em1, d9]
          try clear hF hF0 F
          refine ⟨m, a, iw, ip, P - n - 1, _, _, by omega, rfl, ⟨_, _, _, _, _, hmN⟩, h7N, h8N, ?_⟩
          rw [w2, b2i_t]
          have m3 : (3 : Int32) * nI n = nI (3 * n) := m_3
          have y0 : vp_in (nI (3 * n)) 9 := vp_in_nI (by omega) (by decide)
          have y1 : (nI (3 * n)).toNatClampNeg = 3 * n := nI_clamp (by omega)
          have y2 : vp_in (nI (3 * n + 1)) 9 := vp_in_nI (by omega) (by decide)
          have y3 : (nI (3 * n + 1)).toNatClampNeg = 3 * n + 1 := nI_clamp (by omega)
          have y4 : vp_in (nI (3 * n + 2)) 9 := vp_in_nI (by omega) (by decide)
          have y5 : (nI (3 * n + 2)).toNatClampNeg = 3 * n + 2 := nI_clamp (by omega)
          refine goN go (stp [126]) 160 _ _ _ _ _ _ (fun F hF hF0 => ?_)
          simp only [hF, hF0, ite_not, i_push, i_iload, i_lload, i_aload, i_istore, i_astore, i_lstore, i_iinc, i_bin, i_dv, i_un, i_lbin, i_lsh, i_i2l, i_l2i, i_lcmp, i_dup, i_dup2, i_pop, i_if, i_icmp, i_goto, swG, i_sw, i_getf, i_puti, i_putz, i_putr, i_ald, i_lald, i_aald, i_ast, i_last, i_aast, i_alen, i_new, i_newi, i_newl, i_newq, i_oinit, i_ret, i_zret, i_lret, i_vret, catS, tk, rpush, isO, i_m1, i_m2, i_acopy, i_callV, i_callS, KRet, lget, lput, lputL, lcl0, isL, lv0, List.map_cons, List.map_nil, List.length_cons, List.length_nil, List.cons_append, List.nil_append, Nat.reduceAdd, Nat.reduceSub, Nat.reduceLeDiff, List.replicate_succ, List.replicate_zero, List.getElem?_cons_succ, List.getElem?_cons_zero, List.set_cons_succ, List.set_cons_zero, true_and, and_true, if_true, if_false, ↓reduceIte, Nat.le_refl, Value.category, va_up_app, eq_self, stp, Nat.reduceBEq, Bool.or_false, Bool.false_or, Bool.true_or, Bool.or_true, or_true, true_or, bx_uu, implies_true, true_implies, not_true, not_false_eq_true, false_implies, and_self, Nat.reduceLT, Int32.reduceAdd, Int32.reduceSub, Int32.reduceMul, Int32.reduceLE, Int32.reduceLT, Int32.reduceToNatClampNeg, va_rf_some, Bool.false_eq_true, k_X8_lays_0 ca, k_X8_lays_1 ca, k_X8_lays_2 ca, k_X8_lays_5 ca, k_X8_lays_6 ca, k_X8_lays_8 ca, k_X8_lays_9 ca, k_X8_lays_11 ca, k_X8_lays_12 ca, k_X8_lays_14 ca, k_X8_lays_16 ca, k_X8_lays_17 ca, k_X8_lays_20 ca, k_X8_lays_21 ca, k_X8_lays_23 ca, k_X8_lays_24 ca, k_X8_lays_25 ca, k_X8_lays_27 ca, k_X8_lays_28 ca, k_X8_lays_29 ca, k_X8_lays_30 ca, k_X8_lays_32 ca, k_X8_lays_34 ca, k_X8_lays_37 ca, k_X8_lays_38 ca, k_X8_lays_40 ca, k_X8_lays_41 ca, k_X8_lays_43 ca, k_X8_lays_46 ca, k_X8_lays_47 ca, k_X8_lays_50 ca, k_X8_lays_53 ca, k_X8_lays_56 ca, k_X8_lays_59 ca, k_X8_lays_60 ca, k_X8_lays_63 ca, k_X8_lays_64 ca, k_X8_lays_66 ca, k_X8_lays_67 ca, k_X8_lays_69 ca, k_X8_lays_72 ca, k_X8_lays_73 ca, k_X8_lays_74 ca, k_X8_lays_77 ca, k_X8_lays_78 ca, k_X8_lays_80 ca, k_X8_lays_81 ca, k_X8_lays_82 ca, k_X8_lays_83 ca, k_X8_lays_85 ca, k_X8_lays_87 ca, k_X8_lays_88 ca, k_X8_lays_90 ca, k_X8_lays_91 ca, k_X8_lays_92 ca, k_X8_lays_93 ca, k_X8_lays_96 ca, k_X8_lays_97 ca, k_X8_lays_99 ca, k_X8_lays_100 ca, k_X8_lays_101 ca, k_X8_lays_102 ca, k_X8_lays_104 ca, k_X8_lays_106 ca, k_X8_lays_107 ca, k_X8_lays_108 ca, k_X8_lays_110 ca, k_X8_lays_112 ca, k_X8_lays_115 ca, k_X8_lays_116 ca, k_X8_lays_118 ca, k_X8_lays_120 ca, k_X8_lays_121 ca, k_X8_lays_123 ca, k_X8_lays_126 ca, k_X8_lays_127 ca, k_X8_lays_129 ca, k_X8_lays_132 ca, k_X8_lays_135 ca, em1, d9, one0, sp_X8_lengthOf, d36, a_1, a_2, m3, y0, y1, y2, y3, y4, y5, r6, r6b, r66, r66b, d6, n60]
          try clear hF hF0 F
          have hf' := hf.s
          generalize upd (upd (upd fo (3 * n) (nI (kk n / 36 + 1))) (3 * n + 1) (nI (kk n / 6 % 6))) (3 * n + 2) (nI (kk n % 6)) = fo2 at *
          refine ⟨m, a 0, s, kk n, w1, rfl, ⟨⟨_, (va_up_ne _ _ d9).trans hm1⟩, (va_up_ne _ _ (I.ne (by decide))).trans h01⟩, ?_⟩
          have k0 := ih' fo2 hf'
          rw [w4, w5] at k0
          refine goN go (stp [14]) 160 _ _ _ _ _ _ (fun F hF hF0 => ?_)
          simp only [hF, hF0, ite_not, i_push, i_iload, i_lload, i_aload, i_istore, i_astore, i_lstore, i_iinc, i_bin, i_dv, i_un, i_lbin, i_lsh, i_i2l, i_l2i, i_lcmp, i_dup, i_dup2, i_pop, i_if, i_icmp, i_goto, swG, i_sw, i_getf, i_puti, i_putz, i_putr, i_ald, i_lald, i_aald, i_ast, i_last, i_aast, i_alen, i_new, i_newi, i_newl, i_newq, i_oinit, i_ret, i_zret, i_lret, i_vret, catS, tk, rpush, isO, i_m1, i_m2, i_acopy, i_callV, i_callS, KRet, lget, lput, lputL, lcl0, isL, lv0, List.map_cons, List.map_nil, List.length_cons, List.length_nil, List.cons_append, List.nil_append, Nat.reduceAdd, Nat.reduceSub, Nat.reduceLeDiff, List.replicate_succ, List.replicate_zero, List.getElem?_cons_succ, List.getElem?_cons_zero, List.set_cons_succ, List.set_cons_zero, true_and, and_true, if_true, if_false, ↓reduceIte, Nat.le_refl, Value.category, va_up_app, eq_self, stp, Nat.reduceBEq, Bool.or_false, Bool.false_or, Bool.true_or, Bool.or_true, or_true, true_or, bx_uu, implies_true, true_implies, not_true, not_false_eq_true, false_implies, and_self, Nat.reduceLT, Int32.reduceAdd, Int32.reduceSub, Int32.reduceMul, Int32.reduceLE, Int32.reduceLT, Int32.reduceToNatClampNeg, va_rf_some, Bool.false_eq_true, k_X8_lays_0 ca, k_X8_lays_1 ca, k_X8_lays_2 ca, k_X8_lays_5 ca, k_X8_lays_6 ca, k_X8_lays_8 ca, k_X8_lays_9 ca, k_X8_lays_11 ca, k_X8_lays_12 ca, k_X8_lays_14 ca, k_X8_lays_16 ca, k_X8_lays_17 ca, k_X8_lays_20 ca, k_X8_lays_21 ca, k_X8_lays_23 ca, k_X8_lays_24 ca, k_X8_lays_25 ca, k_X8_lays_27 ca, k_X8_lays_28 ca, k_X8_lays_29 ca, k_X8_lays_30 ca, k_X8_lays_32 ca, k_X8_lays_34 ca, k_X8_lays_37 ca, k_X8_lays_38 ca, k_X8_lays_40 ca, k_X8_lays_41 ca, k_X8_lays_43 ca, k_X8_lays_46 ca, k_X8_lays_47 ca, k_X8_lays_50 ca, k_X8_lays_53 ca, k_X8_lays_56 ca, k_X8_lays_59 ca, k_X8_lays_60 ca, k_X8_lays_63 ca, k_X8_lays_64 ca, k_X8_lays_66 ca, k_X8_lays_67 ca, k_X8_lays_69 ca, k_X8_lays_72 ca, k_X8_lays_73 ca, k_X8_lays_74 ca, k_X8_lays_77 ca, k_X8_lays_78 ca, k_X8_lays_80 ca, k_X8_lays_81 ca, k_X8_lays_82 ca, k_X8_lays_83 ca, k_X8_lays_85 ca, k_X8_lays_87 ca, k_X8_lays_88 ca, k_X8_lays_90 ca, k_X8_lays_91 ca, k_X8_lays_92 ca, k_X8_lays_93 ca, k_X8_lays_96 ca, k_X8_lays_97 ca, k_X8_lays_99 ca, k_X8_lays_100 ca, k_X8_lays_101 ca, k_X8_lays_102 ca, k_X8_lays_104 ca, k_X8_lays_106 ca, k_X8_lays_107 ca, k_X8_lays_108 ca, k_X8_lays_110 ca, k_X8_lays_112 ca, k_X8_lays_115 ca, k_X8_lays_116 ca, k_X8_lays_118 ca, k_X8_lays_120 ca, k_X8_lays_121 ca, k_X8_lays_123 ca, k_X8_lays_126 ca, k_X8_lays_127 ca, k_X8_lays_129 ca, k_X8_lays_132 ca, k_X8_lays_135 ca, a_1]
          try clear hF hF0 F
          exact k0
        | succ j ih2 =>
          intro k hk
          have hw := w3 k (by omega)
          have d36 := div36 (k := k) (by omega)
          refine goN go (stp [46]) 160 _ _ _ _ _ _ (fun F hF hF0 => ?_)
          simp only [hF, hF0, ite_not, i_push, i_iload, i_lload, i_aload, i_istore, i_astore, i_lstore, i_iinc, i_bin, i_dv, i_un, i_lbin, i_lsh, i_i2l, i_l2i, i_lcmp, i_dup, i_dup2, i_pop, i_if, i_icmp, i_goto, swG, i_sw, i_getf, i_puti, i_putz, i_putr, i_ald, i_lald, i_aald, i_ast, i_last, i_aast, i_alen, i_new, i_newi, i_newl, i_newq, i_oinit, i_ret, i_zret, i_lret, i_vret, catS, tk, rpush, isO, i_m1, i_m2, i_acopy, i_callV, i_callS, KRet, lget, lput, lputL, lcl0, isL, lv0, List.map_cons, List.map_nil, List.length_cons, List.length_nil, List.cons_append, List.nil_append, Nat.reduceAdd, Nat.reduceSub, Nat.reduceLeDiff, List.replicate_succ, List.replicate_zero, List.getElem?_cons_succ, List.getElem?_cons_zero, List.set_cons_succ, List.set_cons_zero, true_and, and_true, if_true, if_false, ↓reduceIte, Nat.le_refl, Value.category, va_up_app, eq_self, stp, Nat.reduceBEq, Bool.or_false, Bool.false_or, Bool.true_or, Bool.or_true, or_true, true_or, bx_uu, implies_true, true_implies, not_true, not_false_eq_true, false_implies, and_self, Nat.reduceLT, Int32.reduceAdd, Int32.reduceSub, Int32.reduceMul, Int32.reduceLE, Int32.reduceLT, Int32.reduceToNatClampNeg, va_rf_some, Bool.false_eq_true, k_X8_lays_0 ca, k_X8_lays_1 ca, k_X8_lays_2 ca, k_X8_lays_5 ca, k_X8_lays_6 ca, k_X8_lays_8 ca, k_X8_lays_9 ca, k_X8_lays_11 ca, k_X8_lays_12 ca, k_X8_lays_14 ca, k_X8_lays_16 ca, k_X8_lays_17 ca, k_X8_lays_20 ca, k_X8_lays_21 ca, k_X8_lays_23 ca, k_X8_lays_24 ca, k_X8_lays_25 ca, k_X8_lays_27 ca, k_X8_lays_28 ca, k_X8_lays_29 ca, k_X8_lays_30 ca, k_X8_lays_32 ca, k_X8_lays_34 ca, k_X8_lays_37 ca, k_X8_lays_38 ca, k_X8_lays_40 ca, k_X8_lays_41 ca, k_X8_lays_43 ca, k_X8_lays_46 ca, k_X8_lays_47 ca, k_X8_lays_50 ca, k_X8_lays_53 ca, k_X8_lays_56 ca, k_X8_lays_59 ca, k_X8_lays_60 ca, k_X8_lays_63 ca, k_X8_lays_64 ca, k_X8_lays_66 ca, k_X8_lays_67 ca, k_X8_lays_69 ca, k_X8_lays_72 ca, k_X8_lays_73 ca, k_X8_lays_74 ca, k_X8_lays_77 ca, k_X8_lays_78 ca, k_X8_lays_80 ca, k_X8_lays_81 ca, k_X8_lays_82 ca, k_X8_lays_83 ca, k_X8_lays_85 ca, k_X8_lays_87 ca, k_X8_lays_88 ca, k_X8_lays_90 ca, k_X8_lays_91 ca, k_X8_lays_92 ca, k_X8_lays_93 ca, k_X8_lays_96 ca, k_X8_lays_97 ca, k_X8_lays_99 ca, k_X8_lays_100 ca, k_X8_lays_101 ca, k_X8_lays_102 ca, k_X8_lays_104 ca, k_X8_lays_106 ca, k_X8_lays_107 ca, k_X8_lays_108 ca, k_X8_lays_110 ca, k_X8_lays_112 ca, k_X8_lays_115 ca, k_X8_lays_116 ca, k_X8_lays_118 ca, k_X8_lays_120 ca, k_X8_lays_121 ca, k_X8_lays_123 ca, k_X8_lays_126 ca, k_X8_lays_127 ca, k_X8_lays_129 ca, k_X8_lays_132 ca, k_X8_lays_135 ca, em1, d9, sp_X8_lengthOf, eP, d36, a_1]
          try clear hF hF0 F
          refine ⟨m, a 0, s, k, by omega, rfl, ⟨⟨_, hmN⟩, h0N⟩, ?_⟩
          refine goN go (stp [50]) 160 _ _ _ _ _ _ (fun F hF hF0 => ?_)
          simp only [hF, hF0, ite_not, i_push, i_iload, i_lload, i_aload, i_istore, i_astore, i_lstore, i_iinc, i_bin, i_dv, i_un, i_lbin, i_lsh, i_i2l, i_l2i, i_lcmp, i_dup, i_dup2, i_pop, i_if, i_icmp, i_goto, swG, i_sw, i_getf, i_puti, i_putz, i_putr, i_ald, i_lald, i_aald, i_ast, i_last, i_aast, i_alen, i_new, i_newi, i_newl, i_newq, i_oinit, i_ret, i_zret, i_lret, i_vret, catS, tk, rpush, isO, i_m1, i_m2, i_acopy, i_callV, i_callS, KRet, lget, lput, lputL, lcl0, isL, lv0, List.map_cons, List.map_nil, List.length_cons, List.length_nil, List.cons_append, List.nil_append, Nat.reduceAdd, Nat.reduceSub, Nat.reduceLeDiff, List.replicate_succ, List.replicate_zero, List.getElem?_cons_succ, List.getElem?_cons_zero, List.set_cons_succ, List.set_cons_zero, true_and, and_true, if_true, if_false, ↓reduceIte, Nat.le_refl, Value.category, va_up_app, eq_self, stp, Nat.reduceBEq, Bool.or_false, Bool.false_or, Bool.true_or, Bool.or_true, or_true, true_or, bx_uu, implies_true, true_implies, not_true, not_false_eq_true, false_implies, and_self, Nat.reduceLT, Int32.reduceAdd, Int32.reduceSub, Int32.reduceMul, Int32.reduceLE, Int32.reduceLT, Int32.reduceToNatClampNeg, va_rf_some, Bool.false_eq_true, k_X8_lays_0 ca, k_X8_lays_1 ca, k_X8_lays_2 ca, k_X8_lays_5 ca, k_X8_lays_6 ca, k_X8_lays_8 ca, k_X8_lays_9 ca, k_X8_lays_11 ca, k_X8_lays_12 ca, k_X8_lays_14 ca, k_X8_lays_16 ca, k_X8_lays_17 ca, k_X8_lays_20 ca, k_X8_lays_21 ca, k_X8_lays_23 ca, k_X8_lays_24 ca, k_X8_lays_25 ca, k_X8_lays_27 ca, k_X8_lays_28 ca, k_X8_lays_29 ca, k_X8_lays_30 ca, k_X8_lays_32 ca, k_X8_lays_34 ca, k_X8_lays_37 ca, k_X8_lays_38 ca, k_X8_lays_40 ca, k_X8_lays_41 ca, k_X8_lays_43 ca, k_X8_lays_46 ca, k_X8_lays_47 ca, k_X8_lays_50 ca, k_X8_lays_53 ca, k_X8_lays_56 ca, k_X8_lays_59 ca, k_X8_lays_60 ca, k_X8_lays_63 ca, k_X8_lays_64 ca, k_X8_lays_66 ca, k_X8_lays_67 ca, k_X8_lays_69 ca, k_X8_lays_72 ca, k_X8_lays_73 ca, k_X8_lays_74 ca, k_X8_lays_77 ca, k_X8_lays_78 ca, k_X8_lays_80 ca, k_X8_lays_81 ca, k_X8_lays_82 ca, k_X8_lays_83 ca, k_X8_lays_85 ca, k_X8_lays_87 ca, k_X8_lays_88 ca, k_X8_lays_90 ca, k_X8_lays_91 ca, k_X8_lays_92 ca, k_X8_lays_93 ca, k_X8_lays_96 ca, k_X8_lays_97 ca, k_X8_lays_99 ca, k_X8_lays_100 ca, k_X8_lays_101 ca, k_X8_lays_102 ca, k_X8_lays_104 ca, k_X8_lays_106 ca, k_X8_lays_107 ca, k_X8_lays_108 ca, k_X8_lays_110 ca, k_X8_lays_112 ca, k_X8_lays_115 ca, k_X8_lays_116 ca, k_X8_lays_118 ca, k_X8_lays_120 ca, k_X8_lays_121 ca, k_X8_lays_123 ca, k_X8_lays_126 ca, k_X8_lays_127 ca, k_X8_lays_129 ca, k_X8_lays_132 ca, k_X8_lays_135 ca, em1, d9]
          try clear hF hF0 F
          refine ⟨m, a, iw, ip, P - n - 1, _, _, by omega, rfl, ⟨_, _, _, _, _, hmN⟩, h7N, h8N, ?_⟩
          rw [hw, b2i_f]
          have k0 := ih2 (k + 1) (by omega)
          refine goN go (stp [23]) 160 _ _ _ _ _ _ (fun F hF hF0 => ?_)
          simp only [hF, hF0, ite_not, i_push, i_iload, i_lload, i_aload, i_istore, i_astore, i_lstore, i_iinc, i_bin, i_dv, i_un, i_lbin, i_lsh, i_i2l, i_l2i, i_lcmp, i_dup, i_dup2, i_pop, i_if, i_icmp, i_goto, swG, i_sw, i_getf, i_puti, i_putz, i_putr, i_ald, i_lald, i_aald, i_ast, i_last, i_aast, i_alen, i_new, i_newi, i_newl, i_newq, i_oinit, i_ret, i_zret, i_lret, i_vret, catS, tk, rpush, isO, i_m1, i_m2, i_acopy, i_callV, i_callS, KRet, lget, lput, lputL, lcl0, isL, lv0, List.map_cons, List.map_nil, List.length_cons, List.length_nil, List.cons_append, List.nil_append, Nat.reduceAdd, Nat.reduceSub, Nat.reduceLeDiff, List.replicate_succ, List.replicate_zero, List.getElem?_cons_succ, List.getElem?_cons_zero, List.set_cons_succ, List.set_cons_zero, true_and, and_true, if_true, if_false, ↓reduceIte, Nat.le_refl, Value.category, va_up_app, eq_self, stp, Nat.reduceBEq, Bool.or_false, Bool.false_or, Bool.true_or, Bool.or_true, or_true, true_or, bx_uu, implies_true, true_implies, not_true, not_false_eq_true, false_implies, and_self, Nat.reduceLT, Int32.reduceAdd, Int32.reduceSub, Int32.reduceMul, Int32.reduceLE, Int32.reduceLT, Int32.reduceToNatClampNeg, va_rf_some, Bool.false_eq_true, k_X8_lays_0 ca, k_X8_lays_1 ca, k_X8_lays_2 ca, k_X8_lays_5 ca, k_X8_lays_6 ca, k_X8_lays_8 ca, k_X8_lays_9 ca, k_X8_lays_11 ca, k_X8_lays_12 ca, k_X8_lays_14 ca, k_X8_lays_16 ca, k_X8_lays_17 ca, k_X8_lays_20 ca, k_X8_lays_21 ca, k_X8_lays_23 ca, k_X8_lays_24 ca, k_X8_lays_25 ca, k_X8_lays_27 ca, k_X8_lays_28 ca, k_X8_lays_29 ca, k_X8_lays_30 ca, k_X8_lays_32 ca, k_X8_lays_34 ca, k_X8_lays_37 ca, k_X8_lays_38 ca, k_X8_lays_40 ca, k_X8_lays_41 ca, k_X8_lays_43 ca, k_X8_lays_46 ca, k_X8_lays_47 ca, k_X8_lays_50 ca, k_X8_lays_53 ca, k_X8_lays_56 ca, k_X8_lays_59 ca, k_X8_lays_60 ca, k_X8_lays_63 ca, k_X8_lays_64 ca, k_X8_lays_66 ca, k_X8_lays_67 ca, k_X8_lays_69 ca, k_X8_lays_72 ca, k_X8_lays_73 ca, k_X8_lays_74 ca, k_X8_lays_77 ca, k_X8_lays_78 ca, k_X8_lays_80 ca, k_X8_lays_81 ca, k_X8_lays_82 ca, k_X8_lays_83 ca, k_X8_lays_85 ca, k_X8_lays_87 ca, k_X8_lays_88 ca, k_X8_lays_90 ca, k_X8_lays_91 ca, k_X8_lays_92 ca, k_X8_lays_93 ca, k_X8_lays_96 ca, k_X8_lays_97 ca, k_X8_lays_99 ca, k_X8_lays_100 ca, k_X8_lays_101 ca, k_X8_lays_102 ca, k_X8_lays_104 ca, k_X8_lays_106 ca, k_X8_lays_107 ca, k_X8_lays_108 ca, k_X8_lays_110 ca, k_X8_lays_112 ca, k_X8_lays_115 ca, k_X8_lays_116 ca, k_X8_lays_118 ca, k_X8_lays_120 ca, k_X8_lays_121 ca, k_X8_lays_123 ca, k_X8_lays_126 ca, k_X8_lays_127 ca, k_X8_lays_129 ca, k_X8_lays_132 ca, k_X8_lays_135 ca, a_1]
          try clear hF hF0 F
          exact k0
      have k0 := inner (kk n) 0 (by omega)
      rw [nI_0] at k0
      refine goN go (stp [23]) 160 _ _ _ _ _ _ (fun F hF hF0 => ?_)
      simp only [hF, hF0, ite_not, i_push, i_iload, i_lload, i_aload, i_istore, i_astore, i_lstore, i_iinc, i_bin, i_dv, i_un, i_lbin, i_lsh, i_i2l, i_l2i, i_lcmp, i_dup, i_dup2, i_pop, i_if, i_icmp, i_goto, swG, i_sw, i_getf, i_puti, i_putz, i_putr, i_ald, i_lald, i_aald, i_ast, i_last, i_aast, i_alen, i_new, i_newi, i_newl, i_newq, i_oinit, i_ret, i_zret, i_lret, i_vret, catS, tk, rpush, isO, i_m1, i_m2, i_acopy, i_callV, i_callS, KRet, lget, lput, lputL, lcl0, isL, lv0, List.map_cons, List.map_nil, List.length_cons, List.length_nil, List.cons_append, List.nil_append, Nat.reduceAdd, Nat.reduceSub, Nat.reduceLeDiff, List.replicate_succ, List.replicate_zero, List.getElem?_cons_succ, List.getElem?_cons_zero, List.set_cons_succ, List.set_cons_zero, true_and, and_true, if_true, if_false, ↓reduceIte, Nat.le_refl, Value.category, va_up_app, eq_self, stp, Nat.reduceBEq, Bool.or_false, Bool.false_or, Bool.true_or, Bool.or_true, or_true, true_or, bx_uu, implies_true, true_implies, not_true, not_false_eq_true, false_implies, and_self, Nat.reduceLT, Int32.reduceAdd, Int32.reduceSub, Int32.reduceMul, Int32.reduceLE, Int32.reduceLT, Int32.reduceToNatClampNeg, va_rf_some, Bool.false_eq_true, k_X8_lays_0 ca, k_X8_lays_1 ca, k_X8_lays_2 ca, k_X8_lays_5 ca, k_X8_lays_6 ca, k_X8_lays_8 ca, k_X8_lays_9 ca, k_X8_lays_11 ca, k_X8_lays_12 ca, k_X8_lays_14 ca, k_X8_lays_16 ca, k_X8_lays_17 ca, k_X8_lays_20 ca, k_X8_lays_21 ca, k_X8_lays_23 ca, k_X8_lays_24 ca, k_X8_lays_25 ca, k_X8_lays_27 ca, k_X8_lays_28 ca, k_X8_lays_29 ca, k_X8_lays_30 ca, k_X8_lays_32 ca, k_X8_lays_34 ca, k_X8_lays_37 ca, k_X8_lays_38 ca, k_X8_lays_40 ca, k_X8_lays_41 ca, k_X8_lays_43 ca, k_X8_lays_46 ca, k_X8_lays_47 ca, k_X8_lays_50 ca, k_X8_lays_53 ca, k_X8_lays_56 ca, k_X8_lays_59 ca, k_X8_lays_60 ca, k_X8_lays_63 ca, k_X8_lays_64 ca, k_X8_lays_66 ca, k_X8_lays_67 ca, k_X8_lays_69 ca, k_X8_lays_72 ca, k_X8_lays_73 ca, k_X8_lays_74 ca, k_X8_lays_77 ca, k_X8_lays_78 ca, k_X8_lays_80 ca, k_X8_lays_81 ca, k_X8_lays_82 ca, k_X8_lays_83 ca, k_X8_lays_85 ca, k_X8_lays_87 ca, k_X8_lays_88 ca, k_X8_lays_90 ca, k_X8_lays_91 ca, k_X8_lays_92 ca, k_X8_lays_93 ca, k_X8_lays_96 ca, k_X8_lays_97 ca, k_X8_lays_99 ca, k_X8_lays_100 ca, k_X8_lays_101 ca, k_X8_lays_102 ca, k_X8_lays_104 ca, k_X8_lays_106 ca, k_X8_lays_107 ca, k_X8_lays_108 ca, k_X8_lays_110 ca, k_X8_lays_112 ca, k_X8_lays_115 ca, k_X8_lays_116 ca, k_X8_lays_118 ca, k_X8_lays_120 ca, k_X8_lays_121 ca, k_X8_lays_123 ca, k_X8_lays_126 ca, k_X8_lays_127 ca, k_X8_lays_129 ca, k_X8_lays_132 ca, k_X8_lays_135 ca, g1]
      try clear hF hF0 F
      exact k0
  have k0 := key P 0 fo none (by omega) (fun i hi => absurd hi (by omega))
  rw [up_id h91, hL0, hR0, nI_0] at k0
  exact k0
