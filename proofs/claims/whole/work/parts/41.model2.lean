/-! SnapStacksModel: sums, begins and returns -/
def MS (ca : Nat → ClassId) (h : PH) (m a0 : Nat) (s : Nat → Int32) : Prop := (∃ r, h m = some (.inr (8, .ref a0 :: r))) ∧ h a0 = some (.inl (ca 0, 127, .inl s))
theorem s10 {k : Nat} : (10 : Int32) + 32 * nI k = nI (10 + 32 * k) := by rw [show (10 : Int32) = nI 10 from rfl, show (32 : Int32) = nI 32 from rfl, pk_mul, nI_add]
theorem s106 {k : Nat} : (106 : Int32) + 7 * nI k = nI (106 + 7 * k) := by rw [show (106 : Int32) = nI 106 from rfl, show (7 : Int32) = nI 7 from rfl, pk_mul, nI_add]
theorem a_0 {k : Nat} : nI k + 0 = nI k := nI_add k 0
theorem a_1 {k : Nat} : nI k + 1 = nI (k + 1) := nI_add k 1
theorem a_2 {k : Nat} : nI k + 2 = nI (k + 2) := nI_add k 2
theorem a_3 {k : Nat} : nI k + 3 = nI (k + 3) := nI_add k 3
theorem a_4 {k : Nat} : nI k + 4 = nI (k + 4) := nI_add k 4
theorem a_7 {k : Nat} : nI k + 7 = nI (k + 7) := nI_add k 7
theorem a_8 {k : Nat} : nI k + 8 = nI (k + 8) := nI_add k 8
theorem m_3 {k : Nat} : 3 * nI k = nI (3 * k) := by rw [show (3 : Int32) = nI 3 from rfl, pk_mul]
def rangT (s : Nat → Int32) (o : Nat) : Prop := WfT s o ∧ o + 32 ≤ 127
def sp_X8_bendOfStrip (ca : Nat → ClassId) : SPEC := fun av h post => ∃ m a0 s k, k < 3 ∧ av = [.ref m, .int (nI k)] ∧ MS ca h m a0 s ∧ WfT s (10 + 32 * k) ∧ post (some (.int (rt s (10 + 32 * k)))) h
theorem vp127 {e : Nat} (h : e < 127) : vp_in (nI e) 127 := vp_in_nI h (by decide)
theorem tn127 {e : Nat} (h : e < 127) : (nI e).toNatClampNeg = e := nI_clamp (by omega)
theorem vp_wide {x : Int32} (h : vp_in x 6) : vp_in x 127 := fun z => h (z.elim Or.inl (fun z => Or.inr (by omega)))
def k_X8_bendOfStrip (ca : Nat → ClassId) : Nat → IT := fun pc => lk pc [(0, i_push (.int 0) 1),
  (1, i_istore 2 2),
  (2, i_push (.int 0) 3),
  (3, i_istore 3 4),
  (4, i_iload 3 5),
  (5, i_aload 0 6),
  (6, i_iload 1 7),
  (7, i_callV 8 1 0 0 0 0 (sp_X8_many ca) 10),
  (10, i_icmp (fun x y => y ≤ x) 28 13),
  (13, i_iload 2 14),
  (14, i_aload 0 15),
  (15, i_iload 1 16),
  (16, i_iload 3 17),
  (17, i_callV 8 2 0 0 0 0 (sp_X8_bendOfPart ca) 20),
  (20, i_bin (fun x y => x + y) 21),
  (21, i_istore 2 22),
  (22, i_iinc 3 1 25),
  (25, i_goto 4),
  (28, i_iload 2 29),
  (29, i_ret)]
set_option maxRecDepth 20000 in
theorem t_X8_bendOfStrip : Tb k_X8_bendOfStrip yX8_bendOfStrip cX8_bendOfStrip 4 (some .int) 3 0 0 := by
  intro l D ca A p e s m args below meth c post X
  unfold k_X8_bendOfStrip
  refine snd_cons (snd_iconst X dX8_bendOfStrip_0 (by decide)) ?_
  refine snd_cons (snd_istore_n X dX8_bendOfStrip_1 rfl (by decide)) ?_
  refine snd_cons (snd_iconst X dX8_bendOfStrip_2 (by decide)) ?_
  refine snd_cons (snd_istore_n X dX8_bendOfStrip_3 rfl (by decide)) ?_
  refine snd_cons (snd_iload_n X dX8_bendOfStrip_4 rfl) ?_
  refine snd_cons (snd_aload_n X dX8_bendOfStrip_5 rfl) ?_
  refine snd_cons (snd_iload_n X dX8_bendOfStrip_6 rfl) ?_
  refine snd_cons (snd_callV X Fk8 (ok_X8_many l D ca) rfl rfl w_732 w_734 wp_21 w_9 w_735 (by decide) (by decide) dX8_bendOfStrip_7) ?_
  refine snd_cons (snd_icmp_ge X dX8_bendOfStrip_10 (by decide)) ?_
  refine snd_cons (snd_iload_n X dX8_bendOfStrip_13 rfl) ?_
  refine snd_cons (snd_aload_n X dX8_bendOfStrip_14 rfl) ?_
  refine snd_cons (snd_iload_n X dX8_bendOfStrip_15 rfl) ?_
  refine snd_cons (snd_iload_n X dX8_bendOfStrip_16 rfl) ?_
  refine snd_cons (snd_callV X Fk8 (ok_X8_bendOfPart l D ca) rfl rfl w_766 w_768 wp_26 w_9 w_769 (by decide) (by decide) dX8_bendOfStrip_17) ?_
  refine snd_cons (snd_iadd X dX8_bendOfStrip_20) ?_
  refine snd_cons (snd_istore_n X dX8_bendOfStrip_21 rfl (by decide)) ?_
  refine snd_cons (snd_iinc X dX8_bendOfStrip_22 (by decide) (by decide)) ?_
  refine snd_cons (snd_goto X dX8_bendOfStrip_25 (by decide)) ?_
  refine snd_cons (snd_iload_n X dX8_bendOfStrip_28 rfl) ?_
  refine snd_cons (snd_ret X dX8_bendOfStrip_29) ?_
  exact snd_nil
theorem k_X8_bendOfStrip_0 (ca : Nat → ClassId) : k_X8_bendOfStrip ca 0 = i_push (.int 0) 1 := rfl
theorem k_X8_bendOfStrip_1 (ca : Nat → ClassId) : k_X8_bendOfStrip ca 1 = i_istore 2 2 := rfl
theorem k_X8_bendOfStrip_2 (ca : Nat → ClassId) : k_X8_bendOfStrip ca 2 = i_push (.int 0) 3 := rfl
theorem k_X8_bendOfStrip_3 (ca : Nat → ClassId) : k_X8_bendOfStrip ca 3 = i_istore 3 4 := rfl
theorem k_X8_bendOfStrip_4 (ca : Nat → ClassId) : k_X8_bendOfStrip ca 4 = i_iload 3 5 := rfl
theorem k_X8_bendOfStrip_5 (ca : Nat → ClassId) : k_X8_bendOfStrip ca 5 = i_aload 0 6 := rfl
theorem k_X8_bendOfStrip_6 (ca : Nat → ClassId) : k_X8_bendOfStrip ca 6 = i_iload 1 7 := rfl
theorem k_X8_bendOfStrip_7 (ca : Nat → ClassId) : k_X8_bendOfStrip ca 7 = i_callV 8 1 0 0 0 0 (sp_X8_many ca) 10 := rfl
theorem k_X8_bendOfStrip_10 (ca : Nat → ClassId) : k_X8_bendOfStrip ca 10 = i_icmp (fun x y => y ≤ x) 28 13 := rfl
theorem k_X8_bendOfStrip_13 (ca : Nat → ClassId) : k_X8_bendOfStrip ca 13 = i_iload 2 14 := rfl
theorem k_X8_bendOfStrip_14 (ca : Nat → ClassId) : k_X8_bendOfStrip ca 14 = i_aload 0 15 := rfl
theorem k_X8_bendOfStrip_15 (ca : Nat → ClassId) : k_X8_bendOfStrip ca 15 = i_iload 1 16 := rfl
theorem k_X8_bendOfStrip_16 (ca : Nat → ClassId) : k_X8_bendOfStrip ca 16 = i_iload 3 17 := rfl
theorem k_X8_bendOfStrip_17 (ca : Nat → ClassId) : k_X8_bendOfStrip ca 17 = i_callV 8 2 0 0 0 0 (sp_X8_bendOfPart ca) 20 := rfl
theorem k_X8_bendOfStrip_20 (ca : Nat → ClassId) : k_X8_bendOfStrip ca 20 = i_bin (fun x y => x + y) 21 := rfl
theorem k_X8_bendOfStrip_21 (ca : Nat → ClassId) : k_X8_bendOfStrip ca 21 = i_istore 2 22 := rfl
theorem k_X8_bendOfStrip_22 (ca : Nat → ClassId) : k_X8_bendOfStrip ca 22 = i_iinc 3 1 25 := rfl
theorem k_X8_bendOfStrip_25 (ca : Nat → ClassId) : k_X8_bendOfStrip ca 25 = i_goto 4 := rfl
theorem k_X8_bendOfStrip_28 (ca : Nat → ClassId) : k_X8_bendOfStrip ca 28 = i_iload 2 29 := rfl
theorem k_X8_bendOfStrip_29 (ca : Nat → ClassId) : k_X8_bendOfStrip ca 29 = i_ret := rfl
set_option maxHeartbeats 4000000 in
set_option maxRecDepth 20000 in
theorem ok_X8_bendOfStrip (l : Launch) (D : va_G) (ca : Nat → ClassId) : OkAll l D ca yX8_bendOfStrip cX8_bendOfStrip 4 (some .int) 3 0 0 (sp_X8_bendOfStrip ca) := by
  intro av h post hs
  obtain ⟨m, a0, s, k, hk, rfl, ⟨⟨r, hm⟩, hs0⟩, ⟨w1, w2, w3⟩, hs⟩ := hs
  obtain ⟨N, hN, e1, e2⟩ := tnI w1
  have z0 : vp_in (nI (10 + 32 * k)) 127 := vp127 (by omega)
  have z1 : (nI (10 + 32 * k)).toNatClampNeg = 10 + 32 * k := tn127 (by omega)
  rw [e2] at w2 w3
  refine okM_of t_X8_bendOfStrip (by decide +kernel) (c1_ref (c1_int c1_nil)) (Nat.le_of_ble_eq_true rfl) ?_
  intro K go
  have key : ∀ r i, i + r = N → K 0 0 4 [some (.ref m), some (.int (nI k)), some (.int (rateF (fun i => s (10 + 32 * k + (8 + 3 * i))) (fun i => s (10 + 32 * k + (9 + 3 * i))) (fun i => s (10 + 32 * k + (10 + 3 * i))) s i)), some (.int (nI i))] [] h := by
    intro r
    induction r with
    | zero =>
      intro i hi
      have hi : i = N := hi
      subst hi
      refine go (stp [4]) 12 _ _ _ _ _ _ ?_
      simp only [wpS, ite_not, i_push, i_iload, i_lload, i_aload, i_istore, i_astore, i_lstore, i_iinc, i_bin, i_dv, i_un, i_lbin, i_lsh, i_i2l, i_l2i, i_lcmp, i_dup, i_dup2, i_pop, i_if, i_icmp, i_goto, swG, i_sw, i_getf, i_puti, i_putz, i_putr, i_ald, i_lald, i_aald, i_ast, i_last, i_aast, i_alen, i_new, i_newi, i_newl, i_newq, i_oinit, i_ret, i_zret, i_lret, i_vret, catS, tk, rpush, isO, i_m1, i_m2, i_acopy, i_callV, i_callS, KRet, lget, lput, lputL, lcl0, isL, lv0, List.map_cons, List.map_nil, List.length_cons, List.length_nil, List.cons_append, List.nil_append, Nat.reduceAdd, Nat.reduceSub, Nat.reduceLeDiff, List.replicate_succ, List.replicate_zero, List.getElem?_cons_succ, List.getElem?_cons_zero, List.set_cons_succ, List.set_cons_zero, true_and, and_true, if_true, if_false, reduceIte, Nat.le_refl, Value.category, va_up_app, eq_self, stp, Nat.reduceBEq, Bool.or_false, Bool.false_or, Bool.true_or, Bool.or_true, or_true, true_or, bx_uu, implies_true, true_implies, not_true, not_false_eq_true, false_implies, and_self, Nat.reduceLT, Int32.reduceAdd, Int32.reduceSub, Int32.reduceMul, Int32.reduceLE, Int32.reduceLT, Int32.reduceToNatClampNeg, va_rf_some, Bool.false_eq_true, k_X8_bendOfStrip_0 ca, k_X8_bendOfStrip_1 ca, k_X8_bendOfStrip_2 ca, k_X8_bendOfStrip_3 ca, k_X8_bendOfStrip_4 ca, k_X8_bendOfStrip_5 ca, k_X8_bendOfStrip_6 ca, k_X8_bendOfStrip_7 ca, k_X8_bendOfStrip_10 ca, k_X8_bendOfStrip_13 ca, k_X8_bendOfStrip_14 ca, k_X8_bendOfStrip_15 ca, k_X8_bendOfStrip_16 ca, k_X8_bendOfStrip_17 ca, k_X8_bendOfStrip_20 ca, k_X8_bendOfStrip_21 ca, k_X8_bendOfStrip_22 ca, k_X8_bendOfStrip_25 ca, k_X8_bendOfStrip_28 ca, k_X8_bendOfStrip_29 ca, hm, hs0, sp_X8_many, s10, a_0, z0, z1, e1, Int32.le_refl]
      unfold rt at hs
      rw [e2] at hs
      exact hs
    | succ r ih =>
      intro i hi
      have g1 : ¬ nI N ≤ nI i := nI_ge (by omega) hN
      have i1 : 10 + 32 * k + 8 + 3 * i = 10 + 32 * k + (8 + 3 * i) := by omega
      have i2 : 10 + 32 * k + (8 + 3 * i) + 1 = 10 + 32 * k + (9 + 3 * i) := by omega
      have i3 : 10 + 32 * k + (8 + 3 * i) + 2 = 10 + 32 * k + (10 + 3 * i) := by omega
      have y1 : vp_in (nI (10 + 32 * k + (8 + 3 * i))) 127 := vp127 (by omega)
      have y2 : vp_in (nI (10 + 32 * k + (9 + 3 * i))) 127 := vp127 (by omega)
      have y3 : vp_in (nI (10 + 32 * k + (10 + 3 * i))) 127 := vp127 (by omega)
      have x1 : (nI (10 + 32 * k + (8 + 3 * i))).toNatClampNeg = 10 + 32 * k + (8 + 3 * i) := tn127 (by omega)
      have x2 : (nI (10 + 32 * k + (9 + 3 * i))).toNatClampNeg = 10 + 32 * k + (9 + 3 * i) := tn127 (by omega)
      have x3 : (nI (10 + 32 * k + (10 + 3 * i))).toNatClampNeg = 10 + 32 * k + (10 + 3 * i) := tn127 (by omega)
      have u1 := vp_wide (w3 i (by omega)).1
      have u2 := vp_wide (w3 i (by omega)).2
      refine go (stp [4]) 18 _ _ _ _ _ _ ?_
      simp only [wpS, ite_not, i_push, i_iload, i_lload, i_aload, i_istore, i_astore, i_lstore, i_iinc, i_bin, i_dv, i_un, i_lbin, i_lsh, i_i2l, i_l2i, i_lcmp, i_dup, i_dup2, i_pop, i_if, i_icmp, i_goto, swG, i_sw, i_getf, i_puti, i_putz, i_putr, i_ald, i_lald, i_aald, i_ast, i_last, i_aast, i_alen, i_new, i_newi, i_newl, i_newq, i_oinit, i_ret, i_zret, i_lret, i_vret, catS, tk, rpush, isO, i_m1, i_m2, i_acopy, i_callV, i_callS, KRet, lget, lput, lputL, lcl0, isL, lv0, List.map_cons, List.map_nil, List.length_cons, List.length_nil, List.cons_append, List.nil_append, Nat.reduceAdd, Nat.reduceSub, Nat.reduceLeDiff, List.replicate_succ, List.replicate_zero, List.getElem?_cons_succ, List.getElem?_cons_zero, List.set_cons_succ, List.set_cons_zero, true_and, and_true, if_true, if_false, reduceIte, Nat.le_refl, Value.category, va_up_app, eq_self, stp, Nat.reduceBEq, Bool.or_false, Bool.false_or, Bool.true_or, Bool.or_true, or_true, true_or, bx_uu, implies_true, true_implies, not_true, not_false_eq_true, false_implies, and_self, Nat.reduceLT, Int32.reduceAdd, Int32.reduceSub, Int32.reduceMul, Int32.reduceLE, Int32.reduceLT, Int32.reduceToNatClampNeg, va_rf_some, Bool.false_eq_true, k_X8_bendOfStrip_0 ca, k_X8_bendOfStrip_1 ca, k_X8_bendOfStrip_2 ca, k_X8_bendOfStrip_3 ca, k_X8_bendOfStrip_4 ca, k_X8_bendOfStrip_5 ca, k_X8_bendOfStrip_6 ca, k_X8_bendOfStrip_7 ca, k_X8_bendOfStrip_10 ca, k_X8_bendOfStrip_13 ca, k_X8_bendOfStrip_14 ca, k_X8_bendOfStrip_15 ca, k_X8_bendOfStrip_16 ca, k_X8_bendOfStrip_17 ca, k_X8_bendOfStrip_20 ca, k_X8_bendOfStrip_21 ca, k_X8_bendOfStrip_22 ca, k_X8_bendOfStrip_25 ca, k_X8_bendOfStrip_28 ca, k_X8_bendOfStrip_29 ca, hm, hs0, sp_X8_many, sp_X8_bendOfPart, s10, a_0, a_1, a_2, a_8, m_3, nI_add, z0, z1, e1, g1, i1, i2, i3, y1, y2, y3, x1, x2, x3, u1, u2, Int32.zero_add]
      exact ih (i + 1) (by omega)
  refine go (stp [4]) 6 _ _ _ _ _ _ ?_
  simp only [wpS, ite_not, i_push, i_iload, i_lload, i_aload, i_istore, i_astore, i_lstore, i_iinc, i_bin, i_dv, i_un, i_lbin, i_lsh, i_i2l, i_l2i, i_lcmp, i_dup, i_dup2, i_pop, i_if, i_icmp, i_goto, swG, i_sw, i_getf, i_puti, i_putz, i_putr, i_ald, i_lald, i_aald, i_ast, i_last, i_aast, i_alen, i_new, i_newi, i_newl, i_newq, i_oinit, i_ret, i_zret, i_lret, i_vret, catS, tk, rpush, isO, i_m1, i_m2, i_acopy, i_callV, i_callS, KRet, lget, lput, lputL, lcl0, isL, lv0, List.map_cons, List.map_nil, List.length_cons, List.length_nil, List.cons_append, List.nil_append, Nat.reduceAdd, Nat.reduceSub, Nat.reduceLeDiff, List.replicate_succ, List.replicate_zero, List.getElem?_cons_succ, List.getElem?_cons_zero, List.set_cons_succ, List.set_cons_zero, true_and, and_true, if_true, if_false, reduceIte, Nat.le_refl, Value.category, va_up_app, eq_self, stp, Nat.reduceBEq, Bool.or_false, Bool.false_or, Bool.true_or, Bool.or_true, or_true, true_or, bx_uu, implies_true, true_implies, not_true, not_false_eq_true, false_implies, and_self, Nat.reduceLT, Int32.reduceAdd, Int32.reduceSub, Int32.reduceMul, Int32.reduceLE, Int32.reduceLT, Int32.reduceToNatClampNeg, va_rf_some, Bool.false_eq_true, k_X8_bendOfStrip_0 ca, k_X8_bendOfStrip_1 ca, k_X8_bendOfStrip_2 ca, k_X8_bendOfStrip_3 ca, k_X8_bendOfStrip_4 ca, k_X8_bendOfStrip_5 ca, k_X8_bendOfStrip_6 ca, k_X8_bendOfStrip_7 ca, k_X8_bendOfStrip_10 ca, k_X8_bendOfStrip_13 ca, k_X8_bendOfStrip_14 ca, k_X8_bendOfStrip_15 ca, k_X8_bendOfStrip_16 ca, k_X8_bendOfStrip_17 ca, k_X8_bendOfStrip_20 ca, k_X8_bendOfStrip_21 ca, k_X8_bendOfStrip_22 ca, k_X8_bendOfStrip_25 ca, k_X8_bendOfStrip_28 ca, k_X8_bendOfStrip_29 ca]
  exact key N 0 (by omega)
def sp_X8_lengthOfStrip (ca : Nat → ClassId) : SPEC := fun av h post => ∃ m a0 s k, k < 3 ∧ av = [.ref m, .int (nI k)] ∧ MS ca h m a0 s ∧ WfT s (10 + 32 * k) ∧ post (some (.int (sumF (fun i => s (10 + 32 * k + (8 + 3 * i))) (s (10 + 32 * k)).toNatClampNeg))) h
def k_X8_lengthOfStrip (ca : Nat → ClassId) : Nat → IT := fun pc => lk pc [(0, i_push (.int 0) 1),
  (1, i_istore 2 2),
  (2, i_push (.int 0) 3),
  (3, i_istore 3 4),
  (4, i_iload 3 5),
  (5, i_aload 0 6),
  (6, i_iload 1 7),
  (7, i_callV 8 1 0 0 0 0 (sp_X8_many ca) 10),
  (10, i_icmp (fun x y => y ≤ x) 29 13),
  (13, i_iload 2 14),
  (14, i_aload 0 15),
  (15, i_iload 1 16),
  (16, i_iload 3 17),
  (17, i_push (.int 0) 18),
  (18, i_callV 8 3 0 0 0 0 (sp_X8_partOfStrip ca) 21),
  (21, i_bin (fun x y => x + y) 22),
  (22, i_istore 2 23),
  (23, i_iinc 3 1 26),
  (26, i_goto 4),
  (29, i_iload 2 30),
  (30, i_ret)]
set_option maxRecDepth 20000 in
theorem t_X8_lengthOfStrip : Tb k_X8_lengthOfStrip yX8_lengthOfStrip cX8_lengthOfStrip 4 (some .int) 2 0 0 := by
  intro l D ca A p e s m args below meth c post X
  unfold k_X8_lengthOfStrip
  refine snd_cons (snd_iconst X dX8_lengthOfStrip_0 (by decide)) ?_
  refine snd_cons (snd_istore_n X dX8_lengthOfStrip_1 rfl (by decide)) ?_
  refine snd_cons (snd_iconst X dX8_lengthOfStrip_2 (by decide)) ?_
  refine snd_cons (snd_istore_n X dX8_lengthOfStrip_3 rfl (by decide)) ?_
  refine snd_cons (snd_iload_n X dX8_lengthOfStrip_4 rfl) ?_
  refine snd_cons (snd_aload_n X dX8_lengthOfStrip_5 rfl) ?_
  refine snd_cons (snd_iload_n X dX8_lengthOfStrip_6 rfl) ?_
  refine snd_cons (snd_callV X Fk8 (ok_X8_many l D ca) rfl rfl w_732 w_734 wp_21 w_9 w_735 (by decide) (by decide) dX8_lengthOfStrip_7) ?_
  refine snd_cons (snd_icmp_ge X dX8_lengthOfStrip_10 (by decide)) ?_
  refine snd_cons (snd_iload_n X dX8_lengthOfStrip_13 rfl) ?_
  refine snd_cons (snd_aload_n X dX8_lengthOfStrip_14 rfl) ?_
  refine snd_cons (snd_iload_n X dX8_lengthOfStrip_15 rfl) ?_
  refine snd_cons (snd_iload_n X dX8_lengthOfStrip_16 rfl) ?_
  refine snd_cons (snd_iconst X dX8_lengthOfStrip_17 (by decide)) ?_
  refine snd_cons (snd_callV X Fk8 (ok_X8_partOfStrip l D ca) rfl rfl w_770 w_772 wp_27 w_9 w_773 (by decide) (by decide) dX8_lengthOfStrip_18) ?_
  refine snd_cons (snd_iadd X dX8_lengthOfStrip_21) ?_
  refine snd_cons (snd_istore_n X dX8_lengthOfStrip_22 rfl (by decide)) ?_
  refine snd_cons (snd_iinc X dX8_lengthOfStrip_23 (by decide) (by decide)) ?_
  refine snd_cons (snd_goto X dX8_lengthOfStrip_26 (by decide)) ?_
  refine snd_cons (snd_iload_n X dX8_lengthOfStrip_29 rfl) ?_
  refine snd_cons (snd_ret X dX8_lengthOfStrip_30) ?_
  exact snd_nil
theorem k_X8_lengthOfStrip_0 (ca : Nat → ClassId) : k_X8_lengthOfStrip ca 0 = i_push (.int 0) 1 := rfl
theorem k_X8_lengthOfStrip_1 (ca : Nat → ClassId) : k_X8_lengthOfStrip ca 1 = i_istore 2 2 := rfl
theorem k_X8_lengthOfStrip_2 (ca : Nat → ClassId) : k_X8_lengthOfStrip ca 2 = i_push (.int 0) 3 := rfl
theorem k_X8_lengthOfStrip_3 (ca : Nat → ClassId) : k_X8_lengthOfStrip ca 3 = i_istore 3 4 := rfl
theorem k_X8_lengthOfStrip_4 (ca : Nat → ClassId) : k_X8_lengthOfStrip ca 4 = i_iload 3 5 := rfl
theorem k_X8_lengthOfStrip_5 (ca : Nat → ClassId) : k_X8_lengthOfStrip ca 5 = i_aload 0 6 := rfl
theorem k_X8_lengthOfStrip_6 (ca : Nat → ClassId) : k_X8_lengthOfStrip ca 6 = i_iload 1 7 := rfl
theorem k_X8_lengthOfStrip_7 (ca : Nat → ClassId) : k_X8_lengthOfStrip ca 7 = i_callV 8 1 0 0 0 0 (sp_X8_many ca) 10 := rfl
theorem k_X8_lengthOfStrip_10 (ca : Nat → ClassId) : k_X8_lengthOfStrip ca 10 = i_icmp (fun x y => y ≤ x) 29 13 := rfl
theorem k_X8_lengthOfStrip_13 (ca : Nat → ClassId) : k_X8_lengthOfStrip ca 13 = i_iload 2 14 := rfl
theorem k_X8_lengthOfStrip_14 (ca : Nat → ClassId) : k_X8_lengthOfStrip ca 14 = i_aload 0 15 := rfl
theorem k_X8_lengthOfStrip_15 (ca : Nat → ClassId) : k_X8_lengthOfStrip ca 15 = i_iload 1 16 := rfl
theorem k_X8_lengthOfStrip_16 (ca : Nat → ClassId) : k_X8_lengthOfStrip ca 16 = i_iload 3 17 := rfl
theorem k_X8_lengthOfStrip_17 (ca : Nat → ClassId) : k_X8_lengthOfStrip ca 17 = i_push (.int 0) 18 := rfl
theorem k_X8_lengthOfStrip_18 (ca : Nat → ClassId) : k_X8_lengthOfStrip ca 18 = i_callV 8 3 0 0 0 0 (sp_X8_partOfStrip ca) 21 := rfl
theorem k_X8_lengthOfStrip_21 (ca : Nat → ClassId) : k_X8_lengthOfStrip ca 21 = i_bin (fun x y => x + y) 22 := rfl
theorem k_X8_lengthOfStrip_22 (ca : Nat → ClassId) : k_X8_lengthOfStrip ca 22 = i_istore 2 23 := rfl
theorem k_X8_lengthOfStrip_23 (ca : Nat → ClassId) : k_X8_lengthOfStrip ca 23 = i_iinc 3 1 26 := rfl
theorem k_X8_lengthOfStrip_26 (ca : Nat → ClassId) : k_X8_lengthOfStrip ca 26 = i_goto 4 := rfl
theorem k_X8_lengthOfStrip_29 (ca : Nat → ClassId) : k_X8_lengthOfStrip ca 29 = i_iload 2 30 := rfl
theorem k_X8_lengthOfStrip_30 (ca : Nat → ClassId) : k_X8_lengthOfStrip ca 30 = i_ret := rfl
set_option maxHeartbeats 4000000 in
set_option maxRecDepth 20000 in
theorem ok_X8_lengthOfStrip (l : Launch) (D : va_G) (ca : Nat → ClassId) : OkAll l D ca yX8_lengthOfStrip cX8_lengthOfStrip 4 (some .int) 2 0 0 (sp_X8_lengthOfStrip ca) := by
  intro av h post hs
  obtain ⟨m, a0, s, k, hk, rfl, ⟨⟨r, hm⟩, hs0⟩, ⟨w1, w2, w3⟩, hs⟩ := hs
  obtain ⟨N, hN, e1, e2⟩ := tnI w1
  have z0 : vp_in (nI (10 + 32 * k)) 127 := vp127 (by omega)
  have z1 : (nI (10 + 32 * k)).toNatClampNeg = 10 + 32 * k := tn127 (by omega)
  rw [e2] at w2 hs
  refine okM_of t_X8_lengthOfStrip (by decide +kernel) (c1_ref (c1_int c1_nil)) (Nat.le_of_ble_eq_true rfl) ?_
  intro K go
  have key : ∀ r i, i + r = N → K 0 0 4 [some (.ref m), some (.int (nI k)), some (.int (sumF (fun i => s (10 + 32 * k + (8 + 3 * i))) i)), some (.int (nI i))] [] h := by
    intro r
    induction r with
    | zero =>
      intro i hi
      have hi : i = N := hi
      subst hi
      refine go (stp [4]) 12 _ _ _ _ _ _ ?_
      simp only [wpS, ite_not, i_push, i_iload, i_lload, i_aload, i_istore, i_astore, i_lstore, i_iinc, i_bin, i_dv, i_un, i_lbin, i_lsh, i_i2l, i_l2i, i_lcmp, i_dup, i_dup2, i_pop, i_if, i_icmp, i_goto, swG, i_sw, i_getf, i_puti, i_putz, i_putr, i_ald, i_lald, i_aald, i_ast, i_last, i_aast, i_alen, i_new, i_newi, i_newl, i_newq, i_oinit, i_ret, i_zret, i_lret, i_vret, catS, tk, rpush, isO, i_m1, i_m2, i_acopy, i_callV, i_callS, KRet, lget, lput, lputL, lcl0, isL, lv0, List.map_cons, List.map_nil, List.length_cons, List.length_nil, List.cons_append, List.nil_append, Nat.reduceAdd, Nat.reduceSub, Nat.reduceLeDiff, List.replicate_succ, List.replicate_zero, List.getElem?_cons_succ, List.getElem?_cons_zero, List.set_cons_succ, List.set_cons_zero, true_and, and_true, if_true, if_false, reduceIte, Nat.le_refl, Value.category, va_up_app, eq_self, stp, Nat.reduceBEq, Bool.or_false, Bool.false_or, Bool.true_or, Bool.or_true, or_true, true_or, bx_uu, implies_true, true_implies, not_true, not_false_eq_true, false_implies, and_self, Nat.reduceLT, Int32.reduceAdd, Int32.reduceSub, Int32.reduceMul, Int32.reduceLE, Int32.reduceLT, Int32.reduceToNatClampNeg, va_rf_some, Bool.false_eq_true, k_X8_lengthOfStrip_0 ca, k_X8_lengthOfStrip_1 ca, k_X8_lengthOfStrip_2 ca, k_X8_lengthOfStrip_3 ca, k_X8_lengthOfStrip_4 ca, k_X8_lengthOfStrip_5 ca, k_X8_lengthOfStrip_6 ca, k_X8_lengthOfStrip_7 ca, k_X8_lengthOfStrip_10 ca, k_X8_lengthOfStrip_13 ca, k_X8_lengthOfStrip_14 ca, k_X8_lengthOfStrip_15 ca, k_X8_lengthOfStrip_16 ca, k_X8_lengthOfStrip_17 ca, k_X8_lengthOfStrip_18 ca, k_X8_lengthOfStrip_21 ca, k_X8_lengthOfStrip_22 ca, k_X8_lengthOfStrip_23 ca, k_X8_lengthOfStrip_26 ca, k_X8_lengthOfStrip_29 ca, k_X8_lengthOfStrip_30 ca, hm, hs0, sp_X8_many, s10, a_0, z0, z1, e1, Int32.le_refl]
      exact hs
    | succ r ih =>
      intro i hi
      have g1 : ¬ nI N ≤ nI i := nI_ge (by omega) hN
      have i1 : 10 + 32 * k + 8 + 3 * i = 10 + 32 * k + (8 + 3 * i) := by omega
      have y1 : vp_in (nI (10 + 32 * k + (8 + 3 * i))) 127 := vp127 (by omega)
      have x1 : (nI (10 + 32 * k + (8 + 3 * i))).toNatClampNeg = 10 + 32 * k + (8 + 3 * i) := tn127 (by omega)
      refine go (stp [4]) 18 _ _ _ _ _ _ ?_
      simp only [wpS, ite_not, i_push, i_iload, i_lload, i_aload, i_istore, i_astore, i_lstore, i_iinc, i_bin, i_dv, i_un, i_lbin, i_lsh, i_i2l, i_l2i, i_lcmp, i_dup, i_dup2, i_pop, i_if, i_icmp, i_goto, swG, i_sw, i_getf, i_puti, i_putz, i_putr, i_ald, i_lald, i_aald, i_ast, i_last, i_aast, i_alen, i_new, i_newi, i_newl, i_newq, i_oinit, i_ret, i_zret, i_lret, i_vret, catS, tk, rpush, isO, i_m1, i_m2, i_acopy, i_callV, i_callS, KRet, lget, lput, lputL, lcl0, isL, lv0, List.map_cons, List.map_nil, List.length_cons, List.length_nil, List.cons_append, List.nil_append, Nat.reduceAdd, Nat.reduceSub, Nat.reduceLeDiff, List.replicate_succ, List.replicate_zero, List.getElem?_cons_succ, List.getElem?_cons_zero, List.set_cons_succ, List.set_cons_zero, true_and, and_true, if_true, if_false, reduceIte, Nat.le_refl, Value.category, va_up_app, eq_self, stp, Nat.reduceBEq, Bool.or_false, Bool.false_or, Bool.true_or, Bool.or_true, or_true, true_or, bx_uu, implies_true, true_implies, not_true, not_false_eq_true, false_implies, and_self, Nat.reduceLT, Int32.reduceAdd, Int32.reduceSub, Int32.reduceMul, Int32.reduceLE, Int32.reduceLT, Int32.reduceToNatClampNeg, va_rf_some, Bool.false_eq_true, k_X8_lengthOfStrip_0 ca, k_X8_lengthOfStrip_1 ca, k_X8_lengthOfStrip_2 ca, k_X8_lengthOfStrip_3 ca, k_X8_lengthOfStrip_4 ca, k_X8_lengthOfStrip_5 ca, k_X8_lengthOfStrip_6 ca, k_X8_lengthOfStrip_7 ca, k_X8_lengthOfStrip_10 ca, k_X8_lengthOfStrip_13 ca, k_X8_lengthOfStrip_14 ca, k_X8_lengthOfStrip_15 ca, k_X8_lengthOfStrip_16 ca, k_X8_lengthOfStrip_17 ca, k_X8_lengthOfStrip_18 ca, k_X8_lengthOfStrip_21 ca, k_X8_lengthOfStrip_22 ca, k_X8_lengthOfStrip_23 ca, k_X8_lengthOfStrip_26 ca, k_X8_lengthOfStrip_29 ca, k_X8_lengthOfStrip_30 ca, hm, hs0, sp_X8_many, sp_X8_partOfStrip, s10, a_0, a_1, a_8, m_3, nI_add, z0, z1, e1, g1, i1, y1, x1]
      exact ih (i + 1) (by omega)
  refine go (stp [4]) 6 _ _ _ _ _ _ ?_
  simp only [wpS, ite_not, i_push, i_iload, i_lload, i_aload, i_istore, i_astore, i_lstore, i_iinc, i_bin, i_dv, i_un, i_lbin, i_lsh, i_i2l, i_l2i, i_lcmp, i_dup, i_dup2, i_pop, i_if, i_icmp, i_goto, swG, i_sw, i_getf, i_puti, i_putz, i_putr, i_ald, i_lald, i_aald, i_ast, i_last, i_aast, i_alen, i_new, i_newi, i_newl, i_newq, i_oinit, i_ret, i_zret, i_lret, i_vret, catS, tk, rpush, isO, i_m1, i_m2, i_acopy, i_callV, i_callS, KRet, lget, lput, lputL, lcl0, isL, lv0, List.map_cons, List.map_nil, List.length_cons, List.length_nil, List.cons_append, List.nil_append, Nat.reduceAdd, Nat.reduceSub, Nat.reduceLeDiff, List.replicate_succ, List.replicate_zero, List.getElem?_cons_succ, List.getElem?_cons_zero, List.set_cons_succ, List.set_cons_zero, true_and, and_true, if_true, if_false, reduceIte, Nat.le_refl, Value.category, va_up_app, eq_self, stp, Nat.reduceBEq, Bool.or_false, Bool.false_or, Bool.true_or, Bool.or_true, or_true, true_or, bx_uu, implies_true, true_implies, not_true, not_false_eq_true, false_implies, and_self, Nat.reduceLT, Int32.reduceAdd, Int32.reduceSub, Int32.reduceMul, Int32.reduceLE, Int32.reduceLT, Int32.reduceToNatClampNeg, va_rf_some, Bool.false_eq_true, k_X8_lengthOfStrip_0 ca, k_X8_lengthOfStrip_1 ca, k_X8_lengthOfStrip_2 ca, k_X8_lengthOfStrip_3 ca, k_X8_lengthOfStrip_4 ca, k_X8_lengthOfStrip_5 ca, k_X8_lengthOfStrip_6 ca, k_X8_lengthOfStrip_7 ca, k_X8_lengthOfStrip_10 ca, k_X8_lengthOfStrip_13 ca, k_X8_lengthOfStrip_14 ca, k_X8_lengthOfStrip_15 ca, k_X8_lengthOfStrip_16 ca, k_X8_lengthOfStrip_17 ca, k_X8_lengthOfStrip_18 ca, k_X8_lengthOfStrip_21 ca, k_X8_lengthOfStrip_22 ca, k_X8_lengthOfStrip_23 ca, k_X8_lengthOfStrip_26 ca, k_X8_lengthOfStrip_29 ca, k_X8_lengthOfStrip_30 ca]
  exact key N 0 (by omega)
def sp_X8_bendAt (ca : Nat → ClassId) : SPEC := fun av h post => ∃ m a0 s k w, k < 3 ∧ av = [.ref m, .int (nI k), .int w] ∧ MS ca h m a0 s ∧ WfT s (10 + 32 * k) ∧ post (some (.int (rt s (10 + 32 * k) * (w - 200)))) h
def k_X8_bendAt (ca : Nat → ClassId) : Nat → IT := fun pc => lk pc [(0, i_aload 0 1),
  (1, i_iload 1 2),
  (2, i_callV 8 1 0 0 0 0 (sp_X8_bendOfStrip ca) 5),
  (5, i_iload 2 6),
  (6, i_push (.int 200) 9),
  (9, i_bin (fun x y => x - y) 10),
  (10, i_bin (fun x y => x * y) 11),
  (11, i_ret)]
set_option maxRecDepth 20000 in
theorem t_X8_bendAt : Tb k_X8_bendAt yX8_bendAt cX8_bendAt 3 (some .int) 4 0 0 := by
  intro l D ca A p e s m args below meth c post X
  unfold k_X8_bendAt
  refine snd_cons (snd_aload_n X dX8_bendAt_0 rfl) ?_
  refine snd_cons (snd_iload_n X dX8_bendAt_1 rfl) ?_
  refine snd_cons (snd_callV X Fk8 (ok_X8_bendOfStrip l D ca) rfl rfl w_762 w_764 wp_25 w_9 w_765 (by decide) (by decide) dX8_bendAt_2) ?_
  refine snd_cons (snd_iload_n X dX8_bendAt_5 rfl) ?_
  refine snd_cons (snd_sipush X dX8_bendAt_6 (by decide)) ?_
  refine snd_cons (snd_isub X dX8_bendAt_9) ?_
  refine snd_cons (snd_imul X dX8_bendAt_10) ?_
  refine snd_cons (snd_ret X dX8_bendAt_11) ?_
  exact snd_nil
theorem k_X8_bendAt_0 (ca : Nat → ClassId) : k_X8_bendAt ca 0 = i_aload 0 1 := rfl
theorem k_X8_bendAt_1 (ca : Nat → ClassId) : k_X8_bendAt ca 1 = i_iload 1 2 := rfl
theorem k_X8_bendAt_2 (ca : Nat → ClassId) : k_X8_bendAt ca 2 = i_callV 8 1 0 0 0 0 (sp_X8_bendOfStrip ca) 5 := rfl
theorem k_X8_bendAt_5 (ca : Nat → ClassId) : k_X8_bendAt ca 5 = i_iload 2 6 := rfl
theorem k_X8_bendAt_6 (ca : Nat → ClassId) : k_X8_bendAt ca 6 = i_push (.int 200) 9 := rfl
theorem k_X8_bendAt_9 (ca : Nat → ClassId) : k_X8_bendAt ca 9 = i_bin (fun x y => x - y) 10 := rfl
theorem k_X8_bendAt_10 (ca : Nat → ClassId) : k_X8_bendAt ca 10 = i_bin (fun x y => x * y) 11 := rfl
theorem k_X8_bendAt_11 (ca : Nat → ClassId) : k_X8_bendAt ca 11 = i_ret := rfl
set_option maxHeartbeats 4000000 in
set_option maxRecDepth 20000 in
theorem ok_X8_bendAt (l : Launch) (D : va_G) (ca : Nat → ClassId) : OkAll l D ca yX8_bendAt cX8_bendAt 3 (some .int) 4 0 0 (sp_X8_bendAt ca) := by
  intro av h post hs
  obtain ⟨m, a0, s, k, w, hk, rfl, ⟨⟨r, hm⟩, hs0⟩, hw, hs⟩ := hs
  refine okM_of t_X8_bendAt (by decide +kernel) (c1_ref (c1_int (c1_int c1_nil))) (Nat.le_of_ble_eq_true rfl) ?_
  intro K go
  refine go (stp [5]) 4 _ _ _ _ _ _ ?_
  simp only [wpS, ite_not, i_push, i_iload, i_lload, i_aload, i_istore, i_astore, i_lstore, i_iinc, i_bin, i_dv, i_un, i_lbin, i_lsh, i_i2l, i_l2i, i_lcmp, i_dup, i_dup2, i_pop, i_if, i_icmp, i_goto, swG, i_sw, i_getf, i_puti, i_putz, i_putr, i_ald, i_lald, i_aald, i_ast, i_last, i_aast, i_alen, i_new, i_newi, i_newl, i_newq, i_oinit, i_ret, i_zret, i_lret, i_vret, catS, tk, rpush, isO, i_m1, i_m2, i_acopy, i_callV, i_callS, KRet, lget, lput, lputL, lcl0, isL, lv0, List.map_cons, List.map_nil, List.length_cons, List.length_nil, List.cons_append, List.nil_append, Nat.reduceAdd, Nat.reduceSub, Nat.reduceLeDiff, List.replicate_succ, List.replicate_zero, List.getElem?_cons_succ, List.getElem?_cons_zero, List.set_cons_succ, List.set_cons_zero, true_and, and_true, if_true, if_false, reduceIte, Nat.le_refl, Value.category, va_up_app, eq_self, stp, Nat.reduceBEq, Bool.or_false, Bool.false_or, Bool.true_or, Bool.or_true, or_true, true_or, bx_uu, implies_true, true_implies, not_true, not_false_eq_true, false_implies, and_self, Nat.reduceLT, Int32.reduceAdd, Int32.reduceSub, Int32.reduceMul, Int32.reduceLE, Int32.reduceLT, Int32.reduceToNatClampNeg, va_rf_some, Bool.false_eq_true, k_X8_bendAt_0 ca, k_X8_bendAt_1 ca, k_X8_bendAt_2 ca, k_X8_bendAt_5 ca, k_X8_bendAt_6 ca, k_X8_bendAt_9 ca, k_X8_bendAt_10 ca, k_X8_bendAt_11 ca, hm]
  refine ⟨m, a0, s, k, hk, rfl, ⟨⟨r, hm⟩, hs0⟩, hw, ?_⟩
  refine go (stp []) 7 _ _ _ _ _ _ ?_
  simp only [wpS, ite_not, i_push, i_iload, i_lload, i_aload, i_istore, i_astore, i_lstore, i_iinc, i_bin, i_dv, i_un, i_lbin, i_lsh, i_i2l, i_l2i, i_lcmp, i_dup, i_dup2, i_pop, i_if, i_icmp, i_goto, swG, i_sw, i_getf, i_puti, i_putz, i_putr, i_ald, i_lald, i_aald, i_ast, i_last, i_aast, i_alen, i_new, i_newi, i_newl, i_newq, i_oinit, i_ret, i_zret, i_lret, i_vret, catS, tk, rpush, isO, i_m1, i_m2, i_acopy, i_callV, i_callS, KRet, lget, lput, lputL, lcl0, isL, lv0, List.map_cons, List.map_nil, List.length_cons, List.length_nil, List.cons_append, List.nil_append, Nat.reduceAdd, Nat.reduceSub, Nat.reduceLeDiff, List.replicate_succ, List.replicate_zero, List.getElem?_cons_succ, List.getElem?_cons_zero, List.set_cons_succ, List.set_cons_zero, true_and, and_true, if_true, if_false, reduceIte, Nat.le_refl, Value.category, va_up_app, eq_self, stp, Nat.reduceBEq, Bool.or_false, Bool.false_or, Bool.true_or, Bool.or_true, or_true, true_or, bx_uu, implies_true, true_implies, not_true, not_false_eq_true, false_implies, and_self, Nat.reduceLT, Int32.reduceAdd, Int32.reduceSub, Int32.reduceMul, Int32.reduceLE, Int32.reduceLT, Int32.reduceToNatClampNeg, va_rf_some, Bool.false_eq_true, k_X8_bendAt_0 ca, k_X8_bendAt_1 ca, k_X8_bendAt_2 ca, k_X8_bendAt_5 ca, k_X8_bendAt_6 ca, k_X8_bendAt_9 ca, k_X8_bendAt_10 ca, k_X8_bendAt_11 ca]
  exact hs
