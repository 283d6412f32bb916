/-! the law's loop, its beginning, and the whole of it -/
set_option maxHeartbeats 4000000 in
set_option maxRecDepth 20000 in
theorem law_loop {ca : Nat → ClassId} {b L : Nat} {xs : Nat → Int32} {K : KT} (hL : L ≤ 2560) (go : GoL ca b L xs K (KRet 600000 7302250 (fun v _ => v = some (.int 1)))) {g q : Nat → Nat} (A : Ap g q) : ∀ (n j : Nat) (h : PH), L ≤ 5 * (j + n) → 5 * j ≤ L + 5 → LW ca h g q (200 * j) → K 157 31254 18 [some (.ref b), some (.ref (g 0)), some (.ref (q 0)), some (.int (nI (5 * j)))] [] h := by
  intro n
  induction n with
  | zero =>
    intro j h hn hj H
    have hc : nI L - 5 < nI (5 * j) := by rw [zI_n, zI_n, show (5 : Int32) = zI 5 from rfl, zI_sub, zI_lt (by omega) (by omega)]; omega
    refine goN go (stp []) 160 _ _ _ _ _ _ (fun F hF hF0 => ?_)
    simp only [hF, hF0, ite_not, i_push, i_iload, i_lload, i_aload, i_istore, i_astore, i_lstore, i_iinc, i_bin, i_dv, i_un, i_lbin, i_lsh, i_i2l, i_l2i, i_lcmp, i_dup, i_dup2, i_pop, i_if, i_icmp, i_goto, swG, i_sw, i_getf, i_puti, i_putz, i_putr, i_ald, i_lald, i_aald, i_ast, i_last, i_aast, i_alen, i_new, i_newi, i_newl, i_newq, i_oinit, i_ret, i_zret, i_lret, i_vret, catS, tk, rpush, isO, i_m1, i_m2, i_acopy, i_callV, i_callS, KRet, lget, lput, lputL, lcl0, isL, lv0, List.map_cons, List.map_nil, List.length_cons, List.length_nil, List.cons_append, List.nil_append, Nat.reduceAdd, Nat.reduceSub, Nat.reduceLeDiff, List.replicate_succ, List.replicate_zero, List.getElem?_cons_succ, List.getElem?_cons_zero, List.set_cons_succ, List.set_cons_zero, true_and, and_true, if_true, if_false, ↓reduceIte, Nat.le_refl, Value.category, va_up_app, eq_self, stp, Nat.reduceBEq, Bool.or_false, Bool.false_or, Bool.true_or, Bool.or_true, or_true, true_or, bx_uu, implies_true, true_implies, not_true, not_false_eq_true, false_implies, and_self, Nat.reduceLT, Int32.reduceAdd, Int32.reduceSub, Int32.reduceMul, Int32.reduceLE, Int32.reduceLT, Int32.reduceToNatClampNeg, va_rf_some, Bool.false_eq_true, k_L_law_18 ca b L xs, k_L_law_19 ca b L xs, k_L_law_20 ca b L xs, k_L_law_21 ca b L xs, k_L_law_22 ca b L xs, k_L_law_23 ca b L xs, k_L_law_902 ca b L xs, k_L_law_903 ca b L xs, i_sld, i_slen, hc]
    try clear hF hF0 F
  | succ n ih =>
    intro j h hn hj H
    by_cases hx : 5 * j + 5 ≤ L
    rotate_left
    · have hc : nI L - 5 < nI (5 * j) := by rw [zI_n, zI_n, show (5 : Int32) = zI 5 from rfl, zI_sub, zI_lt (by omega) (by omega)]; omega
      refine goN go (stp []) 160 _ _ _ _ _ _ (fun F hF hF0 => ?_)
      simp only [hF, hF0, ite_not, i_push, i_iload, i_lload, i_aload, i_istore, i_astore, i_lstore, i_iinc, i_bin, i_dv, i_un, i_lbin, i_lsh, i_i2l, i_l2i, i_lcmp, i_dup, i_dup2, i_pop, i_if, i_icmp, i_goto, swG, i_sw, i_getf, i_puti, i_putz, i_putr, i_ald, i_lald, i_aald, i_ast, i_last, i_aast, i_alen, i_new, i_newi, i_newl, i_newq, i_oinit, i_ret, i_zret, i_lret, i_vret, catS, tk, rpush, isO, i_m1, i_m2, i_acopy, i_callV, i_callS, KRet, lget, lput, lputL, lcl0, isL, lv0, List.map_cons, List.map_nil, List.length_cons, List.length_nil, List.cons_append, List.nil_append, Nat.reduceAdd, Nat.reduceSub, Nat.reduceLeDiff, List.replicate_succ, List.replicate_zero, List.getElem?_cons_succ, List.getElem?_cons_zero, List.set_cons_succ, List.set_cons_zero, true_and, and_true, if_true, if_false, ↓reduceIte, Nat.le_refl, Value.category, va_up_app, eq_self, stp, Nat.reduceBEq, Bool.or_false, Bool.false_or, Bool.true_or, Bool.or_true, or_true, true_or, bx_uu, implies_true, true_implies, not_true, not_false_eq_true, false_implies, and_self, Nat.reduceLT, Int32.reduceAdd, Int32.reduceSub, Int32.reduceMul, Int32.reduceLE, Int32.reduceLT, Int32.reduceToNatClampNeg, va_rf_some, Bool.false_eq_true, k_L_law_18 ca b L xs, k_L_law_19 ca b L xs, k_L_law_20 ca b L xs, k_L_law_21 ca b L xs, k_L_law_22 ca b L xs, k_L_law_23 ca b L xs, k_L_law_902 ca b L xs, k_L_law_903 ca b L xs, i_sld, i_slen, hc]
      try clear hF hF0 F
    · have hc : ¬ nI L - 5 < nI (5 * j) := by rw [zI_n, zI_n, show (5 : Int32) = zI 5 from rfl, zI_sub, zI_lt (by omega) (by omega)]; omega
      have j0 : vp_in (nI (5 * j)) L := vp_in_nI (by omega) (by omega)
      have j1 : vp_in (nI (5 * j) + 1) L := by rw [show (1 : Int32) = nI 1 from rfl, nI_add]; exact vp_in_nI (by omega) (by omega)
      have j2 : vp_in (nI (5 * j) + 2) L := by rw [show (2 : Int32) = nI 2 from rfl, nI_add]; exact vp_in_nI (by omega) (by omega)
      have j3 : vp_in (nI (5 * j) + 3) L := by rw [show (3 : Int32) = nI 3 from rfl, nI_add]; exact vp_in_nI (by omega) (by omega)
      have j4 : vp_in (nI (5 * j) + 4) L := by rw [show (4 : Int32) = nI 4 from rfl, nI_add]; exact vp_in_nI (by omega) (by omega)
      have hB : 200 * j ≤ 1000000 := by omega
      have next : ∀ h2, LW ca h2 g q (200 * j + 200) → K 157 31254 896 [some (.ref b), some (.ref (g 0)), some (.ref (q 0)), some (.int (nI (5 * j)))] [] h2 := by
        intro h2 H2
        refine goN go (stp [18]) 160 _ _ _ _ _ _ (fun F hF hF0 => ?_)
        simp only [hF, hF0, ite_not, i_push, i_iload, i_lload, i_aload, i_istore, i_astore, i_lstore, i_iinc, i_bin, i_dv, i_un, i_lbin, i_lsh, i_i2l, i_l2i, i_lcmp, i_dup, i_dup2, i_pop, i_if, i_icmp, i_goto, swG, i_sw, i_getf, i_puti, i_putz, i_putr, i_ald, i_lald, i_aald, i_ast, i_last, i_aast, i_alen, i_new, i_newi, i_newl, i_newq, i_oinit, i_ret, i_zret, i_lret, i_vret, catS, tk, rpush, isO, i_m1, i_m2, i_acopy, i_callV, i_callS, KRet, lget, lput, lputL, lcl0, isL, lv0, List.map_cons, List.map_nil, List.length_cons, List.length_nil, List.cons_append, List.nil_append, Nat.reduceAdd, Nat.reduceSub, Nat.reduceLeDiff, List.replicate_succ, List.replicate_zero, List.getElem?_cons_succ, List.getElem?_cons_zero, List.set_cons_succ, List.set_cons_zero, true_and, and_true, if_true, if_false, ↓reduceIte, Nat.le_refl, Value.category, va_up_app, eq_self, stp, Nat.reduceBEq, Bool.or_false, Bool.false_or, Bool.true_or, Bool.or_true, or_true, true_or, bx_uu, implies_true, true_implies, not_true, not_false_eq_true, false_implies, and_self, Nat.reduceLT, Int32.reduceAdd, Int32.reduceSub, Int32.reduceMul, Int32.reduceLE, Int32.reduceLT, Int32.reduceToNatClampNeg, va_rf_some, Bool.false_eq_true, k_L_law_896 ca b L xs, k_L_law_899 ca b L xs, i_sld, i_slen]
        try clear hF hF0 F
        rw [show nI (5 * j) + 5 = nI (5 * (j + 1)) from (nI_add (5 * j) 5).trans (congrArg nI (by omega))]
        exact ih (j + 1) h2 (by omega) (by omega) (H2.mono (by omega))
      refine goN go (stp [32]) 160 _ _ _ _ _ _ (fun F hF hF0 => ?_)
      simp only [hF, hF0, ite_not, i_push, i_iload, i_lload, i_aload, i_istore, i_astore, i_lstore, i_iinc, i_bin, i_dv, i_un, i_lbin, i_lsh, i_i2l, i_l2i, i_lcmp, i_dup, i_dup2, i_pop, i_if, i_icmp, i_goto, swG, i_sw, i_getf, i_puti, i_putz, i_putr, i_ald, i_lald, i_aald, i_ast, i_last, i_aast, i_alen, i_new, i_newi, i_newl, i_newq, i_oinit, i_ret, i_zret, i_lret, i_vret, catS, tk, rpush, isO, i_m1, i_m2, i_acopy, i_callV, i_callS, KRet, lget, lput, lputL, lcl0, isL, lv0, List.map_cons, List.map_nil, List.length_cons, List.length_nil, List.cons_append, List.nil_append, Nat.reduceAdd, Nat.reduceSub, Nat.reduceLeDiff, List.replicate_succ, List.replicate_zero, List.getElem?_cons_succ, List.getElem?_cons_zero, List.set_cons_succ, List.set_cons_zero, true_and, and_true, if_true, if_false, ↓reduceIte, Nat.le_refl, Value.category, va_up_app, eq_self, stp, Nat.reduceBEq, Bool.or_false, Bool.false_or, Bool.true_or, Bool.or_true, or_true, true_or, bx_uu, implies_true, true_implies, not_true, not_false_eq_true, false_implies, and_self, Nat.reduceLT, Int32.reduceAdd, Int32.reduceSub, Int32.reduceMul, Int32.reduceLE, Int32.reduceLT, Int32.reduceToNatClampNeg, va_rf_some, Bool.false_eq_true, k_L_law_18 ca b L xs, k_L_law_19 ca b L xs, k_L_law_20 ca b L xs, k_L_law_21 ca b L xs, k_L_law_22 ca b L xs, k_L_law_23 ca b L xs, k_L_law_26 ca b L xs, k_L_law_27 ca b L xs, k_L_law_28 ca b L xs, k_L_law_29 ca b L xs, k_L_law_31 ca b L xs, i_sld, i_slen, hc, j0]
      try clear hF hF0 F
      have hw : ∀ t, K 157 31254 t [some (.ref b), some (.ref (g 0)), some (.ref (q 0)), some (.int (nI (5 * j)))] [] h → wpS (k_L_law ca b L xs) (fun _ => true) K (KRet 600000 7302250 (fun v _ => v = some (.int 1))) 1 157 31254 t [some (.ref b), some (.ref (g 0)), some (.ref (q 0)), some (.int (nI (5 * j)))] [] h := fun t k => by rw [wpS_a, if_pos rfl]; exact k
      refine go (fun _ => true) 1 _ _ _ _ _ _ ?_
      rw [k_L_law_32]
      unfold i_sw
      refine swG_of (hw _ (next h (H.mono (by omega)))) ?_
      exact List.forall_mem_cons.mpr ⟨hw 144 (lc_metal go A H hB j1 j2 j3 j4 next), List.forall_mem_cons.mpr ⟨hw 177 (lc_part go A H hB j1 j2 j3 j4 next), List.forall_mem_cons.mpr ⟨hw 230 (lc_cut go A H hB j1 j2 j3 j4 next), List.forall_mem_cons.mpr ⟨hw 263 (lc_bounds go A H hB j1 j2 j3 j4 next), List.forall_mem_cons.mpr ⟨hw 316 (lc_contact go A H hB j1 j2 j3 j4 next), List.forall_mem_cons.mpr ⟨hw 349 (lc_heat go A H hB j1 j2 j3 j4 next), List.forall_mem_cons.mpr ⟨hw 392 (lc_outside go A H hB j1 j2 j3 j4 next), List.forall_mem_cons.mpr ⟨hw 415 (lc_warm go A H hB j1 j2 j3 j4 next), List.forall_mem_cons.mpr ⟨hw 448 (lc_opening go A H hB j1 j2 j3 j4 next), List.forall_mem_cons.mpr ⟨hw 481 (lc_set go A H hB j1 j2 j3 j4 next), List.forall_mem_cons.mpr ⟨hw 514 (lc_tick go A H hB j1 j2 j3 j4 next), List.forall_mem_cons.mpr ⟨hw 537 (lc_stripOf go A H hB j1 j2 j3 j4 next), List.forall_mem_cons.mpr ⟨hw 570 (lc_partOf go A H hB j1 j2 j3 j4 next), List.forall_mem_cons.mpr ⟨hw 613 (lc_roomOf go A H hB j1 j2 j3 j4 next), List.forall_mem_cons.mpr ⟨hw 646 (lc_count go A H hB j1 j2 j3 j4 next), List.forall_mem_cons.mpr ⟨hw 669 (lc_bend go A H hB j1 j2 j3 j4 next), List.forall_mem_cons.mpr ⟨hw 702 (lc_tripsAt go A H hB j1 j2 j3 j4 next), List.forall_mem_cons.mpr ⟨hw 735 (lc_loop go A H hB j1 j2 j3 j4 next), List.forall_mem_cons.mpr ⟨hw 758 (lc_stack go A H hB j1 j2 j3 j4 next), List.forall_mem_cons.mpr ⟨hw 801 (lc_undo go A H hB j1 j2 j3 j4 next), List.forall_mem_cons.mpr ⟨hw 814 (lc_type go A H hB j1 j2 j3 j4 next), List.forall_mem_cons.mpr ⟨hw 837 (lc_clearText go A H hB j1 j2 j3 j4 next), List.forall_mem_cons.mpr ⟨hw 850 (lc_fault go A H hB j1 j2 j3 j4 next), List.forall_mem_cons.mpr ⟨hw 873 (lc_read go A H hB j1 j2 j3 j4 next), fun _ hq => absurd hq List.not_mem_nil⟩⟩⟩⟩⟩⟩⟩⟩⟩⟩⟩⟩⟩⟩⟩⟩⟩⟩⟩⟩⟩⟩⟩⟩
set_option maxHeartbeats 4000000 in
set_option maxRecDepth 20000 in
theorem law_start {ca : Nat → ClassId} {b L : Nat} {xs : Nat → Int32} {K : KT} (hL : L ≤ 2560) (go : GoL ca b L xs K (KRet 600000 7302250 (fun v _ => v = some (.int 1)))) : K 0 0 0 (lv0 [.ref b] 4) [] (fun _ => none) := by
  refine goN go (stp [3]) 160 _ _ _ _ _ _ (fun F hF hF0 => ?_)
  simp only [hF, hF0, ite_not, i_push, i_iload, i_lload, i_aload, i_istore, i_astore, i_lstore, i_iinc, i_bin, i_dv, i_un, i_lbin, i_lsh, i_i2l, i_l2i, i_lcmp, i_dup, i_dup2, i_pop, i_if, i_icmp, i_goto, swG, i_sw, i_getf, i_puti, i_putz, i_putr, i_ald, i_lald, i_aald, i_ast, i_last, i_aast, i_alen, i_new, i_newi, i_newl, i_newq, i_oinit, i_ret, i_zret, i_lret, i_vret, catS, tk, rpush, isO, i_m1, i_m2, i_acopy, i_callV, i_callS, KRet, lget, lput, lputL, lcl0, isL, lv0, List.map_cons, List.map_nil, List.length_cons, List.length_nil, List.cons_append, List.nil_append, Nat.reduceAdd, Nat.reduceSub, Nat.reduceLeDiff, List.replicate_succ, List.replicate_zero, List.getElem?_cons_succ, List.getElem?_cons_zero, List.set_cons_succ, List.set_cons_zero, true_and, and_true, if_true, if_false, ↓reduceIte, Nat.le_refl, Value.category, va_up_app, eq_self, stp, Nat.reduceBEq, Bool.or_false, Bool.false_or, Bool.true_or, Bool.or_true, or_true, true_or, bx_uu, implies_true, true_implies, not_true, not_false_eq_true, false_implies, and_self, Nat.reduceLT, Int32.reduceAdd, Int32.reduceSub, Int32.reduceMul, Int32.reduceLE, Int32.reduceLT, Int32.reduceToNatClampNeg, va_rf_some, Bool.false_eq_true, k_L_law_0 ca b L xs, i_sld, i_slen]
  try clear hF hF0 F
  intro q1
  have a1 : va_up (fun _ => none : PH) q1 (some (.inr (7, [.null, .null, .null, .null, .null, .int 0]))) q1 = some (.inr (7, [.null, .null, .null, .null, .null, .int 0])) := va_up_self _ _ _
  generalize eH1 : va_up (fun _ => none : PH) q1 (some (.inr (7, [.null, .null, .null, .null, .null, .int 0]))) = H1 at *
  refine goN go (stp [7]) 160 _ _ _ _ _ _ (fun F hF hF0 => ?_)
  simp only [hF, hF0, ite_not, i_push, i_iload, i_lload, i_aload, i_istore, i_astore, i_lstore, i_iinc, i_bin, i_dv, i_un, i_lbin, i_lsh, i_i2l, i_l2i, i_lcmp, i_dup, i_dup2, i_pop, i_if, i_icmp, i_goto, swG, i_sw, i_getf, i_puti, i_putz, i_putr, i_ald, i_lald, i_aald, i_ast, i_last, i_aast, i_alen, i_new, i_newi, i_newl, i_newq, i_oinit, i_ret, i_zret, i_lret, i_vret, catS, tk, rpush, isO, i_m1, i_m2, i_acopy, i_callV, i_callS, KRet, lget, lput, lputL, lcl0, isL, lv0, List.map_cons, List.map_nil, List.length_cons, List.length_nil, List.cons_append, List.nil_append, Nat.reduceAdd, Nat.reduceSub, Nat.reduceLeDiff, List.replicate_succ, List.replicate_zero, List.getElem?_cons_succ, List.getElem?_cons_zero, List.set_cons_succ, List.set_cons_zero, true_and, and_true, if_true, if_false, ↓reduceIte, Nat.le_refl, Value.category, va_up_app, eq_self, stp, Nat.reduceBEq, Bool.or_false, Bool.false_or, Bool.true_or, Bool.or_true, or_true, true_or, bx_uu, implies_true, true_implies, not_true, not_false_eq_true, false_implies, and_self, Nat.reduceLT, Int32.reduceAdd, Int32.reduceSub, Int32.reduceMul, Int32.reduceLE, Int32.reduceLT, Int32.reduceToNatClampNeg, va_rf_some, Bool.false_eq_true, k_L_law_3 ca b L xs, k_L_law_4 ca b L xs, i_sld, i_slen, a1]
  try clear hF hF0 F
  refine ⟨q1, rfl, a1, fun H Q eQ hB hc => ?_⟩
  obtain ⟨g, hg, he, g0, hC⟩ := begin_C hB hc
  show K 146 _ 7 [some (.ref b), none, none, none] [.ref q1] H
  refine goN go (stp [11]) 160 _ _ _ _ _ _ (fun F hF hF0 => ?_)
  simp only [hF, hF0, ite_not, i_push, i_iload, i_lload, i_aload, i_istore, i_astore, i_lstore, i_iinc, i_bin, i_dv, i_un, i_lbin, i_lsh, i_i2l, i_l2i, i_lcmp, i_dup, i_dup2, i_pop, i_if, i_icmp, i_goto, swG, i_sw, i_getf, i_puti, i_putz, i_putr, i_ald, i_lald, i_aald, i_ast, i_last, i_aast, i_alen, i_new, i_newi, i_newl, i_newq, i_oinit, i_ret, i_zret, i_lret, i_vret, catS, tk, rpush, isO, i_m1, i_m2, i_acopy, i_callV, i_callS, KRet, lget, lput, lputL, lcl0, isL, lv0, List.map_cons, List.map_nil, List.length_cons, List.length_nil, List.cons_append, List.nil_append, Nat.reduceAdd, Nat.reduceSub, Nat.reduceLeDiff, List.replicate_succ, List.replicate_zero, List.getElem?_cons_succ, List.getElem?_cons_zero, List.set_cons_succ, List.set_cons_zero, true_and, and_true, if_true, if_false, ↓reduceIte, Nat.le_refl, Value.category, va_up_app, eq_self, stp, Nat.reduceBEq, Bool.or_false, Bool.false_or, Bool.true_or, Bool.or_true, or_true, true_or, bx_uu, implies_true, true_implies, not_true, not_false_eq_true, false_implies, and_self, Nat.reduceLT, Int32.reduceAdd, Int32.reduceSub, Int32.reduceMul, Int32.reduceLE, Int32.reduceLT, Int32.reduceToNatClampNeg, va_rf_some, Bool.false_eq_true, k_L_law_7 ca b L xs, k_L_law_8 ca b L xs, i_sld, i_slen]
  try clear hF hF0 F
  intro q2 hq2
  have a2 : va_up H q2 (some (.inr (8, [.null, .null, .null, .int 0, .null, .int 0, .null, .null, .null, .null, .null, .null, .int 0, .int 0, .int 0]))) q2 = some (.inr (8, [.null, .null, .null, .int 0, .null, .int 0, .null, .null, .null, .null, .null, .null, .int 0, .int 0, .int 0])) := va_up_self _ _ _
  refine goN go (stp [15]) 160 _ _ _ _ _ _ (fun F hF hF0 => ?_)
  simp only [hF, hF0, ite_not, i_push, i_iload, i_lload, i_aload, i_istore, i_astore, i_lstore, i_iinc, i_bin, i_dv, i_un, i_lbin, i_lsh, i_i2l, i_l2i, i_lcmp, i_dup, i_dup2, i_pop, i_if, i_icmp, i_goto, swG, i_sw, i_getf, i_puti, i_putz, i_putr, i_ald, i_lald, i_aald, i_ast, i_last, i_aast, i_alen, i_new, i_newi, i_newl, i_newq, i_oinit, i_ret, i_zret, i_lret, i_vret, catS, tk, rpush, isO, i_m1, i_m2, i_acopy, i_callV, i_callS, KRet, lget, lput, lputL, lcl0, isL, lv0, List.map_cons, List.map_nil, List.length_cons, List.length_nil, List.cons_append, List.nil_append, Nat.reduceAdd, Nat.reduceSub, Nat.reduceLeDiff, List.replicate_succ, List.replicate_zero, List.getElem?_cons_succ, List.getElem?_cons_zero, List.set_cons_succ, List.set_cons_zero, true_and, and_true, if_true, if_false, ↓reduceIte, Nat.le_refl, Value.category, va_up_app, eq_self, stp, Nat.reduceBEq, Bool.or_false, Bool.false_or, Bool.true_or, Bool.or_true, or_true, true_or, bx_uu, implies_true, true_implies, not_true, not_false_eq_true, false_implies, and_self, Nat.reduceLT, Int32.reduceAdd, Int32.reduceSub, Int32.reduceMul, Int32.reduceLE, Int32.reduceLT, Int32.reduceToNatClampNeg, va_rf_some, Bool.false_eq_true, k_L_law_11 ca b L xs, k_L_law_12 ca b L xs, i_sld, i_slen, a2]
  try clear hF hF0 F
  refine ⟨q2, rfl, a2, fun H2 Q2 s2 e2 hB2 c0 c1 cs c2 c3 c4 c5 c6 c7 c8 c9 c10 => ?_⟩
  obtain ⟨q, A, q0, HL⟩ := begin_R hg he hC hq2 hB2 e2 c0 c1 cs c2 c3 c4 c5 c6 c7 c8 c9 c10
  show K 157 _ 15 [some (.ref b), some (.ref q1), none, none] [.ref q2] H2
  refine goN go (stp [18]) 160 _ _ _ _ _ _ (fun F hF hF0 => ?_)
  simp only [hF, hF0, ite_not, i_push, i_iload, i_lload, i_aload, i_istore, i_astore, i_lstore, i_iinc, i_bin, i_dv, i_un, i_lbin, i_lsh, i_i2l, i_l2i, i_lcmp, i_dup, i_dup2, i_pop, i_if, i_icmp, i_goto, swG, i_sw, i_getf, i_puti, i_putz, i_putr, i_ald, i_lald, i_aald, i_ast, i_last, i_aast, i_alen, i_new, i_newi, i_newl, i_newq, i_oinit, i_ret, i_zret, i_lret, i_vret, catS, tk, rpush, isO, i_m1, i_m2, i_acopy, i_callV, i_callS, KRet, lget, lput, lputL, lcl0, isL, lv0, List.map_cons, List.map_nil, List.length_cons, List.length_nil, List.cons_append, List.nil_append, Nat.reduceAdd, Nat.reduceSub, Nat.reduceLeDiff, List.replicate_succ, List.replicate_zero, List.getElem?_cons_succ, List.getElem?_cons_zero, List.set_cons_succ, List.set_cons_zero, true_and, and_true, if_true, if_false, ↓reduceIte, Nat.le_refl, Value.category, va_up_app, eq_self, stp, Nat.reduceBEq, Bool.or_false, Bool.false_or, Bool.true_or, Bool.or_true, or_true, true_or, bx_uu, implies_true, true_implies, not_true, not_false_eq_true, false_implies, and_self, Nat.reduceLT, Int32.reduceAdd, Int32.reduceSub, Int32.reduceMul, Int32.reduceLE, Int32.reduceLT, Int32.reduceToNatClampNeg, va_rf_some, Bool.false_eq_true, k_L_law_15 ca b L xs, k_L_law_16 ca b L xs, k_L_law_17 ca b L xs, i_sld, i_slen]
  try clear hF hF0 F
  have k := law_loop hL go A L 0 H2 (by omega) (by omega) HL
  rw [g0, eQ, q0] at k
  exact k
theorem law_ax {p : Program} {s : State} {m : MethodId} {meth : Method} {c : Code} {b L : Nat} {xs : Nat → Int32} (C0 : lw_At p s m meth c b L xs) : ∃ (D : va_G) (ca : Nat → ClassId), Ax D ca (fun q => s.heap.size ≤ q) 4 "SnapStacksLaw" meth.name code ret p s m #[.ref b] meth c := by
  obtain ⟨hx, hb, hr, hml, hown, hts, hX, hbl, hlocks, hgv⟩ := C0
  have hw : ∀ w ∈ lwg, w.before #[.ref b] s = true := fun w h => hts w (lwg_ok h).1
  obtain ⟨c0, i0, k0⟩ := u_known (C := RX0) (T := TX0) (N := 3) (n := 3) hw Fk0.2.1 (hw _ w_156)
  obtain ⟨c1, i1, k1⟩ := u_known (C := RX1) (T := TX1) (N := 8) (n := 8) hw Fk1.2.1 (hw _ w_191)
  obtain ⟨c2, i2, k2⟩ := u_known (C := RX2) (T := TX2) (N := 7) (n := 7) hw Fk2.2.1 (hw _ w_85)
  obtain ⟨c3, i3, k3⟩ := u_known (C := RX3) (T := TX3) (N := 6) (n := 6) hw Fk3.2.1 (hw _ w_229)
  obtain ⟨c4, i4, k4⟩ := u_known (C := RX4) (T := TX4) (N := 8) (n := 8) hw Fk4.2.1 (hw _ w_22)
  obtain ⟨c5, i5, k5⟩ := u_known (C := RX5) (T := TX5) (N := 11) (n := 11) hw Fk5.2.1 (hw _ w_31)
  obtain ⟨c6, i6, k6⟩ := u_known (C := RX6) (T := TX6) (N := 2) (n := 2) hw Fk6.2.1 (hw _ w_176)
  obtain ⟨c7, i7, k7⟩ := u_known (C := RX7) (T := TX7) (N := 6) (n := 6) hw Fk7.2.1 (hw _ w_14)
  obtain ⟨c8, i8, k8⟩ := u_known (C := RX8) (T := TX8) (N := 15) (n := 15) hw Fk8.2.1 (hw _ w_636)
  obtain ⟨a0, ka0, co0, f0, g0, e0⟩ := Cond.arrayClass_spec (hw _ w_84)
  obtain ⟨a1, ka1, co1, f1, g1, e1⟩ := Cond.arrayClass_spec (hw _ w_227)
  obtain ⟨a2, ka2, co2, f2, g2, e2⟩ := Cond.arrayClass_spec (hw _ w_693)
  obtain ⟨a3, ka3, co3, f3, g3, e3⟩ := Cond.arrayClass_spec (hw _ w_189)
  have v4 : (Cond.arrayOver (.object RX2)).before #[.ref b] s = true := hts _ (List.mem_of_getElem? (i := 84) (by decide +kernel))
  obtain ⟨co4, a4, ka4, f4, x4, g4, e4, n4⟩ := Cond.arrayOver_spec v4
  have v5 : (Cond.arrayOver (.object RX4)).before #[.ref b] s = true := hts _ (List.mem_of_getElem? (i := 216) (by decide +kernel))
  obtain ⟨co5, a5, ka5, f5, x5, g5, e5, n5⟩ := Cond.arrayOver_spec v5
  have v6 : (Cond.arrayOver (.object RX5)).before #[.ref b] s = true := hts _ (List.mem_of_getElem? (i := 82) (by decide +kernel))
  obtain ⟨co6, a6, ka6, f6, x6, g6, e6, n6⟩ := Cond.arrayOver_spec v6
  have u1 : (nw1).before #[.ref b] s = true := hts _ (List.mem_of_getElem? (i := 394) (by decide +kernel))
  have u2 : (nw2).before #[.ref b] s = true := hts _ (List.mem_of_getElem? (i := 431) (by decide +kernel))
  have u3 : (nw3).before #[.ref b] s = true := hts _ (List.mem_of_getElem? (i := 664) (by decide +kernel))
  refine ⟨(fun k => match k with | 0 => c0 | 1 => c1 | 2 => c2 | 3 => c3 | 4 => c4 | 5 => c5 | 6 => c6 | 7 => c7 | _ => c8, fun k => match k with | 0 => i0 | 1 => i1 | 2 => i2 | 3 => i3 | 4 => i4 | 5 => i5 | 6 => i6 | 7 => i7 | _ => i8), fun k => match k with | 0 => a0 | 1 => a1 | 2 => a2 | 3 => a3 | 4 => a4 | 5 => a5 | _ => a6, hx, hb, hml, hown, hr, hlocks, rfl, hw, ⟨fun k z hz => ?_, fun k z hz => ?_⟩, ⟨va_Nw.of rfl u1, va_Nw.of rfl u2, va_Nw.of rfl u3, va_AO.of v6, va_AO.of v4, va_AO.of v5⟩, fun _ h => h⟩
  · match k, hz with
    | 0, hz => cases hz; exact k0
    | 1, hz => cases hz; exact k1
    | 2, hz => cases hz; exact k2
    | 3, hz => cases hz; exact k3
    | 4, hz => cases hz; exact k4
    | 5, hz => cases hz; exact k5
    | 6, hz => cases hz; exact k6
    | 7, hz => cases hz; exact k7
    | 8, hz => cases hz; exact k8
    | k + 9, hz => cases hz
  · match k, hz with
    | 0, hz => cases hz; exact ⟨fun _ _ => ⟨(fun _ h => by cases h), ka0, g0, co0, e0⟩, f0⟩
    | 1, hz => cases hz; exact ⟨fun _ _ => ⟨(fun _ h => by cases h), ka1, g1, co1, e1⟩, f1⟩
    | 2, hz => cases hz; exact ⟨fun _ _ => ⟨(fun _ h => by cases h), ka2, g2, co2, e2⟩, f2⟩
    | 3, hz => cases hz; exact ⟨fun _ _ => ⟨(fun _ h => by cases h), ka3, g3, co3, e3⟩, f3⟩
    | 4, hz => cases hz; exact ⟨fun _ _ => ⟨(fun _ h => by cases h), ka4, g4, co4, e4⟩, ka4, co4, g4, e4, f4, n4⟩
    | 5, hz => cases hz; exact ⟨fun _ _ => ⟨(fun _ h => by cases h), ka5, g5, co5, e5⟩, ka5, co5, g5, e5, f5, n5⟩
    | 6, hz => cases hz; exact ⟨fun _ _ => ⟨(fun _ h => by cases h), ka6, g6, co6, e6⟩, ka6, co6, g6, e6, f6, n6⟩
    | k + 7, hz => cases hz
/-- YOUR PART: from the entry, for every script of at most 2560 ints, the law comes to its end with true -/
theorem whole_start {p : Program} {e : Env} {s : State} {m : MethodId} {below : List Frame} {meth : Method} {c : Code} (l : Launch) (hflags : l.flags = flags0) {b L : Nat} {xs : Nat → Int32} (hL : L ≤ 2560) (C0 : lw_At p s m meth c b L xs) : W p l e room_1 s m #[Value.ref b] below meth c s.heap [] 0 0 (lw_Z below #[Value.ref b] s) (entryFrame m ([Value.ref b] : List Value).toArray 4) := by
  obtain ⟨D, ca, X⟩ := law_ax C0
  obtain ⟨hx, hb, hr, hml, hown, hts, hX, hbl, hlocks, hgv⟩ := C0
  have hT : ∀ pc, Snd D (fun q => s.heap.size ≤ q) 4 p l e room_1 s m #[.ref b] below meth c (lw_Z below #[.ref b] s) (KRet 600000 7302250 (fun v _ => v = some (.int 1))) (k_L_law ca b L xs pc) pc := t_L_law X hX hbl
  have go : GoL ca b L xs (Wq D (fun q => s.heap.size ≤ q) 4 p l e room_1 s m #[.ref b] below meth c (lw_Z below #[.ref b] s)) (KRet 600000 7302250 (fun v _ => v = some (.int 1))) := fun stops n c1 sl pc lv st h k => hT pc _ (fun c1 sl pc lv st h => wpS_snd hT stops n c1 sl pc lv st h) c1 sl lv st h k
  have key := law_start hL go
  have hc : ∀ v ∈ ([.ref b] : List Value), v.category = 1 := c1_ref c1_nil
  rw [lg_entry_eq]
  have hle : (lg_sl [.ref b]).length ≤ 4 := by rw [lg_sl1 hc]; exact Nat.le_of_ble_eq_true rfl
  have e0 : va_pl [] (hd (fun _ => none : PH)) = ([] : va_W) := rfl
  have hm0 : Dm [] (fun _ => none : PH) := fun a => ⟨fun z => absurd z List.not_mem_nil, fun z => by obtain ⟨_, z⟩ := z; cases z⟩
  have hP0 : va_P D vwCl (va_pl [] (hd (fun _ => none : PH))) s.heap := fun k z hz => by rw [e0] at hz; simp at hz
  have hD0 : va_D (fun q => s.heap.size ≤ q) (va_pl [] (hd (fun _ => none : PH))) := ⟨fun i j x y hx => by rw [e0] at hx; simp at hx, fun k z hz => by rw [e0] at hz; simp at hz⟩
  refine key s.heap [] [] _ hm0 hP0 hD0 va_S.rf ?_
  refine LH.of (lv_entry [.ref b] hle) fun i v hg => ?_
  have := lv0_args (fun i => lg_none) hc 0 i v hg
  rw [Nat.zero_add] at this
  exact this
