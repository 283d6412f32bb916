/-! SnapStacksModel: bounded -/
def bndS (s : Nat → Int32) (k : Nat) (lo hi la : Int32) : Nat → Int32 := upd (upd (upd s (10 + 32 * k + 1) lo) (10 + 32 * k + 2) hi) (10 + 32 * k + 3) la
theorem bndS_o {s : Nat → Int32} {k : Nat} {lo hi la : Int32} {j : Nat} (h : j < 11 + 32 * k ∨ 14 + 32 * k ≤ j) : bndS s k lo hi la j = s j := by
  unfold bndS
  rw [upd_app, upd_app, upd_app, if_neg (by omega), if_neg (by omega), if_neg (by omega)]
theorem rt_cong {s t : Nat → Int32} {o : Nat} (W : WfT s o) (h0 : s o = t o) (h1 : ∀ i, i < 24 → s (o + 8 + i) = t (o + 8 + i)) (h2 : ∀ i, i < 6 → s i = t i) : rt s o = rt t o ∧ WfT t o := by
  obtain ⟨w1, w2, w3⟩ := W
  have hp : ∀ i, i < (s o).toNatClampNeg → s (o + (8 + 3 * i)) = t (o + (8 + 3 * i)) ∧ s (o + (9 + 3 * i)) = t (o + (9 + 3 * i)) ∧ s (o + (10 + 3 * i)) = t (o + (10 + 3 * i)) := fun i hi => by
    have a := h1 (3 * i) (by omega)
    have b := h1 (3 * i + 1) (by omega)
    have c := h1 (3 * i + 2) (by omega)
    rw [show o + (8 + 3 * i) = o + 8 + 3 * i by omega, show o + (9 + 3 * i) = o + 8 + (3 * i + 1) by omega, show o + (10 + 3 * i) = o + 8 + (3 * i + 2) by omega]
    exact ⟨a, b, c⟩
  refine ⟨?_, by rw [← h0]; exact w1, by rw [← h0]; exact w2, fun i hi => ?_⟩
  · unfold rt rateF
    rw [← h0]
    refine sumF_cong fun i hi => ?_
    obtain ⟨a, b, c⟩ := hp i hi
    have q := w3 i hi
    unfold rateP
    dsimp only
    rw [a, h2 _ (vp_lt q.1), h2 _ (vp_lt q.2), b, c]
  · rw [← h0] at hi
    obtain ⟨a, b, c⟩ := hp i hi
    rw [← b, ← c]
    exact w3 i hi
def sp_X8_bounded (ca : Nat → ClassId) : SPEC := fun av h post => ∃ m a0 s k lo hi la, k < 3 ∧ av = [.ref m, .int (nI k), .int lo, .int hi, .int la] ∧ MS ca h m a0 s ∧ ¬ m = a0 ∧ WfT s (10 + 32 * k) ∧ post (some (.int (rt s (10 + 32 * k) * (s (106 + 7 * k) - 200)))) (va_up h a0 (some (.inl (ca 0, 127, .inl (bndS s k lo hi la)))))
def k_X8_bounded (ca : Nat → ClassId) : Nat → IT := fun pc => lk pc [(0, i_aload 0 1),
  (1, i_getf 8 0 4),
  (4, i_iload 1 5),
  (5, i_callS 1 0 0 0 0 (sp_X8_stripAt ca) 8),
  (8, i_push (.int 1) 9),
  (9, i_bin (fun x y => x + y) 10),
  (10, i_iload 2 11),
  (11, i_ast (fun x => x) (ca 0) 12),
  (12, i_aload 0 13),
  (13, i_getf 8 0 16),
  (16, i_iload 1 17),
  (17, i_callS 1 0 0 0 0 (sp_X8_stripAt ca) 20),
  (20, i_push (.int 2) 21),
  (21, i_bin (fun x y => x + y) 22),
  (22, i_iload 3 23),
  (23, i_ast (fun x => x) (ca 0) 24),
  (24, i_aload 0 25),
  (25, i_getf 8 0 28),
  (28, i_iload 1 29),
  (29, i_callS 1 0 0 0 0 (sp_X8_stripAt ca) 32),
  (32, i_push (.int 3) 33),
  (33, i_bin (fun x y => x + y) 34),
  (34, i_iload 4 36),
  (36, i_ast (fun x => x) (ca 0) 37),
  (37, i_aload 0 38),
  (38, i_iload 1 39),
  (39, i_aload 0 40),
  (40, i_getf 8 0 43),
  (43, i_iload 1 44),
  (44, i_callS 1 0 0 0 0 (sp_X8_roomAt ca) 47),
  (47, i_ald (ca 0) 48),
  (48, i_callV 8 2 0 0 0 0 (sp_X8_bendAt ca) 51),
  (51, i_ret)]
set_option maxRecDepth 20000 in
theorem t_X8_bounded : Tb k_X8_bounded yX8_bounded cX8_bounded 5 (some .int) 5 0 0 := by
  intro l D ca A p e s m args below meth c post X
  unfold k_X8_bounded
  refine snd_cons (snd_aload_n X dX8_bounded_0 rfl) ?_
  refine snd_cons (snd_getf X Fk8 0 (by decide) w_647 dX8_bounded_1) ?_
  refine snd_cons (snd_iload_n X dX8_bounded_4 rfl) ?_
  refine snd_cons (snd_callS X (ok_X8_stripAt l D ca) rfl rfl w_641 w_642 w_9 w_643 (by decide) (by decide) dX8_bounded_5) ?_
  refine snd_cons (snd_iconst X dX8_bounded_8 (by decide)) ?_
  refine snd_cons (snd_iadd X dX8_bounded_9) ?_
  refine snd_cons (snd_iload_n X dX8_bounded_10 rfl) ?_
  refine snd_cons (snd_iastore X dX8_bounded_11) ?_
  refine snd_cons (snd_aload_n X dX8_bounded_12 rfl) ?_
  refine snd_cons (snd_getf X Fk8 0 (by decide) w_647 dX8_bounded_13) ?_
  refine snd_cons (snd_iload_n X dX8_bounded_16 rfl) ?_
  refine snd_cons (snd_callS X (ok_X8_stripAt l D ca) rfl rfl w_641 w_642 w_9 w_643 (by decide) (by decide) dX8_bounded_17) ?_
  refine snd_cons (snd_iconst X dX8_bounded_20 (by decide)) ?_
  refine snd_cons (snd_iadd X dX8_bounded_21) ?_
  refine snd_cons (snd_iload_n X dX8_bounded_22 rfl) ?_
  refine snd_cons (snd_iastore X dX8_bounded_23) ?_
  refine snd_cons (snd_aload_n X dX8_bounded_24 rfl) ?_
  refine snd_cons (snd_getf X Fk8 0 (by decide) w_647 dX8_bounded_25) ?_
  refine snd_cons (snd_iload_n X dX8_bounded_28 rfl) ?_
  refine snd_cons (snd_callS X (ok_X8_stripAt l D ca) rfl rfl w_641 w_642 w_9 w_643 (by decide) (by decide) dX8_bounded_29) ?_
  refine snd_cons (snd_iconst X dX8_bounded_32 (by decide)) ?_
  refine snd_cons (snd_iadd X dX8_bounded_33) ?_
  refine snd_cons (snd_iload X dX8_bounded_34) ?_
  refine snd_cons (snd_iastore X dX8_bounded_36) ?_
  refine snd_cons (snd_aload_n X dX8_bounded_37 rfl) ?_
  refine snd_cons (snd_iload_n X dX8_bounded_38 rfl) ?_
  refine snd_cons (snd_aload_n X dX8_bounded_39 rfl) ?_
  refine snd_cons (snd_getf X Fk8 0 (by decide) w_647 dX8_bounded_40) ?_
  refine snd_cons (snd_iload_n X dX8_bounded_43 rfl) ?_
  refine snd_cons (snd_callS X (ok_X8_roomAt l D ca) rfl rfl w_644 w_645 w_9 w_646 (by decide) (by decide) dX8_bounded_44) ?_
  refine snd_cons (snd_iaload X dX8_bounded_47) ?_
  refine snd_cons (snd_callV X Fk8 (ok_X8_bendAt l D ca) rfl rfl w_758 w_760 wp_24 w_9 w_761 (by decide) (by decide) dX8_bounded_48) ?_
  refine snd_cons (snd_ret X dX8_bounded_51) ?_
  exact snd_nil
theorem k_X8_bounded_0 (ca : Nat → ClassId) : k_X8_bounded ca 0 = i_aload 0 1 := rfl
theorem k_X8_bounded_1 (ca : Nat → ClassId) : k_X8_bounded ca 1 = i_getf 8 0 4 := rfl
theorem k_X8_bounded_4 (ca : Nat → ClassId) : k_X8_bounded ca 4 = i_iload 1 5 := rfl
theorem k_X8_bounded_5 (ca : Nat → ClassId) : k_X8_bounded ca 5 = i_callS 1 0 0 0 0 (sp_X8_stripAt ca) 8 := rfl
theorem k_X8_bounded_8 (ca : Nat → ClassId) : k_X8_bounded ca 8 = i_push (.int 1) 9 := rfl
theorem k_X8_bounded_9 (ca : Nat → ClassId) : k_X8_bounded ca 9 = i_bin (fun x y => x + y) 10 := rfl
theorem k_X8_bounded_10 (ca : Nat → ClassId) : k_X8_bounded ca 10 = i_iload 2 11 := rfl
theorem k_X8_bounded_11 (ca : Nat → ClassId) : k_X8_bounded ca 11 = i_ast (fun x => x) (ca 0) 12 := rfl
theorem k_X8_bounded_12 (ca : Nat → ClassId) : k_X8_bounded ca 12 = i_aload 0 13 := rfl
theorem k_X8_bounded_13 (ca : Nat → ClassId) : k_X8_bounded ca 13 = i_getf 8 0 16 := rfl
theorem k_X8_bounded_16 (ca : Nat → ClassId) : k_X8_bounded ca 16 = i_iload 1 17 := rfl
theorem k_X8_bounded_17 (ca : Nat → ClassId) : k_X8_bounded ca 17 = i_callS 1 0 0 0 0 (sp_X8_stripAt ca) 20 := rfl
theorem k_X8_bounded_20 (ca : Nat → ClassId) : k_X8_bounded ca 20 = i_push (.int 2) 21 := rfl
theorem k_X8_bounded_21 (ca : Nat → ClassId) : k_X8_bounded ca 21 = i_bin (fun x y => x + y) 22 := rfl
theorem k_X8_bounded_22 (ca : Nat → ClassId) : k_X8_bounded ca 22 = i_iload 3 23 := rfl
theorem k_X8_bounded_23 (ca : Nat → ClassId) : k_X8_bounded ca 23 = i_ast (fun x => x) (ca 0) 24 := rfl
theorem k_X8_bounded_24 (ca : Nat → ClassId) : k_X8_bounded ca 24 = i_aload 0 25 := rfl
theorem k_X8_bounded_25 (ca : Nat → ClassId) : k_X8_bounded ca 25 = i_getf 8 0 28 := rfl
theorem k_X8_bounded_28 (ca : Nat → ClassId) : k_X8_bounded ca 28 = i_iload 1 29 := rfl
theorem k_X8_bounded_29 (ca : Nat → ClassId) : k_X8_bounded ca 29 = i_callS 1 0 0 0 0 (sp_X8_stripAt ca) 32 := rfl
theorem k_X8_bounded_32 (ca : Nat → ClassId) : k_X8_bounded ca 32 = i_push (.int 3) 33 := rfl
theorem k_X8_bounded_33 (ca : Nat → ClassId) : k_X8_bounded ca 33 = i_bin (fun x y => x + y) 34 := rfl
theorem k_X8_bounded_34 (ca : Nat → ClassId) : k_X8_bounded ca 34 = i_iload 4 36 := rfl
theorem k_X8_bounded_36 (ca : Nat → ClassId) : k_X8_bounded ca 36 = i_ast (fun x => x) (ca 0) 37 := rfl
theorem k_X8_bounded_37 (ca : Nat → ClassId) : k_X8_bounded ca 37 = i_aload 0 38 := rfl
theorem k_X8_bounded_38 (ca : Nat → ClassId) : k_X8_bounded ca 38 = i_iload 1 39 := rfl
theorem k_X8_bounded_39 (ca : Nat → ClassId) : k_X8_bounded ca 39 = i_aload 0 40 := rfl
theorem k_X8_bounded_40 (ca : Nat → ClassId) : k_X8_bounded ca 40 = i_getf 8 0 43 := rfl
theorem k_X8_bounded_43 (ca : Nat → ClassId) : k_X8_bounded ca 43 = i_iload 1 44 := rfl
theorem k_X8_bounded_44 (ca : Nat → ClassId) : k_X8_bounded ca 44 = i_callS 1 0 0 0 0 (sp_X8_roomAt ca) 47 := rfl
theorem k_X8_bounded_47 (ca : Nat → ClassId) : k_X8_bounded ca 47 = i_ald (ca 0) 48 := rfl
theorem k_X8_bounded_48 (ca : Nat → ClassId) : k_X8_bounded ca 48 = i_callV 8 2 0 0 0 0 (sp_X8_bendAt ca) 51 := rfl
theorem k_X8_bounded_51 (ca : Nat → ClassId) : k_X8_bounded ca 51 = i_ret := rfl
set_option maxHeartbeats 4000000 in
set_option maxRecDepth 20000 in
theorem ok_X8_bounded (l : Launch) (D : va_G) (ca : Nat → ClassId) : OkAll l D ca yX8_bounded cX8_bounded 5 (some .int) 5 0 0 (sp_X8_bounded ca) := by
  intro av h post hs
  obtain ⟨m, a0, s, k, lo, hi, la, hk, rfl, ⟨⟨r, hm⟩, hs0⟩, hma, W, hs⟩ := hs
  have y1 : vp_in (nI (10 + 32 * k + 1)) 127 := vp127 (by omega)
  have x1 : (nI (10 + 32 * k + 1)).toNatClampNeg = 10 + 32 * k + 1 := tn127 (by omega)
  have y2 : vp_in (nI (10 + 32 * k + 2)) 127 := vp127 (by omega)
  have x2 : (nI (10 + 32 * k + 2)).toNatClampNeg = 10 + 32 * k + 2 := tn127 (by omega)
  have y3 : vp_in (nI (10 + 32 * k + 3)) 127 := vp127 (by omega)
  have x3 : (nI (10 + 32 * k + 3)).toNatClampNeg = 10 + 32 * k + 3 := tn127 (by omega)
  have y4 : vp_in (nI (106 + 7 * k)) 127 := vp127 (by omega)
  have x4 : (nI (106 + 7 * k)).toNatClampNeg = 106 + 7 * k := tn127 (by omega)
  obtain ⟨g1, g2⟩ := rt_cong (t := bndS s k lo hi la) W (bndS_o (by omega)).symm (fun i hi => (bndS_o (by omega)).symm) (fun i hi => (bndS_o (by omega)).symm)
  have e4 : bndS s k lo hi la (106 + 7 * k) = s (106 + 7 * k) := bndS_o (by omega)
  refine okM_of t_X8_bounded (by decide +kernel) (c1_ref (c1_int (c1_int (c1_int (c1_int c1_nil))))) (Nat.le_of_ble_eq_true rfl) ?_
  intro K go
  refine go (stp [24]) 18 _ _ _ _ _ _ ?_
  simp only [wpS, ite_not, i_push, i_iload, i_lload, i_aload, i_istore, i_astore, i_lstore, i_iinc, i_bin, i_dv, i_un, i_lbin, i_lsh, i_i2l, i_l2i, i_lcmp, i_dup, i_dup2, i_pop, i_if, i_icmp, i_goto, swG, i_sw, i_getf, i_puti, i_putz, i_putr, i_ald, i_lald, i_aald, i_ast, i_last, i_aast, i_alen, i_new, i_newi, i_newl, i_newq, i_oinit, i_ret, i_zret, i_lret, i_vret, catS, tk, rpush, isO, i_m1, i_m2, i_acopy, i_callV, i_callS, KRet, lget, lput, lputL, lcl0, isL, lv0, List.map_cons, List.map_nil, List.length_cons, List.length_nil, List.cons_append, List.nil_append, Nat.reduceAdd, Nat.reduceSub, Nat.reduceLeDiff, List.replicate_succ, List.replicate_zero, List.getElem?_cons_succ, List.getElem?_cons_zero, List.set_cons_succ, List.set_cons_zero, true_and, and_true, if_true, if_false, reduceIte, Nat.le_refl, Value.category, va_up_app, eq_self, stp, Nat.reduceBEq, Bool.or_false, Bool.false_or, Bool.true_or, Bool.or_true, or_true, true_or, bx_uu, implies_true, true_implies, not_true, not_false_eq_true, false_implies, and_self, Nat.reduceLT, Int32.reduceAdd, Int32.reduceSub, Int32.reduceMul, Int32.reduceLE, Int32.reduceLT, Int32.reduceToNatClampNeg, va_rf_some, Bool.false_eq_true, k_X8_bounded_0 ca, k_X8_bounded_1 ca, k_X8_bounded_4 ca, k_X8_bounded_5 ca, k_X8_bounded_8 ca, k_X8_bounded_9 ca, k_X8_bounded_10 ca, k_X8_bounded_11 ca, k_X8_bounded_12 ca, k_X8_bounded_13 ca, k_X8_bounded_16 ca, k_X8_bounded_17 ca, k_X8_bounded_20 ca, k_X8_bounded_21 ca, k_X8_bounded_22 ca, k_X8_bounded_23 ca, k_X8_bounded_24 ca, k_X8_bounded_25 ca, k_X8_bounded_28 ca, k_X8_bounded_29 ca, k_X8_bounded_32 ca, k_X8_bounded_33 ca, k_X8_bounded_34 ca, k_X8_bounded_36 ca, k_X8_bounded_37 ca, k_X8_bounded_38 ca, k_X8_bounded_39 ca, k_X8_bounded_40 ca, k_X8_bounded_43 ca, k_X8_bounded_44 ca, k_X8_bounded_47 ca, k_X8_bounded_48 ca, k_X8_bounded_51 ca, hm, hs0, hma, sp_X8_stripAt, s10, a_1, a_2, y1, x1, y2, x2]
  refine go (stp [37]) 10 _ _ _ _ _ _ ?_
  simp only [wpS, ite_not, i_push, i_iload, i_lload, i_aload, i_istore, i_astore, i_lstore, i_iinc, i_bin, i_dv, i_un, i_lbin, i_lsh, i_i2l, i_l2i, i_lcmp, i_dup, i_dup2, i_pop, i_if, i_icmp, i_goto, swG, i_sw, i_getf, i_puti, i_putz, i_putr, i_ald, i_lald, i_aald, i_ast, i_last, i_aast, i_alen, i_new, i_newi, i_newl, i_newq, i_oinit, i_ret, i_zret, i_lret, i_vret, catS, tk, rpush, isO, i_m1, i_m2, i_acopy, i_callV, i_callS, KRet, lget, lput, lputL, lcl0, isL, lv0, List.map_cons, List.map_nil, List.length_cons, List.length_nil, List.cons_append, List.nil_append, Nat.reduceAdd, Nat.reduceSub, Nat.reduceLeDiff, List.replicate_succ, List.replicate_zero, List.getElem?_cons_succ, List.getElem?_cons_zero, List.set_cons_succ, List.set_cons_zero, true_and, and_true, if_true, if_false, reduceIte, Nat.le_refl, Value.category, va_up_app, eq_self, stp, Nat.reduceBEq, Bool.or_false, Bool.false_or, Bool.true_or, Bool.or_true, or_true, true_or, bx_uu, implies_true, true_implies, not_true, not_false_eq_true, false_implies, and_self, Nat.reduceLT, Int32.reduceAdd, Int32.reduceSub, Int32.reduceMul, Int32.reduceLE, Int32.reduceLT, Int32.reduceToNatClampNeg, va_rf_some, Bool.false_eq_true, k_X8_bounded_0 ca, k_X8_bounded_1 ca, k_X8_bounded_4 ca, k_X8_bounded_5 ca, k_X8_bounded_8 ca, k_X8_bounded_9 ca, k_X8_bounded_10 ca, k_X8_bounded_11 ca, k_X8_bounded_12 ca, k_X8_bounded_13 ca, k_X8_bounded_16 ca, k_X8_bounded_17 ca, k_X8_bounded_20 ca, k_X8_bounded_21 ca, k_X8_bounded_22 ca, k_X8_bounded_23 ca, k_X8_bounded_24 ca, k_X8_bounded_25 ca, k_X8_bounded_28 ca, k_X8_bounded_29 ca, k_X8_bounded_32 ca, k_X8_bounded_33 ca, k_X8_bounded_34 ca, k_X8_bounded_36 ca, k_X8_bounded_37 ca, k_X8_bounded_38 ca, k_X8_bounded_39 ca, k_X8_bounded_40 ca, k_X8_bounded_43 ca, k_X8_bounded_44 ca, k_X8_bounded_47 ca, k_X8_bounded_48 ca, k_X8_bounded_51 ca, hm, hs0, hma, sp_X8_stripAt, s10, a_3, y3, x3]
  rw [show upd (upd (upd s (10 + 32 * k + 1) lo) (10 + 32 * k + 2) hi) (10 + 32 * k + 3) la = bndS s k lo hi la from rfl]
  refine go (stp [51]) 8 _ _ _ _ _ _ ?_
  simp only [wpS, ite_not, i_push, i_iload, i_lload, i_aload, i_istore, i_astore, i_lstore, i_iinc, i_bin, i_dv, i_un, i_lbin, i_lsh, i_i2l, i_l2i, i_lcmp, i_dup, i_dup2, i_pop, i_if, i_icmp, i_goto, swG, i_sw, i_getf, i_puti, i_putz, i_putr, i_ald, i_lald, i_aald, i_ast, i_last, i_aast, i_alen, i_new, i_newi, i_newl, i_newq, i_oinit, i_ret, i_zret, i_lret, i_vret, catS, tk, rpush, isO, i_m1, i_m2, i_acopy, i_callV, i_callS, KRet, lget, lput, lputL, lcl0, isL, lv0, List.map_cons, List.map_nil, List.length_cons, List.length_nil, List.cons_append, List.nil_append, Nat.reduceAdd, Nat.reduceSub, Nat.reduceLeDiff, List.replicate_succ, List.replicate_zero, List.getElem?_cons_succ, List.getElem?_cons_zero, List.set_cons_succ, List.set_cons_zero, true_and, and_true, if_true, if_false, reduceIte, Nat.le_refl, Value.category, va_up_app, eq_self, stp, Nat.reduceBEq, Bool.or_false, Bool.false_or, Bool.true_or, Bool.or_true, or_true, true_or, bx_uu, implies_true, true_implies, not_true, not_false_eq_true, false_implies, and_self, Nat.reduceLT, Int32.reduceAdd, Int32.reduceSub, Int32.reduceMul, Int32.reduceLE, Int32.reduceLT, Int32.reduceToNatClampNeg, va_rf_some, Bool.false_eq_true, k_X8_bounded_0 ca, k_X8_bounded_1 ca, k_X8_bounded_4 ca, k_X8_bounded_5 ca, k_X8_bounded_8 ca, k_X8_bounded_9 ca, k_X8_bounded_10 ca, k_X8_bounded_11 ca, k_X8_bounded_12 ca, k_X8_bounded_13 ca, k_X8_bounded_16 ca, k_X8_bounded_17 ca, k_X8_bounded_20 ca, k_X8_bounded_21 ca, k_X8_bounded_22 ca, k_X8_bounded_23 ca, k_X8_bounded_24 ca, k_X8_bounded_25 ca, k_X8_bounded_28 ca, k_X8_bounded_29 ca, k_X8_bounded_32 ca, k_X8_bounded_33 ca, k_X8_bounded_34 ca, k_X8_bounded_36 ca, k_X8_bounded_37 ca, k_X8_bounded_38 ca, k_X8_bounded_39 ca, k_X8_bounded_40 ca, k_X8_bounded_43 ca, k_X8_bounded_44 ca, k_X8_bounded_47 ca, k_X8_bounded_48 ca, k_X8_bounded_51 ca, hm, hma, sp_X8_roomAt, s106, y4, x4, e4]
  refine ⟨m, a0, _, k, _, hk, rfl, ⟨⟨r, (va_up_ne _ _ hma).trans hm⟩, va_up_self _ _ _⟩, g2, ?_⟩
  rw [← g1]
  refine go (stp []) 3 _ _ _ _ _ _ ?_
  simp only [wpS, ite_not, i_push, i_iload, i_lload, i_aload, i_istore, i_astore, i_lstore, i_iinc, i_bin, i_dv, i_un, i_lbin, i_lsh, i_i2l, i_l2i, i_lcmp, i_dup, i_dup2, i_pop, i_if, i_icmp, i_goto, swG, i_sw, i_getf, i_puti, i_putz, i_putr, i_ald, i_lald, i_aald, i_ast, i_last, i_aast, i_alen, i_new, i_newi, i_newl, i_newq, i_oinit, i_ret, i_zret, i_lret, i_vret, catS, tk, rpush, isO, i_m1, i_m2, i_acopy, i_callV, i_callS, KRet, lget, lput, lputL, lcl0, isL, lv0, List.map_cons, List.map_nil, List.length_cons, List.length_nil, List.cons_append, List.nil_append, Nat.reduceAdd, Nat.reduceSub, Nat.reduceLeDiff, List.replicate_succ, List.replicate_zero, List.getElem?_cons_succ, List.getElem?_cons_zero, List.set_cons_succ, List.set_cons_zero, true_and, and_true, if_true, if_false, reduceIte, Nat.le_refl, Value.category, va_up_app, eq_self, stp, Nat.reduceBEq, Bool.or_false, Bool.false_or, Bool.true_or, Bool.or_true, or_true, true_or, bx_uu, implies_true, true_implies, not_true, not_false_eq_true, false_implies, and_self, Nat.reduceLT, Int32.reduceAdd, Int32.reduceSub, Int32.reduceMul, Int32.reduceLE, Int32.reduceLT, Int32.reduceToNatClampNeg, va_rf_some, Bool.false_eq_true, k_X8_bounded_0 ca, k_X8_bounded_1 ca, k_X8_bounded_4 ca, k_X8_bounded_5 ca, k_X8_bounded_8 ca, k_X8_bounded_9 ca, k_X8_bounded_10 ca, k_X8_bounded_11 ca, k_X8_bounded_12 ca, k_X8_bounded_13 ca, k_X8_bounded_16 ca, k_X8_bounded_17 ca, k_X8_bounded_20 ca, k_X8_bounded_21 ca, k_X8_bounded_22 ca, k_X8_bounded_23 ca, k_X8_bounded_24 ca, k_X8_bounded_25 ca, k_X8_bounded_28 ca, k_X8_bounded_29 ca, k_X8_bounded_32 ca, k_X8_bounded_33 ca, k_X8_bounded_34 ca, k_X8_bounded_36 ca, k_X8_bounded_37 ca, k_X8_bounded_38 ca, k_X8_bounded_39 ca, k_X8_bounded_40 ca, k_X8_bounded_43 ca, k_X8_bounded_44 ca, k_X8_bounded_47 ca, k_X8_bounded_48 ca, k_X8_bounded_51 ca]
  exact hs
