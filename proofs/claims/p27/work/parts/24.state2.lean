/-! State: reads -/
theorem v03 : vp_in 0 3 := vpl (by decide)
theorem v13 : vp_in 1 3 := vpl (by decide)
theorem v23 : vp_in 2 3 := vpl (by decide)
theorem n1 : nI 1 = 1 := rfl
theorem n2 : nI 2 = 2 := rfl
def oI (x : Int32) : Int32 := if x = 0 then 0 else 1
def rt (s : Nat → Int32) (o : Nat) : Int32 := rateF (fun i => s (o + (8 + 3 * i))) (fun i => s (o + (9 + 3 * i))) (fun i => s (o + (10 + 3 * i))) s (s o).toNatClampNeg
def WfT (s : Nat → Int32) (o : Nat) : Prop := ¬ s o < 0 ∧ (s o).toNatClampNeg ≤ 8 ∧ ∀ i, i < (s o).toNatClampNeg → vp_in (s (o + (9 + 3 * i))) 6 ∧ vp_in (s (o + (10 + 3 * i))) 6
def WfS (s : Nat → Int32) : Prop := WfT s 10 ∧ WfT s 42 ∧ WfT s 74
theorem sumF_cong {f g : Nat → Int32} : ∀ {n : Nat}, (∀ i, i < n → f i = g i) → sumF f n = sumF g n
  | 0, _ => rfl
  | n + 1, h => by
    unfold sumF
    rw [sumF_cong (fun i hi => h i (by omega)), h n (by omega)]
theorem vp_lt {x : Int32} {n : Nat} (h : vp_in x n) : x.toNatClampNeg < n := by
  unfold vp_in at h
  omega
theorem rate_of {f8 f9 f10 f1 s : Nat → Int32} {o : Nat} (W : WfT s o) (e8 : ∀ i, i < 8 → f8 i = s (o + (8 + 3 * i))) (e9 : ∀ i, i < 8 → f9 i = s (o + (9 + 3 * i))) (e10 : ∀ i, i < 8 → f10 i = s (o + (10 + 3 * i))) (e1 : ∀ i, i < 6 → f1 i = s i) : (∀ i, i < (s o).toNatClampNeg → vp_in (f9 i) 6 ∧ vp_in (f10 i) 6) ∧ rateF f8 f9 f10 f1 (s o).toNatClampNeg = rt s o := by
  obtain ⟨w1, w2, w3⟩ := W
  refine ⟨fun i hi => by rw [e9 i (by omega), e10 i (by omega)]; exact w3 i hi, sumF_cong fun i hi => ?_⟩
  have h9 := vp_lt (w3 i hi).1
  have h10 := vp_lt (w3 i hi).2
  show f8 i * (f1 (f9 i).toNatClampNeg - f1 (f10 i).toNatClampNeg) = _
  rw [e8 i (by omega), e9 i (by omega), e10 i (by omega), e1 _ h9, e1 _ h10]
  rfl
def sp_X4_openings (ca : Nat → ClassId) : SPEC := fun av h post => ∃ b s, av = [.ref (b 0)] ∧ SAt ca h b s ∧ post (some (.int (0 + oI (s 109) + oI (s 116) + oI (s 123)))) h
def k_X4_openings (ca : Nat → ClassId) : Nat → IT := fun pc => lk pc [(0, i_push (.int 0) 1),
  (1, i_istore 1 2),
  (2, i_push (.int 0) 3),
  (3, i_istore 2 4),
  (4, i_iload 2 5),
  (5, i_push (.int 3) 6),
  (6, i_icmp (fun x y => y ≤ x) 30 9),
  (9, i_iload 1 10),
  (10, i_aload 0 11),
  (11, i_getf 4 3 14),
  (14, i_iload 2 15),
  (15, i_aald (ca 4) 16),
  (16, i_getf 2 3 19),
  (19, i_callS 1 0 0 0 0 (sp_X7_oneIf ca) 22),
  (22, i_bin (fun x y => x + y) 23),
  (23, i_istore 1 24),
  (24, i_iinc 2 1 27),
  (27, i_goto 4),
  (30, i_iload 1 31),
  (31, i_ret)]
set_option maxRecDepth 20000 in
theorem t_X4_openings : Tb k_X4_openings yX4_openings cX4_openings 3 (some .int) 1 0 0 := by
  intro l D ca A p e s m args below meth c post X
  unfold k_X4_openings
  refine snd_cons (snd_iconst X dX4_openings_0 (by decide)) ?_
  refine snd_cons (snd_istore_n X dX4_openings_1 rfl (by decide)) ?_
  refine snd_cons (snd_iconst X dX4_openings_2 (by decide)) ?_
  refine snd_cons (snd_istore_n X dX4_openings_3 rfl (by decide)) ?_
  refine snd_cons (snd_iload_n X dX4_openings_4 rfl) ?_
  refine snd_cons (snd_iconst X dX4_openings_5 (by decide)) ?_
  refine snd_cons (snd_icmp_ge X dX4_openings_6 (by decide)) ?_
  refine snd_cons (snd_iload_n X dX4_openings_9 rfl) ?_
  refine snd_cons (snd_aload_n X dX4_openings_10 rfl) ?_
  refine snd_cons (snd_getf X Fk4 3 (by decide) w_129 dX4_openings_11) ?_
  refine snd_cons (snd_iload_n X dX4_openings_14 rfl) ?_
  refine snd_cons (snd_aaload X 4 rfl dX4_openings_15) ?_
  refine snd_cons (snd_getf X Fk2 3 (by decide) w_98 dX4_openings_16) ?_
  refine snd_cons (snd_callSN X (ok_X7_oneIf l D ca) rfl rfl (fun h => h.2.1) w_351 w_1 w_352 (by decide) (by decide) dX4_openings_19) ?_
  refine snd_cons (snd_iadd X dX4_openings_22) ?_
  refine snd_cons (snd_istore_n X dX4_openings_23 rfl (by decide)) ?_
  refine snd_cons (snd_iinc X dX4_openings_24 (by decide) (by decide)) ?_
  refine snd_cons (snd_goto X dX4_openings_27 (by decide)) ?_
  refine snd_cons (snd_iload_n X dX4_openings_30 rfl) ?_
  refine snd_cons (snd_ret X dX4_openings_31) ?_
  exact snd_nil
theorem k_X4_openings_0 (ca : Nat → ClassId) : k_X4_openings ca 0 = i_push (.int 0) 1 := rfl
theorem k_X4_openings_1 (ca : Nat → ClassId) : k_X4_openings ca 1 = i_istore 1 2 := rfl
theorem k_X4_openings_2 (ca : Nat → ClassId) : k_X4_openings ca 2 = i_push (.int 0) 3 := rfl
theorem k_X4_openings_3 (ca : Nat → ClassId) : k_X4_openings ca 3 = i_istore 2 4 := rfl
theorem k_X4_openings_4 (ca : Nat → ClassId) : k_X4_openings ca 4 = i_iload 2 5 := rfl
theorem k_X4_openings_5 (ca : Nat → ClassId) : k_X4_openings ca 5 = i_push (.int 3) 6 := rfl
theorem k_X4_openings_6 (ca : Nat → ClassId) : k_X4_openings ca 6 = i_icmp (fun x y => y ≤ x) 30 9 := rfl
theorem k_X4_openings_9 (ca : Nat → ClassId) : k_X4_openings ca 9 = i_iload 1 10 := rfl
theorem k_X4_openings_10 (ca : Nat → ClassId) : k_X4_openings ca 10 = i_aload 0 11 := rfl
theorem k_X4_openings_11 (ca : Nat → ClassId) : k_X4_openings ca 11 = i_getf 4 3 14 := rfl
theorem k_X4_openings_14 (ca : Nat → ClassId) : k_X4_openings ca 14 = i_iload 2 15 := rfl
theorem k_X4_openings_15 (ca : Nat → ClassId) : k_X4_openings ca 15 = i_aald (ca 4) 16 := rfl
theorem k_X4_openings_16 (ca : Nat → ClassId) : k_X4_openings ca 16 = i_getf 2 3 19 := rfl
theorem k_X4_openings_19 (ca : Nat → ClassId) : k_X4_openings ca 19 = i_callS 1 0 0 0 0 (sp_X7_oneIf ca) 22 := rfl
theorem k_X4_openings_22 (ca : Nat → ClassId) : k_X4_openings ca 22 = i_bin (fun x y => x + y) 23 := rfl
theorem k_X4_openings_23 (ca : Nat → ClassId) : k_X4_openings ca 23 = i_istore 1 24 := rfl
theorem k_X4_openings_24 (ca : Nat → ClassId) : k_X4_openings ca 24 = i_iinc 2 1 27 := rfl
theorem k_X4_openings_27 (ca : Nat → ClassId) : k_X4_openings ca 27 = i_goto 4 := rfl
theorem k_X4_openings_30 (ca : Nat → ClassId) : k_X4_openings ca 30 = i_iload 1 31 := rfl
theorem k_X4_openings_31 (ca : Nat → ClassId) : k_X4_openings ca 31 = i_ret := rfl
set_option maxHeartbeats 4000000 in
set_option maxRecDepth 20000 in
theorem ok_X4_openings (l : Launch) (D : va_G) (ca : Nat → ClassId) : OkAll l D ca yX4_openings cX4_openings 3 (some .int) 1 0 0 (sp_X4_openings ca) := by
  intro av h post hs
  obtain ⟨b, s, rfl, hS, hs⟩ := hs
  obtain ⟨x0, ⟨xf1, xa1, xx1⟩, ⟨xf2, xa2, xx2⟩, ⟨xf3, xa3, xx3⟩, ⟨xf4, xa4, xx4⟩, ⟨xf5, xa5⟩, ⟨xf6, xa6⟩, ⟨xt7, ⟨xf8, xa8, xx8⟩, ⟨xf9, xa9, xx9⟩, ⟨xf10, xa10, xx10⟩⟩, xr11, ⟨xt12, ⟨xf13, xa13, xx13⟩, ⟨xf14, xa14, xx14⟩, ⟨xf15, xa15, xx15⟩⟩, xr16, ⟨xt17, ⟨xf18, xa18, xx18⟩, ⟨xf19, xa19, xx19⟩, ⟨xf20, xa20, xx20⟩⟩, xr21⟩ := id hS
  have xq30 : xf3 0 = some (b 7) := xx3 0 (by decide)
  have xq40 : xf4 0 = some (b 11) := xx4 0 (by decide)
  have xq31 : xf3 1 = some (b 12) := xx3 1 (by decide)
  have xq41 : xf4 1 = some (b 16) := xx4 1 (by decide)
  have xq32 : xf3 2 = some (b 17) := xx3 2 (by decide)
  have xq42 : xf4 2 = some (b 21) := xx4 2 (by decide)
  refine okM_of t_X4_openings (by decide +kernel) (c1_ref c1_nil) (Nat.le_of_ble_eq_true rfl) ?_
  intro K go
  refine go (stp []) 200 _ _ _ _ _ _ ?_
  simp only [wpS, ite_not, i_push, i_iload, i_lload, i_aload, i_istore, i_astore, i_lstore, i_iinc, i_bin, i_dv, i_un, i_lbin, i_lsh, i_i2l, i_l2i, i_lcmp, i_dup, i_dup2, i_pop, i_if, i_icmp, i_goto, swG, i_sw, i_getf, i_puti, i_putz, i_putr, i_ald, i_lald, i_aald, i_ast, i_last, i_aast, i_alen, i_new, i_newi, i_newl, i_newq, i_oinit, i_ret, i_zret, i_lret, i_vret, catS, tk, rpush, isO, i_m1, i_m2, i_acopy, i_callV, i_callS, KRet, lget, lput, lputL, lcl0, isL, lv0, List.map_cons, List.map_nil, List.length_cons, List.length_nil, List.cons_append, List.nil_append, Nat.reduceAdd, Nat.reduceSub, Nat.reduceLeDiff, List.replicate_succ, List.replicate_zero, List.getElem?_cons_succ, List.getElem?_cons_zero, List.set_cons_succ, List.set_cons_zero, true_and, and_true, if_true, if_false, reduceIte, Nat.le_refl, Value.category, va_up_app, eq_self, stp, Nat.reduceBEq, Bool.or_false, Bool.false_or, Bool.true_or, Bool.or_true, or_true, true_or, bx_uu, implies_true, true_implies, not_true, not_false_eq_true, false_implies, and_self, Nat.reduceLT, Int32.reduceAdd, Int32.reduceSub, Int32.reduceMul, Int32.reduceLE, Int32.reduceLT, Int32.reduceToNatClampNeg, va_rf_some, Bool.false_eq_true, k_X4_openings_0 ca, k_X4_openings_1 ca, k_X4_openings_2 ca, k_X4_openings_3 ca, k_X4_openings_4 ca, k_X4_openings_5 ca, k_X4_openings_6 ca, k_X4_openings_9 ca, k_X4_openings_10 ca, k_X4_openings_11 ca, k_X4_openings_14 ca, k_X4_openings_15 ca, k_X4_openings_16 ca, k_X4_openings_19 ca, k_X4_openings_22 ca, k_X4_openings_23 ca, k_X4_openings_24 ca, k_X4_openings_27 ca, k_X4_openings_30 ca, k_X4_openings_31 ca, eState, eStrip, eRoom, x0, xa1, xa2, xa3, xa4, xa5, xa6, xa8, xa9, xa10, xa13, xa14, xa15, xa18, xa19, xa20, xt7, xt12, xt17, xr11, xr16, xr21, xq30, xq31, xq32, xq40, xq41, xq42, v03, v13, v23, sp_X7_oneIf]
  exact hs
def sp_X4_snaps (ca : Nat → ClassId) : SPEC := fun av h post => ∃ b s, av = [.ref (b 0)] ∧ SAt ca h b s ∧ post (some (.int (0 + s 16 + s 48 + s 80))) h
def k_X4_snaps (ca : Nat → ClassId) : Nat → IT := fun pc => lk pc [(0, i_push (.int 0) 1),
  (1, i_istore 1 2),
  (2, i_push (.int 0) 3),
  (3, i_istore 2 4),
  (4, i_iload 2 5),
  (5, i_push (.int 3) 6),
  (6, i_icmp (fun x y => y ≤ x) 27 9),
  (9, i_iload 1 10),
  (10, i_aload 0 11),
  (11, i_getf 4 2 14),
  (14, i_iload 2 15),
  (15, i_aald (ca 6) 16),
  (16, i_getf 5 8 19),
  (19, i_bin (fun x y => x + y) 20),
  (20, i_istore 1 21),
  (21, i_iinc 2 1 24),
  (24, i_goto 4),
  (27, i_iload 1 28),
  (28, i_ret)]
set_option maxRecDepth 20000 in
theorem t_X4_snaps : Tb k_X4_snaps yX4_snaps cX4_snaps 3 (some .int) 0 0 0 := by
  intro l D ca A p e s m args below meth c post X
  unfold k_X4_snaps
  refine snd_cons (snd_iconst X dX4_snaps_0 (by decide)) ?_
  refine snd_cons (snd_istore_n X dX4_snaps_1 rfl (by decide)) ?_
  refine snd_cons (snd_iconst X dX4_snaps_2 (by decide)) ?_
  refine snd_cons (snd_istore_n X dX4_snaps_3 rfl (by decide)) ?_
  refine snd_cons (snd_iload_n X dX4_snaps_4 rfl) ?_
  refine snd_cons (snd_iconst X dX4_snaps_5 (by decide)) ?_
  refine snd_cons (snd_icmp_ge X dX4_snaps_6 (by decide)) ?_
  refine snd_cons (snd_iload_n X dX4_snaps_9 rfl) ?_
  refine snd_cons (snd_aload_n X dX4_snaps_10 rfl) ?_
  refine snd_cons (snd_getf X Fk4 2 (by decide) w_127 dX4_snaps_11) ?_
  refine snd_cons (snd_iload_n X dX4_snaps_14 rfl) ?_
  refine snd_cons (snd_aaload X 6 rfl dX4_snaps_15) ?_
  refine snd_cons (snd_getf X Fk5 8 (by decide) w_53 dX4_snaps_16) ?_
  refine snd_cons (snd_iadd X dX4_snaps_19) ?_
  refine snd_cons (snd_istore_n X dX4_snaps_20 rfl (by decide)) ?_
  refine snd_cons (snd_iinc X dX4_snaps_21 (by decide) (by decide)) ?_
  refine snd_cons (snd_goto X dX4_snaps_24 (by decide)) ?_
  refine snd_cons (snd_iload_n X dX4_snaps_27 rfl) ?_
  refine snd_cons (snd_ret X dX4_snaps_28) ?_
  exact snd_nil
theorem k_X4_snaps_0 (ca : Nat → ClassId) : k_X4_snaps ca 0 = i_push (.int 0) 1 := rfl
theorem k_X4_snaps_1 (ca : Nat → ClassId) : k_X4_snaps ca 1 = i_istore 1 2 := rfl
theorem k_X4_snaps_2 (ca : Nat → ClassId) : k_X4_snaps ca 2 = i_push (.int 0) 3 := rfl
theorem k_X4_snaps_3 (ca : Nat → ClassId) : k_X4_snaps ca 3 = i_istore 2 4 := rfl
theorem k_X4_snaps_4 (ca : Nat → ClassId) : k_X4_snaps ca 4 = i_iload 2 5 := rfl
theorem k_X4_snaps_5 (ca : Nat → ClassId) : k_X4_snaps ca 5 = i_push (.int 3) 6 := rfl
theorem k_X4_snaps_6 (ca : Nat → ClassId) : k_X4_snaps ca 6 = i_icmp (fun x y => y ≤ x) 27 9 := rfl
theorem k_X4_snaps_9 (ca : Nat → ClassId) : k_X4_snaps ca 9 = i_iload 1 10 := rfl
theorem k_X4_snaps_10 (ca : Nat → ClassId) : k_X4_snaps ca 10 = i_aload 0 11 := rfl
theorem k_X4_snaps_11 (ca : Nat → ClassId) : k_X4_snaps ca 11 = i_getf 4 2 14 := rfl
theorem k_X4_snaps_14 (ca : Nat → ClassId) : k_X4_snaps ca 14 = i_iload 2 15 := rfl
theorem k_X4_snaps_15 (ca : Nat → ClassId) : k_X4_snaps ca 15 = i_aald (ca 6) 16 := rfl
theorem k_X4_snaps_16 (ca : Nat → ClassId) : k_X4_snaps ca 16 = i_getf 5 8 19 := rfl
theorem k_X4_snaps_19 (ca : Nat → ClassId) : k_X4_snaps ca 19 = i_bin (fun x y => x + y) 20 := rfl
theorem k_X4_snaps_20 (ca : Nat → ClassId) : k_X4_snaps ca 20 = i_istore 1 21 := rfl
theorem k_X4_snaps_21 (ca : Nat → ClassId) : k_X4_snaps ca 21 = i_iinc 2 1 24 := rfl
theorem k_X4_snaps_24 (ca : Nat → ClassId) : k_X4_snaps ca 24 = i_goto 4 := rfl
theorem k_X4_snaps_27 (ca : Nat → ClassId) : k_X4_snaps ca 27 = i_iload 1 28 := rfl
theorem k_X4_snaps_28 (ca : Nat → ClassId) : k_X4_snaps ca 28 = i_ret := rfl
set_option maxHeartbeats 4000000 in
set_option maxRecDepth 20000 in
theorem ok_X4_snaps (l : Launch) (D : va_G) (ca : Nat → ClassId) : OkAll l D ca yX4_snaps cX4_snaps 3 (some .int) 0 0 0 (sp_X4_snaps ca) := by
  intro av h post hs
  obtain ⟨b, s, rfl, hS, hs⟩ := hs
  obtain ⟨x0, ⟨xf1, xa1, xx1⟩, ⟨xf2, xa2, xx2⟩, ⟨xf3, xa3, xx3⟩, ⟨xf4, xa4, xx4⟩, ⟨xf5, xa5⟩, ⟨xf6, xa6⟩, ⟨xt7, ⟨xf8, xa8, xx8⟩, ⟨xf9, xa9, xx9⟩, ⟨xf10, xa10, xx10⟩⟩, xr11, ⟨xt12, ⟨xf13, xa13, xx13⟩, ⟨xf14, xa14, xx14⟩, ⟨xf15, xa15, xx15⟩⟩, xr16, ⟨xt17, ⟨xf18, xa18, xx18⟩, ⟨xf19, xa19, xx19⟩, ⟨xf20, xa20, xx20⟩⟩, xr21⟩ := id hS
  have xq30 : xf3 0 = some (b 7) := xx3 0 (by decide)
  have xq40 : xf4 0 = some (b 11) := xx4 0 (by decide)
  have xq31 : xf3 1 = some (b 12) := xx3 1 (by decide)
  have xq41 : xf4 1 = some (b 16) := xx4 1 (by decide)
  have xq32 : xf3 2 = some (b 17) := xx3 2 (by decide)
  have xq42 : xf4 2 = some (b 21) := xx4 2 (by decide)
  refine okM_of t_X4_snaps (by decide +kernel) (c1_ref c1_nil) (Nat.le_of_ble_eq_true rfl) ?_
  intro K go
  refine go (stp []) 200 _ _ _ _ _ _ ?_
  simp only [wpS, ite_not, i_push, i_iload, i_lload, i_aload, i_istore, i_astore, i_lstore, i_iinc, i_bin, i_dv, i_un, i_lbin, i_lsh, i_i2l, i_l2i, i_lcmp, i_dup, i_dup2, i_pop, i_if, i_icmp, i_goto, swG, i_sw, i_getf, i_puti, i_putz, i_putr, i_ald, i_lald, i_aald, i_ast, i_last, i_aast, i_alen, i_new, i_newi, i_newl, i_newq, i_oinit, i_ret, i_zret, i_lret, i_vret, catS, tk, rpush, isO, i_m1, i_m2, i_acopy, i_callV, i_callS, KRet, lget, lput, lputL, lcl0, isL, lv0, List.map_cons, List.map_nil, List.length_cons, List.length_nil, List.cons_append, List.nil_append, Nat.reduceAdd, Nat.reduceSub, Nat.reduceLeDiff, List.replicate_succ, List.replicate_zero, List.getElem?_cons_succ, List.getElem?_cons_zero, List.set_cons_succ, List.set_cons_zero, true_and, and_true, if_true, if_false, reduceIte, Nat.le_refl, Value.category, va_up_app, eq_self, stp, Nat.reduceBEq, Bool.or_false, Bool.false_or, Bool.true_or, Bool.or_true, or_true, true_or, bx_uu, implies_true, true_implies, not_true, not_false_eq_true, false_implies, and_self, Nat.reduceLT, Int32.reduceAdd, Int32.reduceSub, Int32.reduceMul, Int32.reduceLE, Int32.reduceLT, Int32.reduceToNatClampNeg, va_rf_some, Bool.false_eq_true, k_X4_snaps_0 ca, k_X4_snaps_1 ca, k_X4_snaps_2 ca, k_X4_snaps_3 ca, k_X4_snaps_4 ca, k_X4_snaps_5 ca, k_X4_snaps_6 ca, k_X4_snaps_9 ca, k_X4_snaps_10 ca, k_X4_snaps_11 ca, k_X4_snaps_14 ca, k_X4_snaps_15 ca, k_X4_snaps_16 ca, k_X4_snaps_19 ca, k_X4_snaps_20 ca, k_X4_snaps_21 ca, k_X4_snaps_24 ca, k_X4_snaps_27 ca, k_X4_snaps_28 ca, eState, eStrip, eRoom, x0, xa1, xa2, xa3, xa4, xa5, xa6, xa8, xa9, xa10, xa13, xa14, xa15, xa18, xa19, xa20, xt7, xt12, xt17, xr11, xr16, xr21, xq30, xq31, xq32, xq40, xq41, xq42, v03, v13, v23]
  exact hs
def sp_X4_bendInRoom (ca : Nat → ClassId) : SPEC := fun av h post => ∃ b s k, k < 3 ∧ av = [.ref (b 0), .int (nI k)] ∧ SAt ca h b s ∧ WfS s ∧ post (some (.int (rt s (10 + 32 * k) * (s (106 + 7 * k) - 200)))) h
def k_X4_bendInRoom (ca : Nat → ClassId) : Nat → IT := fun pc => lk pc [(0, i_aload 0 1),
  (1, i_getf 4 2 4),
  (4, i_iload 1 5),
  (5, i_aald (ca 6) 6),
  (6, i_aload 0 7),
  (7, i_getf 4 0 10),
  (10, i_callV 5 1 0 0 0 0 (sp_X5_rate ca) 13),
  (13, i_aload 0 14),
  (14, i_getf 4 3 17),
  (17, i_iload 1 18),
  (18, i_aald (ca 4) 19),
  (19, i_getf 2 0 22),
  (22, i_callS 2 0 0 0 0 (sp_X7_bendAt ca) 25),
  (25, i_ret)]
set_option maxRecDepth 20000 in
theorem t_X4_bendInRoom : Tb k_X4_bendInRoom yX4_bendInRoom cX4_bendInRoom 2 (some .int) 2 0 0 := by
  intro l D ca A p e s m args below meth c post X
  unfold k_X4_bendInRoom
  refine snd_cons (snd_aload_n X dX4_bendInRoom_0 rfl) ?_
  refine snd_cons (snd_getf X Fk4 2 (by decide) w_127 dX4_bendInRoom_1) ?_
  refine snd_cons (snd_iload_n X dX4_bendInRoom_4 rfl) ?_
  refine snd_cons (snd_aaload X 6 rfl dX4_bendInRoom_5) ?_
  refine snd_cons (snd_aload_n X dX4_bendInRoom_6 rfl) ?_
  refine snd_cons (snd_getf X Fk4 0 (by decide) w_122 dX4_bendInRoom_7) ?_
  refine snd_cons (snd_callV X Fk5 (ok_X5_rate l D ca) rfl rfl w_346 w_335 w_336 w_3 w_337 (by decide) (by decide) dX4_bendInRoom_10) ?_
  refine snd_cons (snd_aload_n X dX4_bendInRoom_13 rfl) ?_
  refine snd_cons (snd_getf X Fk4 3 (by decide) w_129 dX4_bendInRoom_14) ?_
  refine snd_cons (snd_iload_n X dX4_bendInRoom_17 rfl) ?_
  refine snd_cons (snd_aaload X 4 rfl dX4_bendInRoom_18) ?_
  refine snd_cons (snd_getf X Fk2 0 (by decide) w_90 dX4_bendInRoom_19) ?_
  refine snd_cons (snd_callSN X (ok_X7_bendAt l D ca) rfl rfl (fun h => h.1) w_348 w_1 w_349 (by decide) (by decide) dX4_bendInRoom_22) ?_
  refine snd_cons (snd_ret X dX4_bendInRoom_25) ?_
  exact snd_nil
theorem k_X4_bendInRoom_0 (ca : Nat → ClassId) : k_X4_bendInRoom ca 0 = i_aload 0 1 := rfl
theorem k_X4_bendInRoom_1 (ca : Nat → ClassId) : k_X4_bendInRoom ca 1 = i_getf 4 2 4 := rfl
theorem k_X4_bendInRoom_4 (ca : Nat → ClassId) : k_X4_bendInRoom ca 4 = i_iload 1 5 := rfl
theorem k_X4_bendInRoom_5 (ca : Nat → ClassId) : k_X4_bendInRoom ca 5 = i_aald (ca 6) 6 := rfl
theorem k_X4_bendInRoom_6 (ca : Nat → ClassId) : k_X4_bendInRoom ca 6 = i_aload 0 7 := rfl
theorem k_X4_bendInRoom_7 (ca : Nat → ClassId) : k_X4_bendInRoom ca 7 = i_getf 4 0 10 := rfl
theorem k_X4_bendInRoom_10 (ca : Nat → ClassId) : k_X4_bendInRoom ca 10 = i_callV 5 1 0 0 0 0 (sp_X5_rate ca) 13 := rfl
theorem k_X4_bendInRoom_13 (ca : Nat → ClassId) : k_X4_bendInRoom ca 13 = i_aload 0 14 := rfl
theorem k_X4_bendInRoom_14 (ca : Nat → ClassId) : k_X4_bendInRoom ca 14 = i_getf 4 3 17 := rfl
theorem k_X4_bendInRoom_17 (ca : Nat → ClassId) : k_X4_bendInRoom ca 17 = i_iload 1 18 := rfl
theorem k_X4_bendInRoom_18 (ca : Nat → ClassId) : k_X4_bendInRoom ca 18 = i_aald (ca 4) 19 := rfl
theorem k_X4_bendInRoom_19 (ca : Nat → ClassId) : k_X4_bendInRoom ca 19 = i_getf 2 0 22 := rfl
theorem k_X4_bendInRoom_22 (ca : Nat → ClassId) : k_X4_bendInRoom ca 22 = i_callS 2 0 0 0 0 (sp_X7_bendAt ca) 25 := rfl
theorem k_X4_bendInRoom_25 (ca : Nat → ClassId) : k_X4_bendInRoom ca 25 = i_ret := rfl
set_option maxHeartbeats 4000000 in
set_option maxRecDepth 20000 in
theorem ok_X4_bendInRoom (l : Launch) (D : va_G) (ca : Nat → ClassId) : OkAll l D ca yX4_bendInRoom cX4_bendInRoom 2 (some .int) 2 0 0 (sp_X4_bendInRoom ca) := by
  intro av h post hs
  obtain ⟨b, s, k, hk, rfl, hS, ⟨w1, w2, w3⟩, hs⟩ := hs
  obtain ⟨x0, ⟨xf1, xa1, xx1⟩, ⟨xf2, xa2, xx2⟩, ⟨xf3, xa3, xx3⟩, ⟨xf4, xa4, xx4⟩, ⟨xf5, xa5⟩, ⟨xf6, xa6⟩, ⟨xt7, ⟨xf8, xa8, xx8⟩, ⟨xf9, xa9, xx9⟩, ⟨xf10, xa10, xx10⟩⟩, xr11, ⟨xt12, ⟨xf13, xa13, xx13⟩, ⟨xf14, xa14, xx14⟩, ⟨xf15, xa15, xx15⟩⟩, xr16, ⟨xt17, ⟨xf18, xa18, xx18⟩, ⟨xf19, xa19, xx19⟩, ⟨xf20, xa20, xx20⟩⟩, xr21⟩ := id hS
  have xq30 : xf3 0 = some (b 7) := xx3 0 (by decide)
  have xq40 : xf4 0 = some (b 11) := xx4 0 (by decide)
  have xq31 : xf3 1 = some (b 12) := xx3 1 (by decide)
  have xq41 : xf4 1 = some (b 16) := xx4 1 (by decide)
  have xq32 : xf3 2 = some (b 17) := xx3 2 (by decide)
  have xq42 : xf4 2 = some (b 21) := xx4 2 (by decide)
  obtain ⟨g1, g2⟩ := rate_of w1 xx8 xx9 xx10 xx1
  obtain ⟨g3, g4⟩ := rate_of w2 xx13 xx14 xx15 xx1
  obtain ⟨g5, g6⟩ := rate_of w3 xx18 xx19 xx20 xx1
  refine okM_of t_X4_bendInRoom (by decide +kernel) (c1_ref (c1_int c1_nil)) (Nat.le_of_ble_eq_true rfl) ?_
  intro K go
  have hk3 : k = 0 ∨ k = 1 ∨ k = 2 := by omega
  rcases hk3 with rfl | rfl | rfl
  · rw [nI_0]
    refine go (stp []) 200 _ _ _ _ _ _ ?_
    simp only [wpS, ite_not, i_push, i_iload, i_lload, i_aload, i_istore, i_astore, i_lstore, i_iinc, i_bin, i_dv, i_un, i_lbin, i_lsh, i_i2l, i_l2i, i_lcmp, i_dup, i_dup2, i_pop, i_if, i_icmp, i_goto, swG, i_sw, i_getf, i_puti, i_putz, i_putr, i_ald, i_lald, i_aald, i_ast, i_last, i_aast, i_alen, i_new, i_newi, i_newl, i_newq, i_oinit, i_ret, i_zret, i_lret, i_vret, catS, tk, rpush, isO, i_m1, i_m2, i_acopy, i_callV, i_callS, KRet, lget, lput, lputL, lcl0, isL, lv0, List.map_cons, List.map_nil, List.length_cons, List.length_nil, List.cons_append, List.nil_append, Nat.reduceAdd, Nat.reduceSub, Nat.reduceLeDiff, List.replicate_succ, List.replicate_zero, List.getElem?_cons_succ, List.getElem?_cons_zero, List.set_cons_succ, List.set_cons_zero, true_and, and_true, if_true, if_false, reduceIte, Nat.le_refl, Value.category, va_up_app, eq_self, stp, Nat.reduceBEq, Bool.or_false, Bool.false_or, Bool.true_or, Bool.or_true, or_true, true_or, bx_uu, implies_true, true_implies, not_true, not_false_eq_true, false_implies, and_self, Nat.reduceLT, Int32.reduceAdd, Int32.reduceSub, Int32.reduceMul, Int32.reduceLE, Int32.reduceLT, Int32.reduceToNatClampNeg, va_rf_some, Bool.false_eq_true, k_X4_bendInRoom_0 ca, k_X4_bendInRoom_1 ca, k_X4_bendInRoom_4 ca, k_X4_bendInRoom_5 ca, k_X4_bendInRoom_6 ca, k_X4_bendInRoom_7 ca, k_X4_bendInRoom_10 ca, k_X4_bendInRoom_13 ca, k_X4_bendInRoom_14 ca, k_X4_bendInRoom_17 ca, k_X4_bendInRoom_18 ca, k_X4_bendInRoom_19 ca, k_X4_bendInRoom_22 ca, k_X4_bendInRoom_25 ca, eState, eStrip, eRoom, x0, xa1, xa2, xa3, xa4, xa5, xa6, xa8, xa9, xa10, xa13, xa14, xa15, xa18, xa19, xa20, xt7, xt12, xt17, xr11, xr16, xr21, xq30, xq31, xq32, xq40, xq41, xq42, v03, v13, v23, sp_X7_bendAt, sp_X5_rate, w1.1, w1.2.1, g2]
    exact ⟨g1, hs⟩
  · rw [n1]
    refine go (stp []) 200 _ _ _ _ _ _ ?_
    simp only [wpS, ite_not, i_push, i_iload, i_lload, i_aload, i_istore, i_astore, i_lstore, i_iinc, i_bin, i_dv, i_un, i_lbin, i_lsh, i_i2l, i_l2i, i_lcmp, i_dup, i_dup2, i_pop, i_if, i_icmp, i_goto, swG, i_sw, i_getf, i_puti, i_putz, i_putr, i_ald, i_lald, i_aald, i_ast, i_last, i_aast, i_alen, i_new, i_newi, i_newl, i_newq, i_oinit, i_ret, i_zret, i_lret, i_vret, catS, tk, rpush, isO, i_m1, i_m2, i_acopy, i_callV, i_callS, KRet, lget, lput, lputL, lcl0, isL, lv0, List.map_cons, List.map_nil, List.length_cons, List.length_nil, List.cons_append, List.nil_append, Nat.reduceAdd, Nat.reduceSub, Nat.reduceLeDiff, List.replicate_succ, List.replicate_zero, List.getElem?_cons_succ, List.getElem?_cons_zero, List.set_cons_succ, List.set_cons_zero, true_and, and_true, if_true, if_false, reduceIte, Nat.le_refl, Value.category, va_up_app, eq_self, stp, Nat.reduceBEq, Bool.or_false, Bool.false_or, Bool.true_or, Bool.or_true, or_true, true_or, bx_uu, implies_true, true_implies, not_true, not_false_eq_true, false_implies, and_self, Nat.reduceLT, Int32.reduceAdd, Int32.reduceSub, Int32.reduceMul, Int32.reduceLE, Int32.reduceLT, Int32.reduceToNatClampNeg, va_rf_some, Bool.false_eq_true, k_X4_bendInRoom_0 ca, k_X4_bendInRoom_1 ca, k_X4_bendInRoom_4 ca, k_X4_bendInRoom_5 ca, k_X4_bendInRoom_6 ca, k_X4_bendInRoom_7 ca, k_X4_bendInRoom_10 ca, k_X4_bendInRoom_13 ca, k_X4_bendInRoom_14 ca, k_X4_bendInRoom_17 ca, k_X4_bendInRoom_18 ca, k_X4_bendInRoom_19 ca, k_X4_bendInRoom_22 ca, k_X4_bendInRoom_25 ca, eState, eStrip, eRoom, x0, xa1, xa2, xa3, xa4, xa5, xa6, xa8, xa9, xa10, xa13, xa14, xa15, xa18, xa19, xa20, xt7, xt12, xt17, xr11, xr16, xr21, xq30, xq31, xq32, xq40, xq41, xq42, v03, v13, v23, sp_X7_bendAt, sp_X5_rate, w2.1, w2.2.1, g4]
    exact ⟨g3, hs⟩
  · rw [n2]
    refine go (stp []) 200 _ _ _ _ _ _ ?_
    simp only [wpS, ite_not, i_push, i_iload, i_lload, i_aload, i_istore, i_astore, i_lstore, i_iinc, i_bin, i_dv, i_un, i_lbin, i_lsh, i_i2l, i_l2i, i_lcmp, i_dup, i_dup2, i_pop, i_if, i_icmp, i_goto, swG, i_sw, i_getf, i_puti, i_putz, i_putr, i_ald, i_lald, i_aald, i_ast, i_last, i_aast, i_alen, i_new, i_newi, i_newl, i_newq, i_oinit, i_ret, i_zret, i_lret, i_vret, catS, tk, rpush, isO, i_m1, i_m2, i_acopy, i_callV, i_callS, KRet, lget, lput, lputL, lcl0, isL, lv0, List.map_cons, List.map_nil, List.length_cons, List.length_nil, List.cons_append, List.nil_append, Nat.reduceAdd, Nat.reduceSub, Nat.reduceLeDiff, List.replicate_succ, List.replicate_zero, List.getElem?_cons_succ, List.getElem?_cons_zero, List.set_cons_succ, List.set_cons_zero, true_and, and_true, if_true, if_false, reduceIte, Nat.le_refl, Value.category, va_up_app, eq_self, stp, Nat.reduceBEq, Bool.or_false, Bool.false_or, Bool.true_or, Bool.or_true, or_true, true_or, bx_uu, implies_true, true_implies, not_true, not_false_eq_true, false_implies, and_self, Nat.reduceLT, Int32.reduceAdd, Int32.reduceSub, Int32.reduceMul, Int32.reduceLE, Int32.reduceLT, Int32.reduceToNatClampNeg, va_rf_some, Bool.false_eq_true, k_X4_bendInRoom_0 ca, k_X4_bendInRoom_1 ca, k_X4_bendInRoom_4 ca, k_X4_bendInRoom_5 ca, k_X4_bendInRoom_6 ca, k_X4_bendInRoom_7 ca, k_X4_bendInRoom_10 ca, k_X4_bendInRoom_13 ca, k_X4_bendInRoom_14 ca, k_X4_bendInRoom_17 ca, k_X4_bendInRoom_18 ca, k_X4_bendInRoom_19 ca, k_X4_bendInRoom_22 ca, k_X4_bendInRoom_25 ca, eState, eStrip, eRoom, x0, xa1, xa2, xa3, xa4, xa5, xa6, xa8, xa9, xa10, xa13, xa14, xa15, xa18, xa19, xa20, xt7, xt12, xt17, xr11, xr16, xr21, xq30, xq31, xq32, xq40, xq41, xq42, v03, v13, v23, sp_X7_bendAt, sp_X5_rate, w3.1, w3.2.1, g6]
    exact ⟨g5, hs⟩

