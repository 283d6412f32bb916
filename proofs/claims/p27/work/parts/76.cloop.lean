/-! SnapStacks: loop -/
def aLoop (fo le pe sn x : Int32) : Int32 := if fo = 0 then -10000004 else if x = 0 then le else if x = 1 then pe else sn
def SmOL (o x4 : Nat) (tb : Nat → Nat) (kx sx px : Nat) (h h' : PH) : Prop := ∀ z : Nat, ¬ z = o → ¬ z = x4 → (∀ k, k < 22 → ¬ z = tb k) → ¬ z = kx → ¬ z = sx → ¬ z = px → h' z = h z
def sp_X7_loop (ca : Nat → ClassId) : SPEC := fun av h post => ∃ o b qh x3 x4 x5 lk s tb kx sx px fo le pe sn x, av = [.ref o, .int x] ∧ h o = some (.inr (7, [.ref (b 0), .ref qh, .ref x3, .ref x4, .ref x5, .int lk])) ∧ SAt ca h b s ∧ DLp x4 tb kx sx px b ∧ (¬ o = x4 ∧ (∀ k, k < 22 → ¬ o = tb k) ∧ ¬ o = kx ∧ ¬ o = sx ∧ ¬ o = px) ∧ BoS s ∧ WfS s ∧ LF ca h x4 tb kx sx px fo le pe sn ∧ (lk = 0 ∨ lk = 1) ∧
  (isIn x 0 2 = false → post (some (.int (-10000001))) h) ∧ (isIn x 0 2 = true → lk = 1 → post (some (.int (aLoop fo le pe sn x))) h) ∧
  (isIn x 0 2 = true → lk = 0 → ∀ h' fo' le' pe' sn', LoopRes s fo' le' pe' sn' → LF ca h' x4 tb kx sx px fo' le' pe' sn' → h' o = some (.inr (7, [.ref (b 0), .ref qh, .ref x3, .ref x4, .ref x5, .int 1])) → SmOL o x4 tb kx sx px h h' → post (some (.int (aLoop fo' le' pe' sn' x))) h')
def k_X7_loop (ca : Nat → ClassId) : Nat → IT := fun pc => lk pc [(0, i_iload 1 1),
  (1, i_push (.int 0) 2),
  (2, i_push (.int 2) 3),
  (3, i_callS 3 0 0 0 0 (sp_X7_isWithin ca) 6),
  (6, i_if (fun x => ¬ x = 0) 12 9),
  (9, i_push (.int (-10000001)) 11),
  (11, i_ret),
  (12, i_aload 0 13),
  (13, i_getf 7 5 16),
  (16, i_if (fun x => ¬ x = 0) 35 19),
  (19, i_aload 0 20),
  (20, i_getf 7 3 23),
  (23, i_aload 0 24),
  (24, i_getf 7 0 27),
  (27, i_callV 1 1 0 0 0 0 (sp_X1_seek ca) 30),
  (30, i_aload 0 31),
  (31, i_push (.int 1) 32),
  (32, i_putz 7 5 35),
  (35, i_aload 0 36),
  (36, i_getf 7 3 39),
  (39, i_getf 1 4 42),
  (42, i_if (fun x => ¬ x = 0) 48 45),
  (45, i_push (.int (-10000004)) 47),
  (47, i_ret),
  (48, i_iload 1 49),
  (49, i_sw [(0, 76), (1, 84)] 92),
  (76, i_aload 0 77),
  (77, i_getf 7 3 80),
  (80, i_getf 1 5 83),
  (83, i_ret),
  (84, i_aload 0 85),
  (85, i_getf 7 3 88),
  (88, i_getf 1 6 91),
  (91, i_ret),
  (92, i_aload 0 93),
  (93, i_getf 7 3 96),
  (96, i_getf 1 7 99),
  (99, i_ret)]
set_option maxRecDepth 20000 in
theorem t_X7_loop : Tb k_X7_loop yX7_loop cX7_loop 2 (some .int) 5 0 0 := by
  intro l D ca A p e s m args below meth c post X
  unfold k_X7_loop
  refine snd_cons (snd_iload_n X dX7_loop_0 rfl) ?_
  refine snd_cons (snd_iconst X dX7_loop_1 (by decide)) ?_
  refine snd_cons (snd_iconst X dX7_loop_2 (by decide)) ?_
  refine snd_cons (snd_callS X (ok_X7_isWithin l D ca) rfl rfl w_281 w_282 w_1 w_283 (by decide) (by decide) dX7_loop_3) ?_
  refine snd_cons (snd_if_ne X dX7_loop_6 (by decide)) ?_
  refine snd_cons (snd_ldc X w_284 dX7_loop_9) ?_
  refine snd_cons (snd_ret X dX7_loop_11) ?_
  refine snd_cons (snd_aload_n X dX7_loop_12 rfl) ?_
  refine snd_cons (snd_getf X Fk7 5 (by decide) w_255 dX7_loop_13) ?_
  refine snd_cons (snd_if_ne X dX7_loop_16 (by decide)) ?_
  refine snd_cons (snd_aload_n X dX7_loop_19 rfl) ?_
  refine snd_cons (snd_getf X Fk7 3 (by decide) w_253 dX7_loop_20) ?_
  refine snd_cons (snd_aload_n X dX7_loop_23 rfl) ?_
  refine snd_cons (snd_getf X Fk7 0 (by decide) w_250 dX7_loop_24) ?_
  refine snd_cons (snd_callV X Fk1 (ok_X1_seek l D ca) rfl rfl w_402 w_403 w_404 w_7 w_405 (by decide) (by decide) dX7_loop_27) ?_
  refine snd_cons (snd_aload_n X dX7_loop_30 rfl) ?_
  refine snd_cons (snd_iconst X dX7_loop_31 (by decide)) ?_
  refine snd_cons (snd_putz X Fk7 5 (by decide) rfl rfl w_255 dX7_loop_32) ?_
  refine snd_cons (snd_aload_n X dX7_loop_35 rfl) ?_
  refine snd_cons (snd_getf X Fk7 3 (by decide) w_253 dX7_loop_36) ?_
  refine snd_cons (snd_getf X Fk1 4 (by decide) w_202 dX7_loop_39) ?_
  refine snd_cons (snd_if_ne X dX7_loop_42 (by decide)) ?_
  refine snd_cons (snd_ldc X w_361 dX7_loop_45) ?_
  refine snd_cons (snd_ret X dX7_loop_47) ?_
  refine snd_cons (snd_iload_n X dX7_loop_48 rfl) ?_
  refine snd_cons (snd_lookup X dX7_loop_49 (by decide) (by decide) (by decide)) ?_
  refine snd_cons (snd_aload_n X dX7_loop_76 rfl) ?_
  refine snd_cons (snd_getf X Fk7 3 (by decide) w_253 dX7_loop_77) ?_
  refine snd_cons (snd_getf X Fk1 5 (by decide) w_204 dX7_loop_80) ?_
  refine snd_cons (snd_ret X dX7_loop_83) ?_
  refine snd_cons (snd_aload_n X dX7_loop_84 rfl) ?_
  refine snd_cons (snd_getf X Fk7 3 (by decide) w_253 dX7_loop_85) ?_
  refine snd_cons (snd_getf X Fk1 6 (by decide) w_206 dX7_loop_88) ?_
  refine snd_cons (snd_ret X dX7_loop_91) ?_
  refine snd_cons (snd_aload_n X dX7_loop_92 rfl) ?_
  refine snd_cons (snd_getf X Fk7 3 (by decide) w_253 dX7_loop_93) ?_
  refine snd_cons (snd_getf X Fk1 7 (by decide) w_208 dX7_loop_96) ?_
  refine snd_cons (snd_ret X dX7_loop_99) ?_
  exact snd_nil
theorem k_X7_loop_0 (ca : Nat → ClassId) : k_X7_loop ca 0 = i_iload 1 1 := rfl
theorem k_X7_loop_1 (ca : Nat → ClassId) : k_X7_loop ca 1 = i_push (.int 0) 2 := rfl
theorem k_X7_loop_2 (ca : Nat → ClassId) : k_X7_loop ca 2 = i_push (.int 2) 3 := rfl
theorem k_X7_loop_3 (ca : Nat → ClassId) : k_X7_loop ca 3 = i_callS 3 0 0 0 0 (sp_X7_isWithin ca) 6 := rfl
theorem k_X7_loop_6 (ca : Nat → ClassId) : k_X7_loop ca 6 = i_if (fun x => ¬ x = 0) 12 9 := rfl
theorem k_X7_loop_9 (ca : Nat → ClassId) : k_X7_loop ca 9 = i_push (.int (-10000001)) 11 := rfl
theorem k_X7_loop_11 (ca : Nat → ClassId) : k_X7_loop ca 11 = i_ret := rfl
theorem k_X7_loop_12 (ca : Nat → ClassId) : k_X7_loop ca 12 = i_aload 0 13 := rfl
theorem k_X7_loop_13 (ca : Nat → ClassId) : k_X7_loop ca 13 = i_getf 7 5 16 := rfl
theorem k_X7_loop_16 (ca : Nat → ClassId) : k_X7_loop ca 16 = i_if (fun x => ¬ x = 0) 35 19 := rfl
theorem k_X7_loop_19 (ca : Nat → ClassId) : k_X7_loop ca 19 = i_aload 0 20 := rfl
theorem k_X7_loop_20 (ca : Nat → ClassId) : k_X7_loop ca 20 = i_getf 7 3 23 := rfl
theorem k_X7_loop_23 (ca : Nat → ClassId) : k_X7_loop ca 23 = i_aload 0 24 := rfl
theorem k_X7_loop_24 (ca : Nat → ClassId) : k_X7_loop ca 24 = i_getf 7 0 27 := rfl
theorem k_X7_loop_27 (ca : Nat → ClassId) : k_X7_loop ca 27 = i_callV 1 1 0 0 0 0 (sp_X1_seek ca) 30 := rfl
theorem k_X7_loop_30 (ca : Nat → ClassId) : k_X7_loop ca 30 = i_aload 0 31 := rfl
theorem k_X7_loop_31 (ca : Nat → ClassId) : k_X7_loop ca 31 = i_push (.int 1) 32 := rfl
theorem k_X7_loop_32 (ca : Nat → ClassId) : k_X7_loop ca 32 = i_putz 7 5 35 := rfl
theorem k_X7_loop_35 (ca : Nat → ClassId) : k_X7_loop ca 35 = i_aload 0 36 := rfl
theorem k_X7_loop_36 (ca : Nat → ClassId) : k_X7_loop ca 36 = i_getf 7 3 39 := rfl
theorem k_X7_loop_39 (ca : Nat → ClassId) : k_X7_loop ca 39 = i_getf 1 4 42 := rfl
theorem k_X7_loop_42 (ca : Nat → ClassId) : k_X7_loop ca 42 = i_if (fun x => ¬ x = 0) 48 45 := rfl
theorem k_X7_loop_45 (ca : Nat → ClassId) : k_X7_loop ca 45 = i_push (.int (-10000004)) 47 := rfl
theorem k_X7_loop_47 (ca : Nat → ClassId) : k_X7_loop ca 47 = i_ret := rfl
theorem k_X7_loop_48 (ca : Nat → ClassId) : k_X7_loop ca 48 = i_iload 1 49 := rfl
theorem k_X7_loop_49 (ca : Nat → ClassId) : k_X7_loop ca 49 = i_sw [(0, 76), (1, 84)] 92 := rfl
theorem k_X7_loop_76 (ca : Nat → ClassId) : k_X7_loop ca 76 = i_aload 0 77 := rfl
theorem k_X7_loop_77 (ca : Nat → ClassId) : k_X7_loop ca 77 = i_getf 7 3 80 := rfl
theorem k_X7_loop_80 (ca : Nat → ClassId) : k_X7_loop ca 80 = i_getf 1 5 83 := rfl
theorem k_X7_loop_83 (ca : Nat → ClassId) : k_X7_loop ca 83 = i_ret := rfl
theorem k_X7_loop_84 (ca : Nat → ClassId) : k_X7_loop ca 84 = i_aload 0 85 := rfl
theorem k_X7_loop_85 (ca : Nat → ClassId) : k_X7_loop ca 85 = i_getf 7 3 88 := rfl
theorem k_X7_loop_88 (ca : Nat → ClassId) : k_X7_loop ca 88 = i_getf 1 6 91 := rfl
theorem k_X7_loop_91 (ca : Nat → ClassId) : k_X7_loop ca 91 = i_ret := rfl
theorem k_X7_loop_92 (ca : Nat → ClassId) : k_X7_loop ca 92 = i_aload 0 93 := rfl
theorem k_X7_loop_93 (ca : Nat → ClassId) : k_X7_loop ca 93 = i_getf 7 3 96 := rfl
theorem k_X7_loop_96 (ca : Nat → ClassId) : k_X7_loop ca 96 = i_getf 1 7 99 := rfl
theorem k_X7_loop_99 (ca : Nat → ClassId) : k_X7_loop ca 99 = i_ret := rfl
set_option maxHeartbeats 4000000 in
set_option maxRecDepth 20000 in
theorem ok_X7_loop (l : Launch) (D : va_G) (ca : Nat → ClassId) : OkAll l D ca yX7_loop cX7_loop 2 (some .int) 5 0 0 (sp_X7_loop ca) := by
  intro av h post hs
  obtain ⟨o, b, qh, x3, x4, x5, lk, s, tb, kx, sx, px, fo, le, pe, sn, x, rfl, c0, hS, J, ⟨d1, d2, d3, d4, d5⟩, hbo, hW, hL, hlk, hA, hB, hC⟩ := hs
  refine okM_of t_X7_loop (by decide +kernel) (c1_ref (c1_int c1_nil)) (Nat.le_of_ble_eq_true rfl) ?_
  intro K go
  have fin : ∀ H lk' fo le pe sn, H o = some (.inr (7, [.ref (b 0), .ref qh, .ref x3, .ref x4, .ref x5, .int lk'])) → H x4 = some (eLoop (tb 0) kx sx px fo le pe sn) → post (some (.int (aLoop fo le pe sn x))) H → K 0 0 35 [some (.ref o), some (.int x)] [] H := by
    intro H lk' fo le pe sn a0 a1 hp
    unfold eLoop at a1
    unfold aLoop at hp
    by_cases q1 : fo = 0
    · rw [if_pos q1] at hp
      refine goN go (stp []) 160 _ _ _ _ _ _ (fun F hF hF0 => ?_)
      simp only [hF, hF0, ite_not, i_push, i_iload, i_lload, i_aload, i_istore, i_astore, i_lstore, i_iinc, i_bin, i_dv, i_un, i_lbin, i_lsh, i_i2l, i_l2i, i_lcmp, i_dup, i_dup2, i_pop, i_if, i_icmp, i_goto, swG, i_sw, i_getf, i_puti, i_putz, i_putr, i_ald, i_lald, i_aald, i_ast, i_last, i_aast, i_alen, i_new, i_newi, i_newl, i_newq, i_oinit, i_ret, i_zret, i_lret, i_vret, catS, tk, rpush, isO, i_m1, i_m2, i_acopy, i_callV, i_callS, KRet, lget, lput, lputL, lcl0, isL, lv0, List.map_cons, List.map_nil, List.length_cons, List.length_nil, List.cons_append, List.nil_append, Nat.reduceAdd, Nat.reduceSub, Nat.reduceLeDiff, List.replicate_succ, List.replicate_zero, List.getElem?_cons_succ, List.getElem?_cons_zero, List.set_cons_succ, List.set_cons_zero, true_and, and_true, if_true, if_false, ↓reduceIte, Nat.le_refl, Value.category, va_up_app, eq_self, stp, Nat.reduceBEq, Bool.or_false, Bool.false_or, Bool.true_or, Bool.or_true, or_true, true_or, bx_uu, implies_true, true_implies, not_true, not_false_eq_true, false_implies, and_self, Nat.reduceLT, Int32.reduceAdd, Int32.reduceSub, Int32.reduceMul, Int32.reduceLE, Int32.reduceLT, Int32.reduceToNatClampNeg, va_rf_some, Bool.false_eq_true, k_X7_loop_0 ca, k_X7_loop_1 ca, k_X7_loop_2 ca, k_X7_loop_3 ca, k_X7_loop_6 ca, k_X7_loop_9 ca, k_X7_loop_11 ca, k_X7_loop_12 ca, k_X7_loop_13 ca, k_X7_loop_16 ca, k_X7_loop_19 ca, k_X7_loop_20 ca, k_X7_loop_23 ca, k_X7_loop_24 ca, k_X7_loop_27 ca, k_X7_loop_30 ca, k_X7_loop_31 ca, k_X7_loop_32 ca, k_X7_loop_35 ca, k_X7_loop_36 ca, k_X7_loop_39 ca, k_X7_loop_42 ca, k_X7_loop_45 ca, k_X7_loop_47 ca, k_X7_loop_48 ca, k_X7_loop_49 ca, k_X7_loop_76 ca, k_X7_loop_77 ca, k_X7_loop_80 ca, k_X7_loop_83 ca, k_X7_loop_84 ca, k_X7_loop_85 ca, k_X7_loop_88 ca, k_X7_loop_91 ca, k_X7_loop_92 ca, k_X7_loop_93 ca, k_X7_loop_96 ca, k_X7_loop_99 ca, a0, a1, q1]
      try clear hF hF0 F
      exact hp
    · rw [if_neg q1] at hp
      by_cases q2 : x = 0
      · rw [if_pos q2] at hp
        refine goN go (stp []) 160 _ _ _ _ _ _ (fun F hF hF0 => ?_)
        simp only [hF, hF0, ite_not, i_push, i_iload, i_lload, i_aload, i_istore, i_astore, i_lstore, i_iinc, i_bin, i_dv, i_un, i_lbin, i_lsh, i_i2l, i_l2i, i_lcmp, i_dup, i_dup2, i_pop, i_if, i_icmp, i_goto, swG, i_sw, i_getf, i_puti, i_putz, i_putr, i_ald, i_lald, i_aald, i_ast, i_last, i_aast, i_alen, i_new, i_newi, i_newl, i_newq, i_oinit, i_ret, i_zret, i_lret, i_vret, catS, tk, rpush, isO, i_m1, i_m2, i_acopy, i_callV, i_callS, KRet, lget, lput, lputL, lcl0, isL, lv0, List.map_cons, List.map_nil, List.length_cons, List.length_nil, List.cons_append, List.nil_append, Nat.reduceAdd, Nat.reduceSub, Nat.reduceLeDiff, List.replicate_succ, List.replicate_zero, List.getElem?_cons_succ, List.getElem?_cons_zero, List.set_cons_succ, List.set_cons_zero, true_and, and_true, if_true, if_false, ↓reduceIte, Nat.le_refl, Value.category, va_up_app, eq_self, stp, Nat.reduceBEq, Bool.or_false, Bool.false_or, Bool.true_or, Bool.or_true, or_true, true_or, bx_uu, implies_true, true_implies, not_true, not_false_eq_true, false_implies, and_self, Nat.reduceLT, Int32.reduceAdd, Int32.reduceSub, Int32.reduceMul, Int32.reduceLE, Int32.reduceLT, Int32.reduceToNatClampNeg, va_rf_some, Bool.false_eq_true, k_X7_loop_0 ca, k_X7_loop_1 ca, k_X7_loop_2 ca, k_X7_loop_3 ca, k_X7_loop_6 ca, k_X7_loop_9 ca, k_X7_loop_11 ca, k_X7_loop_12 ca, k_X7_loop_13 ca, k_X7_loop_16 ca, k_X7_loop_19 ca, k_X7_loop_20 ca, k_X7_loop_23 ca, k_X7_loop_24 ca, k_X7_loop_27 ca, k_X7_loop_30 ca, k_X7_loop_31 ca, k_X7_loop_32 ca, k_X7_loop_35 ca, k_X7_loop_36 ca, k_X7_loop_39 ca, k_X7_loop_42 ca, k_X7_loop_45 ca, k_X7_loop_47 ca, k_X7_loop_48 ca, k_X7_loop_49 ca, k_X7_loop_76 ca, k_X7_loop_77 ca, k_X7_loop_80 ca, k_X7_loop_83 ca, k_X7_loop_84 ca, k_X7_loop_85 ca, k_X7_loop_88 ca, k_X7_loop_91 ca, k_X7_loop_92 ca, k_X7_loop_93 ca, k_X7_loop_96 ca, k_X7_loop_99 ca, a0, a1, q1, q2]
        try clear hF hF0 F
        exact hp
      · rw [if_neg q2] at hp
        by_cases q3 : x = 1
        · rw [if_pos q3] at hp
          refine goN go (stp []) 160 _ _ _ _ _ _ (fun F hF hF0 => ?_)
          simp only [hF, hF0, ite_not, i_push, i_iload, i_lload, i_aload, i_istore, i_astore, i_lstore, i_iinc, i_bin, i_dv, i_un, i_lbin, i_lsh, i_i2l, i_l2i, i_lcmp, i_dup, i_dup2, i_pop, i_if, i_icmp, i_goto, swG, i_sw, i_getf, i_puti, i_putz, i_putr, i_ald, i_lald, i_aald, i_ast, i_last, i_aast, i_alen, i_new, i_newi, i_newl, i_newq, i_oinit, i_ret, i_zret, i_lret, i_vret, catS, tk, rpush, isO, i_m1, i_m2, i_acopy, i_callV, i_callS, KRet, lget, lput, lputL, lcl0, isL, lv0, List.map_cons, List.map_nil, List.length_cons, List.length_nil, List.cons_append, List.nil_append, Nat.reduceAdd, Nat.reduceSub, Nat.reduceLeDiff, List.replicate_succ, List.replicate_zero, List.getElem?_cons_succ, List.getElem?_cons_zero, List.set_cons_succ, List.set_cons_zero, true_and, and_true, if_true, if_false, ↓reduceIte, Nat.le_refl, Value.category, va_up_app, eq_self, stp, Nat.reduceBEq, Bool.or_false, Bool.false_or, Bool.true_or, Bool.or_true, or_true, true_or, bx_uu, implies_true, true_implies, not_true, not_false_eq_true, false_implies, and_self, Nat.reduceLT, Int32.reduceAdd, Int32.reduceSub, Int32.reduceMul, Int32.reduceLE, Int32.reduceLT, Int32.reduceToNatClampNeg, va_rf_some, Bool.false_eq_true, k_X7_loop_0 ca, k_X7_loop_1 ca, k_X7_loop_2 ca, k_X7_loop_3 ca, k_X7_loop_6 ca, k_X7_loop_9 ca, k_X7_loop_11 ca, k_X7_loop_12 ca, k_X7_loop_13 ca, k_X7_loop_16 ca, k_X7_loop_19 ca, k_X7_loop_20 ca, k_X7_loop_23 ca, k_X7_loop_24 ca, k_X7_loop_27 ca, k_X7_loop_30 ca, k_X7_loop_31 ca, k_X7_loop_32 ca, k_X7_loop_35 ca, k_X7_loop_36 ca, k_X7_loop_39 ca, k_X7_loop_42 ca, k_X7_loop_45 ca, k_X7_loop_47 ca, k_X7_loop_48 ca, k_X7_loop_49 ca, k_X7_loop_76 ca, k_X7_loop_77 ca, k_X7_loop_80 ca, k_X7_loop_83 ca, k_X7_loop_84 ca, k_X7_loop_85 ca, k_X7_loop_88 ca, k_X7_loop_91 ca, k_X7_loop_92 ca, k_X7_loop_93 ca, k_X7_loop_96 ca, k_X7_loop_99 ca, a0, a1, q1, q3, one0]
          try clear hF hF0 F
          exact hp
        · rw [if_neg q3] at hp
          refine goN go (stp []) 160 _ _ _ _ _ _ (fun F hF hF0 => ?_)
          simp only [hF, hF0, ite_not, i_push, i_iload, i_lload, i_aload, i_istore, i_astore, i_lstore, i_iinc, i_bin, i_dv, i_un, i_lbin, i_lsh, i_i2l, i_l2i, i_lcmp, i_dup, i_dup2, i_pop, i_if, i_icmp, i_goto, swG, i_sw, i_getf, i_puti, i_putz, i_putr, i_ald, i_lald, i_aald, i_ast, i_last, i_aast, i_alen, i_new, i_newi, i_newl, i_newq, i_oinit, i_ret, i_zret, i_lret, i_vret, catS, tk, rpush, isO, i_m1, i_m2, i_acopy, i_callV, i_callS, KRet, lget, lput, lputL, lcl0, isL, lv0, List.map_cons, List.map_nil, List.length_cons, List.length_nil, List.cons_append, List.nil_append, Nat.reduceAdd, Nat.reduceSub, Nat.reduceLeDiff, List.replicate_succ, List.replicate_zero, List.getElem?_cons_succ, List.getElem?_cons_zero, List.set_cons_succ, List.set_cons_zero, true_and, and_true, if_true, if_false, ↓reduceIte, Nat.le_refl, Value.category, va_up_app, eq_self, stp, Nat.reduceBEq, Bool.or_false, Bool.false_or, Bool.true_or, Bool.or_true, or_true, true_or, bx_uu, implies_true, true_implies, not_true, not_false_eq_true, false_implies, and_self, Nat.reduceLT, Int32.reduceAdd, Int32.reduceSub, Int32.reduceMul, Int32.reduceLE, Int32.reduceLT, Int32.reduceToNatClampNeg, va_rf_some, Bool.false_eq_true, k_X7_loop_0 ca, k_X7_loop_1 ca, k_X7_loop_2 ca, k_X7_loop_3 ca, k_X7_loop_6 ca, k_X7_loop_9 ca, k_X7_loop_11 ca, k_X7_loop_12 ca, k_X7_loop_13 ca, k_X7_loop_16 ca, k_X7_loop_19 ca, k_X7_loop_20 ca, k_X7_loop_23 ca, k_X7_loop_24 ca, k_X7_loop_27 ca, k_X7_loop_30 ca, k_X7_loop_31 ca, k_X7_loop_32 ca, k_X7_loop_35 ca, k_X7_loop_36 ca, k_X7_loop_39 ca, k_X7_loop_42 ca, k_X7_loop_45 ca, k_X7_loop_47 ca, k_X7_loop_48 ca, k_X7_loop_49 ca, k_X7_loop_76 ca, k_X7_loop_77 ca, k_X7_loop_80 ca, k_X7_loop_83 ca, k_X7_loop_84 ca, k_X7_loop_85 ca, k_X7_loop_88 ca, k_X7_loop_91 ca, k_X7_loop_92 ca, k_X7_loop_93 ca, k_X7_loop_96 ca, k_X7_loop_99 ca, a0, a1, q1, q2, q3]
          try clear hF hF0 F
          exact hp
  cases q1 : isIn x 0 2 with
  | false =>
    have k0 := hA q1
    refine goN go (stp []) 160 _ _ _ _ _ _ (fun F hF hF0 => ?_)
    simp only [hF, hF0, ite_not, i_push, i_iload, i_lload, i_aload, i_istore, i_astore, i_lstore, i_iinc, i_bin, i_dv, i_un, i_lbin, i_lsh, i_i2l, i_l2i, i_lcmp, i_dup, i_dup2, i_pop, i_if, i_icmp, i_goto, swG, i_sw, i_getf, i_puti, i_putz, i_putr, i_ald, i_lald, i_aald, i_ast, i_last, i_aast, i_alen, i_new, i_newi, i_newl, i_newq, i_oinit, i_ret, i_zret, i_lret, i_vret, catS, tk, rpush, isO, i_m1, i_m2, i_acopy, i_callV, i_callS, KRet, lget, lput, lputL, lcl0, isL, lv0, List.map_cons, List.map_nil, List.length_cons, List.length_nil, List.cons_append, List.nil_append, Nat.reduceAdd, Nat.reduceSub, Nat.reduceLeDiff, List.replicate_succ, List.replicate_zero, List.getElem?_cons_succ, List.getElem?_cons_zero, List.set_cons_succ, List.set_cons_zero, true_and, and_true, if_true, if_false, ↓reduceIte, Nat.le_refl, Value.category, va_up_app, eq_self, stp, Nat.reduceBEq, Bool.or_false, Bool.false_or, Bool.true_or, Bool.or_true, or_true, true_or, bx_uu, implies_true, true_implies, not_true, not_false_eq_true, false_implies, and_self, Nat.reduceLT, Int32.reduceAdd, Int32.reduceSub, Int32.reduceMul, Int32.reduceLE, Int32.reduceLT, Int32.reduceToNatClampNeg, va_rf_some, Bool.false_eq_true, k_X7_loop_0 ca, k_X7_loop_1 ca, k_X7_loop_2 ca, k_X7_loop_3 ca, k_X7_loop_6 ca, k_X7_loop_9 ca, k_X7_loop_11 ca, k_X7_loop_12 ca, k_X7_loop_13 ca, k_X7_loop_16 ca, k_X7_loop_19 ca, k_X7_loop_20 ca, k_X7_loop_23 ca, k_X7_loop_24 ca, k_X7_loop_27 ca, k_X7_loop_30 ca, k_X7_loop_31 ca, k_X7_loop_32 ca, k_X7_loop_35 ca, k_X7_loop_36 ca, k_X7_loop_39 ca, k_X7_loop_42 ca, k_X7_loop_45 ca, k_X7_loop_47 ca, k_X7_loop_48 ca, k_X7_loop_49 ca, k_X7_loop_76 ca, k_X7_loop_77 ca, k_X7_loop_80 ca, k_X7_loop_83 ca, k_X7_loop_84 ca, k_X7_loop_85 ca, k_X7_loop_88 ca, k_X7_loop_91 ca, k_X7_loop_92 ca, k_X7_loop_93 ca, k_X7_loop_96 ca, k_X7_loop_99 ca, sp_X7_isWithin, q1, b2i_f]
    try clear hF hF0 F
    exact k0
  | true =>
    have e4 := hL.1
    have e4' := e4
    unfold eLoop at e4'
    rcases hlk with rfl | rfl
    · have hC := hC q1 rfl
      clear hA hB
      have jj := J
      obtain ⟨j1, j2, j3, j4, -⟩ := id J
      refine goN go (stp [30]) 160 _ _ _ _ _ _ (fun F hF hF0 => ?_)
      simp only [hF, hF0, ite_not, i_push, i_iload, i_lload, i_aload, i_istore, i_astore, i_lstore, i_iinc, i_bin, i_dv, i_un, i_lbin, i_lsh, i_i2l, i_l2i, i_lcmp, i_dup, i_dup2, i_pop, i_if, i_icmp, i_goto, swG, i_sw, i_getf, i_puti, i_putz, i_putr, i_ald, i_lald, i_aald, i_ast, i_last, i_aast, i_alen, i_new, i_newi, i_newl, i_newq, i_oinit, i_ret, i_zret, i_lret, i_vret, catS, tk, rpush, isO, i_m1, i_m2, i_acopy, i_callV, i_callS, KRet, lget, lput, lputL, lcl0, isL, lv0, List.map_cons, List.map_nil, List.length_cons, List.length_nil, List.cons_append, List.nil_append, Nat.reduceAdd, Nat.reduceSub, Nat.reduceLeDiff, List.replicate_succ, List.replicate_zero, List.getElem?_cons_succ, List.getElem?_cons_zero, List.set_cons_succ, List.set_cons_zero, true_and, and_true, if_true, if_false, ↓reduceIte, Nat.le_refl, Value.category, va_up_app, eq_self, stp, Nat.reduceBEq, Bool.or_false, Bool.false_or, Bool.true_or, Bool.or_true, or_true, true_or, bx_uu, implies_true, true_implies, not_true, not_false_eq_true, false_implies, and_self, Nat.reduceLT, Int32.reduceAdd, Int32.reduceSub, Int32.reduceMul, Int32.reduceLE, Int32.reduceLT, Int32.reduceToNatClampNeg, va_rf_some, Bool.false_eq_true, k_X7_loop_0 ca, k_X7_loop_1 ca, k_X7_loop_2 ca, k_X7_loop_3 ca, k_X7_loop_6 ca, k_X7_loop_9 ca, k_X7_loop_11 ca, k_X7_loop_12 ca, k_X7_loop_13 ca, k_X7_loop_16 ca, k_X7_loop_19 ca, k_X7_loop_20 ca, k_X7_loop_23 ca, k_X7_loop_24 ca, k_X7_loop_27 ca, k_X7_loop_30 ca, k_X7_loop_31 ca, k_X7_loop_32 ca, k_X7_loop_35 ca, k_X7_loop_36 ca, k_X7_loop_39 ca, k_X7_loop_42 ca, k_X7_loop_45 ca, k_X7_loop_47 ca, k_X7_loop_48 ca, k_X7_loop_49 ca, k_X7_loop_76 ca, k_X7_loop_77 ca, k_X7_loop_80 ca, k_X7_loop_83 ca, k_X7_loop_84 ca, k_X7_loop_85 ca, k_X7_loop_88 ca, k_X7_loop_91 ca, k_X7_loop_92 ca, k_X7_loop_93 ca, k_X7_loop_96 ca, k_X7_loop_99 ca, sp_X7_isWithin, q1, b2i_t, one0, c0, e4']
      try clear hF hF0 F
      refine ⟨x4, tb, kx, sx, px, fo, le, pe, sn, b, s, rfl, J, hS, hbo, hW, hL, fun h1 fo' le' pe' sn' hr hL1 hm => ?_⟩
      have g0 := (hm o d1 d2 d3 d4 d5).trans c0
      obtain ⟨l0, ⟨t1, l1⟩, ⟨t2, l2⟩, ⟨t3, l3⟩, ⟨t4, l4⟩⟩ := hL1
      have hL2 : LF ca (va_up h1 o (some (.inr (7, [.ref (b 0), .ref qh, .ref x3, .ref x4, .ref x5, .int 1])))) x4 tb kx sx px fo' le' pe' sn' := ⟨(va_up_ne _ _ (fun z => d1 z.symm)).trans l0, ⟨t1, SAt_kept l1 (fun n hn => va_up_ne _ _ (fun z => d2 n hn z.symm))⟩, ⟨t2, (va_up_ne _ _ (fun z => d3 z.symm)).trans l2⟩, ⟨t3, (va_up_ne _ _ (fun z => d4 z.symm)).trans l3⟩, ⟨t4, (va_up_ne _ _ (fun z => d5 z.symm)).trans l4⟩⟩
      have k0 := fin _ 1 fo' le' pe' sn' (va_up_self _ _ _) hL2.1 (hC _ fo' le' pe' sn' hr hL2 (va_up_self _ _ _) (fun z z0 z1 z2 z3 z4 z5 => (va_up_ne _ _ z0).trans (hm z z1 z2 z3 z4 z5)))
      refine goN go (stp [35]) 160 _ _ _ _ _ _ (fun F hF hF0 => ?_)
      simp only [hF, hF0, ite_not, i_push, i_iload, i_lload, i_aload, i_istore, i_astore, i_lstore, i_iinc, i_bin, i_dv, i_un, i_lbin, i_lsh, i_i2l, i_l2i, i_lcmp, i_dup, i_dup2, i_pop, i_if, i_icmp, i_goto, swG, i_sw, i_getf, i_puti, i_putz, i_putr, i_ald, i_lald, i_aald, i_ast, i_last, i_aast, i_alen, i_new, i_newi, i_newl, i_newq, i_oinit, i_ret, i_zret, i_lret, i_vret, catS, tk, rpush, isO, i_m1, i_m2, i_acopy, i_callV, i_callS, KRet, lget, lput, lputL, lcl0, isL, lv0, List.map_cons, List.map_nil, List.length_cons, List.length_nil, List.cons_append, List.nil_append, Nat.reduceAdd, Nat.reduceSub, Nat.reduceLeDiff, List.replicate_succ, List.replicate_zero, List.getElem?_cons_succ, List.getElem?_cons_zero, List.set_cons_succ, List.set_cons_zero, true_and, and_true, if_true, if_false, ↓reduceIte, Nat.le_refl, Value.category, va_up_app, eq_self, stp, Nat.reduceBEq, Bool.or_false, Bool.false_or, Bool.true_or, Bool.or_true, or_true, true_or, bx_uu, implies_true, true_implies, not_true, not_false_eq_true, false_implies, and_self, Nat.reduceLT, Int32.reduceAdd, Int32.reduceSub, Int32.reduceMul, Int32.reduceLE, Int32.reduceLT, Int32.reduceToNatClampNeg, va_rf_some, Bool.false_eq_true, k_X7_loop_0 ca, k_X7_loop_1 ca, k_X7_loop_2 ca, k_X7_loop_3 ca, k_X7_loop_6 ca, k_X7_loop_9 ca, k_X7_loop_11 ca, k_X7_loop_12 ca, k_X7_loop_13 ca, k_X7_loop_16 ca, k_X7_loop_19 ca, k_X7_loop_20 ca, k_X7_loop_23 ca, k_X7_loop_24 ca, k_X7_loop_27 ca, k_X7_loop_30 ca, k_X7_loop_31 ca, k_X7_loop_32 ca, k_X7_loop_35 ca, k_X7_loop_36 ca, k_X7_loop_39 ca, k_X7_loop_42 ca, k_X7_loop_45 ca, k_X7_loop_47 ca, k_X7_loop_48 ca, k_X7_loop_49 ca, k_X7_loop_76 ca, k_X7_loop_77 ca, k_X7_loop_80 ca, k_X7_loop_83 ca, k_X7_loop_84 ca, k_X7_loop_85 ca, k_X7_loop_88 ca, k_X7_loop_91 ca, k_X7_loop_92 ca, k_X7_loop_93 ca, k_X7_loop_96 ca, k_X7_loop_99 ca, g0]
      try clear hF hF0 F
      exact k0
    · have k0 := fin h 1 fo le pe sn c0 e4 (hB q1 rfl)
      refine goN go (stp [35]) 160 _ _ _ _ _ _ (fun F hF hF0 => ?_)
      simp only [hF, hF0, ite_not, i_push, i_iload, i_lload, i_aload, i_istore, i_astore, i_lstore, i_iinc, i_bin, i_dv, i_un, i_lbin, i_lsh, i_i2l, i_l2i, i_lcmp, i_dup, i_dup2, i_pop, i_if, i_icmp, i_goto, swG, i_sw, i_getf, i_puti, i_putz, i_putr, i_ald, i_lald, i_aald, i_ast, i_last, i_aast, i_alen, i_new, i_newi, i_newl, i_newq, i_oinit, i_ret, i_zret, i_lret, i_vret, catS, tk, rpush, isO, i_m1, i_m2, i_acopy, i_callV, i_callS, KRet, lget, lput, lputL, lcl0, isL, lv0, List.map_cons, List.map_nil, List.length_cons, List.length_nil, List.cons_append, List.nil_append, Nat.reduceAdd, Nat.reduceSub, Nat.reduceLeDiff, List.replicate_succ, List.replicate_zero, List.getElem?_cons_succ, List.getElem?_cons_zero, List.set_cons_succ, List.set_cons_zero, true_and, and_true, if_true, if_false, ↓reduceIte, Nat.le_refl, Value.category, va_up_app, eq_self, stp, Nat.reduceBEq, Bool.or_false, Bool.false_or, Bool.true_or, Bool.or_true, or_true, true_or, bx_uu, implies_true, true_implies, not_true, not_false_eq_true, false_implies, and_self, Nat.reduceLT, Int32.reduceAdd, Int32.reduceSub, Int32.reduceMul, Int32.reduceLE, Int32.reduceLT, Int32.reduceToNatClampNeg, va_rf_some, Bool.false_eq_true, k_X7_loop_0 ca, k_X7_loop_1 ca, k_X7_loop_2 ca, k_X7_loop_3 ca, k_X7_loop_6 ca, k_X7_loop_9 ca, k_X7_loop_11 ca, k_X7_loop_12 ca, k_X7_loop_13 ca, k_X7_loop_16 ca, k_X7_loop_19 ca, k_X7_loop_20 ca, k_X7_loop_23 ca, k_X7_loop_24 ca, k_X7_loop_27 ca, k_X7_loop_30 ca, k_X7_loop_31 ca, k_X7_loop_32 ca, k_X7_loop_35 ca, k_X7_loop_36 ca, k_X7_loop_39 ca, k_X7_loop_42 ca, k_X7_loop_45 ca, k_X7_loop_47 ca, k_X7_loop_48 ca, k_X7_loop_49 ca, k_X7_loop_76 ca, k_X7_loop_77 ca, k_X7_loop_80 ca, k_X7_loop_83 ca, k_X7_loop_84 ca, k_X7_loop_85 ca, k_X7_loop_88 ca, k_X7_loop_91 ca, k_X7_loop_92 ca, k_X7_loop_93 ca, k_X7_loop_96 ca, k_X7_loop_99 ca, sp_X7_isWithin, q1, b2i_t, one0, c0]
      try clear hF hF0 F
      exact k0

