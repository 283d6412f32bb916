/-! SnapStacksModel: tick, read, undo, type, clearText, fault -/
def aTick (s : Nat → Int32) (x : Int32) : Int32 := if isIn x 1 200 = true then tkC s (rts s) (s 6) x.toNatClampNeg else -10000001
def sp_X8_tick (ca : Nat → ClassId) : SPEC := fun av h post => ∃ m a s p t f n x, av = [.ref m, .int x] ∧ RI m a ∧ t ≤ 4 ∧ RAt ca h m a s p t f n ∧ WfS s ∧ (∀ k, k < 3 → OkR s k) ∧ actR ca h m a s p t f n post (aTick s x) (tkI s (rts s) (s 6) x.toNatClampNeg)
def k_X8_tick (ca : Nat → ClassId) : Nat → IT := fun pc => lk pc [(0, i_aload 0 1),
  (1, i_callV 8 0 0 0 0 0 (sp_X8_begins ca) 4),
  (4, i_aload 0 5),
  (5, i_iload 1 6),
  (6, i_push (.int 1) 7),
  (7, i_push (.int 200) 10),
  (10, i_callS 3 0 0 0 0 (sp_X8_in ca) 13),
  (13, i_if (fun x => x = 0) 24 16),
  (16, i_aload 0 17),
  (17, i_iload 1 18),
  (18, i_callV 8 1 0 0 0 0 (sp_X8_goes ca) 21),
  (21, i_goto 26),
  (24, i_push (.int (-10000001)) 26),
  (26, i_callV 8 1 0 0 0 0 (sp_X8_acted ca) 29),
  (29, i_ret)]
set_option maxRecDepth 20000 in
theorem t_X8_tick : Tb k_X8_tick yX8_tick cX8_tick 2 (some .int) 6 0 0 := by
  intro l D ca A p e s m args below meth c post X
  unfold k_X8_tick
  refine snd_cons (snd_aload_n X dX8_tick_0 rfl) ?_
  refine snd_cons (snd_callV X Fk8 (ok_X8_begins l D ca) rfl rfl w_698 w_700 wp_16 w_9 w_701 (by decide) (by decide) dX8_tick_1) ?_
  refine snd_cons (snd_aload_n X dX8_tick_4 rfl) ?_
  refine snd_cons (snd_iload_n X dX8_tick_5 rfl) ?_
  refine snd_cons (snd_iconst X dX8_tick_6 (by decide)) ?_
  refine snd_cons (snd_sipush X dX8_tick_7 (by decide)) ?_
  refine snd_cons (snd_callS X (ok_X8_in l D ca) rfl rfl w_702 w_703 w_9 w_704 (by decide) (by decide) dX8_tick_10) ?_
  refine snd_cons (snd_if_eq X dX8_tick_13 (by decide)) ?_
  refine snd_cons (snd_aload_n X dX8_tick_16 rfl) ?_
  refine snd_cons (snd_iload_n X dX8_tick_17 rfl) ?_
  refine snd_cons (snd_callV X Fk8 (ok_X8_goes l D ca) rfl rfl w_813 w_815 wp_30 w_9 w_816 (by decide) (by decide) dX8_tick_18) ?_
  refine snd_cons (snd_goto X dX8_tick_21 (by decide)) ?_
  refine snd_cons (snd_ldc X w_709 dX8_tick_24) ?_
  refine snd_cons (snd_callV X Fk8 (ok_X8_acted l D ca) rfl rfl w_710 w_712 wp_18 w_9 w_713 (by decide) (by decide) dX8_tick_26) ?_
  refine snd_cons (snd_ret X dX8_tick_29) ?_
  exact snd_nil
theorem k_X8_tick_0 (ca : Nat → ClassId) : k_X8_tick ca 0 = i_aload 0 1 := rfl
theorem k_X8_tick_1 (ca : Nat → ClassId) : k_X8_tick ca 1 = i_callV 8 0 0 0 0 0 (sp_X8_begins ca) 4 := rfl
theorem k_X8_tick_4 (ca : Nat → ClassId) : k_X8_tick ca 4 = i_aload 0 5 := rfl
theorem k_X8_tick_5 (ca : Nat → ClassId) : k_X8_tick ca 5 = i_iload 1 6 := rfl
theorem k_X8_tick_6 (ca : Nat → ClassId) : k_X8_tick ca 6 = i_push (.int 1) 7 := rfl
theorem k_X8_tick_7 (ca : Nat → ClassId) : k_X8_tick ca 7 = i_push (.int 200) 10 := rfl
theorem k_X8_tick_10 (ca : Nat → ClassId) : k_X8_tick ca 10 = i_callS 3 0 0 0 0 (sp_X8_in ca) 13 := rfl
theorem k_X8_tick_13 (ca : Nat → ClassId) : k_X8_tick ca 13 = i_if (fun x => x = 0) 24 16 := rfl
theorem k_X8_tick_16 (ca : Nat → ClassId) : k_X8_tick ca 16 = i_aload 0 17 := rfl
theorem k_X8_tick_17 (ca : Nat → ClassId) : k_X8_tick ca 17 = i_iload 1 18 := rfl
theorem k_X8_tick_18 (ca : Nat → ClassId) : k_X8_tick ca 18 = i_callV 8 1 0 0 0 0 (sp_X8_goes ca) 21 := rfl
theorem k_X8_tick_21 (ca : Nat → ClassId) : k_X8_tick ca 21 = i_goto 26 := rfl
theorem k_X8_tick_24 (ca : Nat → ClassId) : k_X8_tick ca 24 = i_push (.int (-10000001)) 26 := rfl
theorem k_X8_tick_26 (ca : Nat → ClassId) : k_X8_tick ca 26 = i_callV 8 1 0 0 0 0 (sp_X8_acted ca) 29 := rfl
theorem k_X8_tick_29 (ca : Nat → ClassId) : k_X8_tick ca 29 = i_ret := rfl
set_option maxHeartbeats 4000000 in
set_option maxRecDepth 20000 in
theorem ok_X8_tick (l : Launch) (D : va_G) (ca : Nat → ClassId) : OkAll l D ca yX8_tick cX8_tick 2 (some .int) 6 0 0 (sp_X8_tick ca) := by
  intro av h post hs
  obtain ⟨m, a, s, p, t, f, n, x, rfl, I, ht, hR, hW, hO, hs⟩ := hs
  refine okM_of t_X8_tick (by decide +kernel) (c1_ref (c1_int c1_nil)) (Nat.le_of_ble_eq_true rfl) ?_
  intro K go
  have d0 := I.2 0
  obtain ⟨l0, hm0⟩ := hR.m8
  have fin : ∀ lv x h', post (some (.int x)) h' → K 0 0 29 lv [.int x] h' := by
    intro lv x h' hh
    refine goN go (stp []) 160 _ _ _ _ _ _ (fun F hF hF0 => ?_)
    simp only [hF, hF0, ite_not, i_push, i_iload, i_lload, i_aload, i_istore, i_astore, i_lstore, i_iinc, i_bin, i_dv, i_un, i_lbin, i_lsh, i_i2l, i_l2i, i_lcmp, i_dup, i_dup2, i_pop, i_if, i_icmp, i_goto, swG, i_sw, i_getf, i_puti, i_putz, i_putr, i_ald, i_lald, i_aald, i_ast, i_last, i_aast, i_alen, i_new, i_newi, i_newl, i_newq, i_oinit, i_ret, i_zret, i_lret, i_vret, catS, tk, rpush, isO, i_m1, i_m2, i_acopy, i_callV, i_callS, KRet, lget, lput, lputL, lcl0, isL, lv0, List.map_cons, List.map_nil, List.length_cons, List.length_nil, List.cons_append, List.nil_append, Nat.reduceAdd, Nat.reduceSub, Nat.reduceLeDiff, List.replicate_succ, List.replicate_zero, List.getElem?_cons_succ, List.getElem?_cons_zero, List.set_cons_succ, List.set_cons_zero, true_and, and_true, if_true, if_false, ↓reduceIte, Nat.le_refl, Value.category, va_up_app, eq_self, stp, Nat.reduceBEq, Bool.or_false, Bool.false_or, Bool.true_or, Bool.or_true, or_true, true_or, bx_uu, implies_true, true_implies, not_true, not_false_eq_true, false_implies, and_self, Nat.reduceLT, Int32.reduceAdd, Int32.reduceSub, Int32.reduceMul, Int32.reduceLE, Int32.reduceLT, Int32.reduceToNatClampNeg, va_rf_some, Bool.false_eq_true, k_X8_tick_0 ca, k_X8_tick_1 ca, k_X8_tick_4 ca, k_X8_tick_5 ca, k_X8_tick_6 ca, k_X8_tick_7 ca, k_X8_tick_10 ca, k_X8_tick_13 ca, k_X8_tick_16 ca, k_X8_tick_17 ca, k_X8_tick_18 ca, k_X8_tick_21 ca, k_X8_tick_24 ca, k_X8_tick_26 ca, k_X8_tick_29 ca]
    try clear hF hF0 F
    exact hh
  refine goN go (stp [4]) 160 _ _ _ _ _ _ (fun F hF hF0 => ?_)
  simp only [hF, hF0, ite_not, i_push, i_iload, i_lload, i_aload, i_istore, i_astore, i_lstore, i_iinc, i_bin, i_dv, i_un, i_lbin, i_lsh, i_i2l, i_l2i, i_lcmp, i_dup, i_dup2, i_pop, i_if, i_icmp, i_goto, swG, i_sw, i_getf, i_puti, i_putz, i_putr, i_ald, i_lald, i_aald, i_ast, i_last, i_aast, i_alen, i_new, i_newi, i_newl, i_newq, i_oinit, i_ret, i_zret, i_lret, i_vret, catS, tk, rpush, isO, i_m1, i_m2, i_acopy, i_callV, i_callS, KRet, lget, lput, lputL, lcl0, isL, lv0, List.map_cons, List.map_nil, List.length_cons, List.length_nil, List.cons_append, List.nil_append, Nat.reduceAdd, Nat.reduceSub, Nat.reduceLeDiff, List.replicate_succ, List.replicate_zero, List.getElem?_cons_succ, List.getElem?_cons_zero, List.set_cons_succ, List.set_cons_zero, true_and, and_true, if_true, if_false, ↓reduceIte, Nat.le_refl, Value.category, va_up_app, eq_self, stp, Nat.reduceBEq, Bool.or_false, Bool.false_or, Bool.true_or, Bool.or_true, or_true, true_or, bx_uu, implies_true, true_implies, not_true, not_false_eq_true, false_implies, and_self, Nat.reduceLT, Int32.reduceAdd, Int32.reduceSub, Int32.reduceMul, Int32.reduceLE, Int32.reduceLT, Int32.reduceToNatClampNeg, va_rf_some, Bool.false_eq_true, k_X8_tick_0 ca, k_X8_tick_1 ca, k_X8_tick_4 ca, k_X8_tick_5 ca, k_X8_tick_6 ca, k_X8_tick_7 ca, k_X8_tick_10 ca, k_X8_tick_13 ca, k_X8_tick_16 ca, k_X8_tick_17 ca, k_X8_tick_18 ca, k_X8_tick_21 ca, k_X8_tick_24 ca, k_X8_tick_26 ca, k_X8_tick_29 ca, hm0]
  try clear hF hF0 F
  refine begins_of I hR (fun h1 g hg hR1 hS1 => ?_)
  obtain ⟨fm, at', re, bd, kp, ks, iw, ip, fo, em, e0, e1, e2, e3, e4, -⟩ := id hR1
  have em' := em
  unfold eMod at em'
  unfold aTick at hs
  cases q1 : isIn x 1 200 with
  | false =>
    rw [q1, if_neg (by decide)] at hs
    refine goN go (stp [29]) 160 _ _ _ _ _ _ (fun F hF hF0 => ?_)
    simp only [hF, hF0, ite_not, i_push, i_iload, i_lload, i_aload, i_istore, i_astore, i_lstore, i_iinc, i_bin, i_dv, i_un, i_lbin, i_lsh, i_i2l, i_l2i, i_lcmp, i_dup, i_dup2, i_pop, i_if, i_icmp, i_goto, swG, i_sw, i_getf, i_puti, i_putz, i_putr, i_ald, i_lald, i_aald, i_ast, i_last, i_aast, i_alen, i_new, i_newi, i_newl, i_newq, i_oinit, i_ret, i_zret, i_lret, i_vret, catS, tk, rpush, isO, i_m1, i_m2, i_acopy, i_callV, i_callS, KRet, lget, lput, lputL, lcl0, isL, lv0, List.map_cons, List.map_nil, List.length_cons, List.length_nil, List.cons_append, List.nil_append, Nat.reduceAdd, Nat.reduceSub, Nat.reduceLeDiff, List.replicate_succ, List.replicate_zero, List.getElem?_cons_succ, List.getElem?_cons_zero, List.set_cons_succ, List.set_cons_zero, true_and, and_true, if_true, if_false, ↓reduceIte, Nat.le_refl, Value.category, va_up_app, eq_self, stp, Nat.reduceBEq, Bool.or_false, Bool.false_or, Bool.true_or, Bool.or_true, or_true, true_or, bx_uu, implies_true, true_implies, not_true, not_false_eq_true, false_implies, and_self, Nat.reduceLT, Int32.reduceAdd, Int32.reduceSub, Int32.reduceMul, Int32.reduceLE, Int32.reduceLT, Int32.reduceToNatClampNeg, va_rf_some, Bool.false_eq_true, k_X8_tick_0 ca, k_X8_tick_1 ca, k_X8_tick_4 ca, k_X8_tick_5 ca, k_X8_tick_6 ca, k_X8_tick_7 ca, k_X8_tick_10 ca, k_X8_tick_13 ca, k_X8_tick_16 ca, k_X8_tick_17 ca, k_X8_tick_18 ca, k_X8_tick_21 ca, k_X8_tick_24 ca, k_X8_tick_26 ca, k_X8_tick_29 ca, sp_X8_in, sp_X7_isWithin, q1, b2i_f, em', d0]
    try clear hF hF0 F
    exact acted_R I ht hR1 hg hS1 Eq127.rf ⟨hs.1, fun z => absurd inv_le z⟩ (fun h' => fin _ _ h')
  | true =>
    rw [q1, if_pos rfl] at hs
    obtain ⟨X, hX, rfl⟩ := isIn1 (B := 200) (by decide) rfl q1
    have xx : (nI X).toNatClampNeg = X := nI_clamp (by omega)
    rw [xx] at hs
    refine goN go (stp [21]) 160 _ _ _ _ _ _ (fun F hF hF0 => ?_)
    simp only [hF, hF0, ite_not, i_push, i_iload, i_lload, i_aload, i_istore, i_astore, i_lstore, i_iinc, i_bin, i_dv, i_un, i_lbin, i_lsh, i_i2l, i_l2i, i_lcmp, i_dup, i_dup2, i_pop, i_if, i_icmp, i_goto, swG, i_sw, i_getf, i_puti, i_putz, i_putr, i_ald, i_lald, i_aald, i_ast, i_last, i_aast, i_alen, i_new, i_newi, i_newl, i_newq, i_oinit, i_ret, i_zret, i_lret, i_vret, catS, tk, rpush, isO, i_m1, i_m2, i_acopy, i_callV, i_callS, KRet, lget, lput, lputL, lcl0, isL, lv0, List.map_cons, List.map_nil, List.length_cons, List.length_nil, List.cons_append, List.nil_append, Nat.reduceAdd, Nat.reduceSub, Nat.reduceLeDiff, List.replicate_succ, List.replicate_zero, List.getElem?_cons_succ, List.getElem?_cons_zero, List.set_cons_succ, List.set_cons_zero, true_and, and_true, if_true, if_false, ↓reduceIte, Nat.le_refl, Value.category, va_up_app, eq_self, stp, Nat.reduceBEq, Bool.or_false, Bool.false_or, Bool.true_or, Bool.or_true, or_true, true_or, bx_uu, implies_true, true_implies, not_true, not_false_eq_true, false_implies, and_self, Nat.reduceLT, Int32.reduceAdd, Int32.reduceSub, Int32.reduceMul, Int32.reduceLE, Int32.reduceLT, Int32.reduceToNatClampNeg, va_rf_some, Bool.false_eq_true, k_X8_tick_0 ca, k_X8_tick_1 ca, k_X8_tick_4 ca, k_X8_tick_5 ca, k_X8_tick_6 ca, k_X8_tick_7 ca, k_X8_tick_10 ca, k_X8_tick_13 ca, k_X8_tick_16 ca, k_X8_tick_17 ca, k_X8_tick_18 ca, k_X8_tick_21 ca, k_X8_tick_24 ca, k_X8_tick_26 ca, k_X8_tick_29 ca, sp_X8_in, sp_X7_isWithin, q1, b2i_t, one0, em', d0]
    try clear hF hF0 F
    refine ⟨m, a, _, _, fm, at', re, s, bd, X, rfl, hX, em, e0, e4, hW, I.2 0, I.2 4, I.ne (by decide), hO, fun s' r' he => ?_⟩
    have d4 := I.2 4
    refine goN go (stp [29]) 160 _ _ _ _ _ _ (fun F hF hF0 => ?_)
    simp only [hF, hF0, ite_not, i_push, i_iload, i_lload, i_aload, i_istore, i_astore, i_lstore, i_iinc, i_bin, i_dv, i_un, i_lbin, i_lsh, i_i2l, i_l2i, i_lcmp, i_dup, i_dup2, i_pop, i_if, i_icmp, i_goto, swG, i_sw, i_getf, i_puti, i_putz, i_putr, i_ald, i_lald, i_aald, i_ast, i_last, i_aast, i_alen, i_new, i_newi, i_newl, i_newq, i_oinit, i_ret, i_zret, i_lret, i_vret, catS, tk, rpush, isO, i_m1, i_m2, i_acopy, i_callV, i_callS, KRet, lget, lput, lputL, lcl0, isL, lv0, List.map_cons, List.map_nil, List.length_cons, List.length_nil, List.cons_append, List.nil_append, Nat.reduceAdd, Nat.reduceSub, Nat.reduceLeDiff, List.replicate_succ, List.replicate_zero, List.getElem?_cons_succ, List.getElem?_cons_zero, List.set_cons_succ, List.set_cons_zero, true_and, and_true, if_true, if_false, ↓reduceIte, Nat.le_refl, Value.category, va_up_app, eq_self, stp, Nat.reduceBEq, Bool.or_false, Bool.false_or, Bool.true_or, Bool.or_true, or_true, true_or, bx_uu, implies_true, true_implies, not_true, not_false_eq_true, false_implies, and_self, Nat.reduceLT, Int32.reduceAdd, Int32.reduceSub, Int32.reduceMul, Int32.reduceLE, Int32.reduceLT, Int32.reduceToNatClampNeg, va_rf_some, Bool.false_eq_true, k_X8_tick_0 ca, k_X8_tick_1 ca, k_X8_tick_4 ca, k_X8_tick_5 ca, k_X8_tick_6 ca, k_X8_tick_7 ca, k_X8_tick_10 ca, k_X8_tick_13 ca, k_X8_tick_16 ca, k_X8_tick_17 ca, k_X8_tick_18 ca, k_X8_tick_21 ca, k_X8_tick_24 ca, k_X8_tick_26 ca, k_X8_tick_29 ca, em', d0, d4]
    try clear hF hF0 F
    exact acted_R I ht ((hR1.b4 I _).s0 I _) hg (hS1.tr ((SmR.a (by decide) _).tr (SmR.a (by decide) _))) he hs (fun h' => fin _ _ h')
theorem rdG_le {f : Nat → Int32} {n : Nat} : ∀ k p c, c + k = 8 → (rdG f n (k + 1) p c).1 = -1 ∨ ∃ M, M ≤ 8 ∧ (rdG f n (k + 1) p c).1 = nI M := by
  intro k
  induction k with
  | zero =>
    intro p c hc
    rw [show rdG f n (0 + 1) p c = if c = 8 ∧ p < n then (-1, p, 2) else if prtN f n p = 3 then (if takB f n (p + 3) 44 44 = true then rdG f n 0 (p + 4) (c + 1) else (if p + 3 < n then -1 else nI (c + 1), p + 3, 1)) else (-1, p + prtN f n p, 1) from rfl]
    by_cases q : c = 8 ∧ p < n
    · rw [if_pos q]; exact Or.inl rfl
    · rw [if_neg q]
      have q3 : ¬ prtN f n p = 3 := fun z => q ⟨by omega, by have := prtN_3 z; omega⟩
      rw [if_neg q3]; exact Or.inl rfl
  | succ k ih =>
    intro p c hc
    rw [show rdG f n (k + 1 + 1) p c = if c = 8 ∧ p < n then (-1, p, 2) else if prtN f n p = 3 then (if takB f n (p + 3) 44 44 = true then rdG f n (k + 1) (p + 4) (c + 1) else (if p + 3 < n then -1 else nI (c + 1), p + 3, 1)) else (-1, p + prtN f n p, 1) from rfl]
    by_cases q : c = 8 ∧ p < n
    · rw [if_pos q]; exact Or.inl rfl
    · rw [if_neg q]
      by_cases q3 : prtN f n p = 3
      · rw [if_pos q3]
        by_cases q4 : takB f n (p + 3) 44 44 = true
        · rw [if_pos q4]; exact ih _ _ (by omega)
        · rw [if_neg q4]
          by_cases q5 : p + 3 < n
          · exact Or.inl (if_pos q5)
          · exact Or.inr ⟨c + 1, by omega, if_neg q5⟩
      · rw [if_neg q3]; exact Or.inl rfl
theorem rdF_le (f : Nat → Int32) (n : Nat) (re : Int32) : (rdF f n re).1 = -1 ∨ ∃ M, M ≤ 8 ∧ (rdF f n re).1 = nI M := by
  unfold rdF
  by_cases q : n = 0
  · rw [if_pos q]; exact Or.inr ⟨0, by decide, nI_0.symm⟩
  · rw [if_neg q]; exact rdG_le 8 0 0 rfl
theorem rdF_1 (f : Nat → Int32) (n : Nat) (re : Int32) : (rdF f n re).1 = (rdF f n 0).1 := by
  unfold rdF
  by_cases q : n = 0
  · rw [if_pos q, if_pos q]
  · rw [if_neg q, if_neg q]
theorem rdF_2 (f : Nat → Int32) (n : Nat) (re : Int32) (h : (rdF f n re).1 < 0) : rdF f n re = rdF f n 0 := by
  unfold rdF at h ⊢
  by_cases q : n = 0
  · rw [if_pos q] at h; exact absurd h (show ¬ ((0 : Int32) < 0) by decide)
  · rw [if_neg q, if_neg q]
def rdN (f : Nat → Int32) (n : Nat) : Int32 := (rdF f n 0).1
def aRead (f : Nat → Int32) (n : Nat) (x : Int32) : Int32 := if isIn x 0 2 = true then (if rdN f n < 0 then -10000002 else rdN f n) else -10000001
def sp_X8_read (ca : Nat → ClassId) : SPEC := fun av h post => ∃ m a s p t f n x, av = [.ref m, .int x] ∧ RI m a ∧ t ≤ 4 ∧ n ≤ 60 ∧ RAt ca h m a s p t f n ∧ WfS s ∧ actR ca h m a s p t f n post (aRead f n x) (rpS s f (10 + 32 * x.toNatClampNeg) (nPt s x) (rdN f n).toNatClampNeg)
def k_X8_read (ca : Nat → ClassId) : Nat → IT := fun pc => lk pc [(0, i_aload 0 1),
  (1, i_callV 8 0 0 0 0 0 (sp_X8_begins ca) 4),
  (4, i_iload 1 5),
  (5, i_callS 1 0 0 0 0 (sp_X8_isOne ca) 8),
  (8, i_if (fun x => ¬ x = 0) 14 11),
  (11, i_push (.int (-10000001)) 13),
  (13, i_ret),
  (14, i_aload 0 15),
  (15, i_callV 8 0 0 0 0 0 (sp_X8_reads ca) 18),
  (18, i_istore 2 19),
  (19, i_iload 2 20),
  (20, i_if (fun x => 0 ≤ x) 28 23),
  (23, i_push (.int (-10000002)) 25),
  (25, i_goto 38),
  (28, i_aload 0 29),
  (29, i_aload 0 30),
  (30, i_iload 1 31),
  (31, i_iload 2 32),
  (32, i_callV 8 2 0 0 0 0 (sp_X8_replaces ca) 35),
  (35, i_callV 8 1 0 0 0 0 (sp_X8_acted ca) 38),
  (38, i_ret)]
set_option maxRecDepth 20000 in
theorem t_X8_read : Tb k_X8_read yX8_read cX8_read 3 (some .int) 4 0 0 := by
  intro l D ca A p e s m args below meth c post X
  unfold k_X8_read
  refine snd_cons (snd_aload_n X dX8_read_0 rfl) ?_
  refine snd_cons (snd_callV X Fk8 (ok_X8_begins l D ca) rfl rfl w_698 w_700 wp_16 w_9 w_701 (by decide) (by decide) dX8_read_1) ?_
  refine snd_cons (snd_iload_n X dX8_read_4 rfl) ?_
  refine snd_cons (snd_callS X (ok_X8_isOne l D ca) rfl rfl w_722 w_723 w_9 w_724 (by decide) (by decide) dX8_read_5) ?_
  refine snd_cons (snd_if_ne X dX8_read_8 (by decide)) ?_
  refine snd_cons (snd_ldc X w_709 dX8_read_11) ?_
  refine snd_cons (snd_ret X dX8_read_13) ?_
  refine snd_cons (snd_aload_n X dX8_read_14 rfl) ?_
  refine snd_cons (snd_callV X Fk8 (ok_X8_reads l D ca) rfl rfl w_949 w_951 wp_50 w_9 w_952 (by decide) (by decide) dX8_read_15) ?_
  refine snd_cons (snd_istore_n X dX8_read_18 rfl (by decide)) ?_
  refine snd_cons (snd_iload_n X dX8_read_19 rfl) ?_
  refine snd_cons (snd_if_ge X dX8_read_20 (by decide)) ?_
  refine snd_cons (snd_ldc X w_745 dX8_read_23) ?_
  refine snd_cons (snd_goto X dX8_read_25 (by decide)) ?_
  refine snd_cons (snd_aload_n X dX8_read_28 rfl) ?_
  refine snd_cons (snd_aload_n X dX8_read_29 rfl) ?_
  refine snd_cons (snd_iload_n X dX8_read_30 rfl) ?_
  refine snd_cons (snd_iload_n X dX8_read_31 rfl) ?_
  refine snd_cons (snd_callV X Fk8 (ok_X8_replaces l D ca) rfl rfl w_965 w_967 wp_53 w_9 w_968 (by decide) (by decide) dX8_read_32) ?_
  refine snd_cons (snd_callV X Fk8 (ok_X8_acted l D ca) rfl rfl w_710 w_712 wp_18 w_9 w_713 (by decide) (by decide) dX8_read_35) ?_
  refine snd_cons (snd_ret X dX8_read_38) ?_
  exact snd_nil
theorem k_X8_read_0 (ca : Nat → ClassId) : k_X8_read ca 0 = i_aload 0 1 := rfl
theorem k_X8_read_1 (ca : Nat → ClassId) : k_X8_read ca 1 = i_callV 8 0 0 0 0 0 (sp_X8_begins ca) 4 := rfl
theorem k_X8_read_4 (ca : Nat → ClassId) : k_X8_read ca 4 = i_iload 1 5 := rfl
theorem k_X8_read_5 (ca : Nat → ClassId) : k_X8_read ca 5 = i_callS 1 0 0 0 0 (sp_X8_isOne ca) 8 := rfl
theorem k_X8_read_8 (ca : Nat → ClassId) : k_X8_read ca 8 = i_if (fun x => ¬ x = 0) 14 11 := rfl
theorem k_X8_read_11 (ca : Nat → ClassId) : k_X8_read ca 11 = i_push (.int (-10000001)) 13 := rfl
theorem k_X8_read_13 (ca : Nat → ClassId) : k_X8_read ca 13 = i_ret := rfl
theorem k_X8_read_14 (ca : Nat → ClassId) : k_X8_read ca 14 = i_aload 0 15 := rfl
theorem k_X8_read_15 (ca : Nat → ClassId) : k_X8_read ca 15 = i_callV 8 0 0 0 0 0 (sp_X8_reads ca) 18 := rfl
theorem k_X8_read_18 (ca : Nat → ClassId) : k_X8_read ca 18 = i_istore 2 19 := rfl
theorem k_X8_read_19 (ca : Nat → ClassId) : k_X8_read ca 19 = i_iload 2 20 := rfl
theorem k_X8_read_20 (ca : Nat → ClassId) : k_X8_read ca 20 = i_if (fun x => 0 ≤ x) 28 23 := rfl
theorem k_X8_read_23 (ca : Nat → ClassId) : k_X8_read ca 23 = i_push (.int (-10000002)) 25 := rfl
theorem k_X8_read_25 (ca : Nat → ClassId) : k_X8_read ca 25 = i_goto 38 := rfl
theorem k_X8_read_28 (ca : Nat → ClassId) : k_X8_read ca 28 = i_aload 0 29 := rfl
theorem k_X8_read_29 (ca : Nat → ClassId) : k_X8_read ca 29 = i_aload 0 30 := rfl
theorem k_X8_read_30 (ca : Nat → ClassId) : k_X8_read ca 30 = i_iload 1 31 := rfl
theorem k_X8_read_31 (ca : Nat → ClassId) : k_X8_read ca 31 = i_iload 2 32 := rfl
theorem k_X8_read_32 (ca : Nat → ClassId) : k_X8_read ca 32 = i_callV 8 2 0 0 0 0 (sp_X8_replaces ca) 35 := rfl
theorem k_X8_read_35 (ca : Nat → ClassId) : k_X8_read ca 35 = i_callV 8 1 0 0 0 0 (sp_X8_acted ca) 38 := rfl
theorem k_X8_read_38 (ca : Nat → ClassId) : k_X8_read ca 38 = i_ret := rfl
set_option maxHeartbeats 4000000 in
set_option maxRecDepth 20000 in
theorem ok_X8_read (l : Launch) (D : va_G) (ca : Nat → ClassId) : OkAll l D ca yX8_read cX8_read 3 (some .int) 4 0 0 (sp_X8_read ca) := by
  intro av h post hs
  obtain ⟨m, a, s, p, t, f, n, x, rfl, I, ht, hn, hR, hW, hs⟩ := hs
  refine okM_of t_X8_read (by decide +kernel) (c1_ref (c1_int c1_nil)) (Nat.le_of_ble_eq_true rfl) ?_
  intro K go
  have d0 := I.2 0
  obtain ⟨l0, hm0⟩ := hR.m8
  have fin : ∀ lv x h', post (some (.int x)) h' → K 0 0 38 lv [.int x] h' := by
    intro lv x h' hh
    refine goN go (stp []) 160 _ _ _ _ _ _ (fun F hF hF0 => ?_)
    simp only [hF, hF0, ite_not, i_push, i_iload, i_lload, i_aload, i_istore, i_astore, i_lstore, i_iinc, i_bin, i_dv, i_un, i_lbin, i_lsh, i_i2l, i_l2i, i_lcmp, i_dup, i_dup2, i_pop, i_if, i_icmp, i_goto, swG, i_sw, i_getf, i_puti, i_putz, i_putr, i_ald, i_lald, i_aald, i_ast, i_last, i_aast, i_alen, i_new, i_newi, i_newl, i_newq, i_oinit, i_ret, i_zret, i_lret, i_vret, catS, tk, rpush, isO, i_m1, i_m2, i_acopy, i_callV, i_callS, KRet, lget, lput, lputL, lcl0, isL, lv0, List.map_cons, List.map_nil, List.length_cons, List.length_nil, List.cons_append, List.nil_append, Nat.reduceAdd, Nat.reduceSub, Nat.reduceLeDiff, List.replicate_succ, List.replicate_zero, List.getElem?_cons_succ, List.getElem?_cons_zero, List.set_cons_succ, List.set_cons_zero, true_and, and_true, if_true, if_false, ↓reduceIte, Nat.le_refl, Value.category, va_up_app, eq_self, stp, Nat.reduceBEq, Bool.or_false, Bool.false_or, Bool.true_or, Bool.or_true, or_true, true_or, bx_uu, implies_true, true_implies, not_true, not_false_eq_true, false_implies, and_self, Nat.reduceLT, Int32.reduceAdd, Int32.reduceSub, Int32.reduceMul, Int32.reduceLE, Int32.reduceLT, Int32.reduceToNatClampNeg, va_rf_some, Bool.false_eq_true, k_X8_read_0 ca, k_X8_read_1 ca, k_X8_read_4 ca, k_X8_read_5 ca, k_X8_read_8 ca, k_X8_read_11 ca, k_X8_read_13 ca, k_X8_read_14 ca, k_X8_read_15 ca, k_X8_read_18 ca, k_X8_read_19 ca, k_X8_read_20 ca, k_X8_read_23 ca, k_X8_read_25 ca, k_X8_read_28 ca, k_X8_read_29 ca, k_X8_read_30 ca, k_X8_read_31 ca, k_X8_read_32 ca, k_X8_read_35 ca, k_X8_read_38 ca]
    try clear hF hF0 F
    exact hh
  refine goN go (stp [4]) 160 _ _ _ _ _ _ (fun F hF hF0 => ?_)
  simp only [hF, hF0, ite_not, i_push, i_iload, i_lload, i_aload, i_istore, i_astore, i_lstore, i_iinc, i_bin, i_dv, i_un, i_lbin, i_lsh, i_i2l, i_l2i, i_lcmp, i_dup, i_dup2, i_pop, i_if, i_icmp, i_goto, swG, i_sw, i_getf, i_puti, i_putz, i_putr, i_ald, i_lald, i_aald, i_ast, i_last, i_aast, i_alen, i_new, i_newi, i_newl, i_newq, i_oinit, i_ret, i_zret, i_lret, i_vret, catS, tk, rpush, isO, i_m1, i_m2, i_acopy, i_callV, i_callS, KRet, lget, lput, lputL, lcl0, isL, lv0, List.map_cons, List.map_nil, List.length_cons, List.length_nil, List.cons_append, List.nil_append, Nat.reduceAdd, Nat.reduceSub, Nat.reduceLeDiff, List.replicate_succ, List.replicate_zero, List.getElem?_cons_succ, List.getElem?_cons_zero, List.set_cons_succ, List.set_cons_zero, true_and, and_true, if_true, if_false, ↓reduceIte, Nat.le_refl, Value.category, va_up_app, eq_self, stp, Nat.reduceBEq, Bool.or_false, Bool.false_or, Bool.true_or, Bool.or_true, or_true, true_or, bx_uu, implies_true, true_implies, not_true, not_false_eq_true, false_implies, and_self, Nat.reduceLT, Int32.reduceAdd, Int32.reduceSub, Int32.reduceMul, Int32.reduceLE, Int32.reduceLT, Int32.reduceToNatClampNeg, va_rf_some, Bool.false_eq_true, k_X8_read_0 ca, k_X8_read_1 ca, k_X8_read_4 ca, k_X8_read_5 ca, k_X8_read_8 ca, k_X8_read_11 ca, k_X8_read_13 ca, k_X8_read_14 ca, k_X8_read_15 ca, k_X8_read_18 ca, k_X8_read_19 ca, k_X8_read_20 ca, k_X8_read_23 ca, k_X8_read_25 ca, k_X8_read_28 ca, k_X8_read_29 ca, k_X8_read_30 ca, k_X8_read_31 ca, k_X8_read_32 ca, k_X8_read_35 ca, k_X8_read_38 ca, hm0]
  try clear hF hF0 F
  refine begins_of I hR (fun h1 g hg hR1 hS1 => ?_)
  obtain ⟨fm, at', re, bd, kp, ks, iw, ip, fo, em, e0, e1, e2, e3, e4, -⟩ := id hR1
  have em' := em
  unfold eMod at em'
  unfold aRead at hs
  cases q1 : isIn x 0 2 with
  | false =>
    rw [q1, if_neg (by decide)] at hs
    refine goN go (stp []) 160 _ _ _ _ _ _ (fun F hF hF0 => ?_)
    simp only [hF, hF0, ite_not, i_push, i_iload, i_lload, i_aload, i_istore, i_astore, i_lstore, i_iinc, i_bin, i_dv, i_un, i_lbin, i_lsh, i_i2l, i_l2i, i_lcmp, i_dup, i_dup2, i_pop, i_if, i_icmp, i_goto, swG, i_sw, i_getf, i_puti, i_putz, i_putr, i_ald, i_lald, i_aald, i_ast, i_last, i_aast, i_alen, i_new, i_newi, i_newl, i_newq, i_oinit, i_ret, i_zret, i_lret, i_vret, catS, tk, rpush, isO, i_m1, i_m2, i_acopy, i_callV, i_callS, KRet, lget, lput, lputL, lcl0, isL, lv0, List.map_cons, List.map_nil, List.length_cons, List.length_nil, List.cons_append, List.nil_append, Nat.reduceAdd, Nat.reduceSub, Nat.reduceLeDiff, List.replicate_succ, List.replicate_zero, List.getElem?_cons_succ, List.getElem?_cons_zero, List.set_cons_succ, List.set_cons_zero, true_and, and_true, if_true, if_false, ↓reduceIte, Nat.le_refl, Value.category, va_up_app, eq_self, stp, Nat.reduceBEq, Bool.or_false, Bool.false_or, Bool.true_or, Bool.or_true, or_true, true_or, bx_uu, implies_true, true_implies, not_true, not_false_eq_true, false_implies, and_self, Nat.reduceLT, Int32.reduceAdd, Int32.reduceSub, Int32.reduceMul, Int32.reduceLE, Int32.reduceLT, Int32.reduceToNatClampNeg, va_rf_some, Bool.false_eq_true, k_X8_read_0 ca, k_X8_read_1 ca, k_X8_read_4 ca, k_X8_read_5 ca, k_X8_read_8 ca, k_X8_read_11 ca, k_X8_read_13 ca, k_X8_read_14 ca, k_X8_read_15 ca, k_X8_read_18 ca, k_X8_read_19 ca, k_X8_read_20 ca, k_X8_read_23 ca, k_X8_read_25 ca, k_X8_read_28 ca, k_X8_read_29 ca, k_X8_read_30 ca, k_X8_read_31 ca, k_X8_read_32 ca, k_X8_read_35 ca, k_X8_read_38 ca, sp_X8_isOne, sp_X7_isRoom, q1, b2i_f]
    try clear hF hF0 F
    exact hs.1 inv_le h1 s p Eq127.rf (fun _ _ => rfl) ⟨g, hR1⟩ hS1
  | true =>
    rw [q1, if_pos rfl] at hs
    obtain ⟨X, hX, rfl⟩ := isIn0 (B := 2) rfl q1
    have xx : (nI X).toNatClampNeg = X := tn127 (by omega)
    rw [xx] at hs
    refine goN go (stp [18]) 160 _ _ _ _ _ _ (fun F hF hF0 => ?_)
    simp only [hF, hF0, ite_not, i_push, i_iload, i_lload, i_aload, i_istore, i_astore, i_lstore, i_iinc, i_bin, i_dv, i_un, i_lbin, i_lsh, i_i2l, i_l2i, i_lcmp, i_dup, i_dup2, i_pop, i_if, i_icmp, i_goto, swG, i_sw, i_getf, i_puti, i_putz, i_putr, i_ald, i_lald, i_aald, i_ast, i_last, i_aast, i_alen, i_new, i_newi, i_newl, i_newq, i_oinit, i_ret, i_zret, i_lret, i_vret, catS, tk, rpush, isO, i_m1, i_m2, i_acopy, i_callV, i_callS, KRet, lget, lput, lputL, lcl0, isL, lv0, List.map_cons, List.map_nil, List.length_cons, List.length_nil, List.cons_append, List.nil_append, Nat.reduceAdd, Nat.reduceSub, Nat.reduceLeDiff, List.replicate_succ, List.replicate_zero, List.getElem?_cons_succ, List.getElem?_cons_zero, List.set_cons_succ, List.set_cons_zero, true_and, and_true, if_true, if_false, ↓reduceIte, Nat.le_refl, Value.category, va_up_app, eq_self, stp, Nat.reduceBEq, Bool.or_false, Bool.false_or, Bool.true_or, Bool.or_true, or_true, true_or, bx_uu, implies_true, true_implies, not_true, not_false_eq_true, false_implies, and_self, Nat.reduceLT, Int32.reduceAdd, Int32.reduceSub, Int32.reduceMul, Int32.reduceLE, Int32.reduceLT, Int32.reduceToNatClampNeg, va_rf_some, Bool.false_eq_true, k_X8_read_0 ca, k_X8_read_1 ca, k_X8_read_4 ca, k_X8_read_5 ca, k_X8_read_8 ca, k_X8_read_11 ca, k_X8_read_13 ca, k_X8_read_14 ca, k_X8_read_15 ca, k_X8_read_18 ca, k_X8_read_19 ca, k_X8_read_20 ca, k_X8_read_23 ca, k_X8_read_25 ca, k_X8_read_28 ca, k_X8_read_29 ca, k_X8_read_30 ca, k_X8_read_31 ca, k_X8_read_32 ca, k_X8_read_35 ca, k_X8_read_38 ca, sp_X8_isOne, sp_X7_isRoom, q1, b2i_t, one0, em', d0]
    try clear hF hF0 F
    refine ⟨m, a, nI t, n, fm, at', re, f, rfl, em, e3, I.am _, hn, ?_⟩
    have hR2 := hR1.mm I t n fm (nI (rdF f n re).2.1) (rdF f n re).2.2
    have hS2 := hS1.tr (SmR.m (some (eMod a (nI t) (nI n) fm (nI (rdF f n re).2.1) (rdF f n re).2.2)))
    rw [rdF_1]
    unfold rdN at hs
    rcases rdF_le f n 0 with e | ⟨M, hM, e⟩
    · rw [e] at hs ⊢
      rw [if_pos (by decide)] at hs
      have k0 : post (some (.int (-10000002))) _ := hs.1 npo_le _ s p Eq127.rf (fun _ _ => rfl) ⟨g, hR2⟩ hS2
      refine goN go (stp []) 160 _ _ _ _ _ _ (fun F hF hF0 => ?_)
      simp only [hF, hF0, ite_not, i_push, i_iload, i_lload, i_aload, i_istore, i_astore, i_lstore, i_iinc, i_bin, i_dv, i_un, i_lbin, i_lsh, i_i2l, i_l2i, i_lcmp, i_dup, i_dup2, i_pop, i_if, i_icmp, i_goto, swG, i_sw, i_getf, i_puti, i_putz, i_putr, i_ald, i_lald, i_aald, i_ast, i_last, i_aast, i_alen, i_new, i_newi, i_newl, i_newq, i_oinit, i_ret, i_zret, i_lret, i_vret, catS, tk, rpush, isO, i_m1, i_m2, i_acopy, i_callV, i_callS, KRet, lget, lput, lputL, lcl0, isL, lv0, List.map_cons, List.map_nil, List.length_cons, List.length_nil, List.cons_append, List.nil_append, Nat.reduceAdd, Nat.reduceSub, Nat.reduceLeDiff, List.replicate_succ, List.replicate_zero, List.getElem?_cons_succ, List.getElem?_cons_zero, List.set_cons_succ, List.set_cons_zero, true_and, and_true, if_true, if_false, ↓reduceIte, Nat.le_refl, Value.category, va_up_app, eq_self, stp, Nat.reduceBEq, Bool.or_false, Bool.false_or, Bool.true_or, Bool.or_true, or_true, true_or, bx_uu, implies_true, true_implies, not_true, not_false_eq_true, false_implies, and_self, Nat.reduceLT, Int32.reduceAdd, Int32.reduceSub, Int32.reduceMul, Int32.reduceLE, Int32.reduceLT, Int32.reduceToNatClampNeg, va_rf_some, Bool.false_eq_true, k_X8_read_0 ca, k_X8_read_1 ca, k_X8_read_4 ca, k_X8_read_5 ca, k_X8_read_8 ca, k_X8_read_11 ca, k_X8_read_13 ca, k_X8_read_14 ca, k_X8_read_15 ca, k_X8_read_18 ca, k_X8_read_19 ca, k_X8_read_20 ca, k_X8_read_23 ca, k_X8_read_25 ca, k_X8_read_28 ca, k_X8_read_29 ca, k_X8_read_30 ca, k_X8_read_31 ca, k_X8_read_32 ca, k_X8_read_35 ca, k_X8_read_38 ca]
      try clear hF hF0 F
      exact k0
    · rw [e] at hs ⊢
      have g1 : ¬ nI M < 0 := nI_pos (by omega)
      have g2 : (0 ≤ nI M) = True := eq_true (nI_pos' (by omega))
      rw [if_neg g1, show (nI M).toNatClampNeg = M from nI_clamp (by omega)] at hs
      unfold nPt at hs
      rw [xx] at hs
      obtain ⟨hN, hN8⟩ := (hW.k (k := X) (by omega)).n
      generalize hNN : (s (10 + 32 * X)).toNatClampNeg = N at *
      obtain ⟨fm2, at2, re2, bd2, kp2, ks2, iw2, ip2, fo2, em2, e02, e12, e22, e32, -⟩ := id hR2
      generalize va_up h1 m (some (eMod a (nI t) (nI n) fm (nI (rdF f n re).2.1) (rdF f n re).2.2)) = h2 at *
      have em2' := em2
      unfold eMod at em2'
      refine goN go (stp [35]) 160 _ _ _ _ _ _ (fun F hF hF0 => ?_)
      simp only [hF, hF0, ite_not, i_push, i_iload, i_lload, i_aload, i_istore, i_astore, i_lstore, i_iinc, i_bin, i_dv, i_un, i_lbin, i_lsh, i_i2l, i_l2i, i_lcmp, i_dup, i_dup2, i_pop, i_if, i_icmp, i_goto, swG, i_sw, i_getf, i_puti, i_putz, i_putr, i_ald, i_lald, i_aald, i_ast, i_last, i_aast, i_alen, i_new, i_newi, i_newl, i_newq, i_oinit, i_ret, i_zret, i_lret, i_vret, catS, tk, rpush, isO, i_m1, i_m2, i_acopy, i_callV, i_callS, KRet, lget, lput, lputL, lcl0, isL, lv0, List.map_cons, List.map_nil, List.length_cons, List.length_nil, List.cons_append, List.nil_append, Nat.reduceAdd, Nat.reduceSub, Nat.reduceLeDiff, List.replicate_succ, List.replicate_zero, List.getElem?_cons_succ, List.getElem?_cons_zero, List.set_cons_succ, List.set_cons_zero, true_and, and_true, if_true, if_false, ↓reduceIte, Nat.le_refl, Value.category, va_up_app, eq_self, stp, Nat.reduceBEq, Bool.or_false, Bool.false_or, Bool.true_or, Bool.or_true, or_true, true_or, bx_uu, implies_true, true_implies, not_true, not_false_eq_true, false_implies, and_self, Nat.reduceLT, Int32.reduceAdd, Int32.reduceSub, Int32.reduceMul, Int32.reduceLE, Int32.reduceLT, Int32.reduceToNatClampNeg, va_rf_some, Bool.false_eq_true, k_X8_read_0 ca, k_X8_read_1 ca, k_X8_read_4 ca, k_X8_read_5 ca, k_X8_read_8 ca, k_X8_read_11 ca, k_X8_read_13 ca, k_X8_read_14 ca, k_X8_read_15 ca, k_X8_read_18 ca, k_X8_read_19 ca, k_X8_read_20 ca, k_X8_read_23 ca, k_X8_read_25 ca, k_X8_read_28 ca, k_X8_read_29 ca, k_X8_read_30 ca, k_X8_read_31 ca, k_X8_read_32 ca, k_X8_read_35 ca, k_X8_read_38 ca, g2, em2', d0]
      try clear hF hF0 F
      refine ⟨m, a, _, _, _, _, _, s, f, X, M, N, by omega, hM, rfl, em2, e02, e32, I.2 0, I.ne (by decide), hN, hN8, ?_⟩
      refine goN go (stp [38]) 160 _ _ _ _ _ _ (fun F hF hF0 => ?_)
      simp only [hF, hF0, ite_not, i_push, i_iload, i_lload, i_aload, i_istore, i_astore, i_lstore, i_iinc, i_bin, i_dv, i_un, i_lbin, i_lsh, i_i2l, i_l2i, i_lcmp, i_dup, i_dup2, i_pop, i_if, i_icmp, i_goto, swG, i_sw, i_getf, i_puti, i_putz, i_putr, i_ald, i_lald, i_aald, i_ast, i_last, i_aast, i_alen, i_new, i_newi, i_newl, i_newq, i_oinit, i_ret, i_zret, i_lret, i_vret, catS, tk, rpush, isO, i_m1, i_m2, i_acopy, i_callV, i_callS, KRet, lget, lput, lputL, lcl0, isL, lv0, List.map_cons, List.map_nil, List.length_cons, List.length_nil, List.cons_append, List.nil_append, Nat.reduceAdd, Nat.reduceSub, Nat.reduceLeDiff, List.replicate_succ, List.replicate_zero, List.getElem?_cons_succ, List.getElem?_cons_zero, List.set_cons_succ, List.set_cons_zero, true_and, and_true, if_true, if_false, ↓reduceIte, Nat.le_refl, Value.category, va_up_app, eq_self, stp, Nat.reduceBEq, Bool.or_false, Bool.false_or, Bool.true_or, Bool.or_true, or_true, true_or, bx_uu, implies_true, true_implies, not_true, not_false_eq_true, false_implies, and_self, Nat.reduceLT, Int32.reduceAdd, Int32.reduceSub, Int32.reduceMul, Int32.reduceLE, Int32.reduceLT, Int32.reduceToNatClampNeg, va_rf_some, Bool.false_eq_true, k_X8_read_0 ca, k_X8_read_1 ca, k_X8_read_4 ca, k_X8_read_5 ca, k_X8_read_8 ca, k_X8_read_11 ca, k_X8_read_13 ca, k_X8_read_14 ca, k_X8_read_15 ca, k_X8_read_18 ca, k_X8_read_19 ca, k_X8_read_20 ca, k_X8_read_23 ca, k_X8_read_25 ca, k_X8_read_28 ca, k_X8_read_29 ca, k_X8_read_30 ca, k_X8_read_31 ca, k_X8_read_32 ca, k_X8_read_35 ca, k_X8_read_38 ca, em2', d0]
      try clear hF hF0 F
      exact acted_R I ht (hR2.s0 I _) hg (hS2.tr (SmR.a (by decide) _)) Eq127.rf hs (fun h' => fin _ _ h')
/-! without begins -/
def RX (ca : Nat → ClassId) (h : PH) (m : Nat) (a : Nat → Nat) (s p : Nat → Int32) (t : Nat) (f : Nat → Int32) (n : Nat) (post : Option Value → PH → Prop) (x : Int32) : Prop := ∀ h', RAt ca h' m a s p t f n → SmR m a h h' → post (some (.int x)) h'
def aUndo (t : Nat) : Int32 := if t = 0 then -10000002 else nI (t - 1)
def sp_X8_undo (ca : Nat → ClassId) : SPEC := fun av h post => ∃ m a s p t f n, av = [.ref m] ∧ RI m a ∧ t ≤ 4 ∧ RAt ca h m a s p t f n ∧ (t = 0 → post (some (.int (-10000002))) h) ∧ (∀ u, t = u + 1 → RP ca h m a f n post (nI u) (fun j => p (127 * u + j)) p u)
def k_X8_undo (ca : Nat → ClassId) : Nat → IT := fun pc => lk pc [(0, i_aload 0 1),
  (1, i_getf 8 3 4),
  (4, i_if (fun x => ¬ x = 0) 10 7),
  (7, i_push (.int (-10000002)) 9),
  (9, i_ret),
  (10, i_aload 0 11),
  (11, i_dup 12),
  (12, i_getf 8 3 15),
  (15, i_push (.int 1) 16),
  (16, i_bin (fun x y => x - y) 17),
  (17, i_puti 8 3 20),
  (20, i_push (.int 0) 21),
  (21, i_istore 1 22),
  (22, i_iload 1 23),
  (23, i_push (.int 127) 25),
  (25, i_icmp (fun x y => y ≤ x) 54 28),
  (28, i_aload 0 29),
  (29, i_getf 8 0 32),
  (32, i_iload 1 33),
  (33, i_aload 0 34),
  (34, i_getf 8 2 37),
  (37, i_push (.int 127) 39),
  (39, i_aload 0 40),
  (40, i_getf 8 3 43),
  (43, i_bin (fun x y => x * y) 44),
  (44, i_iload 1 45),
  (45, i_bin (fun x y => x + y) 46),
  (46, i_ald (ca 0) 47),
  (47, i_ast (fun x => x) (ca 0) 48),
  (48, i_iinc 1 1 51),
  (51, i_goto 22),
  (54, i_aload 0 55),
  (55, i_getf 8 3 58),
  (58, i_ret)]
set_option maxRecDepth 20000 in
theorem t_X8_undo : Tb k_X8_undo yX8_undo cX8_undo 2 (some .int) 0 0 0 := by
  intro l D ca A p e s m args below meth c post X
  unfold k_X8_undo
  refine snd_cons (snd_aload_n X dX8_undo_0 rfl) ?_
  refine snd_cons (snd_getf X Fk8 3 (by decide) w_650 dX8_undo_1) ?_
  refine snd_cons (snd_if_ne X dX8_undo_4 (by decide)) ?_
  refine snd_cons (snd_ldc X w_745 dX8_undo_7) ?_
  refine snd_cons (snd_ret X dX8_undo_9) ?_
  refine snd_cons (snd_aload_n X dX8_undo_10 rfl) ?_
  refine snd_cons (snd_dup X dX8_undo_11) ?_
  refine snd_cons (snd_getf X Fk8 3 (by decide) w_650 dX8_undo_12) ?_
  refine snd_cons (snd_iconst X dX8_undo_15 (by decide)) ?_
  refine snd_cons (snd_isub X dX8_undo_16) ?_
  refine snd_cons (snd_puti X Fk8 3 (by decide) rfl rfl w_650 dX8_undo_17) ?_
  refine snd_cons (snd_iconst X dX8_undo_20 (by decide)) ?_
  refine snd_cons (snd_istore_n X dX8_undo_21 rfl (by decide)) ?_
  refine snd_cons (snd_iload_n X dX8_undo_22 rfl) ?_
  refine snd_cons (snd_bipush X dX8_undo_23 (by decide)) ?_
  refine snd_cons (snd_icmp_ge X dX8_undo_25 (by decide)) ?_
  refine snd_cons (snd_aload_n X dX8_undo_28 rfl) ?_
  refine snd_cons (snd_getf X Fk8 0 (by decide) w_647 dX8_undo_29) ?_
  refine snd_cons (snd_iload_n X dX8_undo_32 rfl) ?_
  refine snd_cons (snd_aload_n X dX8_undo_33 rfl) ?_
  refine snd_cons (snd_getf X Fk8 2 (by decide) w_649 dX8_undo_34) ?_
  refine snd_cons (snd_bipush X dX8_undo_37 (by decide)) ?_
  refine snd_cons (snd_aload_n X dX8_undo_39 rfl) ?_
  refine snd_cons (snd_getf X Fk8 3 (by decide) w_650 dX8_undo_40) ?_
  refine snd_cons (snd_imul X dX8_undo_43) ?_
  refine snd_cons (snd_iload_n X dX8_undo_44 rfl) ?_
  refine snd_cons (snd_iadd X dX8_undo_45) ?_
  refine snd_cons (snd_iaload X dX8_undo_46) ?_
  refine snd_cons (snd_iastore X dX8_undo_47) ?_
  refine snd_cons (snd_iinc X dX8_undo_48 (by decide) (by decide)) ?_
  refine snd_cons (snd_goto X dX8_undo_51 (by decide)) ?_
  refine snd_cons (snd_aload_n X dX8_undo_54 rfl) ?_
  refine snd_cons (snd_getf X Fk8 3 (by decide) w_650 dX8_undo_55) ?_
  refine snd_cons (snd_ret X dX8_undo_58) ?_
  exact snd_nil
theorem k_X8_undo_0 (ca : Nat → ClassId) : k_X8_undo ca 0 = i_aload 0 1 := rfl
theorem k_X8_undo_1 (ca : Nat → ClassId) : k_X8_undo ca 1 = i_getf 8 3 4 := rfl
theorem k_X8_undo_4 (ca : Nat → ClassId) : k_X8_undo ca 4 = i_if (fun x => ¬ x = 0) 10 7 := rfl
theorem k_X8_undo_7 (ca : Nat → ClassId) : k_X8_undo ca 7 = i_push (.int (-10000002)) 9 := rfl
theorem k_X8_undo_9 (ca : Nat → ClassId) : k_X8_undo ca 9 = i_ret := rfl
theorem k_X8_undo_10 (ca : Nat → ClassId) : k_X8_undo ca 10 = i_aload 0 11 := rfl
theorem k_X8_undo_11 (ca : Nat → ClassId) : k_X8_undo ca 11 = i_dup 12 := rfl
theorem k_X8_undo_12 (ca : Nat → ClassId) : k_X8_undo ca 12 = i_getf 8 3 15 := rfl
theorem k_X8_undo_15 (ca : Nat → ClassId) : k_X8_undo ca 15 = i_push (.int 1) 16 := rfl
theorem k_X8_undo_16 (ca : Nat → ClassId) : k_X8_undo ca 16 = i_bin (fun x y => x - y) 17 := rfl
theorem k_X8_undo_17 (ca : Nat → ClassId) : k_X8_undo ca 17 = i_puti 8 3 20 := rfl
theorem k_X8_undo_20 (ca : Nat → ClassId) : k_X8_undo ca 20 = i_push (.int 0) 21 := rfl
theorem k_X8_undo_21 (ca : Nat → ClassId) : k_X8_undo ca 21 = i_istore 1 22 := rfl
theorem k_X8_undo_22 (ca : Nat → ClassId) : k_X8_undo ca 22 = i_iload 1 23 := rfl
theorem k_X8_undo_23 (ca : Nat → ClassId) : k_X8_undo ca 23 = i_push (.int 127) 25 := rfl
theorem k_X8_undo_25 (ca : Nat → ClassId) : k_X8_undo ca 25 = i_icmp (fun x y => y ≤ x) 54 28 := rfl
theorem k_X8_undo_28 (ca : Nat → ClassId) : k_X8_undo ca 28 = i_aload 0 29 := rfl
theorem k_X8_undo_29 (ca : Nat → ClassId) : k_X8_undo ca 29 = i_getf 8 0 32 := rfl
theorem k_X8_undo_32 (ca : Nat → ClassId) : k_X8_undo ca 32 = i_iload 1 33 := rfl
theorem k_X8_undo_33 (ca : Nat → ClassId) : k_X8_undo ca 33 = i_aload 0 34 := rfl
theorem k_X8_undo_34 (ca : Nat → ClassId) : k_X8_undo ca 34 = i_getf 8 2 37 := rfl
theorem k_X8_undo_37 (ca : Nat → ClassId) : k_X8_undo ca 37 = i_push (.int 127) 39 := rfl
theorem k_X8_undo_39 (ca : Nat → ClassId) : k_X8_undo ca 39 = i_aload 0 40 := rfl
theorem k_X8_undo_40 (ca : Nat → ClassId) : k_X8_undo ca 40 = i_getf 8 3 43 := rfl
theorem k_X8_undo_43 (ca : Nat → ClassId) : k_X8_undo ca 43 = i_bin (fun x y => x * y) 44 := rfl
theorem k_X8_undo_44 (ca : Nat → ClassId) : k_X8_undo ca 44 = i_iload 1 45 := rfl
theorem k_X8_undo_45 (ca : Nat → ClassId) : k_X8_undo ca 45 = i_bin (fun x y => x + y) 46 := rfl
theorem k_X8_undo_46 (ca : Nat → ClassId) : k_X8_undo ca 46 = i_ald (ca 0) 47 := rfl
theorem k_X8_undo_47 (ca : Nat → ClassId) : k_X8_undo ca 47 = i_ast (fun x => x) (ca 0) 48 := rfl
theorem k_X8_undo_48 (ca : Nat → ClassId) : k_X8_undo ca 48 = i_iinc 1 1 51 := rfl
theorem k_X8_undo_51 (ca : Nat → ClassId) : k_X8_undo ca 51 = i_goto 22 := rfl
theorem k_X8_undo_54 (ca : Nat → ClassId) : k_X8_undo ca 54 = i_aload 0 55 := rfl
theorem k_X8_undo_55 (ca : Nat → ClassId) : k_X8_undo ca 55 = i_getf 8 3 58 := rfl
theorem k_X8_undo_58 (ca : Nat → ClassId) : k_X8_undo ca 58 = i_ret := rfl
set_option maxHeartbeats 4000000 in
set_option maxRecDepth 20000 in
theorem ok_X8_undo (l : Launch) (D : va_G) (ca : Nat → ClassId) : OkAll l D ca yX8_undo cX8_undo 2 (some .int) 0 0 0 (sp_X8_undo ca) := by
  intro av h post hs
  obtain ⟨m, a, s, p, t, f, n, rfl, I, ht, ⟨g, hR⟩, hA, hB⟩ := hs
  obtain ⟨fm, at', re, bd, kp, ks, iw, ip, fo, em, e0, e1, e2, -⟩ := id hR
  have em' := em
  unfold eMod at em'
  have d0 := I.2 0
  have d0' := I.am 0
  have d2' := I.am 2
  have d20 : ¬ a 2 = a 0 := I.ne (by decide)
  refine okM_of t_X8_undo (by decide +kernel) (c1_ref c1_nil) (Nat.le_of_ble_eq_true rfl) ?_
  intro K go
  cases t with
  | zero =>
    have hs := hA rfl
    have g0 : (nI 0 = 0) = True := eq_true nI_0
    refine goN go (stp []) 160 _ _ _ _ _ _ (fun F hF hF0 => ?_)
    simp only [hF, hF0, ite_not, i_push, i_iload, i_lload, i_aload, i_istore, i_astore, i_lstore, i_iinc, i_bin, i_dv, i_un, i_lbin, i_lsh, i_i2l, i_l2i, i_lcmp, i_dup, i_dup2, i_pop, i_if, i_icmp, i_goto, swG, i_sw, i_getf, i_puti, i_putz, i_putr, i_ald, i_lald, i_aald, i_ast, i_last, i_aast, i_alen, i_new, i_newi, i_newl, i_newq, i_oinit, i_ret, i_zret, i_lret, i_vret, catS, tk, rpush, isO, i_m1, i_m2, i_acopy, i_callV, i_callS, KRet, lget, lput, lputL, lcl0, isL, lv0, List.map_cons, List.map_nil, List.length_cons, List.length_nil, List.cons_append, List.nil_append, Nat.reduceAdd, Nat.reduceSub, Nat.reduceLeDiff, List.replicate_succ, List.replicate_zero, List.getElem?_cons_succ, List.getElem?_cons_zero, List.set_cons_succ, List.set_cons_zero, true_and, and_true, if_true, if_false, ↓reduceIte, Nat.le_refl, Value.category, va_up_app, eq_self, stp, Nat.reduceBEq, Bool.or_false, Bool.false_or, Bool.true_or, Bool.or_true, or_true, true_or, bx_uu, implies_true, true_implies, not_true, not_false_eq_true, false_implies, and_self, Nat.reduceLT, Int32.reduceAdd, Int32.reduceSub, Int32.reduceMul, Int32.reduceLE, Int32.reduceLT, Int32.reduceToNatClampNeg, va_rf_some, Bool.false_eq_true, k_X8_undo_0 ca, k_X8_undo_1 ca, k_X8_undo_4 ca, k_X8_undo_7 ca, k_X8_undo_9 ca, k_X8_undo_10 ca, k_X8_undo_11 ca, k_X8_undo_12 ca, k_X8_undo_15 ca, k_X8_undo_16 ca, k_X8_undo_17 ca, k_X8_undo_20 ca, k_X8_undo_21 ca, k_X8_undo_22 ca, k_X8_undo_23 ca, k_X8_undo_25 ca, k_X8_undo_28 ca, k_X8_undo_29 ca, k_X8_undo_32 ca, k_X8_undo_33 ca, k_X8_undo_34 ca, k_X8_undo_37 ca, k_X8_undo_39 ca, k_X8_undo_40 ca, k_X8_undo_43 ca, k_X8_undo_44 ca, k_X8_undo_45 ca, k_X8_undo_46 ca, k_X8_undo_47 ca, k_X8_undo_48 ca, k_X8_undo_51 ca, k_X8_undo_54 ca, k_X8_undo_55 ca, k_X8_undo_58 ca, em', g0]
    try clear hF hF0 F
    exact hs
  | succ u =>
    have hs := hB u rfl
    have g0 : (nI (u + 1) = 0) = False := eq_false (nI_ne0 (by omega) (by omega))
    have e1 : nI (u + 1) - 1 = nI u := nI_pred u
    have key : ∀ r i, i + r = 127 → K 0 0 22 [some (.ref m), some (.int (nI i))] [] (va_up (va_up h m (some (eMod a (nI u) (nI n) fm at' re))) (a 0) (some (.inl (ca 0, 127, .inl (flo (fun j => p (127 * u + j)) s i))))) := by
      intro r
      induction r with
      | zero =>
        intro i hi
        have hi : i = 127 := hi
        subst hi
        have e : nI 127 = 127 := rfl
        refine goN go (stp []) 160 _ _ _ _ _ _ (fun F hF hF0 => ?_)
        simp only [hF, hF0, ite_not, i_push, i_iload, i_lload, i_aload, i_istore, i_astore, i_lstore, i_iinc, i_bin, i_dv, i_un, i_lbin, i_lsh, i_i2l, i_l2i, i_lcmp, i_dup, i_dup2, i_pop, i_if, i_icmp, i_goto, swG, i_sw, i_getf, i_puti, i_putz, i_putr, i_ald, i_lald, i_aald, i_ast, i_last, i_aast, i_alen, i_new, i_newi, i_newl, i_newq, i_oinit, i_ret, i_zret, i_lret, i_vret, catS, tk, rpush, isO, i_m1, i_m2, i_acopy, i_callV, i_callS, KRet, lget, lput, lputL, lcl0, isL, lv0, List.map_cons, List.map_nil, List.length_cons, List.length_nil, List.cons_append, List.nil_append, Nat.reduceAdd, Nat.reduceSub, Nat.reduceLeDiff, List.replicate_succ, List.replicate_zero, List.getElem?_cons_succ, List.getElem?_cons_zero, List.set_cons_succ, List.set_cons_zero, true_and, and_true, if_true, if_false, ↓reduceIte, Nat.le_refl, Value.category, va_up_app, eq_self, stp, Nat.reduceBEq, Bool.or_false, Bool.false_or, Bool.true_or, Bool.or_true, or_true, true_or, bx_uu, implies_true, true_implies, not_true, not_false_eq_true, false_implies, and_self, Nat.reduceLT, Int32.reduceAdd, Int32.reduceSub, Int32.reduceMul, Int32.reduceLE, Int32.reduceLT, Int32.reduceToNatClampNeg, va_rf_some, Bool.false_eq_true, k_X8_undo_0 ca, k_X8_undo_1 ca, k_X8_undo_4 ca, k_X8_undo_7 ca, k_X8_undo_9 ca, k_X8_undo_10 ca, k_X8_undo_11 ca, k_X8_undo_12 ca, k_X8_undo_15 ca, k_X8_undo_16 ca, k_X8_undo_17 ca, k_X8_undo_20 ca, k_X8_undo_21 ca, k_X8_undo_22 ca, k_X8_undo_23 ca, k_X8_undo_25 ca, k_X8_undo_28 ca, k_X8_undo_29 ca, k_X8_undo_32 ca, k_X8_undo_33 ca, k_X8_undo_34 ca, k_X8_undo_37 ca, k_X8_undo_39 ca, k_X8_undo_40 ca, k_X8_undo_43 ca, k_X8_undo_44 ca, k_X8_undo_45 ca, k_X8_undo_46 ca, k_X8_undo_47 ca, k_X8_undo_48 ca, k_X8_undo_51 ca, k_X8_undo_54 ca, k_X8_undo_55 ca, k_X8_undo_58 ca, e, d0, eMod]
        try clear hF hF0 F
        exact hs _ (flo (fun j => p (127 * u + j)) s 127) p (fun j hj => flo_in hj) (fun _ _ => rfl) ⟨g, (hR.mm I u n fm at' re).s0 I _⟩ ((SmR.m _).tr (SmR.a (by decide) _))
      | succ r ih =>
        intro i hi
        have g1 : ¬ 127 ≤ nI i := nI_ge (b := 127) (by omega) (by decide)
        have z0 : vp_in (nI i) 127 := vp127 (by omega)
        have z1 : (nI i).toNatClampNeg = i := tn127 (by omega)
        have z2 : (127 : Int32) * nI u = nI (127 * u) := by rw [show (127 : Int32) = nI 127 from rfl, pk_mul]
        have z3 : vp_in (nI (127 * u + i)) 508 := vp_in_nI (by omega) (by decide)
        have z4 : (nI (127 * u + i)).toNatClampNeg = 127 * u + i := nI_clamp (by omega)
        have z5 : upd (flo (fun j => p (127 * u + j)) s i) i (p (127 * u + i)) = flo (fun j => p (127 * u + j)) s (i + 1) := flo_s (f := fun j => p (127 * u + j))
        refine goN go (stp [22]) 160 _ _ _ _ _ _ (fun F hF hF0 => ?_)
        simp only [hF, hF0, ite_not, i_push, i_iload, i_lload, i_aload, i_istore, i_astore, i_lstore, i_iinc, i_bin, i_dv, i_un, i_lbin, i_lsh, i_i2l, i_l2i, i_lcmp, i_dup, i_dup2, i_pop, i_if, i_icmp, i_goto, swG, i_sw, i_getf, i_puti, i_putz, i_putr, i_ald, i_lald, i_aald, i_ast, i_last, i_aast, i_alen, i_new, i_newi, i_newl, i_newq, i_oinit, i_ret, i_zret, i_lret, i_vret, catS, tk, rpush, isO, i_m1, i_m2, i_acopy, i_callV, i_callS, KRet, lget, lput, lputL, lcl0, isL, lv0, List.map_cons, List.map_nil, List.length_cons, List.length_nil, List.cons_append, List.nil_append, Nat.reduceAdd, Nat.reduceSub, Nat.reduceLeDiff, List.replicate_succ, List.replicate_zero, List.getElem?_cons_succ, List.getElem?_cons_zero, List.set_cons_succ, List.set_cons_zero, true_and, and_true, if_true, if_false, ↓reduceIte, Nat.le_refl, Value.category, va_up_app, eq_self, stp, Nat.reduceBEq, Bool.or_false, Bool.false_or, Bool.true_or, Bool.or_true, or_true, true_or, bx_uu, implies_true, true_implies, not_true, not_false_eq_true, false_implies, and_self, Nat.reduceLT, Int32.reduceAdd, Int32.reduceSub, Int32.reduceMul, Int32.reduceLE, Int32.reduceLT, Int32.reduceToNatClampNeg, va_rf_some, Bool.false_eq_true, k_X8_undo_0 ca, k_X8_undo_1 ca, k_X8_undo_4 ca, k_X8_undo_7 ca, k_X8_undo_9 ca, k_X8_undo_10 ca, k_X8_undo_11 ca, k_X8_undo_12 ca, k_X8_undo_15 ca, k_X8_undo_16 ca, k_X8_undo_17 ca, k_X8_undo_20 ca, k_X8_undo_21 ca, k_X8_undo_22 ca, k_X8_undo_23 ca, k_X8_undo_25 ca, k_X8_undo_28 ca, k_X8_undo_29 ca, k_X8_undo_32 ca, k_X8_undo_33 ca, k_X8_undo_34 ca, k_X8_undo_37 ca, k_X8_undo_39 ca, k_X8_undo_40 ca, k_X8_undo_43 ca, k_X8_undo_44 ca, k_X8_undo_45 ca, k_X8_undo_46 ca, k_X8_undo_47 ca, k_X8_undo_48 ca, k_X8_undo_51 ca, k_X8_undo_54 ca, k_X8_undo_55 ca, k_X8_undo_58 ca, eMod, d0, d0', d2', d20, e2, g1, z0, z1, z2, z3, z4, z5, nI_add, a_1]
        try clear hF hF0 F
        exact ih (i + 1) (by omega)
    have k0 := key 127 0 (by omega)
    rw [flo_0, up_id (show va_up h m (some (eMod a (nI u) (nI n) fm at' re)) (a 0) = _ from (va_up_ne _ _ d0').trans e0), nI_0] at k0
    unfold eMod at k0
    refine goN go (stp [22]) 160 _ _ _ _ _ _ (fun F hF hF0 => ?_)
    simp only [hF, hF0, ite_not, i_push, i_iload, i_lload, i_aload, i_istore, i_astore, i_lstore, i_iinc, i_bin, i_dv, i_un, i_lbin, i_lsh, i_i2l, i_l2i, i_lcmp, i_dup, i_dup2, i_pop, i_if, i_icmp, i_goto, swG, i_sw, i_getf, i_puti, i_putz, i_putr, i_ald, i_lald, i_aald, i_ast, i_last, i_aast, i_alen, i_new, i_newi, i_newl, i_newq, i_oinit, i_ret, i_zret, i_lret, i_vret, catS, tk, rpush, isO, i_m1, i_m2, i_acopy, i_callV, i_callS, KRet, lget, lput, lputL, lcl0, isL, lv0, List.map_cons, List.map_nil, List.length_cons, List.length_nil, List.cons_append, List.nil_append, Nat.reduceAdd, Nat.reduceSub, Nat.reduceLeDiff, List.replicate_succ, List.replicate_zero, List.getElem?_cons_succ, List.getElem?_cons_zero, List.set_cons_succ, List.set_cons_zero, true_and, and_true, if_true, if_false, ↓reduceIte, Nat.le_refl, Value.category, va_up_app, eq_self, stp, Nat.reduceBEq, Bool.or_false, Bool.false_or, Bool.true_or, Bool.or_true, or_true, true_or, bx_uu, implies_true, true_implies, not_true, not_false_eq_true, false_implies, and_self, Nat.reduceLT, Int32.reduceAdd, Int32.reduceSub, Int32.reduceMul, Int32.reduceLE, Int32.reduceLT, Int32.reduceToNatClampNeg, va_rf_some, Bool.false_eq_true, k_X8_undo_0 ca, k_X8_undo_1 ca, k_X8_undo_4 ca, k_X8_undo_7 ca, k_X8_undo_9 ca, k_X8_undo_10 ca, k_X8_undo_11 ca, k_X8_undo_12 ca, k_X8_undo_15 ca, k_X8_undo_16 ca, k_X8_undo_17 ca, k_X8_undo_20 ca, k_X8_undo_21 ca, k_X8_undo_22 ca, k_X8_undo_23 ca, k_X8_undo_25 ca, k_X8_undo_28 ca, k_X8_undo_29 ca, k_X8_undo_32 ca, k_X8_undo_33 ca, k_X8_undo_34 ca, k_X8_undo_37 ca, k_X8_undo_39 ca, k_X8_undo_40 ca, k_X8_undo_43 ca, k_X8_undo_44 ca, k_X8_undo_45 ca, k_X8_undo_46 ca, k_X8_undo_47 ca, k_X8_undo_48 ca, k_X8_undo_51 ca, k_X8_undo_54 ca, k_X8_undo_55 ca, k_X8_undo_58 ca, em', g0, e1]
    try clear hF hF0 F
    exact k0
def aType (n : Nat) (x : Int32) : Int32 := if isIn x 32 126 = true then (if n = 60 then -10000003 else nI (n + 1)) else -10000001
def sp_X8_type (ca : Nat → ClassId) : SPEC := fun av h post => ∃ m a s p t f n x, av = [.ref m, .int x] ∧ RI m a ∧ n ≤ 60 ∧ RAt ca h m a s p t f n ∧ (isIn x 32 126 = false → post (some (.int (-10000001))) h) ∧ (isIn x 32 126 = true → n = 60 → post (some (.int (-10000003))) h) ∧ (isIn x 32 126 = true → n < 60 → RX ca h m a s p t (upd f n x) (n + 1) post (nI (n + 1)))
def k_X8_type (ca : Nat → ClassId) : Nat → IT := fun pc => lk pc [(0, i_iload 1 1),
  (1, i_push (.int 32) 3),
  (3, i_push (.int 126) 5),
  (5, i_callS 3 0 0 0 0 (sp_X8_in ca) 8),
  (8, i_if (fun x => ¬ x = 0) 14 11),
  (11, i_push (.int (-10000001)) 13),
  (13, i_ret),
  (14, i_aload 0 15),
  (15, i_getf 8 5 18),
  (18, i_push (.int 60) 20),
  (20, i_icmp (fun x y => ¬ x = y) 26 23),
  (23, i_push (.int (-10000003)) 25),
  (25, i_ret),
  (26, i_aload 0 27),
  (27, i_getf 8 4 30),
  (30, i_aload 0 31),
  (31, i_getf 8 5 34),
  (34, i_iload 1 35),
  (35, i_ast (fun x => x) (ca 0) 36),
  (36, i_aload 0 37),
  (37, i_dup 38),
  (38, i_getf 8 5 41),
  (41, i_push (.int 1) 42),
  (42, i_bin (fun x y => x + y) 43),
  (43, i_puti 8 5 46),
  (46, i_aload 0 47),
  (47, i_getf 8 5 50),
  (50, i_ret)]
set_option maxRecDepth 20000 in
theorem t_X8_type : Tb k_X8_type yX8_type cX8_type 2 (some .int) 1 0 0 := by
  intro l D ca A p e s m args below meth c post X
  unfold k_X8_type
  refine snd_cons (snd_iload_n X dX8_type_0 rfl) ?_
  refine snd_cons (snd_bipush X dX8_type_1 (by decide)) ?_
  refine snd_cons (snd_bipush X dX8_type_3 (by decide)) ?_
  refine snd_cons (snd_callS X (ok_X8_in l D ca) rfl rfl w_702 w_703 w_9 w_704 (by decide) (by decide) dX8_type_5) ?_
  refine snd_cons (snd_if_ne X dX8_type_8 (by decide)) ?_
  refine snd_cons (snd_ldc X w_709 dX8_type_11) ?_
  refine snd_cons (snd_ret X dX8_type_13) ?_
  refine snd_cons (snd_aload_n X dX8_type_14 rfl) ?_
  refine snd_cons (snd_getf X Fk8 5 (by decide) w_652 dX8_type_15) ?_
  refine snd_cons (snd_bipush X dX8_type_18 (by decide)) ?_
  refine snd_cons (snd_icmp_ne X dX8_type_20 (by decide)) ?_
  refine snd_cons (snd_ldc X w_736 dX8_type_23) ?_
  refine snd_cons (snd_ret X dX8_type_25) ?_
  refine snd_cons (snd_aload_n X dX8_type_26 rfl) ?_
  refine snd_cons (snd_getf X Fk8 4 (by decide) w_651 dX8_type_27) ?_
  refine snd_cons (snd_aload_n X dX8_type_30 rfl) ?_
  refine snd_cons (snd_getf X Fk8 5 (by decide) w_652 dX8_type_31) ?_
  refine snd_cons (snd_iload_n X dX8_type_34 rfl) ?_
  refine snd_cons (snd_iastore X dX8_type_35) ?_
  refine snd_cons (snd_aload_n X dX8_type_36 rfl) ?_
  refine snd_cons (snd_dup X dX8_type_37) ?_
  refine snd_cons (snd_getf X Fk8 5 (by decide) w_652 dX8_type_38) ?_
  refine snd_cons (snd_iconst X dX8_type_41 (by decide)) ?_
  refine snd_cons (snd_iadd X dX8_type_42) ?_
  refine snd_cons (snd_puti X Fk8 5 (by decide) rfl rfl w_652 dX8_type_43) ?_
  refine snd_cons (snd_aload_n X dX8_type_46 rfl) ?_
  refine snd_cons (snd_getf X Fk8 5 (by decide) w_652 dX8_type_47) ?_
  refine snd_cons (snd_ret X dX8_type_50) ?_
  exact snd_nil
theorem k_X8_type_0 (ca : Nat → ClassId) : k_X8_type ca 0 = i_iload 1 1 := rfl
theorem k_X8_type_1 (ca : Nat → ClassId) : k_X8_type ca 1 = i_push (.int 32) 3 := rfl
theorem k_X8_type_3 (ca : Nat → ClassId) : k_X8_type ca 3 = i_push (.int 126) 5 := rfl
theorem k_X8_type_5 (ca : Nat → ClassId) : k_X8_type ca 5 = i_callS 3 0 0 0 0 (sp_X8_in ca) 8 := rfl
theorem k_X8_type_8 (ca : Nat → ClassId) : k_X8_type ca 8 = i_if (fun x => ¬ x = 0) 14 11 := rfl
theorem k_X8_type_11 (ca : Nat → ClassId) : k_X8_type ca 11 = i_push (.int (-10000001)) 13 := rfl
theorem k_X8_type_13 (ca : Nat → ClassId) : k_X8_type ca 13 = i_ret := rfl
theorem k_X8_type_14 (ca : Nat → ClassId) : k_X8_type ca 14 = i_aload 0 15 := rfl
theorem k_X8_type_15 (ca : Nat → ClassId) : k_X8_type ca 15 = i_getf 8 5 18 := rfl
theorem k_X8_type_18 (ca : Nat → ClassId) : k_X8_type ca 18 = i_push (.int 60) 20 := rfl
theorem k_X8_type_20 (ca : Nat → ClassId) : k_X8_type ca 20 = i_icmp (fun x y => ¬ x = y) 26 23 := rfl
theorem k_X8_type_23 (ca : Nat → ClassId) : k_X8_type ca 23 = i_push (.int (-10000003)) 25 := rfl
theorem k_X8_type_25 (ca : Nat → ClassId) : k_X8_type ca 25 = i_ret := rfl
theorem k_X8_type_26 (ca : Nat → ClassId) : k_X8_type ca 26 = i_aload 0 27 := rfl
theorem k_X8_type_27 (ca : Nat → ClassId) : k_X8_type ca 27 = i_getf 8 4 30 := rfl
theorem k_X8_type_30 (ca : Nat → ClassId) : k_X8_type ca 30 = i_aload 0 31 := rfl
theorem k_X8_type_31 (ca : Nat → ClassId) : k_X8_type ca 31 = i_getf 8 5 34 := rfl
theorem k_X8_type_34 (ca : Nat → ClassId) : k_X8_type ca 34 = i_iload 1 35 := rfl
theorem k_X8_type_35 (ca : Nat → ClassId) : k_X8_type ca 35 = i_ast (fun x => x) (ca 0) 36 := rfl
theorem k_X8_type_36 (ca : Nat → ClassId) : k_X8_type ca 36 = i_aload 0 37 := rfl
theorem k_X8_type_37 (ca : Nat → ClassId) : k_X8_type ca 37 = i_dup 38 := rfl
theorem k_X8_type_38 (ca : Nat → ClassId) : k_X8_type ca 38 = i_getf 8 5 41 := rfl
theorem k_X8_type_41 (ca : Nat → ClassId) : k_X8_type ca 41 = i_push (.int 1) 42 := rfl
theorem k_X8_type_42 (ca : Nat → ClassId) : k_X8_type ca 42 = i_bin (fun x y => x + y) 43 := rfl
theorem k_X8_type_43 (ca : Nat → ClassId) : k_X8_type ca 43 = i_puti 8 5 46 := rfl
theorem k_X8_type_46 (ca : Nat → ClassId) : k_X8_type ca 46 = i_aload 0 47 := rfl
theorem k_X8_type_47 (ca : Nat → ClassId) : k_X8_type ca 47 = i_getf 8 5 50 := rfl
theorem k_X8_type_50 (ca : Nat → ClassId) : k_X8_type ca 50 = i_ret := rfl
set_option maxHeartbeats 4000000 in
set_option maxRecDepth 20000 in
theorem ok_X8_type (l : Launch) (D : va_G) (ca : Nat → ClassId) : OkAll l D ca yX8_type cX8_type 2 (some .int) 1 0 0 (sp_X8_type ca) := by
  intro av h post hs
  obtain ⟨m, a, s, p, t, f, n, x, rfl, I, hn, ⟨g, hR⟩, hA, hB, hC⟩ := hs
  obtain ⟨fm, at', re, bd, kp, ks, iw, ip, fo, em, e0, e1, e2, e3, -⟩ := id hR
  have em' := em
  unfold eMod at em'
  have d3 := I.2 3
  refine okM_of t_X8_type (by decide +kernel) (c1_ref (c1_int c1_nil)) (Nat.le_of_ble_eq_true rfl) ?_
  intro K go
  cases q1 : isIn x 32 126 with
  | false =>
    have hs := hA q1
    refine goN go (stp []) 160 _ _ _ _ _ _ (fun F hF hF0 => ?_)
    simp only [hF, hF0, ite_not, i_push, i_iload, i_lload, i_aload, i_istore, i_astore, i_lstore, i_iinc, i_bin, i_dv, i_un, i_lbin, i_lsh, i_i2l, i_l2i, i_lcmp, i_dup, i_dup2, i_pop, i_if, i_icmp, i_goto, swG, i_sw, i_getf, i_puti, i_putz, i_putr, i_ald, i_lald, i_aald, i_ast, i_last, i_aast, i_alen, i_new, i_newi, i_newl, i_newq, i_oinit, i_ret, i_zret, i_lret, i_vret, catS, tk, rpush, isO, i_m1, i_m2, i_acopy, i_callV, i_callS, KRet, lget, lput, lputL, lcl0, isL, lv0, List.map_cons, List.map_nil, List.length_cons, List.length_nil, List.cons_append, List.nil_append, Nat.reduceAdd, Nat.reduceSub, Nat.reduceLeDiff, List.replicate_succ, List.replicate_zero, List.getElem?_cons_succ, List.getElem?_cons_zero, List.set_cons_succ, List.set_cons_zero, true_and, and_true, if_true, if_false, ↓reduceIte, Nat.le_refl, Value.category, va_up_app, eq_self, stp, Nat.reduceBEq, Bool.or_false, Bool.false_or, Bool.true_or, Bool.or_true, or_true, true_or, bx_uu, implies_true, true_implies, not_true, not_false_eq_true, false_implies, and_self, Nat.reduceLT, Int32.reduceAdd, Int32.reduceSub, Int32.reduceMul, Int32.reduceLE, Int32.reduceLT, Int32.reduceToNatClampNeg, va_rf_some, Bool.false_eq_true, k_X8_type_0 ca, k_X8_type_1 ca, k_X8_type_3 ca, k_X8_type_5 ca, k_X8_type_8 ca, k_X8_type_11 ca, k_X8_type_13 ca, k_X8_type_14 ca, k_X8_type_15 ca, k_X8_type_18 ca, k_X8_type_20 ca, k_X8_type_23 ca, k_X8_type_25 ca, k_X8_type_26 ca, k_X8_type_27 ca, k_X8_type_30 ca, k_X8_type_31 ca, k_X8_type_34 ca, k_X8_type_35 ca, k_X8_type_36 ca, k_X8_type_37 ca, k_X8_type_38 ca, k_X8_type_41 ca, k_X8_type_42 ca, k_X8_type_43 ca, k_X8_type_46 ca, k_X8_type_47 ca, k_X8_type_50 ca, sp_X8_in, sp_X7_isWithin, q1, b2i_f]
    try clear hF hF0 F
    exact hs
  | true =>
    by_cases q2 : n = 60
    · have hs := hB q1 q2
      have g2 : (nI n = 60) = True := eq_true (by rw [q2]; rfl)
      refine goN go (stp []) 160 _ _ _ _ _ _ (fun F hF hF0 => ?_)
      simp only [hF, hF0, ite_not, i_push, i_iload, i_lload, i_aload, i_istore, i_astore, i_lstore, i_iinc, i_bin, i_dv, i_un, i_lbin, i_lsh, i_i2l, i_l2i, i_lcmp, i_dup, i_dup2, i_pop, i_if, i_icmp, i_goto, swG, i_sw, i_getf, i_puti, i_putz, i_putr, i_ald, i_lald, i_aald, i_ast, i_last, i_aast, i_alen, i_new, i_newi, i_newl, i_newq, i_oinit, i_ret, i_zret, i_lret, i_vret, catS, tk, rpush, isO, i_m1, i_m2, i_acopy, i_callV, i_callS, KRet, lget, lput, lputL, lcl0, isL, lv0, List.map_cons, List.map_nil, List.length_cons, List.length_nil, List.cons_append, List.nil_append, Nat.reduceAdd, Nat.reduceSub, Nat.reduceLeDiff, List.replicate_succ, List.replicate_zero, List.getElem?_cons_succ, List.getElem?_cons_zero, List.set_cons_succ, List.set_cons_zero, true_and, and_true, if_true, if_false, ↓reduceIte, Nat.le_refl, Value.category, va_up_app, eq_self, stp, Nat.reduceBEq, Bool.or_false, Bool.false_or, Bool.true_or, Bool.or_true, or_true, true_or, bx_uu, implies_true, true_implies, not_true, not_false_eq_true, false_implies, and_self, Nat.reduceLT, Int32.reduceAdd, Int32.reduceSub, Int32.reduceMul, Int32.reduceLE, Int32.reduceLT, Int32.reduceToNatClampNeg, va_rf_some, Bool.false_eq_true, k_X8_type_0 ca, k_X8_type_1 ca, k_X8_type_3 ca, k_X8_type_5 ca, k_X8_type_8 ca, k_X8_type_11 ca, k_X8_type_13 ca, k_X8_type_14 ca, k_X8_type_15 ca, k_X8_type_18 ca, k_X8_type_20 ca, k_X8_type_23 ca, k_X8_type_25 ca, k_X8_type_26 ca, k_X8_type_27 ca, k_X8_type_30 ca, k_X8_type_31 ca, k_X8_type_34 ca, k_X8_type_35 ca, k_X8_type_36 ca, k_X8_type_37 ca, k_X8_type_38 ca, k_X8_type_41 ca, k_X8_type_42 ca, k_X8_type_43 ca, k_X8_type_46 ca, k_X8_type_47 ca, k_X8_type_50 ca, sp_X8_in, sp_X7_isWithin, q1, b2i_t, one0, em', g2]
      try clear hF hF0 F
      exact hs
    · have hs := hC q1 (by omega)
      have g2 : (nI n = 60) = False := eq_false (fun z => q2 ((nI_eq (b := 60) (by omega) (by decide)).mp z))
      have z0 : vp_in (nI n) 60 := vp_in_nI (by omega) (by decide)
      have z1 : (nI n).toNatClampNeg = n := nI_clamp (by omega)
      refine goN go (stp []) 160 _ _ _ _ _ _ (fun F hF hF0 => ?_)
      simp only [hF, hF0, ite_not, i_push, i_iload, i_lload, i_aload, i_istore, i_astore, i_lstore, i_iinc, i_bin, i_dv, i_un, i_lbin, i_lsh, i_i2l, i_l2i, i_lcmp, i_dup, i_dup2, i_pop, i_if, i_icmp, i_goto, swG, i_sw, i_getf, i_puti, i_putz, i_putr, i_ald, i_lald, i_aald, i_ast, i_last, i_aast, i_alen, i_new, i_newi, i_newl, i_newq, i_oinit, i_ret, i_zret, i_lret, i_vret, catS, tk, rpush, isO, i_m1, i_m2, i_acopy, i_callV, i_callS, KRet, lget, lput, lputL, lcl0, isL, lv0, List.map_cons, List.map_nil, List.length_cons, List.length_nil, List.cons_append, List.nil_append, Nat.reduceAdd, Nat.reduceSub, Nat.reduceLeDiff, List.replicate_succ, List.replicate_zero, List.getElem?_cons_succ, List.getElem?_cons_zero, List.set_cons_succ, List.set_cons_zero, true_and, and_true, if_true, if_false, ↓reduceIte, Nat.le_refl, Value.category, va_up_app, eq_self, stp, Nat.reduceBEq, Bool.or_false, Bool.false_or, Bool.true_or, Bool.or_true, or_true, true_or, bx_uu, implies_true, true_implies, not_true, not_false_eq_true, false_implies, and_self, Nat.reduceLT, Int32.reduceAdd, Int32.reduceSub, Int32.reduceMul, Int32.reduceLE, Int32.reduceLT, Int32.reduceToNatClampNeg, va_rf_some, Bool.false_eq_true, k_X8_type_0 ca, k_X8_type_1 ca, k_X8_type_3 ca, k_X8_type_5 ca, k_X8_type_8 ca, k_X8_type_11 ca, k_X8_type_13 ca, k_X8_type_14 ca, k_X8_type_15 ca, k_X8_type_18 ca, k_X8_type_20 ca, k_X8_type_23 ca, k_X8_type_25 ca, k_X8_type_26 ca, k_X8_type_27 ca, k_X8_type_30 ca, k_X8_type_31 ca, k_X8_type_34 ca, k_X8_type_35 ca, k_X8_type_36 ca, k_X8_type_37 ca, k_X8_type_38 ca, k_X8_type_41 ca, k_X8_type_42 ca, k_X8_type_43 ca, k_X8_type_46 ca, k_X8_type_47 ca, k_X8_type_50 ca, sp_X8_in, sp_X7_isWithin, q1, b2i_t, one0, em', e3, g2, z0, z1, d3, a_1]
      try clear hF hF0 F
      exact hs _ ⟨g, (hR.t3 I _).mm I t (n + 1) fm at' re⟩ ((SmR.a (by decide) _).tr (SmR.m _))
def sp_X8_clearText (ca : Nat → ClassId) : SPEC := fun av h post => ∃ m a s p t f n, av = [.ref m] ∧ RI m a ∧ RAt ca h m a s p t f n ∧ RX ca h m a s p t f 0 post (nI n)
def k_X8_clearText (ca : Nat → ClassId) : Nat → IT := fun pc => lk pc [(0, i_aload 0 1),
  (1, i_getf 8 5 4),
  (4, i_istore 1 5),
  (5, i_aload 0 6),
  (6, i_push (.int 0) 7),
  (7, i_puti 8 5 10),
  (10, i_iload 1 11),
  (11, i_ret)]
set_option maxRecDepth 20000 in
theorem t_X8_clearText : Tb k_X8_clearText yX8_clearText cX8_clearText 2 (some .int) 0 0 0 := by
  intro l D ca A p e s m args below meth c post X
  unfold k_X8_clearText
  refine snd_cons (snd_aload_n X dX8_clearText_0 rfl) ?_
  refine snd_cons (snd_getf X Fk8 5 (by decide) w_652 dX8_clearText_1) ?_
  refine snd_cons (snd_istore_n X dX8_clearText_4 rfl (by decide)) ?_
  refine snd_cons (snd_aload_n X dX8_clearText_5 rfl) ?_
  refine snd_cons (snd_iconst X dX8_clearText_6 (by decide)) ?_
  refine snd_cons (snd_puti X Fk8 5 (by decide) rfl rfl w_652 dX8_clearText_7) ?_
  refine snd_cons (snd_iload_n X dX8_clearText_10 rfl) ?_
  refine snd_cons (snd_ret X dX8_clearText_11) ?_
  exact snd_nil
theorem k_X8_clearText_0 (ca : Nat → ClassId) : k_X8_clearText ca 0 = i_aload 0 1 := rfl
theorem k_X8_clearText_1 (ca : Nat → ClassId) : k_X8_clearText ca 1 = i_getf 8 5 4 := rfl
theorem k_X8_clearText_4 (ca : Nat → ClassId) : k_X8_clearText ca 4 = i_istore 1 5 := rfl
theorem k_X8_clearText_5 (ca : Nat → ClassId) : k_X8_clearText ca 5 = i_aload 0 6 := rfl
theorem k_X8_clearText_6 (ca : Nat → ClassId) : k_X8_clearText ca 6 = i_push (.int 0) 7 := rfl
theorem k_X8_clearText_7 (ca : Nat → ClassId) : k_X8_clearText ca 7 = i_puti 8 5 10 := rfl
theorem k_X8_clearText_10 (ca : Nat → ClassId) : k_X8_clearText ca 10 = i_iload 1 11 := rfl
theorem k_X8_clearText_11 (ca : Nat → ClassId) : k_X8_clearText ca 11 = i_ret := rfl
set_option maxHeartbeats 4000000 in
set_option maxRecDepth 20000 in
theorem ok_X8_clearText (l : Launch) (D : va_G) (ca : Nat → ClassId) : OkAll l D ca yX8_clearText cX8_clearText 2 (some .int) 0 0 0 (sp_X8_clearText ca) := by
  intro av h post hs
  obtain ⟨m, a, s, p, t, f, n, rfl, I, ⟨g, hR⟩, hs⟩ := hs
  obtain ⟨fm, at', re, bd, kp, ks, iw, ip, fo, em, -⟩ := id hR
  have em' := em
  unfold eMod at em'
  have k0 := hs _ ⟨g, hR.mm I t 0 fm at' re⟩ (SmR.m _)
  rw [nI_0] at k0
  refine okM_of t_X8_clearText (by decide +kernel) (c1_ref c1_nil) (Nat.le_of_ble_eq_true rfl) ?_
  intro K go
  refine goN go (stp []) 160 _ _ _ _ _ _ (fun F hF hF0 => ?_)
  simp only [hF, hF0, ite_not, i_push, i_iload, i_lload, i_aload, i_istore, i_astore, i_lstore, i_iinc, i_bin, i_dv, i_un, i_lbin, i_lsh, i_i2l, i_l2i, i_lcmp, i_dup, i_dup2, i_pop, i_if, i_icmp, i_goto, swG, i_sw, i_getf, i_puti, i_putz, i_putr, i_ald, i_lald, i_aald, i_ast, i_last, i_aast, i_alen, i_new, i_newi, i_newl, i_newq, i_oinit, i_ret, i_zret, i_lret, i_vret, catS, tk, rpush, isO, i_m1, i_m2, i_acopy, i_callV, i_callS, KRet, lget, lput, lputL, lcl0, isL, lv0, List.map_cons, List.map_nil, List.length_cons, List.length_nil, List.cons_append, List.nil_append, Nat.reduceAdd, Nat.reduceSub, Nat.reduceLeDiff, List.replicate_succ, List.replicate_zero, List.getElem?_cons_succ, List.getElem?_cons_zero, List.set_cons_succ, List.set_cons_zero, true_and, and_true, if_true, if_false, ↓reduceIte, Nat.le_refl, Value.category, va_up_app, eq_self, stp, Nat.reduceBEq, Bool.or_false, Bool.false_or, Bool.true_or, Bool.or_true, or_true, true_or, bx_uu, implies_true, true_implies, not_true, not_false_eq_true, false_implies, and_self, Nat.reduceLT, Int32.reduceAdd, Int32.reduceSub, Int32.reduceMul, Int32.reduceLE, Int32.reduceLT, Int32.reduceToNatClampNeg, va_rf_some, Bool.false_eq_true, k_X8_clearText_0 ca, k_X8_clearText_1 ca, k_X8_clearText_4 ca, k_X8_clearText_5 ca, k_X8_clearText_6 ca, k_X8_clearText_7 ca, k_X8_clearText_10 ca, k_X8_clearText_11 ca, em']
  try clear hF hF0 F
  exact k0
def aFault (f : Nat → Int32) (n : Nat) (x : Int32) : Int32 := if isIn x 0 1 = true then (if (rdF f n 0).1 < 0 then (if x = 0 then nI (rdF f n 0).2.1 else (rdF f n 0).2.2) else -10000004) else -10000001
def sp_X8_fault (ca : Nat → ClassId) : SPEC := fun av h post => ∃ m a s p t f n x, av = [.ref m, .int x] ∧ RI m a ∧ n ≤ 60 ∧ RAt ca h m a s p t f n ∧ RX ca h m a s p t f n post (aFault f n x)
def k_X8_fault (ca : Nat → ClassId) : Nat → IT := fun pc => lk pc [(0, i_iload 1 1),
  (1, i_push (.int 0) 2),
  (2, i_push (.int 1) 3),
  (3, i_callS 3 0 0 0 0 (sp_X8_in ca) 6),
  (6, i_if (fun x => ¬ x = 0) 12 9),
  (9, i_push (.int (-10000001)) 11),
  (11, i_ret),
  (12, i_aload 0 13),
  (13, i_callV 8 0 0 0 0 0 (sp_X8_reads ca) 16),
  (16, i_if (fun x => x < 0) 24 19),
  (19, i_push (.int (-10000004)) 21),
  (21, i_goto 39),
  (24, i_iload 1 25),
  (25, i_if (fun x => ¬ x = 0) 35 28),
  (28, i_aload 0 29),
  (29, i_getf 8 13 32),
  (32, i_goto 39),
  (35, i_aload 0 36),
  (36, i_getf 8 14 39),
  (39, i_ret)]
set_option maxRecDepth 20000 in
theorem t_X8_fault : Tb k_X8_fault yX8_fault cX8_fault 2 (some .int) 4 0 0 := by
  intro l D ca A p e s m args below meth c post X
  unfold k_X8_fault
  refine snd_cons (snd_iload_n X dX8_fault_0 rfl) ?_
  refine snd_cons (snd_iconst X dX8_fault_1 (by decide)) ?_
  refine snd_cons (snd_iconst X dX8_fault_2 (by decide)) ?_
  refine snd_cons (snd_callS X (ok_X8_in l D ca) rfl rfl w_702 w_703 w_9 w_704 (by decide) (by decide) dX8_fault_3) ?_
  refine snd_cons (snd_if_ne X dX8_fault_6 (by decide)) ?_
  refine snd_cons (snd_ldc X w_709 dX8_fault_9) ?_
  refine snd_cons (snd_ret X dX8_fault_11) ?_
  refine snd_cons (snd_aload_n X dX8_fault_12 rfl) ?_
  refine snd_cons (snd_callV X Fk8 (ok_X8_reads l D ca) rfl rfl w_949 w_951 wp_50 w_9 w_952 (by decide) (by decide) dX8_fault_13) ?_
  refine snd_cons (snd_if_lt X dX8_fault_16 (by decide)) ?_
  refine snd_cons (snd_ldc X w_857 dX8_fault_19) ?_
  refine snd_cons (snd_goto X dX8_fault_21 (by decide)) ?_
  refine snd_cons (snd_iload_n X dX8_fault_24 rfl) ?_
  refine snd_cons (snd_if_ne X dX8_fault_25 (by decide)) ?_
  refine snd_cons (snd_aload_n X dX8_fault_28 rfl) ?_
  refine snd_cons (snd_getf X Fk8 13 (by decide) w_660 dX8_fault_29) ?_
  refine snd_cons (snd_goto X dX8_fault_32 (by decide)) ?_
  refine snd_cons (snd_aload_n X dX8_fault_35 rfl) ?_
  refine snd_cons (snd_getf X Fk8 14 (by decide) w_661 dX8_fault_36) ?_
  refine snd_cons (snd_ret X dX8_fault_39) ?_
  exact snd_nil
theorem k_X8_fault_0 (ca : Nat → ClassId) : k_X8_fault ca 0 = i_iload 1 1 := rfl
theorem k_X8_fault_1 (ca : Nat → ClassId) : k_X8_fault ca 1 = i_push (.int 0) 2 := rfl
theorem k_X8_fault_2 (ca : Nat → ClassId) : k_X8_fault ca 2 = i_push (.int 1) 3 := rfl
theorem k_X8_fault_3 (ca : Nat → ClassId) : k_X8_fault ca 3 = i_callS 3 0 0 0 0 (sp_X8_in ca) 6 := rfl
theorem k_X8_fault_6 (ca : Nat → ClassId) : k_X8_fault ca 6 = i_if (fun x => ¬ x = 0) 12 9 := rfl
theorem k_X8_fault_9 (ca : Nat → ClassId) : k_X8_fault ca 9 = i_push (.int (-10000001)) 11 := rfl
theorem k_X8_fault_11 (ca : Nat → ClassId) : k_X8_fault ca 11 = i_ret := rfl
theorem k_X8_fault_12 (ca : Nat → ClassId) : k_X8_fault ca 12 = i_aload 0 13 := rfl
theorem k_X8_fault_13 (ca : Nat → ClassId) : k_X8_fault ca 13 = i_callV 8 0 0 0 0 0 (sp_X8_reads ca) 16 := rfl
theorem k_X8_fault_16 (ca : Nat → ClassId) : k_X8_fault ca 16 = i_if (fun x => x < 0) 24 19 := rfl
theorem k_X8_fault_19 (ca : Nat → ClassId) : k_X8_fault ca 19 = i_push (.int (-10000004)) 21 := rfl
theorem k_X8_fault_21 (ca : Nat → ClassId) : k_X8_fault ca 21 = i_goto 39 := rfl
theorem k_X8_fault_24 (ca : Nat → ClassId) : k_X8_fault ca 24 = i_iload 1 25 := rfl
theorem k_X8_fault_25 (ca : Nat → ClassId) : k_X8_fault ca 25 = i_if (fun x => ¬ x = 0) 35 28 := rfl
theorem k_X8_fault_28 (ca : Nat → ClassId) : k_X8_fault ca 28 = i_aload 0 29 := rfl
theorem k_X8_fault_29 (ca : Nat → ClassId) : k_X8_fault ca 29 = i_getf 8 13 32 := rfl
theorem k_X8_fault_32 (ca : Nat → ClassId) : k_X8_fault ca 32 = i_goto 39 := rfl
theorem k_X8_fault_35 (ca : Nat → ClassId) : k_X8_fault ca 35 = i_aload 0 36 := rfl
theorem k_X8_fault_36 (ca : Nat → ClassId) : k_X8_fault ca 36 = i_getf 8 14 39 := rfl
theorem k_X8_fault_39 (ca : Nat → ClassId) : k_X8_fault ca 39 = i_ret := rfl
set_option maxHeartbeats 4000000 in
set_option maxRecDepth 20000 in
theorem ok_X8_fault (l : Launch) (D : va_G) (ca : Nat → ClassId) : OkAll l D ca yX8_fault cX8_fault 2 (some .int) 4 0 0 (sp_X8_fault ca) := by
  intro av h post hs
  obtain ⟨m, a, s, p, t, f, n, x, rfl, I, hn, ⟨g, hR⟩, hs⟩ := hs
  obtain ⟨fm, at', re, bd, kp, ks, iw, ip, fo, em, e0, e1, e2, e3, -⟩ := id hR
  have em' := em
  unfold eMod at em'
  unfold aFault at hs
  refine okM_of t_X8_fault (by decide +kernel) (c1_ref (c1_int c1_nil)) (Nat.le_of_ble_eq_true rfl) ?_
  intro K go
  cases q1 : isIn x 0 1 with
  | false =>
    rw [q1, if_neg (by decide)] at hs
    have k0 := hs _ ⟨g, hR⟩ SmR.rf
    refine goN go (stp []) 160 _ _ _ _ _ _ (fun F hF hF0 => ?_)
    simp only [hF, hF0, ite_not, i_push, i_iload, i_lload, i_aload, i_istore, i_astore, i_lstore, i_iinc, i_bin, i_dv, i_un, i_lbin, i_lsh, i_i2l, i_l2i, i_lcmp, i_dup, i_dup2, i_pop, i_if, i_icmp, i_goto, swG, i_sw, i_getf, i_puti, i_putz, i_putr, i_ald, i_lald, i_aald, i_ast, i_last, i_aast, i_alen, i_new, i_newi, i_newl, i_newq, i_oinit, i_ret, i_zret, i_lret, i_vret, catS, tk, rpush, isO, i_m1, i_m2, i_acopy, i_callV, i_callS, KRet, lget, lput, lputL, lcl0, isL, lv0, List.map_cons, List.map_nil, List.length_cons, List.length_nil, List.cons_append, List.nil_append, Nat.reduceAdd, Nat.reduceSub, Nat.reduceLeDiff, List.replicate_succ, List.replicate_zero, List.getElem?_cons_succ, List.getElem?_cons_zero, List.set_cons_succ, List.set_cons_zero, true_and, and_true, if_true, if_false, ↓reduceIte, Nat.le_refl, Value.category, va_up_app, eq_self, stp, Nat.reduceBEq, Bool.or_false, Bool.false_or, Bool.true_or, Bool.or_true, or_true, true_or, bx_uu, implies_true, true_implies, not_true, not_false_eq_true, false_implies, and_self, Nat.reduceLT, Int32.reduceAdd, Int32.reduceSub, Int32.reduceMul, Int32.reduceLE, Int32.reduceLT, Int32.reduceToNatClampNeg, va_rf_some, Bool.false_eq_true, k_X8_fault_0 ca, k_X8_fault_1 ca, k_X8_fault_2 ca, k_X8_fault_3 ca, k_X8_fault_6 ca, k_X8_fault_9 ca, k_X8_fault_11 ca, k_X8_fault_12 ca, k_X8_fault_13 ca, k_X8_fault_16 ca, k_X8_fault_19 ca, k_X8_fault_21 ca, k_X8_fault_24 ca, k_X8_fault_25 ca, k_X8_fault_28 ca, k_X8_fault_29 ca, k_X8_fault_32 ca, k_X8_fault_35 ca, k_X8_fault_36 ca, k_X8_fault_39 ca, sp_X8_in, sp_X7_isWithin, q1, b2i_f]
    try clear hF hF0 F
    exact k0
  | true =>
    rw [q1, if_pos rfl] at hs
    refine goN go (stp [16]) 160 _ _ _ _ _ _ (fun F hF hF0 => ?_)
    simp only [hF, hF0, ite_not, i_push, i_iload, i_lload, i_aload, i_istore, i_astore, i_lstore, i_iinc, i_bin, i_dv, i_un, i_lbin, i_lsh, i_i2l, i_l2i, i_lcmp, i_dup, i_dup2, i_pop, i_if, i_icmp, i_goto, swG, i_sw, i_getf, i_puti, i_putz, i_putr, i_ald, i_lald, i_aald, i_ast, i_last, i_aast, i_alen, i_new, i_newi, i_newl, i_newq, i_oinit, i_ret, i_zret, i_lret, i_vret, catS, tk, rpush, isO, i_m1, i_m2, i_acopy, i_callV, i_callS, KRet, lget, lput, lputL, lcl0, isL, lv0, List.map_cons, List.map_nil, List.length_cons, List.length_nil, List.cons_append, List.nil_append, Nat.reduceAdd, Nat.reduceSub, Nat.reduceLeDiff, List.replicate_succ, List.replicate_zero, List.getElem?_cons_succ, List.getElem?_cons_zero, List.set_cons_succ, List.set_cons_zero, true_and, and_true, if_true, if_false, ↓reduceIte, Nat.le_refl, Value.category, va_up_app, eq_self, stp, Nat.reduceBEq, Bool.or_false, Bool.false_or, Bool.true_or, Bool.or_true, or_true, true_or, bx_uu, implies_true, true_implies, not_true, not_false_eq_true, false_implies, and_self, Nat.reduceLT, Int32.reduceAdd, Int32.reduceSub, Int32.reduceMul, Int32.reduceLE, Int32.reduceLT, Int32.reduceToNatClampNeg, va_rf_some, Bool.false_eq_true, k_X8_fault_0 ca, k_X8_fault_1 ca, k_X8_fault_2 ca, k_X8_fault_3 ca, k_X8_fault_6 ca, k_X8_fault_9 ca, k_X8_fault_11 ca, k_X8_fault_12 ca, k_X8_fault_13 ca, k_X8_fault_16 ca, k_X8_fault_19 ca, k_X8_fault_21 ca, k_X8_fault_24 ca, k_X8_fault_25 ca, k_X8_fault_28 ca, k_X8_fault_29 ca, k_X8_fault_32 ca, k_X8_fault_35 ca, k_X8_fault_36 ca, k_X8_fault_39 ca, sp_X8_in, sp_X7_isWithin, q1, b2i_t, one0, em']
    try clear hF hF0 F
    refine ⟨m, a, nI t, n, fm, at', re, f, rfl, em, e3, I.am _, hn, ?_⟩
    have k0 := hs _ ⟨g, hR.mm I t n fm (nI (rdF f n re).2.1) (rdF f n re).2.2⟩ (SmR.m _)
    by_cases q2 : (rdF f n 0).1 < 0
    · rw [if_pos q2] at k0
      have q3 : (rdF f n re).1 < 0 := by rw [rdF_1]; exact q2
      rw [rdF_2 f n re q3] at k0 ⊢
      by_cases q4 : x = 0
      · rw [if_pos q4] at k0
        refine goN go (stp []) 160 _ _ _ _ _ _ (fun F hF hF0 => ?_)
        simp only [hF, hF0, ite_not, i_push, i_iload, i_lload, i_aload, i_istore, i_astore, i_lstore, i_iinc, i_bin, i_dv, i_un, i_lbin, i_lsh, i_i2l, i_l2i, i_lcmp, i_dup, i_dup2, i_pop, i_if, i_icmp, i_goto, swG, i_sw, i_getf, i_puti, i_putz, i_putr, i_ald, i_lald, i_aald, i_ast, i_last, i_aast, i_alen, i_new, i_newi, i_newl, i_newq, i_oinit, i_ret, i_zret, i_lret, i_vret, catS, tk, rpush, isO, i_m1, i_m2, i_acopy, i_callV, i_callS, KRet, lget, lput, lputL, lcl0, isL, lv0, List.map_cons, List.map_nil, List.length_cons, List.length_nil, List.cons_append, List.nil_append, Nat.reduceAdd, Nat.reduceSub, Nat.reduceLeDiff, List.replicate_succ, List.replicate_zero, List.getElem?_cons_succ, List.getElem?_cons_zero, List.set_cons_succ, List.set_cons_zero, true_and, and_true, if_true, if_false, ↓reduceIte, Nat.le_refl, Value.category, va_up_app, eq_self, stp, Nat.reduceBEq, Bool.or_false, Bool.false_or, Bool.true_or, Bool.or_true, or_true, true_or, bx_uu, implies_true, true_implies, not_true, not_false_eq_true, false_implies, and_self, Nat.reduceLT, Int32.reduceAdd, Int32.reduceSub, Int32.reduceMul, Int32.reduceLE, Int32.reduceLT, Int32.reduceToNatClampNeg, va_rf_some, Bool.false_eq_true, k_X8_fault_0 ca, k_X8_fault_1 ca, k_X8_fault_2 ca, k_X8_fault_3 ca, k_X8_fault_6 ca, k_X8_fault_9 ca, k_X8_fault_11 ca, k_X8_fault_12 ca, k_X8_fault_13 ca, k_X8_fault_16 ca, k_X8_fault_19 ca, k_X8_fault_21 ca, k_X8_fault_24 ca, k_X8_fault_25 ca, k_X8_fault_28 ca, k_X8_fault_29 ca, k_X8_fault_32 ca, k_X8_fault_35 ca, k_X8_fault_36 ca, k_X8_fault_39 ca, q2, q4, eMod]
        try clear hF hF0 F
        exact k0
      · rw [if_neg q4] at k0
        refine goN go (stp []) 160 _ _ _ _ _ _ (fun F hF hF0 => ?_)
        simp only [hF, hF0, ite_not, i_push, i_iload, i_lload, i_aload, i_istore, i_astore, i_lstore, i_iinc, i_bin, i_dv, i_un, i_lbin, i_lsh, i_i2l, i_l2i, i_lcmp, i_dup, i_dup2, i_pop, i_if, i_icmp, i_goto, swG, i_sw, i_getf, i_puti, i_putz, i_putr, i_ald, i_lald, i_aald, i_ast, i_last, i_aast, i_alen, i_new, i_newi, i_newl, i_newq, i_oinit, i_ret, i_zret, i_lret, i_vret, catS, tk, rpush, isO, i_m1, i_m2, i_acopy, i_callV, i_callS, KRet, lget, lput, lputL, lcl0, isL, lv0, List.map_cons, List.map_nil, List.length_cons, List.length_nil, List.cons_append, List.nil_append, Nat.reduceAdd, Nat.reduceSub, Nat.reduceLeDiff, List.replicate_succ, List.replicate_zero, List.getElem?_cons_succ, List.getElem?_cons_zero, List.set_cons_succ, List.set_cons_zero, true_and, and_true, if_true, if_false, ↓reduceIte, Nat.le_refl, Value.category, va_up_app, eq_self, stp, Nat.reduceBEq, Bool.or_false, Bool.false_or, Bool.true_or, Bool.or_true, or_true, true_or, bx_uu, implies_true, true_implies, not_true, not_false_eq_true, false_implies, and_self, Nat.reduceLT, Int32.reduceAdd, Int32.reduceSub, Int32.reduceMul, Int32.reduceLE, Int32.reduceLT, Int32.reduceToNatClampNeg, va_rf_some, Bool.false_eq_true, k_X8_fault_0 ca, k_X8_fault_1 ca, k_X8_fault_2 ca, k_X8_fault_3 ca, k_X8_fault_6 ca, k_X8_fault_9 ca, k_X8_fault_11 ca, k_X8_fault_12 ca, k_X8_fault_13 ca, k_X8_fault_16 ca, k_X8_fault_19 ca, k_X8_fault_21 ca, k_X8_fault_24 ca, k_X8_fault_25 ca, k_X8_fault_28 ca, k_X8_fault_29 ca, k_X8_fault_32 ca, k_X8_fault_35 ca, k_X8_fault_36 ca, k_X8_fault_39 ca, q2, q4, eMod]
        try clear hF hF0 F
        exact k0
    · rw [if_neg q2] at k0
      rw [rdF_1]
      refine goN go (stp []) 160 _ _ _ _ _ _ (fun F hF hF0 => ?_)
      simp only [hF, hF0, ite_not, i_push, i_iload, i_lload, i_aload, i_istore, i_astore, i_lstore, i_iinc, i_bin, i_dv, i_un, i_lbin, i_lsh, i_i2l, i_l2i, i_lcmp, i_dup, i_dup2, i_pop, i_if, i_icmp, i_goto, swG, i_sw, i_getf, i_puti, i_putz, i_putr, i_ald, i_lald, i_aald, i_ast, i_last, i_aast, i_alen, i_new, i_newi, i_newl, i_newq, i_oinit, i_ret, i_zret, i_lret, i_vret, catS, tk, rpush, isO, i_m1, i_m2, i_acopy, i_callV, i_callS, KRet, lget, lput, lputL, lcl0, isL, lv0, List.map_cons, List.map_nil, List.length_cons, List.length_nil, List.cons_append, List.nil_append, Nat.reduceAdd, Nat.reduceSub, Nat.reduceLeDiff, List.replicate_succ, List.replicate_zero, List.getElem?_cons_succ, List.getElem?_cons_zero, List.set_cons_succ, List.set_cons_zero, true_and, and_true, if_true, if_false, ↓reduceIte, Nat.le_refl, Value.category, va_up_app, eq_self, stp, Nat.reduceBEq, Bool.or_false, Bool.false_or, Bool.true_or, Bool.or_true, or_true, true_or, bx_uu, implies_true, true_implies, not_true, not_false_eq_true, false_implies, and_self, Nat.reduceLT, Int32.reduceAdd, Int32.reduceSub, Int32.reduceMul, Int32.reduceLE, Int32.reduceLT, Int32.reduceToNatClampNeg, va_rf_some, Bool.false_eq_true, k_X8_fault_0 ca, k_X8_fault_1 ca, k_X8_fault_2 ca, k_X8_fault_3 ca, k_X8_fault_6 ca, k_X8_fault_9 ca, k_X8_fault_11 ca, k_X8_fault_12 ca, k_X8_fault_13 ca, k_X8_fault_16 ca, k_X8_fault_19 ca, k_X8_fault_21 ca, k_X8_fault_24 ca, k_X8_fault_25 ca, k_X8_fault_28 ca, k_X8_fault_29 ca, k_X8_fault_32 ca, k_X8_fault_35 ca, k_X8_fault_36 ca, k_X8_fault_39 ca, q2]
      try clear hF hF0 F
      exact k0
