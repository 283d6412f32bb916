/-! SnapStacks: heat, contact, opening, cut, bounds, part, tick -/
section
variable {ca : Nat → ClassId} {h h' : PH} {b : Nat → Nat} {s t : Nat → Int32} {k : Nat}
theorem seven_of {j k : Nat} (h : 106 + 7 * k ≤ j ∧ j < 106 + 7 * k + 7) : j = 106 + 7 * k ∨ j = 106 + 7 * k + 1 ∨ j = 106 + 7 * k + 2 ∨ j = 106 + 7 * k + 3 ∨ j = 106 + 7 * k + 4 ∨ j = 106 + 7 * k + 5 ∨ j = 106 + 7 * k + 6 := by omega
theorem ovr_room {F : Nat → Int32} (h : ∀ j, (j < 106 + 7 * k ∨ 113 + 7 * k ≤ j) → F j = s j) : ∀ j, j < 127 → ovr s (106 + 7 * k) 7 (fun i => F (106 + 7 * k + i)) j = F j := by
  intro j _
  by_cases z : 106 + 7 * k ≤ j ∧ j < 106 + 7 * k + 7
  · have e : j = 106 + 7 * k + (j - (106 + 7 * k)) := by omega
    rw [e, ovr_in (by omega)]
  · rw [ovr_out (by omega), h j (by omega)]
theorem ovr_strip {F : Nat → Int32} (h : ∀ j, (j < 10 + 32 * k ∨ 18 + 32 * k ≤ j) → F j = s j) : ∀ j, j < 127 → ovr s (10 + 32 * k) 8 (fun i => F (10 + 32 * k + i)) j = F j := by
  intro j _
  by_cases z : 10 + 32 * k ≤ j ∧ j < 10 + 32 * k + 8
  · have e : j = 10 + 32 * k + (j - (10 + 32 * k)) := by omega
    rw [e, ovr_in (by omega)]
  · rw [ovr_out (by omega), h j (by omega)]
theorem SAt.srF {F : Nat → Int32} (hb : Inj b) (hS : SAt ca h b s) (hk : k < 3) (hF : ∀ j, (j < 106 + 7 * k ∨ 113 + 7 * k ≤ j) → F j = s j) : SAt ca (va_up h (b (11 + 5 * k)) (some (.inr (2, [.int (F (106 + 7 * k)), .int (F (106 + 7 * k + 1)), .int (F (106 + 7 * k + 2)), .int (F (106 + 7 * k + 3)), .int (F (106 + 7 * k + 4)), .int (F (106 + 7 * k + 5)), .int (F (106 + 7 * k + 6))])))) b F := SAt_cong (hS.sr hb hk (fun i => F (106 + 7 * k + i))) (ovr_room hF)
theorem SAt.ssF {F : Nat → Int32} (hb : Inj b) (hS : SAt ca h b s) (hk : k < 3) (hF : ∀ j, (j < 10 + 32 * k ∨ 18 + 32 * k ≤ j) → F j = s j) : SAt ca (va_up h (b (7 + 5 * k)) (some (.inr (5, [.ref (b (8 + 5 * k)), .ref (b (9 + 5 * k)), .ref (b (10 + 5 * k)), .int (F (10 + 32 * k)), .int (F (10 + 32 * k + 1)), .int (F (10 + 32 * k + 2)), .int (F (10 + 32 * k + 3)), .int (F (10 + 32 * k + 5)), .int (F (10 + 32 * k + 6)), .int (F (10 + 32 * k + 7)), .int (F (10 + 32 * k + 4))])))) b F := SAt_cong (hS.sst hb hk (fun i => F (10 + 32 * k + i))) (ovr_strip hF)
theorem SAt.full (hS : SAt ca h b s) (hk : k < 3) (hp : ∀ i, i < 22 → (i < 7 + 5 * k ∨ 10 + 5 * k < i) → h' (b i) = h (b i)) (hT : TAt ca h' (b (7 + 5 * k)) (b (8 + 5 * k)) (b (9 + 5 * k)) (b (10 + 5 * k)) (fun i => t (10 + 32 * k + i))) : SAt ca h' b (cpR s t (10 + 32 * k) 32) := by
  have hk3 : k = 0 ∨ k = 1 ∨ k = 2 := by omega
  rcases hk3 with rfl | rfl | rfl
  · exact SAt_full0 hS hp hT
  · exact SAt_full1 hS hp hT
  · exact SAt_full2 hS hp hT
theorem BoS.si (hbo : BoS s) (hk : k < 3) : s (10 + 32 * k + 4) = 0 ∨ s (10 + 32 * k + 4) = 1 := by
  obtain ⟨t1, t2, t3, t4, t5, t6⟩ := hbo
  have hk3 : k = 0 ∨ k = 1 ∨ k = 2 := by omega
  rcases hk3 with rfl | rfl | rfl
  · exact t1
  · exact t2
  · exact t3
theorem BoS.op (hbo : BoS s) (hk : k < 3) : s (106 + 7 * k + 3) = 0 ∨ s (106 + 7 * k + 3) = 1 := by
  obtain ⟨t1, t2, t3, t4, t5, t6⟩ := hbo
  have hk3 : k = 0 ∨ k = 1 ∨ k = 2 := by omega
  rcases hk3 with rfl | rfl | rfl
  · exact t4
  · exact t5
  · exact t6
end
def vHeat (x y z : Int32) : Bool := isIn x 0 2 && (isIn y 0 99 && isIn z 1 99)
def sp_X7_heat (ca : Nat → ClassId) : SPEC := fun av h post => ∃ o b qh qa B x3 x4 x5 lk s oo ss S x y z, av = [.ref o, .int x, .int y, .int z] ∧ DJ o b qh qa B ∧ CN ca h o b qh qa B x3 x4 x5 lk s oo ss S ∧ BoS s ∧ actC ca h o b qh qa B x3 x4 x5 s oo ss S post (vHeat x y z) (aHeat s x y z) (fHeat s x y z)
def k_X7_heat (ca : Nat → ClassId) : Nat → IT := fun pc => lk pc [(0, i_iload 1 1),
  (1, i_callS 1 0 0 0 0 (sp_X7_isRoom ca) 4),
  (4, i_if (fun x => x = 0) 27 7),
  (7, i_iload 2 8),
  (8, i_push (.int 0) 9),
  (9, i_push (.int 99) 11),
  (11, i_callS 3 0 0 0 0 (sp_X7_isWithin ca) 14),
  (14, i_if (fun x => x = 0) 27 17),
  (17, i_iload 3 18),
  (18, i_push (.int 1) 19),
  (19, i_push (.int 99) 21),
  (21, i_callS 3 0 0 0 0 (sp_X7_isWithin ca) 24),
  (24, i_if (fun x => ¬ x = 0) 30 27),
  (27, i_push (.int (-10000001)) 29),
  (29, i_ret),
  (30, i_aload 0 31),
  (31, i_callV 7 0 0 0 0 0 (sp_X7_recordChange ca) 34),
  (34, i_aload 0 35),
  (35, i_getf 7 0 38),
  (38, i_getf 4 3 41),
  (41, i_iload 1 42),
  (42, i_aald (ca 4) 43),
  (43, i_astore 4 45),
  (45, i_push (.int 100) 47),
  (47, i_aload 4 49),
  (49, i_getf 2 1 52),
  (52, i_bin (fun x y => x * y) 53),
  (53, i_aload 4 55),
  (55, i_getf 2 2 58),
  (58, i_bin (fun x y => x + y) 59),
  (59, i_istore 5 61),
  (61, i_aload 4 63),
  (63, i_iload 2 64),
  (64, i_puti 2 1 67),
  (67, i_aload 4 69),
  (69, i_iload 3 70),
  (70, i_puti 2 2 73),
  (73, i_iload 5 75),
  (75, i_ret)]
set_option maxRecDepth 20000 in
theorem t_X7_heat : Tb k_X7_heat yX7_heat cX7_heat 6 (some .int) 5 0 0 := by
  intro l D ca A p e s m args below meth c post X
  unfold k_X7_heat
  refine snd_cons (snd_iload_n X dX7_heat_0 rfl) ?_
  refine snd_cons (snd_callS X (ok_X7_isRoom l D ca) rfl rfl w_327 w_328 w_1 w_329 (by decide) (by decide) dX7_heat_1) ?_
  refine snd_cons (snd_if_eq X dX7_heat_4 (by decide)) ?_
  refine snd_cons (snd_iload_n X dX7_heat_7 rfl) ?_
  refine snd_cons (snd_iconst X dX7_heat_8 (by decide)) ?_
  refine snd_cons (snd_bipush X dX7_heat_9 (by decide)) ?_
  refine snd_cons (snd_callS X (ok_X7_isWithin l D ca) rfl rfl w_281 w_282 w_1 w_283 (by decide) (by decide) dX7_heat_11) ?_
  refine snd_cons (snd_if_eq X dX7_heat_14 (by decide)) ?_
  refine snd_cons (snd_iload_n X dX7_heat_17 rfl) ?_
  refine snd_cons (snd_iconst X dX7_heat_18 (by decide)) ?_
  refine snd_cons (snd_bipush X dX7_heat_19 (by decide)) ?_
  refine snd_cons (snd_callS X (ok_X7_isWithin l D ca) rfl rfl w_281 w_282 w_1 w_283 (by decide) (by decide) dX7_heat_21) ?_
  refine snd_cons (snd_if_ne X dX7_heat_24 (by decide)) ?_
  refine snd_cons (snd_ldc X w_284 dX7_heat_27) ?_
  refine snd_cons (snd_ret X dX7_heat_29) ?_
  refine snd_cons (snd_aload_n X dX7_heat_30 rfl) ?_
  refine snd_cons (snd_callV X Fk7 (ok_X7_recordChange l D ca) rfl rfl w_474 w_476 wp_4 w_1 w_477 (by decide) (by decide) dX7_heat_31) ?_
  refine snd_cons (snd_aload_n X dX7_heat_34 rfl) ?_
  refine snd_cons (snd_getf X Fk7 0 (by decide) w_250 dX7_heat_35) ?_
  refine snd_cons (snd_getf X Fk4 3 (by decide) w_130 dX7_heat_38) ?_
  refine snd_cons (snd_iload_n X dX7_heat_41 rfl) ?_
  refine snd_cons (snd_aaload X 4 rfl dX7_heat_42) ?_
  refine snd_cons (snd_astore X dX7_heat_43 (by decide)) ?_
  refine snd_cons (snd_bipush X dX7_heat_45 (by decide)) ?_
  refine snd_cons (snd_aload X dX7_heat_47) ?_
  refine snd_cons (snd_getf X Fk2 1 (by decide) w_93 dX7_heat_49) ?_
  refine snd_cons (snd_imul X dX7_heat_52) ?_
  refine snd_cons (snd_aload X dX7_heat_53) ?_
  refine snd_cons (snd_getf X Fk2 2 (by decide) w_96 dX7_heat_55) ?_
  refine snd_cons (snd_iadd X dX7_heat_58) ?_
  refine snd_cons (snd_istore X dX7_heat_59 (by decide)) ?_
  refine snd_cons (snd_aload X dX7_heat_61) ?_
  refine snd_cons (snd_iload_n X dX7_heat_63 rfl) ?_
  refine snd_cons (snd_puti X Fk2 1 (by decide) rfl rfl w_93 dX7_heat_64) ?_
  refine snd_cons (snd_aload X dX7_heat_67) ?_
  refine snd_cons (snd_iload_n X dX7_heat_69 rfl) ?_
  refine snd_cons (snd_puti X Fk2 2 (by decide) rfl rfl w_96 dX7_heat_70) ?_
  refine snd_cons (snd_iload X dX7_heat_73) ?_
  refine snd_cons (snd_ret X dX7_heat_75) ?_
  exact snd_nil
theorem k_X7_heat_0 (ca : Nat → ClassId) : k_X7_heat ca 0 = i_iload 1 1 := rfl
theorem k_X7_heat_1 (ca : Nat → ClassId) : k_X7_heat ca 1 = i_callS 1 0 0 0 0 (sp_X7_isRoom ca) 4 := rfl
theorem k_X7_heat_4 (ca : Nat → ClassId) : k_X7_heat ca 4 = i_if (fun x => x = 0) 27 7 := rfl
theorem k_X7_heat_7 (ca : Nat → ClassId) : k_X7_heat ca 7 = i_iload 2 8 := rfl
theorem k_X7_heat_8 (ca : Nat → ClassId) : k_X7_heat ca 8 = i_push (.int 0) 9 := rfl
theorem k_X7_heat_9 (ca : Nat → ClassId) : k_X7_heat ca 9 = i_push (.int 99) 11 := rfl
theorem k_X7_heat_11 (ca : Nat → ClassId) : k_X7_heat ca 11 = i_callS 3 0 0 0 0 (sp_X7_isWithin ca) 14 := rfl
theorem k_X7_heat_14 (ca : Nat → ClassId) : k_X7_heat ca 14 = i_if (fun x => x = 0) 27 17 := rfl
theorem k_X7_heat_17 (ca : Nat → ClassId) : k_X7_heat ca 17 = i_iload 3 18 := rfl
theorem k_X7_heat_18 (ca : Nat → ClassId) : k_X7_heat ca 18 = i_push (.int 1) 19 := rfl
theorem k_X7_heat_19 (ca : Nat → ClassId) : k_X7_heat ca 19 = i_push (.int 99) 21 := rfl
theorem k_X7_heat_21 (ca : Nat → ClassId) : k_X7_heat ca 21 = i_callS 3 0 0 0 0 (sp_X7_isWithin ca) 24 := rfl
theorem k_X7_heat_24 (ca : Nat → ClassId) : k_X7_heat ca 24 = i_if (fun x => ¬ x = 0) 30 27 := rfl
theorem k_X7_heat_27 (ca : Nat → ClassId) : k_X7_heat ca 27 = i_push (.int (-10000001)) 29 := rfl
theorem k_X7_heat_29 (ca : Nat → ClassId) : k_X7_heat ca 29 = i_ret := rfl
theorem k_X7_heat_30 (ca : Nat → ClassId) : k_X7_heat ca 30 = i_aload 0 31 := rfl
theorem k_X7_heat_31 (ca : Nat → ClassId) : k_X7_heat ca 31 = i_callV 7 0 0 0 0 0 (sp_X7_recordChange ca) 34 := rfl
theorem k_X7_heat_34 (ca : Nat → ClassId) : k_X7_heat ca 34 = i_aload 0 35 := rfl
theorem k_X7_heat_35 (ca : Nat → ClassId) : k_X7_heat ca 35 = i_getf 7 0 38 := rfl
theorem k_X7_heat_38 (ca : Nat → ClassId) : k_X7_heat ca 38 = i_getf 4 3 41 := rfl
theorem k_X7_heat_41 (ca : Nat → ClassId) : k_X7_heat ca 41 = i_iload 1 42 := rfl
theorem k_X7_heat_42 (ca : Nat → ClassId) : k_X7_heat ca 42 = i_aald (ca 4) 43 := rfl
theorem k_X7_heat_43 (ca : Nat → ClassId) : k_X7_heat ca 43 = i_astore 4 45 := rfl
theorem k_X7_heat_45 (ca : Nat → ClassId) : k_X7_heat ca 45 = i_push (.int 100) 47 := rfl
theorem k_X7_heat_47 (ca : Nat → ClassId) : k_X7_heat ca 47 = i_aload 4 49 := rfl
theorem k_X7_heat_49 (ca : Nat → ClassId) : k_X7_heat ca 49 = i_getf 2 1 52 := rfl
theorem k_X7_heat_52 (ca : Nat → ClassId) : k_X7_heat ca 52 = i_bin (fun x y => x * y) 53 := rfl
theorem k_X7_heat_53 (ca : Nat → ClassId) : k_X7_heat ca 53 = i_aload 4 55 := rfl
theorem k_X7_heat_55 (ca : Nat → ClassId) : k_X7_heat ca 55 = i_getf 2 2 58 := rfl
theorem k_X7_heat_58 (ca : Nat → ClassId) : k_X7_heat ca 58 = i_bin (fun x y => x + y) 59 := rfl
theorem k_X7_heat_59 (ca : Nat → ClassId) : k_X7_heat ca 59 = i_istore 5 61 := rfl
theorem k_X7_heat_61 (ca : Nat → ClassId) : k_X7_heat ca 61 = i_aload 4 63 := rfl
theorem k_X7_heat_63 (ca : Nat → ClassId) : k_X7_heat ca 63 = i_iload 2 64 := rfl
theorem k_X7_heat_64 (ca : Nat → ClassId) : k_X7_heat ca 64 = i_puti 2 1 67 := rfl
theorem k_X7_heat_67 (ca : Nat → ClassId) : k_X7_heat ca 67 = i_aload 4 69 := rfl
theorem k_X7_heat_69 (ca : Nat → ClassId) : k_X7_heat ca 69 = i_iload 3 70 := rfl
theorem k_X7_heat_70 (ca : Nat → ClassId) : k_X7_heat ca 70 = i_puti 2 2 73 := rfl
theorem k_X7_heat_73 (ca : Nat → ClassId) : k_X7_heat ca 73 = i_iload 5 75 := rfl
theorem k_X7_heat_75 (ca : Nat → ClassId) : k_X7_heat ca 75 = i_ret := rfl
set_option maxHeartbeats 4000000 in
set_option maxRecDepth 20000 in
theorem ok_X7_heat (l : Launch) (D : va_G) (ca : Nat → ClassId) : OkAll l D ca yX7_heat cX7_heat 6 (some .int) 5 0 0 (sp_X7_heat ca) := by
  intro av h post hs
  obtain ⟨o, b, qh, qa, B, x3, x4, x5, lk, s, oo, ss, S, x, y, z, rfl, J, hC, hbo, hs⟩ := hs
  have hb := J.1
  have c0 := hC.1
  unfold aHeat vHeat fHeat at hs
  refine okM_of t_X7_heat (by decide +kernel) (c1_ref (c1_int (c1_int (c1_int c1_nil)))) (Nat.le_of_ble_eq_true rfl) ?_
  intro K go
  cases q1 : isIn x 0 2 with
  | false =>
    rw [q1, if_neg (by decide)] at hs
    have k0 := hs.1 rfl
    refine goN go (stp []) 160 _ _ _ _ _ _ (fun F hF hF0 => ?_)
    simp only [hF, hF0, ite_not, i_push, i_iload, i_lload, i_aload, i_istore, i_astore, i_lstore, i_iinc, i_bin, i_dv, i_un, i_lbin, i_lsh, i_i2l, i_l2i, i_lcmp, i_dup, i_dup2, i_pop, i_if, i_icmp, i_goto, swG, i_sw, i_getf, i_puti, i_putz, i_putr, i_ald, i_lald, i_aald, i_ast, i_last, i_aast, i_alen, i_new, i_newi, i_newl, i_newq, i_oinit, i_ret, i_zret, i_lret, i_vret, catS, tk, rpush, isO, i_m1, i_m2, i_acopy, i_callV, i_callS, KRet, lget, lput, lputL, lcl0, isL, lv0, List.map_cons, List.map_nil, List.length_cons, List.length_nil, List.cons_append, List.nil_append, Nat.reduceAdd, Nat.reduceSub, Nat.reduceLeDiff, List.replicate_succ, List.replicate_zero, List.getElem?_cons_succ, List.getElem?_cons_zero, List.set_cons_succ, List.set_cons_zero, true_and, and_true, if_true, if_false, ↓reduceIte, Nat.le_refl, Value.category, va_up_app, eq_self, stp, Nat.reduceBEq, Bool.or_false, Bool.false_or, Bool.true_or, Bool.or_true, or_true, true_or, bx_uu, implies_true, true_implies, not_true, not_false_eq_true, false_implies, and_self, Nat.reduceLT, Int32.reduceAdd, Int32.reduceSub, Int32.reduceMul, Int32.reduceLE, Int32.reduceLT, Int32.reduceToNatClampNeg, va_rf_some, Bool.false_eq_true, k_X7_heat_0 ca, k_X7_heat_1 ca, k_X7_heat_4 ca, k_X7_heat_7 ca, k_X7_heat_8 ca, k_X7_heat_9 ca, k_X7_heat_11 ca, k_X7_heat_14 ca, k_X7_heat_17 ca, k_X7_heat_18 ca, k_X7_heat_19 ca, k_X7_heat_21 ca, k_X7_heat_24 ca, k_X7_heat_27 ca, k_X7_heat_29 ca, k_X7_heat_30 ca, k_X7_heat_31 ca, k_X7_heat_34 ca, k_X7_heat_35 ca, k_X7_heat_38 ca, k_X7_heat_41 ca, k_X7_heat_42 ca, k_X7_heat_43 ca, k_X7_heat_45 ca, k_X7_heat_47 ca, k_X7_heat_49 ca, k_X7_heat_52 ca, k_X7_heat_53 ca, k_X7_heat_55 ca, k_X7_heat_58 ca, k_X7_heat_59 ca, k_X7_heat_61 ca, k_X7_heat_63 ca, k_X7_heat_64 ca, k_X7_heat_67 ca, k_X7_heat_69 ca, k_X7_heat_70 ca, k_X7_heat_73 ca, k_X7_heat_75 ca, sp_X7_isRoom, q1, b2i_f]
    try clear hF hF0 F
    exact k0
  | true =>
    rw [q1, if_pos rfl, Bool.true_and] at hs
    cases q2 : isIn y 0 99 with
    | false =>
      rw [q2, if_neg (by decide)] at hs
      have k0 := hs.1 rfl
      refine goN go (stp []) 160 _ _ _ _ _ _ (fun F hF hF0 => ?_)
      simp only [hF, hF0, ite_not, i_push, i_iload, i_lload, i_aload, i_istore, i_astore, i_lstore, i_iinc, i_bin, i_dv, i_un, i_lbin, i_lsh, i_i2l, i_l2i, i_lcmp, i_dup, i_dup2, i_pop, i_if, i_icmp, i_goto, swG, i_sw, i_getf, i_puti, i_putz, i_putr, i_ald, i_lald, i_aald, i_ast, i_last, i_aast, i_alen, i_new, i_newi, i_newl, i_newq, i_oinit, i_ret, i_zret, i_lret, i_vret, catS, tk, rpush, isO, i_m1, i_m2, i_acopy, i_callV, i_callS, KRet, lget, lput, lputL, lcl0, isL, lv0, List.map_cons, List.map_nil, List.length_cons, List.length_nil, List.cons_append, List.nil_append, Nat.reduceAdd, Nat.reduceSub, Nat.reduceLeDiff, List.replicate_succ, List.replicate_zero, List.getElem?_cons_succ, List.getElem?_cons_zero, List.set_cons_succ, List.set_cons_zero, true_and, and_true, if_true, if_false, ↓reduceIte, Nat.le_refl, Value.category, va_up_app, eq_self, stp, Nat.reduceBEq, Bool.or_false, Bool.false_or, Bool.true_or, Bool.or_true, or_true, true_or, bx_uu, implies_true, true_implies, not_true, not_false_eq_true, false_implies, and_self, Nat.reduceLT, Int32.reduceAdd, Int32.reduceSub, Int32.reduceMul, Int32.reduceLE, Int32.reduceLT, Int32.reduceToNatClampNeg, va_rf_some, Bool.false_eq_true, k_X7_heat_0 ca, k_X7_heat_1 ca, k_X7_heat_4 ca, k_X7_heat_7 ca, k_X7_heat_8 ca, k_X7_heat_9 ca, k_X7_heat_11 ca, k_X7_heat_14 ca, k_X7_heat_17 ca, k_X7_heat_18 ca, k_X7_heat_19 ca, k_X7_heat_21 ca, k_X7_heat_24 ca, k_X7_heat_27 ca, k_X7_heat_29 ca, k_X7_heat_30 ca, k_X7_heat_31 ca, k_X7_heat_34 ca, k_X7_heat_35 ca, k_X7_heat_38 ca, k_X7_heat_41 ca, k_X7_heat_42 ca, k_X7_heat_43 ca, k_X7_heat_45 ca, k_X7_heat_47 ca, k_X7_heat_49 ca, k_X7_heat_52 ca, k_X7_heat_53 ca, k_X7_heat_55 ca, k_X7_heat_58 ca, k_X7_heat_59 ca, k_X7_heat_61 ca, k_X7_heat_63 ca, k_X7_heat_64 ca, k_X7_heat_67 ca, k_X7_heat_69 ca, k_X7_heat_70 ca, k_X7_heat_73 ca, k_X7_heat_75 ca, sp_X7_isRoom, sp_X7_isWithin, q1, q2, b2i_f, b2i_t, one0]
      try clear hF hF0 F
      exact k0
    | true =>
      rw [q2, if_pos rfl, Bool.true_and] at hs
      cases q3 : isIn z 1 99 with
      | false =>
        rw [q3, if_neg (by decide)] at hs
        have k0 := hs.1 rfl
        refine goN go (stp []) 160 _ _ _ _ _ _ (fun F hF hF0 => ?_)
        simp only [hF, hF0, ite_not, i_push, i_iload, i_lload, i_aload, i_istore, i_astore, i_lstore, i_iinc, i_bin, i_dv, i_un, i_lbin, i_lsh, i_i2l, i_l2i, i_lcmp, i_dup, i_dup2, i_pop, i_if, i_icmp, i_goto, swG, i_sw, i_getf, i_puti, i_putz, i_putr, i_ald, i_lald, i_aald, i_ast, i_last, i_aast, i_alen, i_new, i_newi, i_newl, i_newq, i_oinit, i_ret, i_zret, i_lret, i_vret, catS, tk, rpush, isO, i_m1, i_m2, i_acopy, i_callV, i_callS, KRet, lget, lput, lputL, lcl0, isL, lv0, List.map_cons, List.map_nil, List.length_cons, List.length_nil, List.cons_append, List.nil_append, Nat.reduceAdd, Nat.reduceSub, Nat.reduceLeDiff, List.replicate_succ, List.replicate_zero, List.getElem?_cons_succ, List.getElem?_cons_zero, List.set_cons_succ, List.set_cons_zero, true_and, and_true, if_true, if_false, ↓reduceIte, Nat.le_refl, Value.category, va_up_app, eq_self, stp, Nat.reduceBEq, Bool.or_false, Bool.false_or, Bool.true_or, Bool.or_true, or_true, true_or, bx_uu, implies_true, true_implies, not_true, not_false_eq_true, false_implies, and_self, Nat.reduceLT, Int32.reduceAdd, Int32.reduceSub, Int32.reduceMul, Int32.reduceLE, Int32.reduceLT, Int32.reduceToNatClampNeg, va_rf_some, Bool.false_eq_true, k_X7_heat_0 ca, k_X7_heat_1 ca, k_X7_heat_4 ca, k_X7_heat_7 ca, k_X7_heat_8 ca, k_X7_heat_9 ca, k_X7_heat_11 ca, k_X7_heat_14 ca, k_X7_heat_17 ca, k_X7_heat_18 ca, k_X7_heat_19 ca, k_X7_heat_21 ca, k_X7_heat_24 ca, k_X7_heat_27 ca, k_X7_heat_29 ca, k_X7_heat_30 ca, k_X7_heat_31 ca, k_X7_heat_34 ca, k_X7_heat_35 ca, k_X7_heat_38 ca, k_X7_heat_41 ca, k_X7_heat_42 ca, k_X7_heat_43 ca, k_X7_heat_45 ca, k_X7_heat_47 ca, k_X7_heat_49 ca, k_X7_heat_52 ca, k_X7_heat_53 ca, k_X7_heat_55 ca, k_X7_heat_58 ca, k_X7_heat_59 ca, k_X7_heat_61 ca, k_X7_heat_63 ca, k_X7_heat_64 ca, k_X7_heat_67 ca, k_X7_heat_69 ca, k_X7_heat_70 ca, k_X7_heat_73 ca, k_X7_heat_75 ca, sp_X7_isRoom, sp_X7_isWithin, q1, q2, q3, b2i_f, b2i_t, one0]
        try clear hF hF0 F
        exact k0
      | true =>
        rw [q3, if_pos rfl] at hs
        obtain ⟨X, hX, rfl⟩ := isIn0 (B := 2) rfl q1
        have xx : (nI X).toNatClampNeg = X := tn127 (by omega)
        have vx := vp3 (k := X) (by omega)
        rw [xx] at hs
        refine goN go (stp [34]) 160 _ _ _ _ _ _ (fun F hF hF0 => ?_)
        simp only [hF, hF0, ite_not, i_push, i_iload, i_lload, i_aload, i_istore, i_astore, i_lstore, i_iinc, i_bin, i_dv, i_un, i_lbin, i_lsh, i_i2l, i_l2i, i_lcmp, i_dup, i_dup2, i_pop, i_if, i_icmp, i_goto, swG, i_sw, i_getf, i_puti, i_putz, i_putr, i_ald, i_lald, i_aald, i_ast, i_last, i_aast, i_alen, i_new, i_newi, i_newl, i_newq, i_oinit, i_ret, i_zret, i_lret, i_vret, catS, tk, rpush, isO, i_m1, i_m2, i_acopy, i_callV, i_callS, KRet, lget, lput, lputL, lcl0, isL, lv0, List.map_cons, List.map_nil, List.length_cons, List.length_nil, List.cons_append, List.nil_append, Nat.reduceAdd, Nat.reduceSub, Nat.reduceLeDiff, List.replicate_succ, List.replicate_zero, List.getElem?_cons_succ, List.getElem?_cons_zero, List.set_cons_succ, List.set_cons_zero, true_and, and_true, if_true, if_false, ↓reduceIte, Nat.le_refl, Value.category, va_up_app, eq_self, stp, Nat.reduceBEq, Bool.or_false, Bool.false_or, Bool.true_or, Bool.or_true, or_true, true_or, bx_uu, implies_true, true_implies, not_true, not_false_eq_true, false_implies, and_self, Nat.reduceLT, Int32.reduceAdd, Int32.reduceSub, Int32.reduceMul, Int32.reduceLE, Int32.reduceLT, Int32.reduceToNatClampNeg, va_rf_some, Bool.false_eq_true, k_X7_heat_0 ca, k_X7_heat_1 ca, k_X7_heat_4 ca, k_X7_heat_7 ca, k_X7_heat_8 ca, k_X7_heat_9 ca, k_X7_heat_11 ca, k_X7_heat_14 ca, k_X7_heat_17 ca, k_X7_heat_18 ca, k_X7_heat_19 ca, k_X7_heat_21 ca, k_X7_heat_24 ca, k_X7_heat_27 ca, k_X7_heat_29 ca, k_X7_heat_30 ca, k_X7_heat_31 ca, k_X7_heat_34 ca, k_X7_heat_35 ca, k_X7_heat_38 ca, k_X7_heat_41 ca, k_X7_heat_42 ca, k_X7_heat_43 ca, k_X7_heat_45 ca, k_X7_heat_47 ca, k_X7_heat_49 ca, k_X7_heat_52 ca, k_X7_heat_53 ca, k_X7_heat_55 ca, k_X7_heat_58 ca, k_X7_heat_59 ca, k_X7_heat_61 ca, k_X7_heat_63 ca, k_X7_heat_64 ca, k_X7_heat_67 ca, k_X7_heat_69 ca, k_X7_heat_70 ca, k_X7_heat_73 ca, k_X7_heat_75 ca, sp_X7_isRoom, sp_X7_isWithin, q1, q2, q3, b2i_t, one0, c0]
        try clear hF hF0 F
        refine rec_of J hC hbo (fun h1 hC1 hm1 => ?_)
        obtain ⟨d1, d2, -⟩ := id hC1
        obtain ⟨e0, -, ⟨f4, e4, e5⟩, -⟩ := d2.c
        have e6 := e5 X (by omega)
        have e7 := d2.rm (k := X) (by omega)
        have hS3 := d2.srF hb (k := X) (F := upd (upd s (106 + 7 * X + 1) y) (106 + 7 * X + 2) z) (by omega) (fun j hj => by rw [upd_app, if_neg (by omega), upd_app, if_neg (by omega)])
        have k0 := hs.2 rfl _ (hC1.now J hS3 (Same_up (by omega) _)) (hm1.tr (SmC.now (Same_up (by omega) _)))
        rw [show upd (upd s (106 + 7 * X + 1) y) (106 + 7 * X + 2) z (106 + 7 * X) = s (106 + 7 * X) by rw [upd_app, if_neg (by omega), upd_app, if_neg (by omega)], show upd (upd s (106 + 7 * X + 1) y) (106 + 7 * X + 2) z (106 + 7 * X + 1) = y by rw [upd_app, if_neg (by omega), upd_app, if_pos rfl], show upd (upd s (106 + 7 * X + 1) y) (106 + 7 * X + 2) z (106 + 7 * X + 2) = z by rw [upd_app, if_pos rfl], show upd (upd s (106 + 7 * X + 1) y) (106 + 7 * X + 2) z (106 + 7 * X + 3) = s (106 + 7 * X + 3) by rw [upd_app, if_neg (by omega), upd_app, if_neg (by omega)], show upd (upd s (106 + 7 * X + 1) y) (106 + 7 * X + 2) z (106 + 7 * X + 4) = s (106 + 7 * X + 4) by rw [upd_app, if_neg (by omega), upd_app, if_neg (by omega)], show upd (upd s (106 + 7 * X + 1) y) (106 + 7 * X + 2) z (106 + 7 * X + 5) = s (106 + 7 * X + 5) by rw [upd_app, if_neg (by omega), upd_app, if_neg (by omega)], show upd (upd s (106 + 7 * X + 1) y) (106 + 7 * X + 2) z (106 + 7 * X + 6) = s (106 + 7 * X + 6) by rw [upd_app, if_neg (by omega), upd_app, if_neg (by omega)]] at k0
        refine goN go (stp []) 160 _ _ _ _ _ _ (fun F hF hF0 => ?_)
        simp only [hF, hF0, ite_not, i_push, i_iload, i_lload, i_aload, i_istore, i_astore, i_lstore, i_iinc, i_bin, i_dv, i_un, i_lbin, i_lsh, i_i2l, i_l2i, i_lcmp, i_dup, i_dup2, i_pop, i_if, i_icmp, i_goto, swG, i_sw, i_getf, i_puti, i_putz, i_putr, i_ald, i_lald, i_aald, i_ast, i_last, i_aast, i_alen, i_new, i_newi, i_newl, i_newq, i_oinit, i_ret, i_zret, i_lret, i_vret, catS, tk, rpush, isO, i_m1, i_m2, i_acopy, i_callV, i_callS, KRet, lget, lput, lputL, lcl0, isL, lv0, List.map_cons, List.map_nil, List.length_cons, List.length_nil, List.cons_append, List.nil_append, Nat.reduceAdd, Nat.reduceSub, Nat.reduceLeDiff, List.replicate_succ, List.replicate_zero, List.getElem?_cons_succ, List.getElem?_cons_zero, List.set_cons_succ, List.set_cons_zero, true_and, and_true, if_true, if_false, ↓reduceIte, Nat.le_refl, Value.category, va_up_app, eq_self, stp, Nat.reduceBEq, Bool.or_false, Bool.false_or, Bool.true_or, Bool.or_true, or_true, true_or, bx_uu, implies_true, true_implies, not_true, not_false_eq_true, false_implies, and_self, Nat.reduceLT, Int32.reduceAdd, Int32.reduceSub, Int32.reduceMul, Int32.reduceLE, Int32.reduceLT, Int32.reduceToNatClampNeg, va_rf_some, Bool.false_eq_true, k_X7_heat_0 ca, k_X7_heat_1 ca, k_X7_heat_4 ca, k_X7_heat_7 ca, k_X7_heat_8 ca, k_X7_heat_9 ca, k_X7_heat_11 ca, k_X7_heat_14 ca, k_X7_heat_17 ca, k_X7_heat_18 ca, k_X7_heat_19 ca, k_X7_heat_21 ca, k_X7_heat_24 ca, k_X7_heat_27 ca, k_X7_heat_29 ca, k_X7_heat_30 ca, k_X7_heat_31 ca, k_X7_heat_34 ca, k_X7_heat_35 ca, k_X7_heat_38 ca, k_X7_heat_41 ca, k_X7_heat_42 ca, k_X7_heat_43 ca, k_X7_heat_45 ca, k_X7_heat_47 ca, k_X7_heat_49 ca, k_X7_heat_52 ca, k_X7_heat_53 ca, k_X7_heat_55 ca, k_X7_heat_58 ca, k_X7_heat_59 ca, k_X7_heat_61 ca, k_X7_heat_63 ca, k_X7_heat_64 ca, k_X7_heat_67 ca, k_X7_heat_69 ca, k_X7_heat_70 ca, k_X7_heat_73 ca, k_X7_heat_75 ca, d1, e0, e4, e6, e7, vx, xx]
        try clear hF hF0 F
        exact k0
def vContact (x y : Int32) : Bool := isIn x 0 2 && isIn y 0 1
def sp_X7_contact (ca : Nat → ClassId) : SPEC := fun av h post => ∃ o b qh qa B x3 x4 x5 lk s oo ss S x y, av = [.ref o, .int x, .int y] ∧ DJ o b qh qa B ∧ CN ca h o b qh qa B x3 x4 x5 lk s oo ss S ∧ BoS s ∧ actC ca h o b qh qa B x3 x4 x5 s oo ss S post (vContact x y) (aContact s x y) (upd s (10 + 32 * x.toNatClampNeg + 7) y)
def k_X7_contact (ca : Nat → ClassId) : Nat → IT := fun pc => lk pc [(0, i_iload 1 1),
  (1, i_callS 1 0 0 0 0 (sp_X7_isRoom ca) 4),
  (4, i_if (fun x => x = 0) 16 7),
  (7, i_iload 2 8),
  (8, i_push (.int 0) 9),
  (9, i_push (.int 1) 10),
  (10, i_callS 3 0 0 0 0 (sp_X7_isWithin ca) 13),
  (13, i_if (fun x => ¬ x = 0) 19 16),
  (16, i_push (.int (-10000001)) 18),
  (18, i_ret),
  (19, i_aload 0 20),
  (20, i_callV 7 0 0 0 0 0 (sp_X7_recordChange ca) 23),
  (23, i_aload 0 24),
  (24, i_getf 7 0 27),
  (27, i_getf 4 2 30),
  (30, i_iload 1 31),
  (31, i_aald (ca 6) 32),
  (32, i_astore 3 33),
  (33, i_aload 3 34),
  (34, i_iload 2 35),
  (35, i_puti 5 9 38),
  (38, i_aload 3 39),
  (39, i_callV 5 0 0 0 0 0 (sp_X5_isClosed ca) 42),
  (42, i_callS 1 0 0 0 0 (sp_X7_oneIf ca) 45),
  (45, i_ret)]
set_option maxRecDepth 20000 in
theorem t_X7_contact : Tb k_X7_contact yX7_contact cX7_contact 4 (some .int) 5 0 0 := by
  intro l D ca A p e s m args below meth c post X
  unfold k_X7_contact
  refine snd_cons (snd_iload_n X dX7_contact_0 rfl) ?_
  refine snd_cons (snd_callS X (ok_X7_isRoom l D ca) rfl rfl w_327 w_328 w_1 w_329 (by decide) (by decide) dX7_contact_1) ?_
  refine snd_cons (snd_if_eq X dX7_contact_4 (by decide)) ?_
  refine snd_cons (snd_iload_n X dX7_contact_7 rfl) ?_
  refine snd_cons (snd_iconst X dX7_contact_8 (by decide)) ?_
  refine snd_cons (snd_iconst X dX7_contact_9 (by decide)) ?_
  refine snd_cons (snd_callS X (ok_X7_isWithin l D ca) rfl rfl w_281 w_282 w_1 w_283 (by decide) (by decide) dX7_contact_10) ?_
  refine snd_cons (snd_if_ne X dX7_contact_13 (by decide)) ?_
  refine snd_cons (snd_ldc X w_284 dX7_contact_16) ?_
  refine snd_cons (snd_ret X dX7_contact_18) ?_
  refine snd_cons (snd_aload_n X dX7_contact_19 rfl) ?_
  refine snd_cons (snd_callV X Fk7 (ok_X7_recordChange l D ca) rfl rfl w_474 w_476 wp_4 w_1 w_477 (by decide) (by decide) dX7_contact_20) ?_
  refine snd_cons (snd_aload_n X dX7_contact_23 rfl) ?_
  refine snd_cons (snd_getf X Fk7 0 (by decide) w_250 dX7_contact_24) ?_
  refine snd_cons (snd_getf X Fk4 2 (by decide) w_128 dX7_contact_27) ?_
  refine snd_cons (snd_iload_n X dX7_contact_30 rfl) ?_
  refine snd_cons (snd_aaload X 6 rfl dX7_contact_31) ?_
  refine snd_cons (snd_astore_n X dX7_contact_32 rfl (by decide)) ?_
  refine snd_cons (snd_aload_n X dX7_contact_33 rfl) ?_
  refine snd_cons (snd_iload_n X dX7_contact_34 rfl) ?_
  refine snd_cons (snd_puti X Fk5 9 (by decide) rfl rfl w_56 dX7_contact_35) ?_
  refine snd_cons (snd_aload_n X dX7_contact_38 rfl) ?_
  refine snd_cons (snd_callV X Fk5 (ok_X5_isClosed l D ca) rfl rfl w_353 w_354 w_355 w_3 w_356 (by decide) (by decide) dX7_contact_39) ?_
  refine snd_cons (snd_callS X (ok_X7_oneIf l D ca) rfl rfl w_350 w_351 w_1 w_352 (by decide) (by decide) dX7_contact_42) ?_
  refine snd_cons (snd_ret X dX7_contact_45) ?_
  exact snd_nil
theorem k_X7_contact_0 (ca : Nat → ClassId) : k_X7_contact ca 0 = i_iload 1 1 := rfl
theorem k_X7_contact_1 (ca : Nat → ClassId) : k_X7_contact ca 1 = i_callS 1 0 0 0 0 (sp_X7_isRoom ca) 4 := rfl
theorem k_X7_contact_4 (ca : Nat → ClassId) : k_X7_contact ca 4 = i_if (fun x => x = 0) 16 7 := rfl
theorem k_X7_contact_7 (ca : Nat → ClassId) : k_X7_contact ca 7 = i_iload 2 8 := rfl
theorem k_X7_contact_8 (ca : Nat → ClassId) : k_X7_contact ca 8 = i_push (.int 0) 9 := rfl
theorem k_X7_contact_9 (ca : Nat → ClassId) : k_X7_contact ca 9 = i_push (.int 1) 10 := rfl
theorem k_X7_contact_10 (ca : Nat → ClassId) : k_X7_contact ca 10 = i_callS 3 0 0 0 0 (sp_X7_isWithin ca) 13 := rfl
theorem k_X7_contact_13 (ca : Nat → ClassId) : k_X7_contact ca 13 = i_if (fun x => ¬ x = 0) 19 16 := rfl
theorem k_X7_contact_16 (ca : Nat → ClassId) : k_X7_contact ca 16 = i_push (.int (-10000001)) 18 := rfl
theorem k_X7_contact_18 (ca : Nat → ClassId) : k_X7_contact ca 18 = i_ret := rfl
theorem k_X7_contact_19 (ca : Nat → ClassId) : k_X7_contact ca 19 = i_aload 0 20 := rfl
theorem k_X7_contact_20 (ca : Nat → ClassId) : k_X7_contact ca 20 = i_callV 7 0 0 0 0 0 (sp_X7_recordChange ca) 23 := rfl
theorem k_X7_contact_23 (ca : Nat → ClassId) : k_X7_contact ca 23 = i_aload 0 24 := rfl
theorem k_X7_contact_24 (ca : Nat → ClassId) : k_X7_contact ca 24 = i_getf 7 0 27 := rfl
theorem k_X7_contact_27 (ca : Nat → ClassId) : k_X7_contact ca 27 = i_getf 4 2 30 := rfl
theorem k_X7_contact_30 (ca : Nat → ClassId) : k_X7_contact ca 30 = i_iload 1 31 := rfl
theorem k_X7_contact_31 (ca : Nat → ClassId) : k_X7_contact ca 31 = i_aald (ca 6) 32 := rfl
theorem k_X7_contact_32 (ca : Nat → ClassId) : k_X7_contact ca 32 = i_astore 3 33 := rfl
theorem k_X7_contact_33 (ca : Nat → ClassId) : k_X7_contact ca 33 = i_aload 3 34 := rfl
theorem k_X7_contact_34 (ca : Nat → ClassId) : k_X7_contact ca 34 = i_iload 2 35 := rfl
theorem k_X7_contact_35 (ca : Nat → ClassId) : k_X7_contact ca 35 = i_puti 5 9 38 := rfl
theorem k_X7_contact_38 (ca : Nat → ClassId) : k_X7_contact ca 38 = i_aload 3 39 := rfl
theorem k_X7_contact_39 (ca : Nat → ClassId) : k_X7_contact ca 39 = i_callV 5 0 0 0 0 0 (sp_X5_isClosed ca) 42 := rfl
theorem k_X7_contact_42 (ca : Nat → ClassId) : k_X7_contact ca 42 = i_callS 1 0 0 0 0 (sp_X7_oneIf ca) 45 := rfl
theorem k_X7_contact_45 (ca : Nat → ClassId) : k_X7_contact ca 45 = i_ret := rfl
set_option maxHeartbeats 4000000 in
set_option maxRecDepth 20000 in
theorem ok_X7_contact (l : Launch) (D : va_G) (ca : Nat → ClassId) : OkAll l D ca yX7_contact cX7_contact 4 (some .int) 5 0 0 (sp_X7_contact ca) := by
  intro av h post hs
  obtain ⟨o, b, qh, qa, B, x3, x4, x5, lk, s, oo, ss, S, x, y, rfl, J, hC, hbo, hs⟩ := hs
  have hb := J.1
  have c0 := hC.1
  unfold aContact vContact at hs
  refine okM_of t_X7_contact (by decide +kernel) (c1_ref (c1_int (c1_int c1_nil))) (Nat.le_of_ble_eq_true rfl) ?_
  intro K go
  cases q1 : isIn x 0 2 with
  | false =>
    rw [q1, if_neg (by decide)] at hs
    have k0 := hs.1 rfl
    refine goN go (stp []) 160 _ _ _ _ _ _ (fun F hF hF0 => ?_)
    simp only [hF, hF0, ite_not, i_push, i_iload, i_lload, i_aload, i_istore, i_astore, i_lstore, i_iinc, i_bin, i_dv, i_un, i_lbin, i_lsh, i_i2l, i_l2i, i_lcmp, i_dup, i_dup2, i_pop, i_if, i_icmp, i_goto, swG, i_sw, i_getf, i_puti, i_putz, i_putr, i_ald, i_lald, i_aald, i_ast, i_last, i_aast, i_alen, i_new, i_newi, i_newl, i_newq, i_oinit, i_ret, i_zret, i_lret, i_vret, catS, tk, rpush, isO, i_m1, i_m2, i_acopy, i_callV, i_callS, KRet, lget, lput, lputL, lcl0, isL, lv0, List.map_cons, List.map_nil, List.length_cons, List.length_nil, List.cons_append, List.nil_append, Nat.reduceAdd, Nat.reduceSub, Nat.reduceLeDiff, List.replicate_succ, List.replicate_zero, List.getElem?_cons_succ, List.getElem?_cons_zero, List.set_cons_succ, List.set_cons_zero, true_and, and_true, if_true, if_false, ↓reduceIte, Nat.le_refl, Value.category, va_up_app, eq_self, stp, Nat.reduceBEq, Bool.or_false, Bool.false_or, Bool.true_or, Bool.or_true, or_true, true_or, bx_uu, implies_true, true_implies, not_true, not_false_eq_true, false_implies, and_self, Nat.reduceLT, Int32.reduceAdd, Int32.reduceSub, Int32.reduceMul, Int32.reduceLE, Int32.reduceLT, Int32.reduceToNatClampNeg, va_rf_some, Bool.false_eq_true, k_X7_contact_0 ca, k_X7_contact_1 ca, k_X7_contact_4 ca, k_X7_contact_7 ca, k_X7_contact_8 ca, k_X7_contact_9 ca, k_X7_contact_10 ca, k_X7_contact_13 ca, k_X7_contact_16 ca, k_X7_contact_18 ca, k_X7_contact_19 ca, k_X7_contact_20 ca, k_X7_contact_23 ca, k_X7_contact_24 ca, k_X7_contact_27 ca, k_X7_contact_30 ca, k_X7_contact_31 ca, k_X7_contact_32 ca, k_X7_contact_33 ca, k_X7_contact_34 ca, k_X7_contact_35 ca, k_X7_contact_38 ca, k_X7_contact_39 ca, k_X7_contact_42 ca, k_X7_contact_45 ca, sp_X7_isRoom, q1, b2i_f]
    try clear hF hF0 F
    exact k0
  | true =>
    rw [q1, if_pos rfl, Bool.true_and] at hs
    cases q2 : isIn y 0 1 with
    | false =>
      rw [q2, if_neg (by decide)] at hs
      have k0 := hs.1 rfl
      refine goN go (stp []) 160 _ _ _ _ _ _ (fun F hF hF0 => ?_)
      simp only [hF, hF0, ite_not, i_push, i_iload, i_lload, i_aload, i_istore, i_astore, i_lstore, i_iinc, i_bin, i_dv, i_un, i_lbin, i_lsh, i_i2l, i_l2i, i_lcmp, i_dup, i_dup2, i_pop, i_if, i_icmp, i_goto, swG, i_sw, i_getf, i_puti, i_putz, i_putr, i_ald, i_lald, i_aald, i_ast, i_last, i_aast, i_alen, i_new, i_newi, i_newl, i_newq, i_oinit, i_ret, i_zret, i_lret, i_vret, catS, tk, rpush, isO, i_m1, i_m2, i_acopy, i_callV, i_callS, KRet, lget, lput, lputL, lcl0, isL, lv0, List.map_cons, List.map_nil, List.length_cons, List.length_nil, List.cons_append, List.nil_append, Nat.reduceAdd, Nat.reduceSub, Nat.reduceLeDiff, List.replicate_succ, List.replicate_zero, List.getElem?_cons_succ, List.getElem?_cons_zero, List.set_cons_succ, List.set_cons_zero, true_and, and_true, if_true, if_false, ↓reduceIte, Nat.le_refl, Value.category, va_up_app, eq_self, stp, Nat.reduceBEq, Bool.or_false, Bool.false_or, Bool.true_or, Bool.or_true, or_true, true_or, bx_uu, implies_true, true_implies, not_true, not_false_eq_true, false_implies, and_self, Nat.reduceLT, Int32.reduceAdd, Int32.reduceSub, Int32.reduceMul, Int32.reduceLE, Int32.reduceLT, Int32.reduceToNatClampNeg, va_rf_some, Bool.false_eq_true, k_X7_contact_0 ca, k_X7_contact_1 ca, k_X7_contact_4 ca, k_X7_contact_7 ca, k_X7_contact_8 ca, k_X7_contact_9 ca, k_X7_contact_10 ca, k_X7_contact_13 ca, k_X7_contact_16 ca, k_X7_contact_18 ca, k_X7_contact_19 ca, k_X7_contact_20 ca, k_X7_contact_23 ca, k_X7_contact_24 ca, k_X7_contact_27 ca, k_X7_contact_30 ca, k_X7_contact_31 ca, k_X7_contact_32 ca, k_X7_contact_33 ca, k_X7_contact_34 ca, k_X7_contact_35 ca, k_X7_contact_38 ca, k_X7_contact_39 ca, k_X7_contact_42 ca, k_X7_contact_45 ca, sp_X7_isRoom, sp_X7_isWithin, q1, q2, b2i_f, b2i_t, one0]
      try clear hF hF0 F
      exact k0
    | true =>
      rw [q2, if_pos rfl] at hs
      obtain ⟨X, hX, rfl⟩ := isIn0 (B := 2) rfl q1
      have xx : (nI X).toNatClampNeg = X := tn127 (by omega)
      have vx := vp3 (k := X) (by omega)
      rw [xx] at hs
      refine goN go (stp [23]) 160 _ _ _ _ _ _ (fun F hF hF0 => ?_)
      simp only [hF, hF0, ite_not, i_push, i_iload, i_lload, i_aload, i_istore, i_astore, i_lstore, i_iinc, i_bin, i_dv, i_un, i_lbin, i_lsh, i_i2l, i_l2i, i_lcmp, i_dup, i_dup2, i_pop, i_if, i_icmp, i_goto, swG, i_sw, i_getf, i_puti, i_putz, i_putr, i_ald, i_lald, i_aald, i_ast, i_last, i_aast, i_alen, i_new, i_newi, i_newl, i_newq, i_oinit, i_ret, i_zret, i_lret, i_vret, catS, tk, rpush, isO, i_m1, i_m2, i_acopy, i_callV, i_callS, KRet, lget, lput, lputL, lcl0, isL, lv0, List.map_cons, List.map_nil, List.length_cons, List.length_nil, List.cons_append, List.nil_append, Nat.reduceAdd, Nat.reduceSub, Nat.reduceLeDiff, List.replicate_succ, List.replicate_zero, List.getElem?_cons_succ, List.getElem?_cons_zero, List.set_cons_succ, List.set_cons_zero, true_and, and_true, if_true, if_false, ↓reduceIte, Nat.le_refl, Value.category, va_up_app, eq_self, stp, Nat.reduceBEq, Bool.or_false, Bool.false_or, Bool.true_or, Bool.or_true, or_true, true_or, bx_uu, implies_true, true_implies, not_true, not_false_eq_true, false_implies, and_self, Nat.reduceLT, Int32.reduceAdd, Int32.reduceSub, Int32.reduceMul, Int32.reduceLE, Int32.reduceLT, Int32.reduceToNatClampNeg, va_rf_some, Bool.false_eq_true, k_X7_contact_0 ca, k_X7_contact_1 ca, k_X7_contact_4 ca, k_X7_contact_7 ca, k_X7_contact_8 ca, k_X7_contact_9 ca, k_X7_contact_10 ca, k_X7_contact_13 ca, k_X7_contact_16 ca, k_X7_contact_18 ca, k_X7_contact_19 ca, k_X7_contact_20 ca, k_X7_contact_23 ca, k_X7_contact_24 ca, k_X7_contact_27 ca, k_X7_contact_30 ca, k_X7_contact_31 ca, k_X7_contact_32 ca, k_X7_contact_33 ca, k_X7_contact_34 ca, k_X7_contact_35 ca, k_X7_contact_38 ca, k_X7_contact_39 ca, k_X7_contact_42 ca, k_X7_contact_45 ca, sp_X7_isRoom, sp_X7_isWithin, q1, q2, b2i_t, one0, c0]
      try clear hF hF0 F
      refine rec_of J hC hbo (fun h1 hC1 hm1 => ?_)
      obtain ⟨d1, d2, -⟩ := id hC1
      obtain ⟨e0, ⟨f3, e4, e5⟩, -⟩ := d2.c
      have e6 := e5 X (by omega)
      have e7 := d2.st (k := X) (by omega)
      have hS3 := d2.ssF hb (k := X) (F := upd s (10 + 32 * X + 7) y) (by omega) (fun j hj => by rw [upd_app, if_neg (by omega)])
      have k0 := hs.2 rfl _ (hC1.now J hS3 (Same_up (by omega) _)) (hm1.tr (SmC.now (Same_up (by omega) _)))
      rw [show upd s (10 + 32 * X + 7) y (10 + 32 * X) = s (10 + 32 * X) by rw [upd_app, if_neg (by omega)], show upd s (10 + 32 * X + 7) y (10 + 32 * X + 1) = s (10 + 32 * X + 1) by rw [upd_app, if_neg (by omega)], show upd s (10 + 32 * X + 7) y (10 + 32 * X + 2) = s (10 + 32 * X + 2) by rw [upd_app, if_neg (by omega)], show upd s (10 + 32 * X + 7) y (10 + 32 * X + 3) = s (10 + 32 * X + 3) by rw [upd_app, if_neg (by omega)], show upd s (10 + 32 * X + 7) y (10 + 32 * X + 5) = s (10 + 32 * X + 5) by rw [upd_app, if_neg (by omega)], show upd s (10 + 32 * X + 7) y (10 + 32 * X + 6) = s (10 + 32 * X + 6) by rw [upd_app, if_neg (by omega)], show upd s (10 + 32 * X + 7) y (10 + 32 * X + 7) = y by rw [upd_app, if_pos rfl], show upd s (10 + 32 * X + 7) y (10 + 32 * X + 4) = s (10 + 32 * X + 4) by rw [upd_app, if_neg (by omega)]] at k0
      cases q3 : closedF y (s (10 + 32 * X + 4)) with
      | false =>
        rw [q3, b2i_f] at k0
        refine goN go (stp []) 160 _ _ _ _ _ _ (fun F hF hF0 => ?_)
        simp only [hF, hF0, ite_not, i_push, i_iload, i_lload, i_aload, i_istore, i_astore, i_lstore, i_iinc, i_bin, i_dv, i_un, i_lbin, i_lsh, i_i2l, i_l2i, i_lcmp, i_dup, i_dup2, i_pop, i_if, i_icmp, i_goto, swG, i_sw, i_getf, i_puti, i_putz, i_putr, i_ald, i_lald, i_aald, i_ast, i_last, i_aast, i_alen, i_new, i_newi, i_newl, i_newq, i_oinit, i_ret, i_zret, i_lret, i_vret, catS, tk, rpush, isO, i_m1, i_m2, i_acopy, i_callV, i_callS, KRet, lget, lput, lputL, lcl0, isL, lv0, List.map_cons, List.map_nil, List.length_cons, List.length_nil, List.cons_append, List.nil_append, Nat.reduceAdd, Nat.reduceSub, Nat.reduceLeDiff, List.replicate_succ, List.replicate_zero, List.getElem?_cons_succ, List.getElem?_cons_zero, List.set_cons_succ, List.set_cons_zero, true_and, and_true, if_true, if_false, ↓reduceIte, Nat.le_refl, Value.category, va_up_app, eq_self, stp, Nat.reduceBEq, Bool.or_false, Bool.false_or, Bool.true_or, Bool.or_true, or_true, true_or, bx_uu, implies_true, true_implies, not_true, not_false_eq_true, false_implies, and_self, Nat.reduceLT, Int32.reduceAdd, Int32.reduceSub, Int32.reduceMul, Int32.reduceLE, Int32.reduceLT, Int32.reduceToNatClampNeg, va_rf_some, Bool.false_eq_true, k_X7_contact_0 ca, k_X7_contact_1 ca, k_X7_contact_4 ca, k_X7_contact_7 ca, k_X7_contact_8 ca, k_X7_contact_9 ca, k_X7_contact_10 ca, k_X7_contact_13 ca, k_X7_contact_16 ca, k_X7_contact_18 ca, k_X7_contact_19 ca, k_X7_contact_20 ca, k_X7_contact_23 ca, k_X7_contact_24 ca, k_X7_contact_27 ca, k_X7_contact_30 ca, k_X7_contact_31 ca, k_X7_contact_32 ca, k_X7_contact_33 ca, k_X7_contact_34 ca, k_X7_contact_35 ca, k_X7_contact_38 ca, k_X7_contact_39 ca, k_X7_contact_42 ca, k_X7_contact_45 ca, d1, e0, e4, e6, e7, vx, xx, sp_X5_isClosed, sp_X7_oneIf, q3, b2i_f]
        try clear hF hF0 F
        exact k0
      | true =>
        rw [q3, b2i_t] at k0
        refine goN go (stp []) 160 _ _ _ _ _ _ (fun F hF hF0 => ?_)
        simp only [hF, hF0, ite_not, i_push, i_iload, i_lload, i_aload, i_istore, i_astore, i_lstore, i_iinc, i_bin, i_dv, i_un, i_lbin, i_lsh, i_i2l, i_l2i, i_lcmp, i_dup, i_dup2, i_pop, i_if, i_icmp, i_goto, swG, i_sw, i_getf, i_puti, i_putz, i_putr, i_ald, i_lald, i_aald, i_ast, i_last, i_aast, i_alen, i_new, i_newi, i_newl, i_newq, i_oinit, i_ret, i_zret, i_lret, i_vret, catS, tk, rpush, isO, i_m1, i_m2, i_acopy, i_callV, i_callS, KRet, lget, lput, lputL, lcl0, isL, lv0, List.map_cons, List.map_nil, List.length_cons, List.length_nil, List.cons_append, List.nil_append, Nat.reduceAdd, Nat.reduceSub, Nat.reduceLeDiff, List.replicate_succ, List.replicate_zero, List.getElem?_cons_succ, List.getElem?_cons_zero, List.set_cons_succ, List.set_cons_zero, true_and, and_true, if_true, if_false, ↓reduceIte, Nat.le_refl, Value.category, va_up_app, eq_self, stp, Nat.reduceBEq, Bool.or_false, Bool.false_or, Bool.true_or, Bool.or_true, or_true, true_or, bx_uu, implies_true, true_implies, not_true, not_false_eq_true, false_implies, and_self, Nat.reduceLT, Int32.reduceAdd, Int32.reduceSub, Int32.reduceMul, Int32.reduceLE, Int32.reduceLT, Int32.reduceToNatClampNeg, va_rf_some, Bool.false_eq_true, k_X7_contact_0 ca, k_X7_contact_1 ca, k_X7_contact_4 ca, k_X7_contact_7 ca, k_X7_contact_8 ca, k_X7_contact_9 ca, k_X7_contact_10 ca, k_X7_contact_13 ca, k_X7_contact_16 ca, k_X7_contact_18 ca, k_X7_contact_19 ca, k_X7_contact_20 ca, k_X7_contact_23 ca, k_X7_contact_24 ca, k_X7_contact_27 ca, k_X7_contact_30 ca, k_X7_contact_31 ca, k_X7_contact_32 ca, k_X7_contact_33 ca, k_X7_contact_34 ca, k_X7_contact_35 ca, k_X7_contact_38 ca, k_X7_contact_39 ca, k_X7_contact_42 ca, k_X7_contact_45 ca, d1, e0, e4, e6, e7, vx, xx, sp_X5_isClosed, sp_X7_oneIf, q3, b2i_t, one0]
        try clear hF hF0 F
        exact k0
def sp_X7_opening (ca : Nat → ClassId) : SPEC := fun av h post => ∃ o b qh qa B x3 x4 x5 lk s oo ss S x y, av = [.ref o, .int x, .int y] ∧ DJ o b qh qa B ∧ CN ca h o b qh qa B x3 x4 x5 lk s oo ss S ∧ BoS s ∧ actC ca h o b qh qa B x3 x4 x5 s oo ss S post (vContact x y) (aOpening s x y) (fOpening s x y)
def k_X7_opening (ca : Nat → ClassId) : Nat → IT := fun pc => lk pc [(0, i_iload 1 1),
  (1, i_callS 1 0 0 0 0 (sp_X7_isRoom ca) 4),
  (4, i_if (fun x => x = 0) 16 7),
  (7, i_iload 2 8),
  (8, i_push (.int 0) 9),
  (9, i_push (.int 1) 10),
  (10, i_callS 3 0 0 0 0 (sp_X7_isWithin ca) 13),
  (13, i_if (fun x => ¬ x = 0) 19 16),
  (16, i_push (.int (-10000001)) 18),
  (18, i_ret),
  (19, i_aload 0 20),
  (20, i_callV 7 0 0 0 0 0 (sp_X7_recordChange ca) 23),
  (23, i_aload 0 24),
  (24, i_getf 7 0 27),
  (27, i_getf 4 3 30),
  (30, i_iload 1 31),
  (31, i_aald (ca 4) 32),
  (32, i_iload 2 33),
  (33, i_push (.int 1) 34),
  (34, i_icmp (fun x y => ¬ x = y) 41 37),
  (37, i_push (.int 1) 38),
  (38, i_goto 42),
  (41, i_push (.int 0) 42),
  (42, i_putz 2 3 45),
  (45, i_aload 0 46),
  (46, i_getf 7 0 49),
  (49, i_callV 4 0 0 0 0 0 (sp_X4_openings ca) 52),
  (52, i_ret)]
set_option maxRecDepth 20000 in
theorem t_X7_opening : Tb k_X7_opening yX7_opening cX7_opening 3 (some .int) 5 0 0 := by
  intro l D ca A p e s m args below meth c post X
  unfold k_X7_opening
  refine snd_cons (snd_iload_n X dX7_opening_0 rfl) ?_
  refine snd_cons (snd_callS X (ok_X7_isRoom l D ca) rfl rfl w_327 w_328 w_1 w_329 (by decide) (by decide) dX7_opening_1) ?_
  refine snd_cons (snd_if_eq X dX7_opening_4 (by decide)) ?_
  refine snd_cons (snd_iload_n X dX7_opening_7 rfl) ?_
  refine snd_cons (snd_iconst X dX7_opening_8 (by decide)) ?_
  refine snd_cons (snd_iconst X dX7_opening_9 (by decide)) ?_
  refine snd_cons (snd_callS X (ok_X7_isWithin l D ca) rfl rfl w_281 w_282 w_1 w_283 (by decide) (by decide) dX7_opening_10) ?_
  refine snd_cons (snd_if_ne X dX7_opening_13 (by decide)) ?_
  refine snd_cons (snd_ldc X w_284 dX7_opening_16) ?_
  refine snd_cons (snd_ret X dX7_opening_18) ?_
  refine snd_cons (snd_aload_n X dX7_opening_19 rfl) ?_
  refine snd_cons (snd_callV X Fk7 (ok_X7_recordChange l D ca) rfl rfl w_474 w_476 wp_4 w_1 w_477 (by decide) (by decide) dX7_opening_20) ?_
  refine snd_cons (snd_aload_n X dX7_opening_23 rfl) ?_
  refine snd_cons (snd_getf X Fk7 0 (by decide) w_250 dX7_opening_24) ?_
  refine snd_cons (snd_getf X Fk4 3 (by decide) w_130 dX7_opening_27) ?_
  refine snd_cons (snd_iload_n X dX7_opening_30 rfl) ?_
  refine snd_cons (snd_aaload X 4 rfl dX7_opening_31) ?_
  refine snd_cons (snd_iload_n X dX7_opening_32 rfl) ?_
  refine snd_cons (snd_iconst X dX7_opening_33 (by decide)) ?_
  refine snd_cons (snd_icmp_ne X dX7_opening_34 (by decide)) ?_
  refine snd_cons (snd_iconst X dX7_opening_37 (by decide)) ?_
  refine snd_cons (snd_goto X dX7_opening_38 (by decide)) ?_
  refine snd_cons (snd_iconst X dX7_opening_41 (by decide)) ?_
  refine snd_cons (snd_putz X Fk2 3 (by decide) rfl rfl w_99 dX7_opening_42) ?_
  refine snd_cons (snd_aload_n X dX7_opening_45 rfl) ?_
  refine snd_cons (snd_getf X Fk7 0 (by decide) w_250 dX7_opening_46) ?_
  refine snd_cons (snd_callV X Fk4 (ok_X4_openings l D ca) rfl rfl w_524 w_525 w_526 w_2 w_527 (by decide) (by decide) dX7_opening_49) ?_
  refine snd_cons (snd_ret X dX7_opening_52) ?_
  exact snd_nil
theorem k_X7_opening_0 (ca : Nat → ClassId) : k_X7_opening ca 0 = i_iload 1 1 := rfl
theorem k_X7_opening_1 (ca : Nat → ClassId) : k_X7_opening ca 1 = i_callS 1 0 0 0 0 (sp_X7_isRoom ca) 4 := rfl
theorem k_X7_opening_4 (ca : Nat → ClassId) : k_X7_opening ca 4 = i_if (fun x => x = 0) 16 7 := rfl
theorem k_X7_opening_7 (ca : Nat → ClassId) : k_X7_opening ca 7 = i_iload 2 8 := rfl
theorem k_X7_opening_8 (ca : Nat → ClassId) : k_X7_opening ca 8 = i_push (.int 0) 9 := rfl
theorem k_X7_opening_9 (ca : Nat → ClassId) : k_X7_opening ca 9 = i_push (.int 1) 10 := rfl
theorem k_X7_opening_10 (ca : Nat → ClassId) : k_X7_opening ca 10 = i_callS 3 0 0 0 0 (sp_X7_isWithin ca) 13 := rfl
theorem k_X7_opening_13 (ca : Nat → ClassId) : k_X7_opening ca 13 = i_if (fun x => ¬ x = 0) 19 16 := rfl
theorem k_X7_opening_16 (ca : Nat → ClassId) : k_X7_opening ca 16 = i_push (.int (-10000001)) 18 := rfl
theorem k_X7_opening_18 (ca : Nat → ClassId) : k_X7_opening ca 18 = i_ret := rfl
theorem k_X7_opening_19 (ca : Nat → ClassId) : k_X7_opening ca 19 = i_aload 0 20 := rfl
theorem k_X7_opening_20 (ca : Nat → ClassId) : k_X7_opening ca 20 = i_callV 7 0 0 0 0 0 (sp_X7_recordChange ca) 23 := rfl
theorem k_X7_opening_23 (ca : Nat → ClassId) : k_X7_opening ca 23 = i_aload 0 24 := rfl
theorem k_X7_opening_24 (ca : Nat → ClassId) : k_X7_opening ca 24 = i_getf 7 0 27 := rfl
theorem k_X7_opening_27 (ca : Nat → ClassId) : k_X7_opening ca 27 = i_getf 4 3 30 := rfl
theorem k_X7_opening_30 (ca : Nat → ClassId) : k_X7_opening ca 30 = i_iload 1 31 := rfl
theorem k_X7_opening_31 (ca : Nat → ClassId) : k_X7_opening ca 31 = i_aald (ca 4) 32 := rfl
theorem k_X7_opening_32 (ca : Nat → ClassId) : k_X7_opening ca 32 = i_iload 2 33 := rfl
theorem k_X7_opening_33 (ca : Nat → ClassId) : k_X7_opening ca 33 = i_push (.int 1) 34 := rfl
theorem k_X7_opening_34 (ca : Nat → ClassId) : k_X7_opening ca 34 = i_icmp (fun x y => ¬ x = y) 41 37 := rfl
theorem k_X7_opening_37 (ca : Nat → ClassId) : k_X7_opening ca 37 = i_push (.int 1) 38 := rfl
theorem k_X7_opening_38 (ca : Nat → ClassId) : k_X7_opening ca 38 = i_goto 42 := rfl
theorem k_X7_opening_41 (ca : Nat → ClassId) : k_X7_opening ca 41 = i_push (.int 0) 42 := rfl
theorem k_X7_opening_42 (ca : Nat → ClassId) : k_X7_opening ca 42 = i_putz 2 3 45 := rfl
theorem k_X7_opening_45 (ca : Nat → ClassId) : k_X7_opening ca 45 = i_aload 0 46 := rfl
theorem k_X7_opening_46 (ca : Nat → ClassId) : k_X7_opening ca 46 = i_getf 7 0 49 := rfl
theorem k_X7_opening_49 (ca : Nat → ClassId) : k_X7_opening ca 49 = i_callV 4 0 0 0 0 0 (sp_X4_openings ca) 52 := rfl
theorem k_X7_opening_52 (ca : Nat → ClassId) : k_X7_opening ca 52 = i_ret := rfl
set_option maxHeartbeats 4000000 in
set_option maxRecDepth 20000 in
theorem ok_X7_opening (l : Launch) (D : va_G) (ca : Nat → ClassId) : OkAll l D ca yX7_opening cX7_opening 3 (some .int) 5 0 0 (sp_X7_opening ca) := by
  intro av h post hs
  obtain ⟨o, b, qh, qa, B, x3, x4, x5, lk, s, oo, ss, S, x, y, rfl, J, hC, hbo, hs⟩ := hs
  have hb := J.1
  have c0 := hC.1
  unfold aOpening vContact fOpening at hs
  refine okM_of t_X7_opening (by decide +kernel) (c1_ref (c1_int (c1_int c1_nil))) (Nat.le_of_ble_eq_true rfl) ?_
  intro K go
  cases q1 : isIn x 0 2 with
  | false =>
    rw [q1, if_neg (by decide)] at hs
    have k0 := hs.1 rfl
    refine goN go (stp []) 160 _ _ _ _ _ _ (fun F hF hF0 => ?_)
    simp only [hF, hF0, ite_not, i_push, i_iload, i_lload, i_aload, i_istore, i_astore, i_lstore, i_iinc, i_bin, i_dv, i_un, i_lbin, i_lsh, i_i2l, i_l2i, i_lcmp, i_dup, i_dup2, i_pop, i_if, i_icmp, i_goto, swG, i_sw, i_getf, i_puti, i_putz, i_putr, i_ald, i_lald, i_aald, i_ast, i_last, i_aast, i_alen, i_new, i_newi, i_newl, i_newq, i_oinit, i_ret, i_zret, i_lret, i_vret, catS, tk, rpush, isO, i_m1, i_m2, i_acopy, i_callV, i_callS, KRet, lget, lput, lputL, lcl0, isL, lv0, List.map_cons, List.map_nil, List.length_cons, List.length_nil, List.cons_append, List.nil_append, Nat.reduceAdd, Nat.reduceSub, Nat.reduceLeDiff, List.replicate_succ, List.replicate_zero, List.getElem?_cons_succ, List.getElem?_cons_zero, List.set_cons_succ, List.set_cons_zero, true_and, and_true, if_true, if_false, ↓reduceIte, Nat.le_refl, Value.category, va_up_app, eq_self, stp, Nat.reduceBEq, Bool.or_false, Bool.false_or, Bool.true_or, Bool.or_true, or_true, true_or, bx_uu, implies_true, true_implies, not_true, not_false_eq_true, false_implies, and_self, Nat.reduceLT, Int32.reduceAdd, Int32.reduceSub, Int32.reduceMul, Int32.reduceLE, Int32.reduceLT, Int32.reduceToNatClampNeg, va_rf_some, Bool.false_eq_true, k_X7_opening_0 ca, k_X7_opening_1 ca, k_X7_opening_4 ca, k_X7_opening_7 ca, k_X7_opening_8 ca, k_X7_opening_9 ca, k_X7_opening_10 ca, k_X7_opening_13 ca, k_X7_opening_16 ca, k_X7_opening_18 ca, k_X7_opening_19 ca, k_X7_opening_20 ca, k_X7_opening_23 ca, k_X7_opening_24 ca, k_X7_opening_27 ca, k_X7_opening_30 ca, k_X7_opening_31 ca, k_X7_opening_32 ca, k_X7_opening_33 ca, k_X7_opening_34 ca, k_X7_opening_37 ca, k_X7_opening_38 ca, k_X7_opening_41 ca, k_X7_opening_42 ca, k_X7_opening_45 ca, k_X7_opening_46 ca, k_X7_opening_49 ca, k_X7_opening_52 ca, sp_X7_isRoom, q1, b2i_f]
    try clear hF hF0 F
    exact k0
  | true =>
    rw [q1, if_pos rfl, Bool.true_and] at hs
    cases q2 : isIn y 0 1 with
    | false =>
      rw [q2, if_neg (by decide)] at hs
      have k0 := hs.1 rfl
      refine goN go (stp []) 160 _ _ _ _ _ _ (fun F hF hF0 => ?_)
      simp only [hF, hF0, ite_not, i_push, i_iload, i_lload, i_aload, i_istore, i_astore, i_lstore, i_iinc, i_bin, i_dv, i_un, i_lbin, i_lsh, i_i2l, i_l2i, i_lcmp, i_dup, i_dup2, i_pop, i_if, i_icmp, i_goto, swG, i_sw, i_getf, i_puti, i_putz, i_putr, i_ald, i_lald, i_aald, i_ast, i_last, i_aast, i_alen, i_new, i_newi, i_newl, i_newq, i_oinit, i_ret, i_zret, i_lret, i_vret, catS, tk, rpush, isO, i_m1, i_m2, i_acopy, i_callV, i_callS, KRet, lget, lput, lputL, lcl0, isL, lv0, List.map_cons, List.map_nil, List.length_cons, List.length_nil, List.cons_append, List.nil_append, Nat.reduceAdd, Nat.reduceSub, Nat.reduceLeDiff, List.replicate_succ, List.replicate_zero, List.getElem?_cons_succ, List.getElem?_cons_zero, List.set_cons_succ, List.set_cons_zero, true_and, and_true, if_true, if_false, ↓reduceIte, Nat.le_refl, Value.category, va_up_app, eq_self, stp, Nat.reduceBEq, Bool.or_false, Bool.false_or, Bool.true_or, Bool.or_true, or_true, true_or, bx_uu, implies_true, true_implies, not_true, not_false_eq_true, false_implies, and_self, Nat.reduceLT, Int32.reduceAdd, Int32.reduceSub, Int32.reduceMul, Int32.reduceLE, Int32.reduceLT, Int32.reduceToNatClampNeg, va_rf_some, Bool.false_eq_true, k_X7_opening_0 ca, k_X7_opening_1 ca, k_X7_opening_4 ca, k_X7_opening_7 ca, k_X7_opening_8 ca, k_X7_opening_9 ca, k_X7_opening_10 ca, k_X7_opening_13 ca, k_X7_opening_16 ca, k_X7_opening_18 ca, k_X7_opening_19 ca, k_X7_opening_20 ca, k_X7_opening_23 ca, k_X7_opening_24 ca, k_X7_opening_27 ca, k_X7_opening_30 ca, k_X7_opening_31 ca, k_X7_opening_32 ca, k_X7_opening_33 ca, k_X7_opening_34 ca, k_X7_opening_37 ca, k_X7_opening_38 ca, k_X7_opening_41 ca, k_X7_opening_42 ca, k_X7_opening_45 ca, k_X7_opening_46 ca, k_X7_opening_49 ca, k_X7_opening_52 ca, sp_X7_isRoom, sp_X7_isWithin, q1, q2, b2i_f, b2i_t, one0]
      try clear hF hF0 F
      exact k0
    | true =>
      rw [q2, if_pos rfl] at hs
      obtain ⟨X, hX, rfl⟩ := isIn0 (B := 2) rfl q1
      obtain ⟨Y, hY, rfl⟩ := isIn0 (B := 1) rfl q2
      have xx : (nI X).toNatClampNeg = X := tn127 (by omega)
      have vx := vp3 (k := X) (by omega)
      rw [xx] at hs
      refine goN go (stp [23]) 160 _ _ _ _ _ _ (fun F hF hF0 => ?_)
      simp only [hF, hF0, ite_not, i_push, i_iload, i_lload, i_aload, i_istore, i_astore, i_lstore, i_iinc, i_bin, i_dv, i_un, i_lbin, i_lsh, i_i2l, i_l2i, i_lcmp, i_dup, i_dup2, i_pop, i_if, i_icmp, i_goto, swG, i_sw, i_getf, i_puti, i_putz, i_putr, i_ald, i_lald, i_aald, i_ast, i_last, i_aast, i_alen, i_new, i_newi, i_newl, i_newq, i_oinit, i_ret, i_zret, i_lret, i_vret, catS, tk, rpush, isO, i_m1, i_m2, i_acopy, i_callV, i_callS, KRet, lget, lput, lputL, lcl0, isL, lv0, List.map_cons, List.map_nil, List.length_cons, List.length_nil, List.cons_append, List.nil_append, Nat.reduceAdd, Nat.reduceSub, Nat.reduceLeDiff, List.replicate_succ, List.replicate_zero, List.getElem?_cons_succ, List.getElem?_cons_zero, List.set_cons_succ, List.set_cons_zero, true_and, and_true, if_true, if_false, ↓reduceIte, Nat.le_refl, Value.category, va_up_app, eq_self, stp, Nat.reduceBEq, Bool.or_false, Bool.false_or, Bool.true_or, Bool.or_true, or_true, true_or, bx_uu, implies_true, true_implies, not_true, not_false_eq_true, false_implies, and_self, Nat.reduceLT, Int32.reduceAdd, Int32.reduceSub, Int32.reduceMul, Int32.reduceLE, Int32.reduceLT, Int32.reduceToNatClampNeg, va_rf_some, Bool.false_eq_true, k_X7_opening_0 ca, k_X7_opening_1 ca, k_X7_opening_4 ca, k_X7_opening_7 ca, k_X7_opening_8 ca, k_X7_opening_9 ca, k_X7_opening_10 ca, k_X7_opening_13 ca, k_X7_opening_16 ca, k_X7_opening_18 ca, k_X7_opening_19 ca, k_X7_opening_20 ca, k_X7_opening_23 ca, k_X7_opening_24 ca, k_X7_opening_27 ca, k_X7_opening_30 ca, k_X7_opening_31 ca, k_X7_opening_32 ca, k_X7_opening_33 ca, k_X7_opening_34 ca, k_X7_opening_37 ca, k_X7_opening_38 ca, k_X7_opening_41 ca, k_X7_opening_42 ca, k_X7_opening_45 ca, k_X7_opening_46 ca, k_X7_opening_49 ca, k_X7_opening_52 ca, sp_X7_isRoom, sp_X7_isWithin, q1, q2, b2i_t, one0, c0]
      try clear hF hF0 F
      refine rec_of J hC hbo (fun h1 hC1 hm1 => ?_)
      obtain ⟨d1, d2, -⟩ := id hC1
      obtain ⟨e0, -, ⟨f4, e4, e5⟩, -⟩ := d2.c
      have e6 := e5 X (by omega)
      have e7 := d2.rm (k := X) (by omega)
      have hY2 : Y = 0 ∨ Y = 1 := by omega
      have hbF : BoS (upd s (106 + 7 * X + 3) (nI Y)) := by
        obtain ⟨t1, t2, t3, t4, t5, t6⟩ := hbo
        have hy : nI Y = 0 ∨ nI Y = 1 := by rcases hY2 with rfl | rfl <;> simp [nI_0, n1]
        have hu : ∀ j, (s j = 0 ∨ s j = 1) → (upd s (106 + 7 * X + 3) (nI Y) j = 0 ∨ upd s (106 + 7 * X + 3) (nI Y) j = 1) := fun j hj => by
          rw [upd_app]
          by_cases z : j = 106 + 7 * X + 3
          · rw [if_pos z]; exact hy
          · rw [if_neg z]; exact hj
        exact ⟨hu _ t1, hu _ t2, hu _ t3, hu _ t4, hu _ t5, hu _ t6⟩
      have hS3 := d2.srF hb (k := X) (F := upd s (106 + 7 * X + 3) (nI Y)) (by omega) (fun j hj => by rw [upd_app, if_neg (by omega)])
      have k0 := hs.2 rfl _ (hC1.now J hS3 (Same_up (by omega) _)) (hm1.tr (SmC.now (Same_up (by omega) _)))
      have eo : ∀ x : Int32, (x = 0 ∨ x = 1) → oI x = x := fun x hx => by rcases hx with rfl | rfl <;> rfl
      rw [← eo _ hbF.2.2.2.1, ← eo _ hbF.2.2.2.2.1, ← eo _ hbF.2.2.2.2.2, ← Int32.zero_add (oI _)] at k0
      generalize hF : upd s (106 + 7 * X + 3) (nI Y) = F at k0 hS3
      have hS4 := hS3
      rw [← hF, show upd s (106 + 7 * X + 3) (nI Y) (106 + 7 * X) = s (106 + 7 * X) by rw [upd_app, if_neg (by omega)], show upd s (106 + 7 * X + 3) (nI Y) (106 + 7 * X + 1) = s (106 + 7 * X + 1) by rw [upd_app, if_neg (by omega)], show upd s (106 + 7 * X + 3) (nI Y) (106 + 7 * X + 2) = s (106 + 7 * X + 2) by rw [upd_app, if_neg (by omega)], show upd s (106 + 7 * X + 3) (nI Y) (106 + 7 * X + 3) = (nI Y) by rw [upd_app, if_pos rfl], show upd s (106 + 7 * X + 3) (nI Y) (106 + 7 * X + 4) = s (106 + 7 * X + 4) by rw [upd_app, if_neg (by omega)], show upd s (106 + 7 * X + 3) (nI Y) (106 + 7 * X + 5) = s (106 + 7 * X + 5) by rw [upd_app, if_neg (by omega)], show upd s (106 + 7 * X + 3) (nI Y) (106 + 7 * X + 6) = s (106 + 7 * X + 6) by rw [upd_app, if_neg (by omega)]] at hS4 k0
      have m45 : ∀ e : va_E, va_up h1 (b (11 + 5 * X)) (some e) o = h1 o := fun e => va_up_ne _ _ (J.2.2.2.2.1 _ (by omega))
      have d0 : (o = b (11 + 5 * X)) = False := eq_false (J.2.2.2.2.1 _ (by omega))
      have d00 : (b 0 = b (11 + 5 * X)) = False := bne hb (by omega)
      rcases hY2 with rfl | rfl
      · rw [nI_0] at *
        refine goN go (stp [52]) 160 _ _ _ _ _ _ (fun F hF hF0 => ?_)
        simp only [hF, hF0, ite_not, i_push, i_iload, i_lload, i_aload, i_istore, i_astore, i_lstore, i_iinc, i_bin, i_dv, i_un, i_lbin, i_lsh, i_i2l, i_l2i, i_lcmp, i_dup, i_dup2, i_pop, i_if, i_icmp, i_goto, swG, i_sw, i_getf, i_puti, i_putz, i_putr, i_ald, i_lald, i_aald, i_ast, i_last, i_aast, i_alen, i_new, i_newi, i_newl, i_newq, i_oinit, i_ret, i_zret, i_lret, i_vret, catS, tk, rpush, isO, i_m1, i_m2, i_acopy, i_callV, i_callS, KRet, lget, lput, lputL, lcl0, isL, lv0, List.map_cons, List.map_nil, List.length_cons, List.length_nil, List.cons_append, List.nil_append, Nat.reduceAdd, Nat.reduceSub, Nat.reduceLeDiff, List.replicate_succ, List.replicate_zero, List.getElem?_cons_succ, List.getElem?_cons_zero, List.set_cons_succ, List.set_cons_zero, true_and, and_true, if_true, if_false, ↓reduceIte, Nat.le_refl, Value.category, va_up_app, eq_self, stp, Nat.reduceBEq, Bool.or_false, Bool.false_or, Bool.true_or, Bool.or_true, or_true, true_or, bx_uu, implies_true, true_implies, not_true, not_false_eq_true, false_implies, and_self, Nat.reduceLT, Int32.reduceAdd, Int32.reduceSub, Int32.reduceMul, Int32.reduceLE, Int32.reduceLT, Int32.reduceToNatClampNeg, va_rf_some, Bool.false_eq_true, k_X7_opening_0 ca, k_X7_opening_1 ca, k_X7_opening_4 ca, k_X7_opening_7 ca, k_X7_opening_8 ca, k_X7_opening_9 ca, k_X7_opening_10 ca, k_X7_opening_13 ca, k_X7_opening_16 ca, k_X7_opening_18 ca, k_X7_opening_19 ca, k_X7_opening_20 ca, k_X7_opening_23 ca, k_X7_opening_24 ca, k_X7_opening_27 ca, k_X7_opening_30 ca, k_X7_opening_31 ca, k_X7_opening_32 ca, k_X7_opening_33 ca, k_X7_opening_34 ca, k_X7_opening_37 ca, k_X7_opening_38 ca, k_X7_opening_41 ca, k_X7_opening_42 ca, k_X7_opening_45 ca, k_X7_opening_46 ca, k_X7_opening_49 ca, k_X7_opening_52 ca, d1, e0, e4, e6, e7, vx, xx, d0, d00, zero1]
        try clear hF hF0 F
        rw [hF] at hS4 k0
        exact ⟨b, F, rfl, hS4, by
          refine goN go (stp []) 160 _ _ _ _ _ _ (fun F hF hF0 => ?_)
          simp only [hF, hF0, ite_not, i_push, i_iload, i_lload, i_aload, i_istore, i_astore, i_lstore, i_iinc, i_bin, i_dv, i_un, i_lbin, i_lsh, i_i2l, i_l2i, i_lcmp, i_dup, i_dup2, i_pop, i_if, i_icmp, i_goto, swG, i_sw, i_getf, i_puti, i_putz, i_putr, i_ald, i_lald, i_aald, i_ast, i_last, i_aast, i_alen, i_new, i_newi, i_newl, i_newq, i_oinit, i_ret, i_zret, i_lret, i_vret, catS, tk, rpush, isO, i_m1, i_m2, i_acopy, i_callV, i_callS, KRet, lget, lput, lputL, lcl0, isL, lv0, List.map_cons, List.map_nil, List.length_cons, List.length_nil, List.cons_append, List.nil_append, Nat.reduceAdd, Nat.reduceSub, Nat.reduceLeDiff, List.replicate_succ, List.replicate_zero, List.getElem?_cons_succ, List.getElem?_cons_zero, List.set_cons_succ, List.set_cons_zero, true_and, and_true, if_true, if_false, ↓reduceIte, Nat.le_refl, Value.category, va_up_app, eq_self, stp, Nat.reduceBEq, Bool.or_false, Bool.false_or, Bool.true_or, Bool.or_true, or_true, true_or, bx_uu, implies_true, true_implies, not_true, not_false_eq_true, false_implies, and_self, Nat.reduceLT, Int32.reduceAdd, Int32.reduceSub, Int32.reduceMul, Int32.reduceLE, Int32.reduceLT, Int32.reduceToNatClampNeg, va_rf_some, Bool.false_eq_true, k_X7_opening_0 ca, k_X7_opening_1 ca, k_X7_opening_4 ca, k_X7_opening_7 ca, k_X7_opening_8 ca, k_X7_opening_9 ca, k_X7_opening_10 ca, k_X7_opening_13 ca, k_X7_opening_16 ca, k_X7_opening_18 ca, k_X7_opening_19 ca, k_X7_opening_20 ca, k_X7_opening_23 ca, k_X7_opening_24 ca, k_X7_opening_27 ca, k_X7_opening_30 ca, k_X7_opening_31 ca, k_X7_opening_32 ca, k_X7_opening_33 ca, k_X7_opening_34 ca, k_X7_opening_37 ca, k_X7_opening_38 ca, k_X7_opening_41 ca, k_X7_opening_42 ca, k_X7_opening_45 ca, k_X7_opening_46 ca, k_X7_opening_49 ca, k_X7_opening_52 ca]
          try clear hF hF0 F
          exact k0⟩
      · rw [n1] at *
        refine goN go (stp [52]) 160 _ _ _ _ _ _ (fun F hF hF0 => ?_)
        simp only [hF, hF0, ite_not, i_push, i_iload, i_lload, i_aload, i_istore, i_astore, i_lstore, i_iinc, i_bin, i_dv, i_un, i_lbin, i_lsh, i_i2l, i_l2i, i_lcmp, i_dup, i_dup2, i_pop, i_if, i_icmp, i_goto, swG, i_sw, i_getf, i_puti, i_putz, i_putr, i_ald, i_lald, i_aald, i_ast, i_last, i_aast, i_alen, i_new, i_newi, i_newl, i_newq, i_oinit, i_ret, i_zret, i_lret, i_vret, catS, tk, rpush, isO, i_m1, i_m2, i_acopy, i_callV, i_callS, KRet, lget, lput, lputL, lcl0, isL, lv0, List.map_cons, List.map_nil, List.length_cons, List.length_nil, List.cons_append, List.nil_append, Nat.reduceAdd, Nat.reduceSub, Nat.reduceLeDiff, List.replicate_succ, List.replicate_zero, List.getElem?_cons_succ, List.getElem?_cons_zero, List.set_cons_succ, List.set_cons_zero, true_and, and_true, if_true, if_false, ↓reduceIte, Nat.le_refl, Value.category, va_up_app, eq_self, stp, Nat.reduceBEq, Bool.or_false, Bool.false_or, Bool.true_or, Bool.or_true, or_true, true_or, bx_uu, implies_true, true_implies, not_true, not_false_eq_true, false_implies, and_self, Nat.reduceLT, Int32.reduceAdd, Int32.reduceSub, Int32.reduceMul, Int32.reduceLE, Int32.reduceLT, Int32.reduceToNatClampNeg, va_rf_some, Bool.false_eq_true, k_X7_opening_0 ca, k_X7_opening_1 ca, k_X7_opening_4 ca, k_X7_opening_7 ca, k_X7_opening_8 ca, k_X7_opening_9 ca, k_X7_opening_10 ca, k_X7_opening_13 ca, k_X7_opening_16 ca, k_X7_opening_18 ca, k_X7_opening_19 ca, k_X7_opening_20 ca, k_X7_opening_23 ca, k_X7_opening_24 ca, k_X7_opening_27 ca, k_X7_opening_30 ca, k_X7_opening_31 ca, k_X7_opening_32 ca, k_X7_opening_33 ca, k_X7_opening_34 ca, k_X7_opening_37 ca, k_X7_opening_38 ca, k_X7_opening_41 ca, k_X7_opening_42 ca, k_X7_opening_45 ca, k_X7_opening_46 ca, k_X7_opening_49 ca, k_X7_opening_52 ca, d1, e0, e4, e6, e7, vx, xx, d0, d00]
        try clear hF hF0 F
        rw [hF] at hS4 k0
        exact ⟨b, F, rfl, hS4, by
          refine goN go (stp []) 160 _ _ _ _ _ _ (fun F hF hF0 => ?_)
          simp only [hF, hF0, ite_not, i_push, i_iload, i_lload, i_aload, i_istore, i_astore, i_lstore, i_iinc, i_bin, i_dv, i_un, i_lbin, i_lsh, i_i2l, i_l2i, i_lcmp, i_dup, i_dup2, i_pop, i_if, i_icmp, i_goto, swG, i_sw, i_getf, i_puti, i_putz, i_putr, i_ald, i_lald, i_aald, i_ast, i_last, i_aast, i_alen, i_new, i_newi, i_newl, i_newq, i_oinit, i_ret, i_zret, i_lret, i_vret, catS, tk, rpush, isO, i_m1, i_m2, i_acopy, i_callV, i_callS, KRet, lget, lput, lputL, lcl0, isL, lv0, List.map_cons, List.map_nil, List.length_cons, List.length_nil, List.cons_append, List.nil_append, Nat.reduceAdd, Nat.reduceSub, Nat.reduceLeDiff, List.replicate_succ, List.replicate_zero, List.getElem?_cons_succ, List.getElem?_cons_zero, List.set_cons_succ, List.set_cons_zero, true_and, and_true, if_true, if_false, ↓reduceIte, Nat.le_refl, Value.category, va_up_app, eq_self, stp, Nat.reduceBEq, Bool.or_false, Bool.false_or, Bool.true_or, Bool.or_true, or_true, true_or, bx_uu, implies_true, true_implies, not_true, not_false_eq_true, false_implies, and_self, Nat.reduceLT, Int32.reduceAdd, Int32.reduceSub, Int32.reduceMul, Int32.reduceLE, Int32.reduceLT, Int32.reduceToNatClampNeg, va_rf_some, Bool.false_eq_true, k_X7_opening_0 ca, k_X7_opening_1 ca, k_X7_opening_4 ca, k_X7_opening_7 ca, k_X7_opening_8 ca, k_X7_opening_9 ca, k_X7_opening_10 ca, k_X7_opening_13 ca, k_X7_opening_16 ca, k_X7_opening_18 ca, k_X7_opening_19 ca, k_X7_opening_20 ca, k_X7_opening_23 ca, k_X7_opening_24 ca, k_X7_opening_27 ca, k_X7_opening_30 ca, k_X7_opening_31 ca, k_X7_opening_32 ca, k_X7_opening_33 ca, k_X7_opening_34 ca, k_X7_opening_37 ca, k_X7_opening_38 ca, k_X7_opening_41 ca, k_X7_opening_42 ca, k_X7_opening_45 ca, k_X7_opening_46 ca, k_X7_opening_49 ca, k_X7_opening_52 ca]
          try clear hF hF0 F
          exact k0⟩

