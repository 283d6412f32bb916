/-! SnapStacksModel: stripOf, partOf, roomOf, count, bend, tripsAt -/
theorem sub_nI {a b : Nat} (h : b ≤ a) : nI a - nI b = nI (a - b) := by
  have e : nI a = nI (a - b) + nI b := by rw [nI_add]; exact congrArg nI (by omega)
  rw [e, Int32.add_sub_cancel]
def sOf (s : Nat → Int32) (o : Nat) (r w : Int32) : Int32 := if w = 0 then s o else if w = 1 then sumF (fun i => s (o + (8 + 3 * i))) (s o).toNatClampNeg else if w = 2 then rt s o else if w = 3 then rt s o * (r - 200) else if w = 11 then b2i (closedF (s (o + 7)) (s (o + 4))) else s (o + w.toNatClampNeg - 3)
def aStripOf (s : Nat → Int32) (x w : Int32) : Int32 := if isIn x 0 2 = true then (if isIn w 0 11 = true then sOf s (10 + 32 * x.toNatClampNeg) (s (106 + 7 * x.toNatClampNeg)) w else -10000001) else -10000001
def sp_X8_stripOf (ca : Nat → ClassId) : SPEC := fun av h post => ∃ m a s p t f n x w, av = [.ref m, .int x, .int w] ∧ RAt ca h m a s p t f n ∧ WfS s ∧ (∀ k, k < 3 → OkR s k) ∧ post (some (.int (aStripOf s x w))) h
def k_X8_stripOf (ca : Nat → ClassId) : Nat → IT := fun pc => lk pc [(0, i_iload 1 1),
  (1, i_callS 1 0 0 0 0 (sp_X8_isOne ca) 4),
  (4, i_if (fun x => x = 0) 17 7),
  (7, i_iload 2 8),
  (8, i_push (.int 0) 9),
  (9, i_push (.int 11) 11),
  (11, i_callS 3 0 0 0 0 (sp_X8_in ca) 14),
  (14, i_if (fun x => ¬ x = 0) 20 17),
  (17, i_push (.int (-10000001)) 19),
  (19, i_ret),
  (20, i_iload 2 21),
  (21, i_sw [(0, 84), (1, 90), (2, 96), (3, 102), (4, 131), (5, 131), (6, 131), (7, 131), (8, 131), (9, 131), (10, 131), (11, 117)] 131),
  (84, i_aload 0 85),
  (85, i_iload 1 86),
  (86, i_callV 8 1 0 0 0 0 (sp_X8_many ca) 89),
  (89, i_ret),
  (90, i_aload 0 91),
  (91, i_iload 1 92),
  (92, i_callV 8 1 0 0 0 0 (sp_X8_lengthOfStrip ca) 95),
  (95, i_ret),
  (96, i_aload 0 97),
  (97, i_iload 1 98),
  (98, i_callV 8 1 0 0 0 0 (sp_X8_bendOfStrip ca) 101),
  (101, i_ret),
  (102, i_aload 0 103),
  (103, i_iload 1 104),
  (104, i_aload 0 105),
  (105, i_getf 8 0 108),
  (108, i_iload 1 109),
  (109, i_callS 1 0 0 0 0 (sp_X8_roomAt ca) 112),
  (112, i_ald (ca 0) 113),
  (113, i_callV 8 2 0 0 0 0 (sp_X8_bendAt ca) 116),
  (116, i_ret),
  (117, i_aload 0 118),
  (118, i_iload 1 119),
  (119, i_callV 8 1 0 0 0 0 (sp_X8_isClosed ca) 122),
  (122, i_if (fun x => x = 0) 129 125),
  (125, i_push (.int 1) 126),
  (126, i_goto 130),
  (129, i_push (.int 0) 130),
  (130, i_ret),
  (131, i_aload 0 132),
  (132, i_getf 8 0 135),
  (135, i_iload 1 136),
  (136, i_callS 1 0 0 0 0 (sp_X8_stripAt ca) 139),
  (139, i_iload 2 140),
  (140, i_bin (fun x y => x + y) 141),
  (141, i_push (.int 3) 142),
  (142, i_bin (fun x y => x - y) 143),
  (143, i_ald (ca 0) 144),
  (144, i_ret)]
set_option maxRecDepth 20000 in
theorem t_X8_stripOf : Tb k_X8_stripOf yX8_stripOf cX8_stripOf 3 (some .int) 5 0 0 := by
  intro l D ca A p e s m args below meth c post X
  unfold k_X8_stripOf
  refine snd_cons (snd_iload_n X dX8_stripOf_0 rfl) ?_
  refine snd_cons (snd_callS X (ok_X8_isOne l D ca) rfl rfl w_722 w_723 w_9 w_724 (by decide) (by decide) dX8_stripOf_1) ?_
  refine snd_cons (snd_if_eq X dX8_stripOf_4 (by decide)) ?_
  refine snd_cons (snd_iload_n X dX8_stripOf_7 rfl) ?_
  refine snd_cons (snd_iconst X dX8_stripOf_8 (by decide)) ?_
  refine snd_cons (snd_bipush X dX8_stripOf_9 (by decide)) ?_
  refine snd_cons (snd_callS X (ok_X8_in l D ca) rfl rfl w_702 w_703 w_9 w_704 (by decide) (by decide) dX8_stripOf_11) ?_
  refine snd_cons (snd_if_ne X dX8_stripOf_14 (by decide)) ?_
  refine snd_cons (snd_ldc X w_709 dX8_stripOf_17) ?_
  refine snd_cons (snd_ret X dX8_stripOf_19) ?_
  refine snd_cons (snd_iload_n X dX8_stripOf_20 rfl) ?_
  refine snd_cons (snd_table X dX8_stripOf_21 (by decide) (by decide) (by decide)) ?_
  refine snd_cons (snd_aload_n X dX8_stripOf_84 rfl) ?_
  refine snd_cons (snd_iload_n X dX8_stripOf_85 rfl) ?_
  refine snd_cons (snd_callV X Fk8 (ok_X8_many l D ca) rfl rfl w_732 w_734 wp_21 w_9 w_735 (by decide) (by decide) dX8_stripOf_86) ?_
  refine snd_cons (snd_ret X dX8_stripOf_89) ?_
  refine snd_cons (snd_aload_n X dX8_stripOf_90 rfl) ?_
  refine snd_cons (snd_iload_n X dX8_stripOf_91 rfl) ?_
  refine snd_cons (snd_callV X Fk8 (ok_X8_lengthOfStrip l D ca) rfl rfl w_849 w_851 wp_38 w_9 w_852 (by decide) (by decide) dX8_stripOf_92) ?_
  refine snd_cons (snd_ret X dX8_stripOf_95) ?_
  refine snd_cons (snd_aload_n X dX8_stripOf_96 rfl) ?_
  refine snd_cons (snd_iload_n X dX8_stripOf_97 rfl) ?_
  refine snd_cons (snd_callV X Fk8 (ok_X8_bendOfStrip l D ca) rfl rfl w_762 w_764 wp_25 w_9 w_765 (by decide) (by decide) dX8_stripOf_98) ?_
  refine snd_cons (snd_ret X dX8_stripOf_101) ?_
  refine snd_cons (snd_aload_n X dX8_stripOf_102 rfl) ?_
  refine snd_cons (snd_iload_n X dX8_stripOf_103 rfl) ?_
  refine snd_cons (snd_aload_n X dX8_stripOf_104 rfl) ?_
  refine snd_cons (snd_getf X Fk8 0 (by decide) w_647 dX8_stripOf_105) ?_
  refine snd_cons (snd_iload_n X dX8_stripOf_108 rfl) ?_
  refine snd_cons (snd_callS X (ok_X8_roomAt l D ca) rfl rfl w_644 w_645 w_9 w_646 (by decide) (by decide) dX8_stripOf_109) ?_
  refine snd_cons (snd_iaload X dX8_stripOf_112) ?_
  refine snd_cons (snd_callV X Fk8 (ok_X8_bendAt l D ca) rfl rfl w_758 w_760 wp_24 w_9 w_761 (by decide) (by decide) dX8_stripOf_113) ?_
  refine snd_cons (snd_ret X dX8_stripOf_116) ?_
  refine snd_cons (snd_aload_n X dX8_stripOf_117 rfl) ?_
  refine snd_cons (snd_iload_n X dX8_stripOf_118 rfl) ?_
  refine snd_cons (snd_callV X Fk8 (ok_X8_isClosed l D ca) rfl rfl w_778 w_780 wp_28 w_9 w_781 (by decide) (by decide) dX8_stripOf_119) ?_
  refine snd_cons (snd_if_eq X dX8_stripOf_122 (by decide)) ?_
  refine snd_cons (snd_iconst X dX8_stripOf_125 (by decide)) ?_
  refine snd_cons (snd_goto X dX8_stripOf_126 (by decide)) ?_
  refine snd_cons (snd_iconst X dX8_stripOf_129 (by decide)) ?_
  refine snd_cons (snd_ret X dX8_stripOf_130) ?_
  refine snd_cons (snd_aload_n X dX8_stripOf_131 rfl) ?_
  refine snd_cons (snd_getf X Fk8 0 (by decide) w_647 dX8_stripOf_132) ?_
  refine snd_cons (snd_iload_n X dX8_stripOf_135 rfl) ?_
  refine snd_cons (snd_callS X (ok_X8_stripAt l D ca) rfl rfl w_641 w_642 w_9 w_643 (by decide) (by decide) dX8_stripOf_136) ?_
  refine snd_cons (snd_iload_n X dX8_stripOf_139 rfl) ?_
  refine snd_cons (snd_iadd X dX8_stripOf_140) ?_
  refine snd_cons (snd_iconst X dX8_stripOf_141 (by decide)) ?_
  refine snd_cons (snd_isub X dX8_stripOf_142) ?_
  refine snd_cons (snd_iaload X dX8_stripOf_143) ?_
  refine snd_cons (snd_ret X dX8_stripOf_144) ?_
  exact snd_nil
theorem k_X8_stripOf_0 (ca : Nat → ClassId) : k_X8_stripOf ca 0 = i_iload 1 1 := rfl
theorem k_X8_stripOf_1 (ca : Nat → ClassId) : k_X8_stripOf ca 1 = i_callS 1 0 0 0 0 (sp_X8_isOne ca) 4 := rfl
theorem k_X8_stripOf_4 (ca : Nat → ClassId) : k_X8_stripOf ca 4 = i_if (fun x => x = 0) 17 7 := rfl
theorem k_X8_stripOf_7 (ca : Nat → ClassId) : k_X8_stripOf ca 7 = i_iload 2 8 := rfl
theorem k_X8_stripOf_8 (ca : Nat → ClassId) : k_X8_stripOf ca 8 = i_push (.int 0) 9 := rfl
theorem k_X8_stripOf_9 (ca : Nat → ClassId) : k_X8_stripOf ca 9 = i_push (.int 11) 11 := rfl
theorem k_X8_stripOf_11 (ca : Nat → ClassId) : k_X8_stripOf ca 11 = i_callS 3 0 0 0 0 (sp_X8_in ca) 14 := rfl
theorem k_X8_stripOf_14 (ca : Nat → ClassId) : k_X8_stripOf ca 14 = i_if (fun x => ¬ x = 0) 20 17 := rfl
theorem k_X8_stripOf_17 (ca : Nat → ClassId) : k_X8_stripOf ca 17 = i_push (.int (-10000001)) 19 := rfl
theorem k_X8_stripOf_19 (ca : Nat → ClassId) : k_X8_stripOf ca 19 = i_ret := rfl
theorem k_X8_stripOf_20 (ca : Nat → ClassId) : k_X8_stripOf ca 20 = i_iload 2 21 := rfl
theorem k_X8_stripOf_21 (ca : Nat → ClassId) : k_X8_stripOf ca 21 = i_sw [(0, 84), (1, 90), (2, 96), (3, 102), (4, 131), (5, 131), (6, 131), (7, 131), (8, 131), (9, 131), (10, 131), (11, 117)] 131 := rfl
theorem k_X8_stripOf_84 (ca : Nat → ClassId) : k_X8_stripOf ca 84 = i_aload 0 85 := rfl
theorem k_X8_stripOf_85 (ca : Nat → ClassId) : k_X8_stripOf ca 85 = i_iload 1 86 := rfl
theorem k_X8_stripOf_86 (ca : Nat → ClassId) : k_X8_stripOf ca 86 = i_callV 8 1 0 0 0 0 (sp_X8_many ca) 89 := rfl
theorem k_X8_stripOf_89 (ca : Nat → ClassId) : k_X8_stripOf ca 89 = i_ret := rfl
theorem k_X8_stripOf_90 (ca : Nat → ClassId) : k_X8_stripOf ca 90 = i_aload 0 91 := rfl
theorem k_X8_stripOf_91 (ca : Nat → ClassId) : k_X8_stripOf ca 91 = i_iload 1 92 := rfl
theorem k_X8_stripOf_92 (ca : Nat → ClassId) : k_X8_stripOf ca 92 = i_callV 8 1 0 0 0 0 (sp_X8_lengthOfStrip ca) 95 := rfl
theorem k_X8_stripOf_95 (ca : Nat → ClassId) : k_X8_stripOf ca 95 = i_ret := rfl
theorem k_X8_stripOf_96 (ca : Nat → ClassId) : k_X8_stripOf ca 96 = i_aload 0 97 := rfl
theorem k_X8_stripOf_97 (ca : Nat → ClassId) : k_X8_stripOf ca 97 = i_iload 1 98 := rfl
theorem k_X8_stripOf_98 (ca : Nat → ClassId) : k_X8_stripOf ca 98 = i_callV 8 1 0 0 0 0 (sp_X8_bendOfStrip ca) 101 := rfl
theorem k_X8_stripOf_101 (ca : Nat → ClassId) : k_X8_stripOf ca 101 = i_ret := rfl
theorem k_X8_stripOf_102 (ca : Nat → ClassId) : k_X8_stripOf ca 102 = i_aload 0 103 := rfl
theorem k_X8_stripOf_103 (ca : Nat → ClassId) : k_X8_stripOf ca 103 = i_iload 1 104 := rfl
theorem k_X8_stripOf_104 (ca : Nat → ClassId) : k_X8_stripOf ca 104 = i_aload 0 105 := rfl
theorem k_X8_stripOf_105 (ca : Nat → ClassId) : k_X8_stripOf ca 105 = i_getf 8 0 108 := rfl
theorem k_X8_stripOf_108 (ca : Nat → ClassId) : k_X8_stripOf ca 108 = i_iload 1 109 := rfl
theorem k_X8_stripOf_109 (ca : Nat → ClassId) : k_X8_stripOf ca 109 = i_callS 1 0 0 0 0 (sp_X8_roomAt ca) 112 := rfl
theorem k_X8_stripOf_112 (ca : Nat → ClassId) : k_X8_stripOf ca 112 = i_ald (ca 0) 113 := rfl
theorem k_X8_stripOf_113 (ca : Nat → ClassId) : k_X8_stripOf ca 113 = i_callV 8 2 0 0 0 0 (sp_X8_bendAt ca) 116 := rfl
theorem k_X8_stripOf_116 (ca : Nat → ClassId) : k_X8_stripOf ca 116 = i_ret := rfl
theorem k_X8_stripOf_117 (ca : Nat → ClassId) : k_X8_stripOf ca 117 = i_aload 0 118 := rfl
theorem k_X8_stripOf_118 (ca : Nat → ClassId) : k_X8_stripOf ca 118 = i_iload 1 119 := rfl
theorem k_X8_stripOf_119 (ca : Nat → ClassId) : k_X8_stripOf ca 119 = i_callV 8 1 0 0 0 0 (sp_X8_isClosed ca) 122 := rfl
theorem k_X8_stripOf_122 (ca : Nat → ClassId) : k_X8_stripOf ca 122 = i_if (fun x => x = 0) 129 125 := rfl
theorem k_X8_stripOf_125 (ca : Nat → ClassId) : k_X8_stripOf ca 125 = i_push (.int 1) 126 := rfl
theorem k_X8_stripOf_126 (ca : Nat → ClassId) : k_X8_stripOf ca 126 = i_goto 130 := rfl
theorem k_X8_stripOf_129 (ca : Nat → ClassId) : k_X8_stripOf ca 129 = i_push (.int 0) 130 := rfl
theorem k_X8_stripOf_130 (ca : Nat → ClassId) : k_X8_stripOf ca 130 = i_ret := rfl
theorem k_X8_stripOf_131 (ca : Nat → ClassId) : k_X8_stripOf ca 131 = i_aload 0 132 := rfl
theorem k_X8_stripOf_132 (ca : Nat → ClassId) : k_X8_stripOf ca 132 = i_getf 8 0 135 := rfl
theorem k_X8_stripOf_135 (ca : Nat → ClassId) : k_X8_stripOf ca 135 = i_iload 1 136 := rfl
theorem k_X8_stripOf_136 (ca : Nat → ClassId) : k_X8_stripOf ca 136 = i_callS 1 0 0 0 0 (sp_X8_stripAt ca) 139 := rfl
theorem k_X8_stripOf_139 (ca : Nat → ClassId) : k_X8_stripOf ca 139 = i_iload 2 140 := rfl
theorem k_X8_stripOf_140 (ca : Nat → ClassId) : k_X8_stripOf ca 140 = i_bin (fun x y => x + y) 141 := rfl
theorem k_X8_stripOf_141 (ca : Nat → ClassId) : k_X8_stripOf ca 141 = i_push (.int 3) 142 := rfl
theorem k_X8_stripOf_142 (ca : Nat → ClassId) : k_X8_stripOf ca 142 = i_bin (fun x y => x - y) 143 := rfl
theorem k_X8_stripOf_143 (ca : Nat → ClassId) : k_X8_stripOf ca 143 = i_ald (ca 0) 144 := rfl
theorem k_X8_stripOf_144 (ca : Nat → ClassId) : k_X8_stripOf ca 144 = i_ret := rfl
set_option maxHeartbeats 4000000 in
set_option maxRecDepth 20000 in
theorem ok_X8_stripOf (l : Launch) (D : va_G) (ca : Nat → ClassId) : OkAll l D ca yX8_stripOf cX8_stripOf 3 (some .int) 5 0 0 (sp_X8_stripOf ca) := by
  intro av h post hs
  obtain ⟨m, a, s, p, t, f, n, x, w, rfl, ⟨g, hR⟩, hW, hO, hs⟩ := hs
  obtain ⟨fm, at', re, bd, kp, ks, iw, ip, fo, em, e0, -⟩ := id hR
  have em' := em
  unfold eMod at em'
  unfold aStripOf at hs
  refine okM_of t_X8_stripOf (by decide +kernel) (c1_ref (c1_int (c1_int c1_nil))) (Nat.le_of_ble_eq_true rfl) ?_
  intro K go
  cases q1 : isIn x 0 2 with
  | false =>
    rw [q1, if_neg (by decide)] at hs
    refine goN go (stp []) 160 _ _ _ _ _ _ (fun F hF hF0 => ?_)
    simp only [hF, hF0, ite_not, i_push, i_iload, i_lload, i_aload, i_istore, i_astore, i_lstore, i_iinc, i_bin, i_dv, i_un, i_lbin, i_lsh, i_i2l, i_l2i, i_lcmp, i_dup, i_dup2, i_pop, i_if, i_icmp, i_goto, swG, i_sw, i_getf, i_puti, i_putz, i_putr, i_ald, i_lald, i_aald, i_ast, i_last, i_aast, i_alen, i_new, i_newi, i_newl, i_newq, i_oinit, i_ret, i_zret, i_lret, i_vret, catS, tk, rpush, isO, i_m1, i_m2, i_acopy, i_callV, i_callS, KRet, lget, lput, lputL, lcl0, isL, lv0, List.map_cons, List.map_nil, List.length_cons, List.length_nil, List.cons_append, List.nil_append, Nat.reduceAdd, Nat.reduceSub, Nat.reduceLeDiff, List.replicate_succ, List.replicate_zero, List.getElem?_cons_succ, List.getElem?_cons_zero, List.set_cons_succ, List.set_cons_zero, true_and, and_true, if_true, if_false, ↓reduceIte, Nat.le_refl, Value.category, va_up_app, eq_self, stp, Nat.reduceBEq, Bool.or_false, Bool.false_or, Bool.true_or, Bool.or_true, or_true, true_or, bx_uu, implies_true, true_implies, not_true, not_false_eq_true, false_implies, and_self, Nat.reduceLT, Int32.reduceAdd, Int32.reduceSub, Int32.reduceMul, Int32.reduceLE, Int32.reduceLT, Int32.reduceToNatClampNeg, va_rf_some, Bool.false_eq_true, k_X8_stripOf_0 ca, k_X8_stripOf_1 ca, k_X8_stripOf_4 ca, k_X8_stripOf_7 ca, k_X8_stripOf_8 ca, k_X8_stripOf_9 ca, k_X8_stripOf_11 ca, k_X8_stripOf_14 ca, k_X8_stripOf_17 ca, k_X8_stripOf_19 ca, k_X8_stripOf_20 ca, k_X8_stripOf_21 ca, k_X8_stripOf_84 ca, k_X8_stripOf_85 ca, k_X8_stripOf_86 ca, k_X8_stripOf_89 ca, k_X8_stripOf_90 ca, k_X8_stripOf_91 ca, k_X8_stripOf_92 ca, k_X8_stripOf_95 ca, k_X8_stripOf_96 ca, k_X8_stripOf_97 ca, k_X8_stripOf_98 ca, k_X8_stripOf_101 ca, k_X8_stripOf_102 ca, k_X8_stripOf_103 ca, k_X8_stripOf_104 ca, k_X8_stripOf_105 ca, k_X8_stripOf_108 ca, k_X8_stripOf_109 ca, k_X8_stripOf_112 ca, k_X8_stripOf_113 ca, k_X8_stripOf_116 ca, k_X8_stripOf_117 ca, k_X8_stripOf_118 ca, k_X8_stripOf_119 ca, k_X8_stripOf_122 ca, k_X8_stripOf_125 ca, k_X8_stripOf_126 ca, k_X8_stripOf_129 ca, k_X8_stripOf_130 ca, k_X8_stripOf_131 ca, k_X8_stripOf_132 ca, k_X8_stripOf_135 ca, k_X8_stripOf_136 ca, k_X8_stripOf_139 ca, k_X8_stripOf_140 ca, k_X8_stripOf_141 ca, k_X8_stripOf_142 ca, k_X8_stripOf_143 ca, k_X8_stripOf_144 ca, sp_X8_isOne, sp_X7_isRoom, q1, b2i_f]
    try clear hF hF0 F
    exact hs
  | true =>
    rw [q1, if_pos rfl] at hs
    cases q2 : isIn w 0 11 with
    | false =>
      rw [q2, if_neg (by decide)] at hs
      refine goN go (stp []) 160 _ _ _ _ _ _ (fun F hF hF0 => ?_)
      simp only [hF, hF0, ite_not, i_push, i_iload, i_lload, i_aload, i_istore, i_astore, i_lstore, i_iinc, i_bin, i_dv, i_un, i_lbin, i_lsh, i_i2l, i_l2i, i_lcmp, i_dup, i_dup2, i_pop, i_if, i_icmp, i_goto, swG, i_sw, i_getf, i_puti, i_putz, i_putr, i_ald, i_lald, i_aald, i_ast, i_last, i_aast, i_alen, i_new, i_newi, i_newl, i_newq, i_oinit, i_ret, i_zret, i_lret, i_vret, catS, tk, rpush, isO, i_m1, i_m2, i_acopy, i_callV, i_callS, KRet, lget, lput, lputL, lcl0, isL, lv0, List.map_cons, List.map_nil, List.length_cons, List.length_nil, List.cons_append, List.nil_append, Nat.reduceAdd, Nat.reduceSub, Nat.reduceLeDiff, List.replicate_succ, List.replicate_zero, List.getElem?_cons_succ, List.getElem?_cons_zero, List.set_cons_succ, List.set_cons_zero, true_and, and_true, if_true, if_false, ↓reduceIte, Nat.le_refl, Value.category, va_up_app, eq_self, stp, Nat.reduceBEq, Bool.or_false, Bool.false_or, Bool.true_or, Bool.or_true, or_true, true_or, bx_uu, implies_true, true_implies, not_true, not_false_eq_true, false_implies, and_self, Nat.reduceLT, Int32.reduceAdd, Int32.reduceSub, Int32.reduceMul, Int32.reduceLE, Int32.reduceLT, Int32.reduceToNatClampNeg, va_rf_some, Bool.false_eq_true, k_X8_stripOf_0 ca, k_X8_stripOf_1 ca, k_X8_stripOf_4 ca, k_X8_stripOf_7 ca, k_X8_stripOf_8 ca, k_X8_stripOf_9 ca, k_X8_stripOf_11 ca, k_X8_stripOf_14 ca, k_X8_stripOf_17 ca, k_X8_stripOf_19 ca, k_X8_stripOf_20 ca, k_X8_stripOf_21 ca, k_X8_stripOf_84 ca, k_X8_stripOf_85 ca, k_X8_stripOf_86 ca, k_X8_stripOf_89 ca, k_X8_stripOf_90 ca, k_X8_stripOf_91 ca, k_X8_stripOf_92 ca, k_X8_stripOf_95 ca, k_X8_stripOf_96 ca, k_X8_stripOf_97 ca, k_X8_stripOf_98 ca, k_X8_stripOf_101 ca, k_X8_stripOf_102 ca, k_X8_stripOf_103 ca, k_X8_stripOf_104 ca, k_X8_stripOf_105 ca, k_X8_stripOf_108 ca, k_X8_stripOf_109 ca, k_X8_stripOf_112 ca, k_X8_stripOf_113 ca, k_X8_stripOf_116 ca, k_X8_stripOf_117 ca, k_X8_stripOf_118 ca, k_X8_stripOf_119 ca, k_X8_stripOf_122 ca, k_X8_stripOf_125 ca, k_X8_stripOf_126 ca, k_X8_stripOf_129 ca, k_X8_stripOf_130 ca, k_X8_stripOf_131 ca, k_X8_stripOf_132 ca, k_X8_stripOf_135 ca, k_X8_stripOf_136 ca, k_X8_stripOf_139 ca, k_X8_stripOf_140 ca, k_X8_stripOf_141 ca, k_X8_stripOf_142 ca, k_X8_stripOf_143 ca, k_X8_stripOf_144 ca, sp_X8_isOne, sp_X7_isRoom, sp_X8_in, sp_X7_isWithin, q1, q2, b2i_f, b2i_t, one0]
      try clear hF hF0 F
      exact hs
    | true =>
      rw [q2, if_pos rfl] at hs
      obtain ⟨X, hX, rfl⟩ := isIn0 (B := 2) rfl q1
      obtain ⟨W, hW11, rfl⟩ := isIn0 (B := 11) rfl q2
      have xx : (nI X).toNatClampNeg = X := tn127 (by omega)
      rw [xx] at hs
      have Wk := hW.k (k := X) (by omega)
      refine goN go (stp [20]) 160 _ _ _ _ _ _ (fun F hF hF0 => ?_)
      simp only [hF, hF0, ite_not, i_push, i_iload, i_lload, i_aload, i_istore, i_astore, i_lstore, i_iinc, i_bin, i_dv, i_un, i_lbin, i_lsh, i_i2l, i_l2i, i_lcmp, i_dup, i_dup2, i_pop, i_if, i_icmp, i_goto, swG, i_sw, i_getf, i_puti, i_putz, i_putr, i_ald, i_lald, i_aald, i_ast, i_last, i_aast, i_alen, i_new, i_newi, i_newl, i_newq, i_oinit, i_ret, i_zret, i_lret, i_vret, catS, tk, rpush, isO, i_m1, i_m2, i_acopy, i_callV, i_callS, KRet, lget, lput, lputL, lcl0, isL, lv0, List.map_cons, List.map_nil, List.length_cons, List.length_nil, List.cons_append, List.nil_append, Nat.reduceAdd, Nat.reduceSub, Nat.reduceLeDiff, List.replicate_succ, List.replicate_zero, List.getElem?_cons_succ, List.getElem?_cons_zero, List.set_cons_succ, List.set_cons_zero, true_and, and_true, if_true, if_false, ↓reduceIte, Nat.le_refl, Value.category, va_up_app, eq_self, stp, Nat.reduceBEq, Bool.or_false, Bool.false_or, Bool.true_or, Bool.or_true, or_true, true_or, bx_uu, implies_true, true_implies, not_true, not_false_eq_true, false_implies, and_self, Nat.reduceLT, Int32.reduceAdd, Int32.reduceSub, Int32.reduceMul, Int32.reduceLE, Int32.reduceLT, Int32.reduceToNatClampNeg, va_rf_some, Bool.false_eq_true, k_X8_stripOf_0 ca, k_X8_stripOf_1 ca, k_X8_stripOf_4 ca, k_X8_stripOf_7 ca, k_X8_stripOf_8 ca, k_X8_stripOf_9 ca, k_X8_stripOf_11 ca, k_X8_stripOf_14 ca, k_X8_stripOf_17 ca, k_X8_stripOf_19 ca, k_X8_stripOf_20 ca, k_X8_stripOf_21 ca, k_X8_stripOf_84 ca, k_X8_stripOf_85 ca, k_X8_stripOf_86 ca, k_X8_stripOf_89 ca, k_X8_stripOf_90 ca, k_X8_stripOf_91 ca, k_X8_stripOf_92 ca, k_X8_stripOf_95 ca, k_X8_stripOf_96 ca, k_X8_stripOf_97 ca, k_X8_stripOf_98 ca, k_X8_stripOf_101 ca, k_X8_stripOf_102 ca, k_X8_stripOf_103 ca, k_X8_stripOf_104 ca, k_X8_stripOf_105 ca, k_X8_stripOf_108 ca, k_X8_stripOf_109 ca, k_X8_stripOf_112 ca, k_X8_stripOf_113 ca, k_X8_stripOf_116 ca, k_X8_stripOf_117 ca, k_X8_stripOf_118 ca, k_X8_stripOf_119 ca, k_X8_stripOf_122 ca, k_X8_stripOf_125 ca, k_X8_stripOf_126 ca, k_X8_stripOf_129 ca, k_X8_stripOf_130 ca, k_X8_stripOf_131 ca, k_X8_stripOf_132 ca, k_X8_stripOf_135 ca, k_X8_stripOf_136 ca, k_X8_stripOf_139 ca, k_X8_stripOf_140 ca, k_X8_stripOf_141 ca, k_X8_stripOf_142 ca, k_X8_stripOf_143 ca, k_X8_stripOf_144 ca, sp_X8_isOne, sp_X7_isRoom, sp_X8_in, sp_X7_isWithin, q1, q2, b2i_t, one0]
      try clear hF hF0 F
      clear q1 q2
      have x0 : (nI (10 + 32 * X)).toNatClampNeg = 10 + 32 * X := tn127 (by omega)
      have v0 : vp_in (nI (10 + 32 * X)) 127 := vp127 (by omega)
      have xr : (nI (106 + 7 * X)).toNatClampNeg = 106 + 7 * X := tn127 (by omega)
      have vr : vp_in (nI (106 + 7 * X)) 127 := vp127 (by omega)
      have x4 : (nI (10 + 32 * X + 4)).toNatClampNeg = 10 + 32 * X + 4 := tn127 (by omega)
      have v4 : vp_in (nI (10 + 32 * X + 4)) 127 := vp127 (by omega)
      have x7 : (nI (10 + 32 * X + 7)).toNatClampNeg = 10 + 32 * X + 7 := tn127 (by omega)
      have v7 : vp_in (nI (10 + 32 * X + 7)) 127 := vp127 (by omega)
      have hcl : closedM (s (10 + 32 * X + 7)) (s (10 + 32 * X + 4)) = closedF (s (10 + 32 * X + 7)) (s (10 + 32 * X + 4)) := closed_eq (by rw [show 10 + 32 * X + 4 = 14 + 32 * X by omega]; exact (hO X (by omega)).2.1)
      have hw : W = 0 ∨ W = 1 ∨ W = 2 ∨ W = 3 ∨ W = 11 ∨ W = 4 ∨ W = 5 ∨ W = 6 ∨ W = 7 ∨ W = 8 ∨ W = 9 ∨ W = 10 := by omega
      rcases hw with rfl | rfl | rfl | rfl | rfl | rfl | rfl | rfl | rfl | rfl | rfl | rfl
      · rw [show nI 0 = (0 : Int32) from rfl] at *
        unfold sOf at hs
        rw [if_pos rfl] at hs
        refine goN go (stp []) 160 _ _ _ _ _ _ (fun F hF hF0 => ?_)
        simp only [hF, hF0, ite_not, i_push, i_iload, i_lload, i_aload, i_istore, i_astore, i_lstore, i_iinc, i_bin, i_dv, i_un, i_lbin, i_lsh, i_i2l, i_l2i, i_lcmp, i_dup, i_dup2, i_pop, i_if, i_icmp, i_goto, swG, i_sw, i_getf, i_puti, i_putz, i_putr, i_ald, i_lald, i_aald, i_ast, i_last, i_aast, i_alen, i_new, i_newi, i_newl, i_newq, i_oinit, i_ret, i_zret, i_lret, i_vret, catS, tk, rpush, isO, i_m1, i_m2, i_acopy, i_callV, i_callS, KRet, lget, lput, lputL, lcl0, isL, lv0, List.map_cons, List.map_nil, List.length_cons, List.length_nil, List.cons_append, List.nil_append, Nat.reduceAdd, Nat.reduceSub, Nat.reduceLeDiff, List.replicate_succ, List.replicate_zero, List.getElem?_cons_succ, List.getElem?_cons_zero, List.set_cons_succ, List.set_cons_zero, true_and, and_true, if_true, if_false, ↓reduceIte, Nat.le_refl, Value.category, va_up_app, eq_self, stp, Nat.reduceBEq, Bool.or_false, Bool.false_or, Bool.true_or, Bool.or_true, or_true, true_or, bx_uu, implies_true, true_implies, not_true, not_false_eq_true, false_implies, and_self, Nat.reduceLT, Int32.reduceAdd, Int32.reduceSub, Int32.reduceMul, Int32.reduceLE, Int32.reduceLT, Int32.reduceToNatClampNeg, va_rf_some, Bool.false_eq_true, k_X8_stripOf_0 ca, k_X8_stripOf_1 ca, k_X8_stripOf_4 ca, k_X8_stripOf_7 ca, k_X8_stripOf_8 ca, k_X8_stripOf_9 ca, k_X8_stripOf_11 ca, k_X8_stripOf_14 ca, k_X8_stripOf_17 ca, k_X8_stripOf_19 ca, k_X8_stripOf_20 ca, k_X8_stripOf_21 ca, k_X8_stripOf_84 ca, k_X8_stripOf_85 ca, k_X8_stripOf_86 ca, k_X8_stripOf_89 ca, k_X8_stripOf_90 ca, k_X8_stripOf_91 ca, k_X8_stripOf_92 ca, k_X8_stripOf_95 ca, k_X8_stripOf_96 ca, k_X8_stripOf_97 ca, k_X8_stripOf_98 ca, k_X8_stripOf_101 ca, k_X8_stripOf_102 ca, k_X8_stripOf_103 ca, k_X8_stripOf_104 ca, k_X8_stripOf_105 ca, k_X8_stripOf_108 ca, k_X8_stripOf_109 ca, k_X8_stripOf_112 ca, k_X8_stripOf_113 ca, k_X8_stripOf_116 ca, k_X8_stripOf_117 ca, k_X8_stripOf_118 ca, k_X8_stripOf_119 ca, k_X8_stripOf_122 ca, k_X8_stripOf_125 ca, k_X8_stripOf_126 ca, k_X8_stripOf_129 ca, k_X8_stripOf_130 ca, k_X8_stripOf_131 ca, k_X8_stripOf_132 ca, k_X8_stripOf_135 ca, k_X8_stripOf_136 ca, k_X8_stripOf_139 ca, k_X8_stripOf_140 ca, k_X8_stripOf_141 ca, k_X8_stripOf_142 ca, k_X8_stripOf_143 ca, k_X8_stripOf_144 ca, sp_X8_many, s10, a_0, x0, v0, em', e0]
        try clear hF hF0 F
        exact hs
      · rw [show nI 1 = (1 : Int32) from rfl] at *
        unfold sOf at hs
        rw [if_neg (by decide), if_pos rfl] at hs
        refine goN go (stp [95]) 160 _ _ _ _ _ _ (fun F hF hF0 => ?_)
        simp only [hF, hF0, ite_not, i_push, i_iload, i_lload, i_aload, i_istore, i_astore, i_lstore, i_iinc, i_bin, i_dv, i_un, i_lbin, i_lsh, i_i2l, i_l2i, i_lcmp, i_dup, i_dup2, i_pop, i_if, i_icmp, i_goto, swG, i_sw, i_getf, i_puti, i_putz, i_putr, i_ald, i_lald, i_aald, i_ast, i_last, i_aast, i_alen, i_new, i_newi, i_newl, i_newq, i_oinit, i_ret, i_zret, i_lret, i_vret, catS, tk, rpush, isO, i_m1, i_m2, i_acopy, i_callV, i_callS, KRet, lget, lput, lputL, lcl0, isL, lv0, List.map_cons, List.map_nil, List.length_cons, List.length_nil, List.cons_append, List.nil_append, Nat.reduceAdd, Nat.reduceSub, Nat.reduceLeDiff, List.replicate_succ, List.replicate_zero, List.getElem?_cons_succ, List.getElem?_cons_zero, List.set_cons_succ, List.set_cons_zero, true_and, and_true, if_true, if_false, ↓reduceIte, Nat.le_refl, Value.category, va_up_app, eq_self, stp, Nat.reduceBEq, Bool.or_false, Bool.false_or, Bool.true_or, Bool.or_true, or_true, true_or, bx_uu, implies_true, true_implies, not_true, not_false_eq_true, false_implies, and_self, Nat.reduceLT, Int32.reduceAdd, Int32.reduceSub, Int32.reduceMul, Int32.reduceLE, Int32.reduceLT, Int32.reduceToNatClampNeg, va_rf_some, Bool.false_eq_true, k_X8_stripOf_0 ca, k_X8_stripOf_1 ca, k_X8_stripOf_4 ca, k_X8_stripOf_7 ca, k_X8_stripOf_8 ca, k_X8_stripOf_9 ca, k_X8_stripOf_11 ca, k_X8_stripOf_14 ca, k_X8_stripOf_17 ca, k_X8_stripOf_19 ca, k_X8_stripOf_20 ca, k_X8_stripOf_21 ca, k_X8_stripOf_84 ca, k_X8_stripOf_85 ca, k_X8_stripOf_86 ca, k_X8_stripOf_89 ca, k_X8_stripOf_90 ca, k_X8_stripOf_91 ca, k_X8_stripOf_92 ca, k_X8_stripOf_95 ca, k_X8_stripOf_96 ca, k_X8_stripOf_97 ca, k_X8_stripOf_98 ca, k_X8_stripOf_101 ca, k_X8_stripOf_102 ca, k_X8_stripOf_103 ca, k_X8_stripOf_104 ca, k_X8_stripOf_105 ca, k_X8_stripOf_108 ca, k_X8_stripOf_109 ca, k_X8_stripOf_112 ca, k_X8_stripOf_113 ca, k_X8_stripOf_116 ca, k_X8_stripOf_117 ca, k_X8_stripOf_118 ca, k_X8_stripOf_119 ca, k_X8_stripOf_122 ca, k_X8_stripOf_125 ca, k_X8_stripOf_126 ca, k_X8_stripOf_129 ca, k_X8_stripOf_130 ca, k_X8_stripOf_131 ca, k_X8_stripOf_132 ca, k_X8_stripOf_135 ca, k_X8_stripOf_136 ca, k_X8_stripOf_139 ca, k_X8_stripOf_140 ca, k_X8_stripOf_141 ca, k_X8_stripOf_142 ca, k_X8_stripOf_143 ca, k_X8_stripOf_144 ca, em']
        try clear hF hF0 F
        refine ⟨m, a 0, s, X, by omega, rfl, ⟨⟨_, em⟩, e0⟩, Wk, ?_⟩
        refine goN go (stp []) 160 _ _ _ _ _ _ (fun F hF hF0 => ?_)
        simp only [hF, hF0, ite_not, i_push, i_iload, i_lload, i_aload, i_istore, i_astore, i_lstore, i_iinc, i_bin, i_dv, i_un, i_lbin, i_lsh, i_i2l, i_l2i, i_lcmp, i_dup, i_dup2, i_pop, i_if, i_icmp, i_goto, swG, i_sw, i_getf, i_puti, i_putz, i_putr, i_ald, i_lald, i_aald, i_ast, i_last, i_aast, i_alen, i_new, i_newi, i_newl, i_newq, i_oinit, i_ret, i_zret, i_lret, i_vret, catS, tk, rpush, isO, i_m1, i_m2, i_acopy, i_callV, i_callS, KRet, lget, lput, lputL, lcl0, isL, lv0, List.map_cons, List.map_nil, List.length_cons, List.length_nil, List.cons_append, List.nil_append, Nat.reduceAdd, Nat.reduceSub, Nat.reduceLeDiff, List.replicate_succ, List.replicate_zero, List.getElem?_cons_succ, List.getElem?_cons_zero, List.set_cons_succ, List.set_cons_zero, true_and, and_true, if_true, if_false, ↓reduceIte, Nat.le_refl, Value.category, va_up_app, eq_self, stp, Nat.reduceBEq, Bool.or_false, Bool.false_or, Bool.true_or, Bool.or_true, or_true, true_or, bx_uu, implies_true, true_implies, not_true, not_false_eq_true, false_implies, and_self, Nat.reduceLT, Int32.reduceAdd, Int32.reduceSub, Int32.reduceMul, Int32.reduceLE, Int32.reduceLT, Int32.reduceToNatClampNeg, va_rf_some, Bool.false_eq_true, k_X8_stripOf_0 ca, k_X8_stripOf_1 ca, k_X8_stripOf_4 ca, k_X8_stripOf_7 ca, k_X8_stripOf_8 ca, k_X8_stripOf_9 ca, k_X8_stripOf_11 ca, k_X8_stripOf_14 ca, k_X8_stripOf_17 ca, k_X8_stripOf_19 ca, k_X8_stripOf_20 ca, k_X8_stripOf_21 ca, k_X8_stripOf_84 ca, k_X8_stripOf_85 ca, k_X8_stripOf_86 ca, k_X8_stripOf_89 ca, k_X8_stripOf_90 ca, k_X8_stripOf_91 ca, k_X8_stripOf_92 ca, k_X8_stripOf_95 ca, k_X8_stripOf_96 ca, k_X8_stripOf_97 ca, k_X8_stripOf_98 ca, k_X8_stripOf_101 ca, k_X8_stripOf_102 ca, k_X8_stripOf_103 ca, k_X8_stripOf_104 ca, k_X8_stripOf_105 ca, k_X8_stripOf_108 ca, k_X8_stripOf_109 ca, k_X8_stripOf_112 ca, k_X8_stripOf_113 ca, k_X8_stripOf_116 ca, k_X8_stripOf_117 ca, k_X8_stripOf_118 ca, k_X8_stripOf_119 ca, k_X8_stripOf_122 ca, k_X8_stripOf_125 ca, k_X8_stripOf_126 ca, k_X8_stripOf_129 ca, k_X8_stripOf_130 ca, k_X8_stripOf_131 ca, k_X8_stripOf_132 ca, k_X8_stripOf_135 ca, k_X8_stripOf_136 ca, k_X8_stripOf_139 ca, k_X8_stripOf_140 ca, k_X8_stripOf_141 ca, k_X8_stripOf_142 ca, k_X8_stripOf_143 ca, k_X8_stripOf_144 ca]
        try clear hF hF0 F
        exact hs
      · rw [show nI 2 = (2 : Int32) from rfl] at *
        unfold sOf at hs
        rw [if_neg (by decide), if_neg (by decide), if_pos rfl] at hs
        refine goN go (stp [101]) 160 _ _ _ _ _ _ (fun F hF hF0 => ?_)
        simp only [hF, hF0, ite_not, i_push, i_iload, i_lload, i_aload, i_istore, i_astore, i_lstore, i_iinc, i_bin, i_dv, i_un, i_lbin, i_lsh, i_i2l, i_l2i, i_lcmp, i_dup, i_dup2, i_pop, i_if, i_icmp, i_goto, swG, i_sw, i_getf, i_puti, i_putz, i_putr, i_ald, i_lald, i_aald, i_ast, i_last, i_aast, i_alen, i_new, i_newi, i_newl, i_newq, i_oinit, i_ret, i_zret, i_lret, i_vret, catS, tk, rpush, isO, i_m1, i_m2, i_acopy, i_callV, i_callS, KRet, lget, lput, lputL, lcl0, isL, lv0, List.map_cons, List.map_nil, List.length_cons, List.length_nil, List.cons_append, List.nil_append, Nat.reduceAdd, Nat.reduceSub, Nat.reduceLeDiff, List.replicate_succ, List.replicate_zero, List.getElem?_cons_succ, List.getElem?_cons_zero, List.set_cons_succ, List.set_cons_zero, true_and, and_true, if_true, if_false, ↓reduceIte, Nat.le_refl, Value.category, va_up_app, eq_self, stp, Nat.reduceBEq, Bool.or_false, Bool.false_or, Bool.true_or, Bool.or_true, or_true, true_or, bx_uu, implies_true, true_implies, not_true, not_false_eq_true, false_implies, and_self, Nat.reduceLT, Int32.reduceAdd, Int32.reduceSub, Int32.reduceMul, Int32.reduceLE, Int32.reduceLT, Int32.reduceToNatClampNeg, va_rf_some, Bool.false_eq_true, k_X8_stripOf_0 ca, k_X8_stripOf_1 ca, k_X8_stripOf_4 ca, k_X8_stripOf_7 ca, k_X8_stripOf_8 ca, k_X8_stripOf_9 ca, k_X8_stripOf_11 ca, k_X8_stripOf_14 ca, k_X8_stripOf_17 ca, k_X8_stripOf_19 ca, k_X8_stripOf_20 ca, k_X8_stripOf_21 ca, k_X8_stripOf_84 ca, k_X8_stripOf_85 ca, k_X8_stripOf_86 ca, k_X8_stripOf_89 ca, k_X8_stripOf_90 ca, k_X8_stripOf_91 ca, k_X8_stripOf_92 ca, k_X8_stripOf_95 ca, k_X8_stripOf_96 ca, k_X8_stripOf_97 ca, k_X8_stripOf_98 ca, k_X8_stripOf_101 ca, k_X8_stripOf_102 ca, k_X8_stripOf_103 ca, k_X8_stripOf_104 ca, k_X8_stripOf_105 ca, k_X8_stripOf_108 ca, k_X8_stripOf_109 ca, k_X8_stripOf_112 ca, k_X8_stripOf_113 ca, k_X8_stripOf_116 ca, k_X8_stripOf_117 ca, k_X8_stripOf_118 ca, k_X8_stripOf_119 ca, k_X8_stripOf_122 ca, k_X8_stripOf_125 ca, k_X8_stripOf_126 ca, k_X8_stripOf_129 ca, k_X8_stripOf_130 ca, k_X8_stripOf_131 ca, k_X8_stripOf_132 ca, k_X8_stripOf_135 ca, k_X8_stripOf_136 ca, k_X8_stripOf_139 ca, k_X8_stripOf_140 ca, k_X8_stripOf_141 ca, k_X8_stripOf_142 ca, k_X8_stripOf_143 ca, k_X8_stripOf_144 ca, em']
        try clear hF hF0 F
        refine ⟨m, a 0, s, X, by omega, rfl, ⟨⟨_, em⟩, e0⟩, Wk, ?_⟩
        refine goN go (stp []) 160 _ _ _ _ _ _ (fun F hF hF0 => ?_)
        simp only [hF, hF0, ite_not, i_push, i_iload, i_lload, i_aload, i_istore, i_astore, i_lstore, i_iinc, i_bin, i_dv, i_un, i_lbin, i_lsh, i_i2l, i_l2i, i_lcmp, i_dup, i_dup2, i_pop, i_if, i_icmp, i_goto, swG, i_sw, i_getf, i_puti, i_putz, i_putr, i_ald, i_lald, i_aald, i_ast, i_last, i_aast, i_alen, i_new, i_newi, i_newl, i_newq, i_oinit, i_ret, i_zret, i_lret, i_vret, catS, tk, rpush, isO, i_m1, i_m2, i_acopy, i_callV, i_callS, KRet, lget, lput, lputL, lcl0, isL, lv0, List.map_cons, List.map_nil, List.length_cons, List.length_nil, List.cons_append, List.nil_append, Nat.reduceAdd, Nat.reduceSub, Nat.reduceLeDiff, List.replicate_succ, List.replicate_zero, List.getElem?_cons_succ, List.getElem?_cons_zero, List.set_cons_succ, List.set_cons_zero, true_and, and_true, if_true, if_false, ↓reduceIte, Nat.le_refl, Value.category, va_up_app, eq_self, stp, Nat.reduceBEq, Bool.or_false, Bool.false_or, Bool.true_or, Bool.or_true, or_true, true_or, bx_uu, implies_true, true_implies, not_true, not_false_eq_true, false_implies, and_self, Nat.reduceLT, Int32.reduceAdd, Int32.reduceSub, Int32.reduceMul, Int32.reduceLE, Int32.reduceLT, Int32.reduceToNatClampNeg, va_rf_some, Bool.false_eq_true, k_X8_stripOf_0 ca, k_X8_stripOf_1 ca, k_X8_stripOf_4 ca, k_X8_stripOf_7 ca, k_X8_stripOf_8 ca, k_X8_stripOf_9 ca, k_X8_stripOf_11 ca, k_X8_stripOf_14 ca, k_X8_stripOf_17 ca, k_X8_stripOf_19 ca, k_X8_stripOf_20 ca, k_X8_stripOf_21 ca, k_X8_stripOf_84 ca, k_X8_stripOf_85 ca, k_X8_stripOf_86 ca, k_X8_stripOf_89 ca, k_X8_stripOf_90 ca, k_X8_stripOf_91 ca, k_X8_stripOf_92 ca, k_X8_stripOf_95 ca, k_X8_stripOf_96 ca, k_X8_stripOf_97 ca, k_X8_stripOf_98 ca, k_X8_stripOf_101 ca, k_X8_stripOf_102 ca, k_X8_stripOf_103 ca, k_X8_stripOf_104 ca, k_X8_stripOf_105 ca, k_X8_stripOf_108 ca, k_X8_stripOf_109 ca, k_X8_stripOf_112 ca, k_X8_stripOf_113 ca, k_X8_stripOf_116 ca, k_X8_stripOf_117 ca, k_X8_stripOf_118 ca, k_X8_stripOf_119 ca, k_X8_stripOf_122 ca, k_X8_stripOf_125 ca, k_X8_stripOf_126 ca, k_X8_stripOf_129 ca, k_X8_stripOf_130 ca, k_X8_stripOf_131 ca, k_X8_stripOf_132 ca, k_X8_stripOf_135 ca, k_X8_stripOf_136 ca, k_X8_stripOf_139 ca, k_X8_stripOf_140 ca, k_X8_stripOf_141 ca, k_X8_stripOf_142 ca, k_X8_stripOf_143 ca, k_X8_stripOf_144 ca]
        try clear hF hF0 F
        exact hs
      · rw [show nI 3 = (3 : Int32) from rfl] at *
        unfold sOf at hs
        rw [if_neg (by decide), if_neg (by decide), if_neg (by decide), if_pos rfl] at hs
        refine goN go (stp [116]) 160 _ _ _ _ _ _ (fun F hF hF0 => ?_)
        simp only [hF, hF0, ite_not, i_push, i_iload, i_lload, i_aload, i_istore, i_astore, i_lstore, i_iinc, i_bin, i_dv, i_un, i_lbin, i_lsh, i_i2l, i_l2i, i_lcmp, i_dup, i_dup2, i_pop, i_if, i_icmp, i_goto, swG, i_sw, i_getf, i_puti, i_putz, i_putr, i_ald, i_lald, i_aald, i_ast, i_last, i_aast, i_alen, i_new, i_newi, i_newl, i_newq, i_oinit, i_ret, i_zret, i_lret, i_vret, catS, tk, rpush, isO, i_m1, i_m2, i_acopy, i_callV, i_callS, KRet, lget, lput, lputL, lcl0, isL, lv0, List.map_cons, List.map_nil, List.length_cons, List.length_nil, List.cons_append, List.nil_append, Nat.reduceAdd, Nat.reduceSub, Nat.reduceLeDiff, List.replicate_succ, List.replicate_zero, List.getElem?_cons_succ, List.getElem?_cons_zero, List.set_cons_succ, List.set_cons_zero, true_and, and_true, if_true, if_false, ↓reduceIte, Nat.le_refl, Value.category, va_up_app, eq_self, stp, Nat.reduceBEq, Bool.or_false, Bool.false_or, Bool.true_or, Bool.or_true, or_true, true_or, bx_uu, implies_true, true_implies, not_true, not_false_eq_true, false_implies, and_self, Nat.reduceLT, Int32.reduceAdd, Int32.reduceSub, Int32.reduceMul, Int32.reduceLE, Int32.reduceLT, Int32.reduceToNatClampNeg, va_rf_some, Bool.false_eq_true, k_X8_stripOf_0 ca, k_X8_stripOf_1 ca, k_X8_stripOf_4 ca, k_X8_stripOf_7 ca, k_X8_stripOf_8 ca, k_X8_stripOf_9 ca, k_X8_stripOf_11 ca, k_X8_stripOf_14 ca, k_X8_stripOf_17 ca, k_X8_stripOf_19 ca, k_X8_stripOf_20 ca, k_X8_stripOf_21 ca, k_X8_stripOf_84 ca, k_X8_stripOf_85 ca, k_X8_stripOf_86 ca, k_X8_stripOf_89 ca, k_X8_stripOf_90 ca, k_X8_stripOf_91 ca, k_X8_stripOf_92 ca, k_X8_stripOf_95 ca, k_X8_stripOf_96 ca, k_X8_stripOf_97 ca, k_X8_stripOf_98 ca, k_X8_stripOf_101 ca, k_X8_stripOf_102 ca, k_X8_stripOf_103 ca, k_X8_stripOf_104 ca, k_X8_stripOf_105 ca, k_X8_stripOf_108 ca, k_X8_stripOf_109 ca, k_X8_stripOf_112 ca, k_X8_stripOf_113 ca, k_X8_stripOf_116 ca, k_X8_stripOf_117 ca, k_X8_stripOf_118 ca, k_X8_stripOf_119 ca, k_X8_stripOf_122 ca, k_X8_stripOf_125 ca, k_X8_stripOf_126 ca, k_X8_stripOf_129 ca, k_X8_stripOf_130 ca, k_X8_stripOf_131 ca, k_X8_stripOf_132 ca, k_X8_stripOf_135 ca, k_X8_stripOf_136 ca, k_X8_stripOf_139 ca, k_X8_stripOf_140 ca, k_X8_stripOf_141 ca, k_X8_stripOf_142 ca, k_X8_stripOf_143 ca, k_X8_stripOf_144 ca, sp_X8_roomAt, s106, xr, vr, em', e0]
        try clear hF hF0 F
        refine ⟨m, a 0, s, X, _, by omega, rfl, ⟨⟨_, em⟩, e0⟩, Wk, ?_⟩
        refine goN go (stp []) 160 _ _ _ _ _ _ (fun F hF hF0 => ?_)
        simp only [hF, hF0, ite_not, i_push, i_iload, i_lload, i_aload, i_istore, i_astore, i_lstore, i_iinc, i_bin, i_dv, i_un, i_lbin, i_lsh, i_i2l, i_l2i, i_lcmp, i_dup, i_dup2, i_pop, i_if, i_icmp, i_goto, swG, i_sw, i_getf, i_puti, i_putz, i_putr, i_ald, i_lald, i_aald, i_ast, i_last, i_aast, i_alen, i_new, i_newi, i_newl, i_newq, i_oinit, i_ret, i_zret, i_lret, i_vret, catS, tk, rpush, isO, i_m1, i_m2, i_acopy, i_callV, i_callS, KRet, lget, lput, lputL, lcl0, isL, lv0, List.map_cons, List.map_nil, List.length_cons, List.length_nil, List.cons_append, List.nil_append, Nat.reduceAdd, Nat.reduceSub, Nat.reduceLeDiff, List.replicate_succ, List.replicate_zero, List.getElem?_cons_succ, List.getElem?_cons_zero, List.set_cons_succ, List.set_cons_zero, true_and, and_true, if_true, if_false, ↓reduceIte, Nat.le_refl, Value.category, va_up_app, eq_self, stp, Nat.reduceBEq, Bool.or_false, Bool.false_or, Bool.true_or, Bool.or_true, or_true, true_or, bx_uu, implies_true, true_implies, not_true, not_false_eq_true, false_implies, and_self, Nat.reduceLT, Int32.reduceAdd, Int32.reduceSub, Int32.reduceMul, Int32.reduceLE, Int32.reduceLT, Int32.reduceToNatClampNeg, va_rf_some, Bool.false_eq_true, k_X8_stripOf_0 ca, k_X8_stripOf_1 ca, k_X8_stripOf_4 ca, k_X8_stripOf_7 ca, k_X8_stripOf_8 ca, k_X8_stripOf_9 ca, k_X8_stripOf_11 ca, k_X8_stripOf_14 ca, k_X8_stripOf_17 ca, k_X8_stripOf_19 ca, k_X8_stripOf_20 ca, k_X8_stripOf_21 ca, k_X8_stripOf_84 ca, k_X8_stripOf_85 ca, k_X8_stripOf_86 ca, k_X8_stripOf_89 ca, k_X8_stripOf_90 ca, k_X8_stripOf_91 ca, k_X8_stripOf_92 ca, k_X8_stripOf_95 ca, k_X8_stripOf_96 ca, k_X8_stripOf_97 ca, k_X8_stripOf_98 ca, k_X8_stripOf_101 ca, k_X8_stripOf_102 ca, k_X8_stripOf_103 ca, k_X8_stripOf_104 ca, k_X8_stripOf_105 ca, k_X8_stripOf_108 ca, k_X8_stripOf_109 ca, k_X8_stripOf_112 ca, k_X8_stripOf_113 ca, k_X8_stripOf_116 ca, k_X8_stripOf_117 ca, k_X8_stripOf_118 ca, k_X8_stripOf_119 ca, k_X8_stripOf_122 ca, k_X8_stripOf_125 ca, k_X8_stripOf_126 ca, k_X8_stripOf_129 ca, k_X8_stripOf_130 ca, k_X8_stripOf_131 ca, k_X8_stripOf_132 ca, k_X8_stripOf_135 ca, k_X8_stripOf_136 ca, k_X8_stripOf_139 ca, k_X8_stripOf_140 ca, k_X8_stripOf_141 ca, k_X8_stripOf_142 ca, k_X8_stripOf_143 ca, k_X8_stripOf_144 ca]
        try clear hF hF0 F
        exact hs
      · rw [show nI 11 = (11 : Int32) from rfl] at *
        unfold sOf at hs
        rw [if_neg (by decide), if_neg (by decide), if_neg (by decide), if_neg (by decide), if_pos rfl] at hs
        cases q3 : closedF (s (10 + 32 * X + 7)) (s (10 + 32 * X + 4)) with
        | false =>
          rw [q3] at hcl hs
          rw [b2i_f] at hs
          refine goN go (stp []) 160 _ _ _ _ _ _ (fun F hF hF0 => ?_)
          simp only [hF, hF0, ite_not, i_push, i_iload, i_lload, i_aload, i_istore, i_astore, i_lstore, i_iinc, i_bin, i_dv, i_un, i_lbin, i_lsh, i_i2l, i_l2i, i_lcmp, i_dup, i_dup2, i_pop, i_if, i_icmp, i_goto, swG, i_sw, i_getf, i_puti, i_putz, i_putr, i_ald, i_lald, i_aald, i_ast, i_last, i_aast, i_alen, i_new, i_newi, i_newl, i_newq, i_oinit, i_ret, i_zret, i_lret, i_vret, catS, tk, rpush, isO, i_m1, i_m2, i_acopy, i_callV, i_callS, KRet, lget, lput, lputL, lcl0, isL, lv0, List.map_cons, List.map_nil, List.length_cons, List.length_nil, List.cons_append, List.nil_append, Nat.reduceAdd, Nat.reduceSub, Nat.reduceLeDiff, List.replicate_succ, List.replicate_zero, List.getElem?_cons_succ, List.getElem?_cons_zero, List.set_cons_succ, List.set_cons_zero, true_and, and_true, if_true, if_false, ↓reduceIte, Nat.le_refl, Value.category, va_up_app, eq_self, stp, Nat.reduceBEq, Bool.or_false, Bool.false_or, Bool.true_or, Bool.or_true, or_true, true_or, bx_uu, implies_true, true_implies, not_true, not_false_eq_true, false_implies, and_self, Nat.reduceLT, Int32.reduceAdd, Int32.reduceSub, Int32.reduceMul, Int32.reduceLE, Int32.reduceLT, Int32.reduceToNatClampNeg, va_rf_some, Bool.false_eq_true, k_X8_stripOf_0 ca, k_X8_stripOf_1 ca, k_X8_stripOf_4 ca, k_X8_stripOf_7 ca, k_X8_stripOf_8 ca, k_X8_stripOf_9 ca, k_X8_stripOf_11 ca, k_X8_stripOf_14 ca, k_X8_stripOf_17 ca, k_X8_stripOf_19 ca, k_X8_stripOf_20 ca, k_X8_stripOf_21 ca, k_X8_stripOf_84 ca, k_X8_stripOf_85 ca, k_X8_stripOf_86 ca, k_X8_stripOf_89 ca, k_X8_stripOf_90 ca, k_X8_stripOf_91 ca, k_X8_stripOf_92 ca, k_X8_stripOf_95 ca, k_X8_stripOf_96 ca, k_X8_stripOf_97 ca, k_X8_stripOf_98 ca, k_X8_stripOf_101 ca, k_X8_stripOf_102 ca, k_X8_stripOf_103 ca, k_X8_stripOf_104 ca, k_X8_stripOf_105 ca, k_X8_stripOf_108 ca, k_X8_stripOf_109 ca, k_X8_stripOf_112 ca, k_X8_stripOf_113 ca, k_X8_stripOf_116 ca, k_X8_stripOf_117 ca, k_X8_stripOf_118 ca, k_X8_stripOf_119 ca, k_X8_stripOf_122 ca, k_X8_stripOf_125 ca, k_X8_stripOf_126 ca, k_X8_stripOf_129 ca, k_X8_stripOf_130 ca, k_X8_stripOf_131 ca, k_X8_stripOf_132 ca, k_X8_stripOf_135 ca, k_X8_stripOf_136 ca, k_X8_stripOf_139 ca, k_X8_stripOf_140 ca, k_X8_stripOf_141 ca, k_X8_stripOf_142 ca, k_X8_stripOf_143 ca, k_X8_stripOf_144 ca, sp_X8_isClosed, s10, a_4, a_7, x4, v4, x7, v7, em', e0, hcl, b2i_f]
          try clear hF hF0 F
          exact hs
        | true =>
          rw [q3] at hcl hs
          rw [b2i_t] at hs
          refine goN go (stp []) 160 _ _ _ _ _ _ (fun F hF hF0 => ?_)
          simp only [hF, hF0, ite_not, i_push, i_iload, i_lload, i_aload, i_istore, i_astore, i_lstore, i_iinc, i_bin, i_dv, i_un, i_lbin, i_lsh, i_i2l, i_l2i, i_lcmp, i_dup, i_dup2, i_pop, i_if, i_icmp, i_goto, swG, i_sw, i_getf, i_puti, i_putz, i_putr, i_ald, i_lald, i_aald, i_ast, i_last, i_aast, i_alen, i_new, i_newi, i_newl, i_newq, i_oinit, i_ret, i_zret, i_lret, i_vret, catS, tk, rpush, isO, i_m1, i_m2, i_acopy, i_callV, i_callS, KRet, lget, lput, lputL, lcl0, isL, lv0, List.map_cons, List.map_nil, List.length_cons, List.length_nil, List.cons_append, List.nil_append, Nat.reduceAdd, Nat.reduceSub, Nat.reduceLeDiff, List.replicate_succ, List.replicate_zero, List.getElem?_cons_succ, List.getElem?_cons_zero, List.set_cons_succ, List.set_cons_zero, true_and, and_true, if_true, if_false, ↓reduceIte, Nat.le_refl, Value.category, va_up_app, eq_self, stp, Nat.reduceBEq, Bool.or_false, Bool.false_or, Bool.true_or, Bool.or_true, or_true, true_or, bx_uu, implies_true, true_implies, not_true, not_false_eq_true, false_implies, and_self, Nat.reduceLT, Int32.reduceAdd, Int32.reduceSub, Int32.reduceMul, Int32.reduceLE, Int32.reduceLT, Int32.reduceToNatClampNeg, va_rf_some, Bool.false_eq_true, k_X8_stripOf_0 ca, k_X8_stripOf_1 ca, k_X8_stripOf_4 ca, k_X8_stripOf_7 ca, k_X8_stripOf_8 ca, k_X8_stripOf_9 ca, k_X8_stripOf_11 ca, k_X8_stripOf_14 ca, k_X8_stripOf_17 ca, k_X8_stripOf_19 ca, k_X8_stripOf_20 ca, k_X8_stripOf_21 ca, k_X8_stripOf_84 ca, k_X8_stripOf_85 ca, k_X8_stripOf_86 ca, k_X8_stripOf_89 ca, k_X8_stripOf_90 ca, k_X8_stripOf_91 ca, k_X8_stripOf_92 ca, k_X8_stripOf_95 ca, k_X8_stripOf_96 ca, k_X8_stripOf_97 ca, k_X8_stripOf_98 ca, k_X8_stripOf_101 ca, k_X8_stripOf_102 ca, k_X8_stripOf_103 ca, k_X8_stripOf_104 ca, k_X8_stripOf_105 ca, k_X8_stripOf_108 ca, k_X8_stripOf_109 ca, k_X8_stripOf_112 ca, k_X8_stripOf_113 ca, k_X8_stripOf_116 ca, k_X8_stripOf_117 ca, k_X8_stripOf_118 ca, k_X8_stripOf_119 ca, k_X8_stripOf_122 ca, k_X8_stripOf_125 ca, k_X8_stripOf_126 ca, k_X8_stripOf_129 ca, k_X8_stripOf_130 ca, k_X8_stripOf_131 ca, k_X8_stripOf_132 ca, k_X8_stripOf_135 ca, k_X8_stripOf_136 ca, k_X8_stripOf_139 ca, k_X8_stripOf_140 ca, k_X8_stripOf_141 ca, k_X8_stripOf_142 ca, k_X8_stripOf_143 ca, k_X8_stripOf_144 ca, sp_X8_isClosed, s10, a_4, a_7, x4, v4, x7, v7, em', e0, hcl, b2i_t, one0]
          try clear hF hF0 F
          exact hs
      · have y1 : nI (10 + 32 * X) + 4 - 3 = nI (10 + 32 * X + 1) := by rw [show (4 : Int32) = nI 4 from rfl, nI_add, show (3 : Int32) = nI 3 from rfl, sub_nI (by omega)]; exact congrArg nI (by omega)
        have y2 : (nI (10 + 32 * X + 1)).toNatClampNeg = 10 + 32 * X + 1 := tn127 (by omega)
        have y3 : vp_in (nI (10 + 32 * X + 1)) 127 := vp127 (by omega)
        rw [show nI 4 = (4 : Int32) from rfl] at *
        unfold sOf at hs
        rw [if_neg (by decide), if_neg (by decide), if_neg (by decide), if_neg (by decide), if_neg (by decide), show 10 + 32 * X + (4 : Int32).toNatClampNeg - 3 = 10 + 32 * X + 1 from rfl] at hs
        refine goN go (stp []) 160 _ _ _ _ _ _ (fun F hF hF0 => ?_)
        simp only [hF, hF0, ite_not, i_push, i_iload, i_lload, i_aload, i_istore, i_astore, i_lstore, i_iinc, i_bin, i_dv, i_un, i_lbin, i_lsh, i_i2l, i_l2i, i_lcmp, i_dup, i_dup2, i_pop, i_if, i_icmp, i_goto, swG, i_sw, i_getf, i_puti, i_putz, i_putr, i_ald, i_lald, i_aald, i_ast, i_last, i_aast, i_alen, i_new, i_newi, i_newl, i_newq, i_oinit, i_ret, i_zret, i_lret, i_vret, catS, tk, rpush, isO, i_m1, i_m2, i_acopy, i_callV, i_callS, KRet, lget, lput, lputL, lcl0, isL, lv0, List.map_cons, List.map_nil, List.length_cons, List.length_nil, List.cons_append, List.nil_append, Nat.reduceAdd, Nat.reduceSub, Nat.reduceLeDiff, List.replicate_succ, List.replicate_zero, List.getElem?_cons_succ, List.getElem?_cons_zero, List.set_cons_succ, List.set_cons_zero, true_and, and_true, if_true, if_false, ↓reduceIte, Nat.le_refl, Value.category, va_up_app, eq_self, stp, Nat.reduceBEq, Bool.or_false, Bool.false_or, Bool.true_or, Bool.or_true, or_true, true_or, bx_uu, implies_true, true_implies, not_true, not_false_eq_true, false_implies, and_self, Nat.reduceLT, Int32.reduceAdd, Int32.reduceSub, Int32.reduceMul, Int32.reduceLE, Int32.reduceLT, Int32.reduceToNatClampNeg, va_rf_some, Bool.false_eq_true, k_X8_stripOf_0 ca, k_X8_stripOf_1 ca, k_X8_stripOf_4 ca, k_X8_stripOf_7 ca, k_X8_stripOf_8 ca, k_X8_stripOf_9 ca, k_X8_stripOf_11 ca, k_X8_stripOf_14 ca, k_X8_stripOf_17 ca, k_X8_stripOf_19 ca, k_X8_stripOf_20 ca, k_X8_stripOf_21 ca, k_X8_stripOf_84 ca, k_X8_stripOf_85 ca, k_X8_stripOf_86 ca, k_X8_stripOf_89 ca, k_X8_stripOf_90 ca, k_X8_stripOf_91 ca, k_X8_stripOf_92 ca, k_X8_stripOf_95 ca, k_X8_stripOf_96 ca, k_X8_stripOf_97 ca, k_X8_stripOf_98 ca, k_X8_stripOf_101 ca, k_X8_stripOf_102 ca, k_X8_stripOf_103 ca, k_X8_stripOf_104 ca, k_X8_stripOf_105 ca, k_X8_stripOf_108 ca, k_X8_stripOf_109 ca, k_X8_stripOf_112 ca, k_X8_stripOf_113 ca, k_X8_stripOf_116 ca, k_X8_stripOf_117 ca, k_X8_stripOf_118 ca, k_X8_stripOf_119 ca, k_X8_stripOf_122 ca, k_X8_stripOf_125 ca, k_X8_stripOf_126 ca, k_X8_stripOf_129 ca, k_X8_stripOf_130 ca, k_X8_stripOf_131 ca, k_X8_stripOf_132 ca, k_X8_stripOf_135 ca, k_X8_stripOf_136 ca, k_X8_stripOf_139 ca, k_X8_stripOf_140 ca, k_X8_stripOf_141 ca, k_X8_stripOf_142 ca, k_X8_stripOf_143 ca, k_X8_stripOf_144 ca, sp_X8_stripAt, s10, y1, y2, y3, em', e0]
        try clear hF hF0 F
        exact hs
      · have y1 : nI (10 + 32 * X) + 5 - 3 = nI (10 + 32 * X + 2) := by rw [show (5 : Int32) = nI 5 from rfl, nI_add, show (3 : Int32) = nI 3 from rfl, sub_nI (by omega)]; exact congrArg nI (by omega)
        have y2 : (nI (10 + 32 * X + 2)).toNatClampNeg = 10 + 32 * X + 2 := tn127 (by omega)
        have y3 : vp_in (nI (10 + 32 * X + 2)) 127 := vp127 (by omega)
        rw [show nI 5 = (5 : Int32) from rfl] at *
        unfold sOf at hs
        rw [if_neg (by decide), if_neg (by decide), if_neg (by decide), if_neg (by decide), if_neg (by decide), show 10 + 32 * X + (5 : Int32).toNatClampNeg - 3 = 10 + 32 * X + 2 from rfl] at hs
        refine goN go (stp []) 160 _ _ _ _ _ _ (fun F hF hF0 => ?_)
        simp only [hF, hF0, ite_not, i_push, i_iload, i_lload, i_aload, i_istore, i_astore, i_lstore, i_iinc, i_bin, i_dv, i_un, i_lbin, i_lsh, i_i2l, i_l2i, i_lcmp, i_dup, i_dup2, i_pop, i_if, i_icmp, i_goto, swG, i_sw, i_getf, i_puti, i_putz, i_putr, i_ald, i_lald, i_aald, i_ast, i_last, i_aast, i_alen, i_new, i_newi, i_newl, i_newq, i_oinit, i_ret, i_zret, i_lret, i_vret, catS, tk, rpush, isO, i_m1, i_m2, i_acopy, i_callV, i_callS, KRet, lget, lput, lputL, lcl0, isL, lv0, List.map_cons, List.map_nil, List.length_cons, List.length_nil, List.cons_append, List.nil_append, Nat.reduceAdd, Nat.reduceSub, Nat.reduceLeDiff, List.replicate_succ, List.replicate_zero, List.getElem?_cons_succ, List.getElem?_cons_zero, List.set_cons_succ, List.set_cons_zero, true_and, and_true, if_true, if_false, ↓reduceIte, Nat.le_refl, Value.category, va_up_app, eq_self, stp, Nat.reduceBEq, Bool.or_false, Bool.false_or, Bool.true_or, Bool.or_true, or_true, true_or, bx_uu, implies_true, true_implies, not_true, not_false_eq_true, false_implies, and_self, Nat.reduceLT, Int32.reduceAdd, Int32.reduceSub, Int32.reduceMul, Int32.reduceLE, Int32.reduceLT, Int32.reduceToNatClampNeg, va_rf_some, Bool.false_eq_true, k_X8_stripOf_0 ca, k_X8_stripOf_1 ca, k_X8_stripOf_4 ca, k_X8_stripOf_7 ca, k_X8_stripOf_8 ca, k_X8_stripOf_9 ca, k_X8_stripOf_11 ca, k_X8_stripOf_14 ca, k_X8_stripOf_17 ca, k_X8_stripOf_19 ca, k_X8_stripOf_20 ca, k_X8_stripOf_21 ca, k_X8_stripOf_84 ca, k_X8_stripOf_85 ca, k_X8_stripOf_86 ca, k_X8_stripOf_89 ca, k_X8_stripOf_90 ca, k_X8_stripOf_91 ca, k_X8_stripOf_92 ca, k_X8_stripOf_95 ca, k_X8_stripOf_96 ca, k_X8_stripOf_97 ca, k_X8_stripOf_98 ca, k_X8_stripOf_101 ca, k_X8_stripOf_102 ca, k_X8_stripOf_103 ca, k_X8_stripOf_104 ca, k_X8_stripOf_105 ca, k_X8_stripOf_108 ca, k_X8_stripOf_109 ca, k_X8_stripOf_112 ca, k_X8_stripOf_113 ca, k_X8_stripOf_116 ca, k_X8_stripOf_117 ca, k_X8_stripOf_118 ca, k_X8_stripOf_119 ca, k_X8_stripOf_122 ca, k_X8_stripOf_125 ca, k_X8_stripOf_126 ca, k_X8_stripOf_129 ca, k_X8_stripOf_130 ca, k_X8_stripOf_131 ca, k_X8_stripOf_132 ca, k_X8_stripOf_135 ca, k_X8_stripOf_136 ca, k_X8_stripOf_139 ca, k_X8_stripOf_140 ca, k_X8_stripOf_141 ca, k_X8_stripOf_142 ca, k_X8_stripOf_143 ca, k_X8_stripOf_144 ca, sp_X8_stripAt, s10, y1, y2, y3, em', e0]
        try clear hF hF0 F
        exact hs
      · have y1 : nI (10 + 32 * X) + 6 - 3 = nI (10 + 32 * X + 3) := by rw [show (6 : Int32) = nI 6 from rfl, nI_add, show (3 : Int32) = nI 3 from rfl, sub_nI (by omega)]; exact congrArg nI (by omega)
        have y2 : (nI (10 + 32 * X + 3)).toNatClampNeg = 10 + 32 * X + 3 := tn127 (by omega)
        have y3 : vp_in (nI (10 + 32 * X + 3)) 127 := vp127 (by omega)
        rw [show nI 6 = (6 : Int32) from rfl] at *
        unfold sOf at hs
        rw [if_neg (by decide), if_neg (by decide), if_neg (by decide), if_neg (by decide), if_neg (by decide), show 10 + 32 * X + (6 : Int32).toNatClampNeg - 3 = 10 + 32 * X + 3 from rfl] at hs
        refine goN go (stp []) 160 _ _ _ _ _ _ (fun F hF hF0 => ?_)
        simp only [hF, hF0, ite_not, i_push, i_iload, i_lload, i_aload, i_istore, i_astore, i_lstore, i_iinc, i_bin, i_dv, i_un, i_lbin, i_lsh, i_i2l, i_l2i, i_lcmp, i_dup, i_dup2, i_pop, i_if, i_icmp, i_goto, swG, i_sw, i_getf, i_puti, i_putz, i_putr, i_ald, i_lald, i_aald, i_ast, i_last, i_aast, i_alen, i_new, i_newi, i_newl, i_newq, i_oinit, i_ret, i_zret, i_lret, i_vret, catS, tk, rpush, isO, i_m1, i_m2, i_acopy, i_callV, i_callS, KRet, lget, lput, lputL, lcl0, isL, lv0, List.map_cons, List.map_nil, List.length_cons, List.length_nil, List.cons_append, List.nil_append, Nat.reduceAdd, Nat.reduceSub, Nat.reduceLeDiff, List.replicate_succ, List.replicate_zero, List.getElem?_cons_succ, List.getElem?_cons_zero, List.set_cons_succ, List.set_cons_zero, true_and, and_true, if_true, if_false, ↓reduceIte, Nat.le_refl, Value.category, va_up_app, eq_self, stp, Nat.reduceBEq, Bool.or_false, Bool.false_or, Bool.true_or, Bool.or_true, or_true, true_or, bx_uu, implies_true, true_implies, not_true, not_false_eq_true, false_implies, and_self, Nat.reduceLT, Int32.reduceAdd, Int32.reduceSub, Int32.reduceMul, Int32.reduceLE, Int32.reduceLT, Int32.reduceToNatClampNeg, va_rf_some, Bool.false_eq_true, k_X8_stripOf_0 ca, k_X8_stripOf_1 ca, k_X8_stripOf_4 ca, k_X8_stripOf_7 ca, k_X8_stripOf_8 ca, k_X8_stripOf_9 ca, k_X8_stripOf_11 ca, k_X8_stripOf_14 ca, k_X8_stripOf_17 ca, k_X8_stripOf_19 ca, k_X8_stripOf_20 ca, k_X8_stripOf_21 ca, k_X8_stripOf_84 ca, k_X8_stripOf_85 ca, k_X8_stripOf_86 ca, k_X8_stripOf_89 ca, k_X8_stripOf_90 ca, k_X8_stripOf_91 ca, k_X8_stripOf_92 ca, k_X8_stripOf_95 ca, k_X8_stripOf_96 ca, k_X8_stripOf_97 ca, k_X8_stripOf_98 ca, k_X8_stripOf_101 ca, k_X8_stripOf_102 ca, k_X8_stripOf_103 ca, k_X8_stripOf_104 ca, k_X8_stripOf_105 ca, k_X8_stripOf_108 ca, k_X8_stripOf_109 ca, k_X8_stripOf_112 ca, k_X8_stripOf_113 ca, k_X8_stripOf_116 ca, k_X8_stripOf_117 ca, k_X8_stripOf_118 ca, k_X8_stripOf_119 ca, k_X8_stripOf_122 ca, k_X8_stripOf_125 ca, k_X8_stripOf_126 ca, k_X8_stripOf_129 ca, k_X8_stripOf_130 ca, k_X8_stripOf_131 ca, k_X8_stripOf_132 ca, k_X8_stripOf_135 ca, k_X8_stripOf_136 ca, k_X8_stripOf_139 ca, k_X8_stripOf_140 ca, k_X8_stripOf_141 ca, k_X8_stripOf_142 ca, k_X8_stripOf_143 ca, k_X8_stripOf_144 ca, sp_X8_stripAt, s10, y1, y2, y3, em', e0]
        try clear hF hF0 F
        exact hs
      · have y1 : nI (10 + 32 * X) + 7 - 3 = nI (10 + 32 * X + 4) := by rw [show (7 : Int32) = nI 7 from rfl, nI_add, show (3 : Int32) = nI 3 from rfl, sub_nI (by omega)]; exact congrArg nI (by omega)
        have y2 : (nI (10 + 32 * X + 4)).toNatClampNeg = 10 + 32 * X + 4 := tn127 (by omega)
        have y3 : vp_in (nI (10 + 32 * X + 4)) 127 := vp127 (by omega)
        rw [show nI 7 = (7 : Int32) from rfl] at *
        unfold sOf at hs
        rw [if_neg (by decide), if_neg (by decide), if_neg (by decide), if_neg (by decide), if_neg (by decide), show 10 + 32 * X + (7 : Int32).toNatClampNeg - 3 = 10 + 32 * X + 4 from rfl] at hs
        refine goN go (stp []) 160 _ _ _ _ _ _ (fun F hF hF0 => ?_)
        simp only [hF, hF0, ite_not, i_push, i_iload, i_lload, i_aload, i_istore, i_astore, i_lstore, i_iinc, i_bin, i_dv, i_un, i_lbin, i_lsh, i_i2l, i_l2i, i_lcmp, i_dup, i_dup2, i_pop, i_if, i_icmp, i_goto, swG, i_sw, i_getf, i_puti, i_putz, i_putr, i_ald, i_lald, i_aald, i_ast, i_last, i_aast, i_alen, i_new, i_newi, i_newl, i_newq, i_oinit, i_ret, i_zret, i_lret, i_vret, catS, tk, rpush, isO, i_m1, i_m2, i_acopy, i_callV, i_callS, KRet, lget, lput, lputL, lcl0, isL, lv0, List.map_cons, List.map_nil, List.length_cons, List.length_nil, List.cons_append, List.nil_append, Nat.reduceAdd, Nat.reduceSub, Nat.reduceLeDiff, List.replicate_succ, List.replicate_zero, List.getElem?_cons_succ, List.getElem?_cons_zero, List.set_cons_succ, List.set_cons_zero, true_and, and_true, if_true, if_false, ↓reduceIte, Nat.le_refl, Value.category, va_up_app, eq_self, stp, Nat.reduceBEq, Bool.or_false, Bool.false_or, Bool.true_or, Bool.or_true, or_true, true_or, bx_uu, implies_true, true_implies, not_true, not_false_eq_true, false_implies, and_self, Nat.reduceLT, Int32.reduceAdd, Int32.reduceSub, Int32.reduceMul, Int32.reduceLE, Int32.reduceLT, Int32.reduceToNatClampNeg, va_rf_some, Bool.false_eq_true, k_X8_stripOf_0 ca, k_X8_stripOf_1 ca, k_X8_stripOf_4 ca, k_X8_stripOf_7 ca, k_X8_stripOf_8 ca, k_X8_stripOf_9 ca, k_X8_stripOf_11 ca, k_X8_stripOf_14 ca, k_X8_stripOf_17 ca, k_X8_stripOf_19 ca, k_X8_stripOf_20 ca, k_X8_stripOf_21 ca, k_X8_stripOf_84 ca, k_X8_stripOf_85 ca, k_X8_stripOf_86 ca, k_X8_stripOf_89 ca, k_X8_stripOf_90 ca, k_X8_stripOf_91 ca, k_X8_stripOf_92 ca, k_X8_stripOf_95 ca, k_X8_stripOf_96 ca, k_X8_stripOf_97 ca, k_X8_stripOf_98 ca, k_X8_stripOf_101 ca, k_X8_stripOf_102 ca, k_X8_stripOf_103 ca, k_X8_stripOf_104 ca, k_X8_stripOf_105 ca, k_X8_stripOf_108 ca, k_X8_stripOf_109 ca, k_X8_stripOf_112 ca, k_X8_stripOf_113 ca, k_X8_stripOf_116 ca, k_X8_stripOf_117 ca, k_X8_stripOf_118 ca, k_X8_stripOf_119 ca, k_X8_stripOf_122 ca, k_X8_stripOf_125 ca, k_X8_stripOf_126 ca, k_X8_stripOf_129 ca, k_X8_stripOf_130 ca, k_X8_stripOf_131 ca, k_X8_stripOf_132 ca, k_X8_stripOf_135 ca, k_X8_stripOf_136 ca, k_X8_stripOf_139 ca, k_X8_stripOf_140 ca, k_X8_stripOf_141 ca, k_X8_stripOf_142 ca, k_X8_stripOf_143 ca, k_X8_stripOf_144 ca, sp_X8_stripAt, s10, y1, y2, y3, em', e0]
        try clear hF hF0 F
        exact hs
      · have y1 : nI (10 + 32 * X) + 8 - 3 = nI (10 + 32 * X + 5) := by rw [show (8 : Int32) = nI 8 from rfl, nI_add, show (3 : Int32) = nI 3 from rfl, sub_nI (by omega)]; exact congrArg nI (by omega)
        have y2 : (nI (10 + 32 * X + 5)).toNatClampNeg = 10 + 32 * X + 5 := tn127 (by omega)
        have y3 : vp_in (nI (10 + 32 * X + 5)) 127 := vp127 (by omega)
        rw [show nI 8 = (8 : Int32) from rfl] at *
        unfold sOf at hs
        rw [if_neg (by decide), if_neg (by decide), if_neg (by decide), if_neg (by decide), if_neg (by decide), show 10 + 32 * X + (8 : Int32).toNatClampNeg - 3 = 10 + 32 * X + 5 from rfl] at hs
        refine goN go (stp []) 160 _ _ _ _ _ _ (fun F hF hF0 => ?_)
        simp only [hF, hF0, ite_not, i_push, i_iload, i_lload, i_aload, i_istore, i_astore, i_lstore, i_iinc, i_bin, i_dv, i_un, i_lbin, i_lsh, i_i2l, i_l2i, i_lcmp, i_dup, i_dup2, i_pop, i_if, i_icmp, i_goto, swG, i_sw, i_getf, i_puti, i_putz, i_putr, i_ald, i_lald, i_aald, i_ast, i_last, i_aast, i_alen, i_new, i_newi, i_newl, i_newq, i_oinit, i_ret, i_zret, i_lret, i_vret, catS, tk, rpush, isO, i_m1, i_m2, i_acopy, i_callV, i_callS, KRet, lget, lput, lputL, lcl0, isL, lv0, List.map_cons, List.map_nil, List.length_cons, List.length_nil, List.cons_append, List.nil_append, Nat.reduceAdd, Nat.reduceSub, Nat.reduceLeDiff, List.replicate_succ, List.replicate_zero, List.getElem?_cons_succ, List.getElem?_cons_zero, List.set_cons_succ, List.set_cons_zero, true_and, and_true, if_true, if_false, ↓reduceIte, Nat.le_refl, Value.category, va_up_app, eq_self, stp, Nat.reduceBEq, Bool.or_false, Bool.false_or, Bool.true_or, Bool.or_true, or_true, true_or, bx_uu, implies_true, true_implies, not_true, not_false_eq_true, false_implies, and_self, Nat.reduceLT, Int32.reduceAdd, Int32.reduceSub, Int32.reduceMul, Int32.reduceLE, Int32.reduceLT, Int32.reduceToNatClampNeg, va_rf_some, Bool.false_eq_true, k_X8_stripOf_0 ca, k_X8_stripOf_1 ca, k_X8_stripOf_4 ca, k_X8_stripOf_7 ca, k_X8_stripOf_8 ca, k_X8_stripOf_9 ca, k_X8_stripOf_11 ca, k_X8_stripOf_14 ca, k_X8_stripOf_17 ca, k_X8_stripOf_19 ca, k_X8_stripOf_20 ca, k_X8_stripOf_21 ca, k_X8_stripOf_84 ca, k_X8_stripOf_85 ca, k_X8_stripOf_86 ca, k_X8_stripOf_89 ca, k_X8_stripOf_90 ca, k_X8_stripOf_91 ca, k_X8_stripOf_92 ca, k_X8_stripOf_95 ca, k_X8_stripOf_96 ca, k_X8_stripOf_97 ca, k_X8_stripOf_98 ca, k_X8_stripOf_101 ca, k_X8_stripOf_102 ca, k_X8_stripOf_103 ca, k_X8_stripOf_104 ca, k_X8_stripOf_105 ca, k_X8_stripOf_108 ca, k_X8_stripOf_109 ca, k_X8_stripOf_112 ca, k_X8_stripOf_113 ca, k_X8_stripOf_116 ca, k_X8_stripOf_117 ca, k_X8_stripOf_118 ca, k_X8_stripOf_119 ca, k_X8_stripOf_122 ca, k_X8_stripOf_125 ca, k_X8_stripOf_126 ca, k_X8_stripOf_129 ca, k_X8_stripOf_130 ca, k_X8_stripOf_131 ca, k_X8_stripOf_132 ca, k_X8_stripOf_135 ca, k_X8_stripOf_136 ca, k_X8_stripOf_139 ca, k_X8_stripOf_140 ca, k_X8_stripOf_141 ca, k_X8_stripOf_142 ca, k_X8_stripOf_143 ca, k_X8_stripOf_144 ca, sp_X8_stripAt, s10, y1, y2, y3, em', e0]
        try clear hF hF0 F
        exact hs
      · have y1 : nI (10 + 32 * X) + 9 - 3 = nI (10 + 32 * X + 6) := by rw [show (9 : Int32) = nI 9 from rfl, nI_add, show (3 : Int32) = nI 3 from rfl, sub_nI (by omega)]; exact congrArg nI (by omega)
        have y2 : (nI (10 + 32 * X + 6)).toNatClampNeg = 10 + 32 * X + 6 := tn127 (by omega)
        have y3 : vp_in (nI (10 + 32 * X + 6)) 127 := vp127 (by omega)
        rw [show nI 9 = (9 : Int32) from rfl] at *
        unfold sOf at hs
        rw [if_neg (by decide), if_neg (by decide), if_neg (by decide), if_neg (by decide), if_neg (by decide), show 10 + 32 * X + (9 : Int32).toNatClampNeg - 3 = 10 + 32 * X + 6 from rfl] at hs
        refine goN go (stp []) 160 _ _ _ _ _ _ (fun F hF hF0 => ?_)
        simp only [hF, hF0, ite_not, i_push, i_iload, i_lload, i_aload, i_istore, i_astore, i_lstore, i_iinc, i_bin, i_dv, i_un, i_lbin, i_lsh, i_i2l, i_l2i, i_lcmp, i_dup, i_dup2, i_pop, i_if, i_icmp, i_goto, swG, i_sw, i_getf, i_puti, i_putz, i_putr, i_ald, i_lald, i_aald, i_ast, i_last, i_aast, i_alen, i_new, i_newi, i_newl, i_newq, i_oinit, i_ret, i_zret, i_lret, i_vret, catS, tk, rpush, isO, i_m1, i_m2, i_acopy, i_callV, i_callS, KRet, lget, lput, lputL, lcl0, isL, lv0, List.map_cons, List.map_nil, List.length_cons, List.length_nil, List.cons_append, List.nil_append, Nat.reduceAdd, Nat.reduceSub, Nat.reduceLeDiff, List.replicate_succ, List.replicate_zero, List.getElem?_cons_succ, List.getElem?_cons_zero, List.set_cons_succ, List.set_cons_zero, true_and, and_true, if_true, if_false, ↓reduceIte, Nat.le_refl, Value.category, va_up_app, eq_self, stp, Nat.reduceBEq, Bool.or_false, Bool.false_or, Bool.true_or, Bool.or_true, or_true, true_or, bx_uu, implies_true, true_implies, not_true, not_false_eq_true, false_implies, and_self, Nat.reduceLT, Int32.reduceAdd, Int32.reduceSub, Int32.reduceMul, Int32.reduceLE, Int32.reduceLT, Int32.reduceToNatClampNeg, va_rf_some, Bool.false_eq_true, k_X8_stripOf_0 ca, k_X8_stripOf_1 ca, k_X8_stripOf_4 ca, k_X8_stripOf_7 ca, k_X8_stripOf_8 ca, k_X8_stripOf_9 ca, k_X8_stripOf_11 ca, k_X8_stripOf_14 ca, k_X8_stripOf_17 ca, k_X8_stripOf_19 ca, k_X8_stripOf_20 ca, k_X8_stripOf_21 ca, k_X8_stripOf_84 ca, k_X8_stripOf_85 ca, k_X8_stripOf_86 ca, k_X8_stripOf_89 ca, k_X8_stripOf_90 ca, k_X8_stripOf_91 ca, k_X8_stripOf_92 ca, k_X8_stripOf_95 ca, k_X8_stripOf_96 ca, k_X8_stripOf_97 ca, k_X8_stripOf_98 ca, k_X8_stripOf_101 ca, k_X8_stripOf_102 ca, k_X8_stripOf_103 ca, k_X8_stripOf_104 ca, k_X8_stripOf_105 ca, k_X8_stripOf_108 ca, k_X8_stripOf_109 ca, k_X8_stripOf_112 ca, k_X8_stripOf_113 ca, k_X8_stripOf_116 ca, k_X8_stripOf_117 ca, k_X8_stripOf_118 ca, k_X8_stripOf_119 ca, k_X8_stripOf_122 ca, k_X8_stripOf_125 ca, k_X8_stripOf_126 ca, k_X8_stripOf_129 ca, k_X8_stripOf_130 ca, k_X8_stripOf_131 ca, k_X8_stripOf_132 ca, k_X8_stripOf_135 ca, k_X8_stripOf_136 ca, k_X8_stripOf_139 ca, k_X8_stripOf_140 ca, k_X8_stripOf_141 ca, k_X8_stripOf_142 ca, k_X8_stripOf_143 ca, k_X8_stripOf_144 ca, sp_X8_stripAt, s10, y1, y2, y3, em', e0]
        try clear hF hF0 F
        exact hs
      · have y1 : nI (10 + 32 * X) + 10 - 3 = nI (10 + 32 * X + 7) := by rw [show (10 : Int32) = nI 10 from rfl, nI_add, show (3 : Int32) = nI 3 from rfl, sub_nI (by omega)]; exact congrArg nI (by omega)
        have y2 : (nI (10 + 32 * X + 7)).toNatClampNeg = 10 + 32 * X + 7 := tn127 (by omega)
        have y3 : vp_in (nI (10 + 32 * X + 7)) 127 := vp127 (by omega)
        rw [show nI 10 = (10 : Int32) from rfl] at *
        unfold sOf at hs
        rw [if_neg (by decide), if_neg (by decide), if_neg (by decide), if_neg (by decide), if_neg (by decide), show 10 + 32 * X + (10 : Int32).toNatClampNeg - 3 = 10 + 32 * X + 7 from rfl] at hs
        refine goN go (stp []) 160 _ _ _ _ _ _ (fun F hF hF0 => ?_)
        simp only [hF, hF0, ite_not, i_push, i_iload, i_lload, i_aload, i_istore, i_astore, i_lstore, i_iinc, i_bin, i_dv, i_un, i_lbin, i_lsh, i_i2l, i_l2i, i_lcmp, i_dup, i_dup2, i_pop, i_if, i_icmp, i_goto, swG, i_sw, i_getf, i_puti, i_putz, i_putr, i_ald, i_lald, i_aald, i_ast, i_last, i_aast, i_alen, i_new, i_newi, i_newl, i_newq, i_oinit, i_ret, i_zret, i_lret, i_vret, catS, tk, rpush, isO, i_m1, i_m2, i_acopy, i_callV, i_callS, KRet, lget, lput, lputL, lcl0, isL, lv0, List.map_cons, List.map_nil, List.length_cons, List.length_nil, List.cons_append, List.nil_append, Nat.reduceAdd, Nat.reduceSub, Nat.reduceLeDiff, List.replicate_succ, List.replicate_zero, List.getElem?_cons_succ, List.getElem?_cons_zero, List.set_cons_succ, List.set_cons_zero, true_and, and_true, if_true, if_false, ↓reduceIte, Nat.le_refl, Value.category, va_up_app, eq_self, stp, Nat.reduceBEq, Bool.or_false, Bool.false_or, Bool.true_or, Bool.or_true, or_true, true_or, bx_uu, implies_true, true_implies, not_true, not_false_eq_true, false_implies, and_self, Nat.reduceLT, Int32.reduceAdd, Int32.reduceSub, Int32.reduceMul, Int32.reduceLE, Int32.reduceLT, Int32.reduceToNatClampNeg, va_rf_some, Bool.false_eq_true, k_X8_stripOf_0 ca, k_X8_stripOf_1 ca, k_X8_stripOf_4 ca, k_X8_stripOf_7 ca, k_X8_stripOf_8 ca, k_X8_stripOf_9 ca, k_X8_stripOf_11 ca, k_X8_stripOf_14 ca, k_X8_stripOf_17 ca, k_X8_stripOf_19 ca, k_X8_stripOf_20 ca, k_X8_stripOf_21 ca, k_X8_stripOf_84 ca, k_X8_stripOf_85 ca, k_X8_stripOf_86 ca, k_X8_stripOf_89 ca, k_X8_stripOf_90 ca, k_X8_stripOf_91 ca, k_X8_stripOf_92 ca, k_X8_stripOf_95 ca, k_X8_stripOf_96 ca, k_X8_stripOf_97 ca, k_X8_stripOf_98 ca, k_X8_stripOf_101 ca, k_X8_stripOf_102 ca, k_X8_stripOf_103 ca, k_X8_stripOf_104 ca, k_X8_stripOf_105 ca, k_X8_stripOf_108 ca, k_X8_stripOf_109 ca, k_X8_stripOf_112 ca, k_X8_stripOf_113 ca, k_X8_stripOf_116 ca, k_X8_stripOf_117 ca, k_X8_stripOf_118 ca, k_X8_stripOf_119 ca, k_X8_stripOf_122 ca, k_X8_stripOf_125 ca, k_X8_stripOf_126 ca, k_X8_stripOf_129 ca, k_X8_stripOf_130 ca, k_X8_stripOf_131 ca, k_X8_stripOf_132 ca, k_X8_stripOf_135 ca, k_X8_stripOf_136 ca, k_X8_stripOf_139 ca, k_X8_stripOf_140 ca, k_X8_stripOf_141 ca, k_X8_stripOf_142 ca, k_X8_stripOf_143 ca, k_X8_stripOf_144 ca, sp_X8_stripAt, s10, y1, y2, y3, em', e0]
        try clear hF hF0 F
        exact hs
def pOf (s : Nat → Int32) (o I W : Nat) : Int32 := if W = 3 then rateP (fun i => s (o + (8 + 3 * i))) (fun i => s (o + (9 + 3 * i))) (fun i => s (o + (10 + 3 * i))) s I else s (o + 8 + 3 * I + W)
def aPartOf (s : Nat → Int32) (x i w : Int32) : Int32 := if isIn x 0 2 = true then (if isIn w 0 3 = true then (if i < 0 then -10000001 else if s (10 + 32 * x.toNatClampNeg) ≤ i then -10000004 else pOf s (10 + 32 * x.toNatClampNeg) i.toNatClampNeg w.toNatClampNeg) else -10000001) else -10000001
def sp_X8_partOf (ca : Nat → ClassId) : SPEC := fun av h post => ∃ m a s p t f n x i w, av = [.ref m, .int x, .int i, .int w] ∧ RAt ca h m a s p t f n ∧ WfS s ∧ post (some (.int (aPartOf s x i w))) h
def k_X8_partOf (ca : Nat → ClassId) : Nat → IT := fun pc => lk pc [(0, i_iload 1 1),
  (1, i_callS 1 0 0 0 0 (sp_X8_isOne ca) 4),
  (4, i_if (fun x => x = 0) 20 7),
  (7, i_iload 3 8),
  (8, i_push (.int 0) 9),
  (9, i_push (.int 3) 10),
  (10, i_callS 3 0 0 0 0 (sp_X8_in ca) 13),
  (13, i_if (fun x => x = 0) 20 16),
  (16, i_iload 2 17),
  (17, i_if (fun x => 0 ≤ x) 23 20),
  (20, i_push (.int (-10000001)) 22),
  (22, i_ret),
  (23, i_iload 2 24),
  (24, i_aload 0 25),
  (25, i_iload 1 26),
  (26, i_callV 8 1 0 0 0 0 (sp_X8_many ca) 29),
  (29, i_icmp (fun x y => x < y) 35 32),
  (32, i_push (.int (-10000004)) 34),
  (34, i_ret),
  (35, i_iload 3 36),
  (36, i_push (.int 3) 37),
  (37, i_icmp (fun x y => ¬ x = y) 49 40),
  (40, i_aload 0 41),
  (41, i_iload 1 42),
  (42, i_iload 2 43),
  (43, i_callV 8 2 0 0 0 0 (sp_X8_bendOfPart ca) 46),
  (46, i_goto 56),
  (49, i_aload 0 50),
  (50, i_iload 1 51),
  (51, i_iload 2 52),
  (52, i_iload 3 53),
  (53, i_callV 8 3 0 0 0 0 (sp_X8_partOfStrip ca) 56),
  (56, i_ret)]
set_option maxRecDepth 20000 in
theorem t_X8_partOf : Tb k_X8_partOf yX8_partOf cX8_partOf 4 (some .int) 3 0 0 := by
  intro l D ca A p e s m args below meth c post X
  unfold k_X8_partOf
  refine snd_cons (snd_iload_n X dX8_partOf_0 rfl) ?_
  refine snd_cons (snd_callS X (ok_X8_isOne l D ca) rfl rfl w_722 w_723 w_9 w_724 (by decide) (by decide) dX8_partOf_1) ?_
  refine snd_cons (snd_if_eq X dX8_partOf_4 (by decide)) ?_
  refine snd_cons (snd_iload_n X dX8_partOf_7 rfl) ?_
  refine snd_cons (snd_iconst X dX8_partOf_8 (by decide)) ?_
  refine snd_cons (snd_iconst X dX8_partOf_9 (by decide)) ?_
  refine snd_cons (snd_callS X (ok_X8_in l D ca) rfl rfl w_702 w_703 w_9 w_704 (by decide) (by decide) dX8_partOf_10) ?_
  refine snd_cons (snd_if_eq X dX8_partOf_13 (by decide)) ?_
  refine snd_cons (snd_iload_n X dX8_partOf_16 rfl) ?_
  refine snd_cons (snd_if_ge X dX8_partOf_17 (by decide)) ?_
  refine snd_cons (snd_ldc X w_709 dX8_partOf_20) ?_
  refine snd_cons (snd_ret X dX8_partOf_22) ?_
  refine snd_cons (snd_iload_n X dX8_partOf_23 rfl) ?_
  refine snd_cons (snd_aload_n X dX8_partOf_24 rfl) ?_
  refine snd_cons (snd_iload_n X dX8_partOf_25 rfl) ?_
  refine snd_cons (snd_callV X Fk8 (ok_X8_many l D ca) rfl rfl w_732 w_734 wp_21 w_9 w_735 (by decide) (by decide) dX8_partOf_26) ?_
  refine snd_cons (snd_icmp_lt X dX8_partOf_29 (by decide)) ?_
  refine snd_cons (snd_ldc X w_857 dX8_partOf_32) ?_
  refine snd_cons (snd_ret X dX8_partOf_34) ?_
  refine snd_cons (snd_iload_n X dX8_partOf_35 rfl) ?_
  refine snd_cons (snd_iconst X dX8_partOf_36 (by decide)) ?_
  refine snd_cons (snd_icmp_ne X dX8_partOf_37 (by decide)) ?_
  refine snd_cons (snd_aload_n X dX8_partOf_40 rfl) ?_
  refine snd_cons (snd_iload_n X dX8_partOf_41 rfl) ?_
  refine snd_cons (snd_iload_n X dX8_partOf_42 rfl) ?_
  refine snd_cons (snd_callV X Fk8 (ok_X8_bendOfPart l D ca) rfl rfl w_766 w_768 wp_26 w_9 w_769 (by decide) (by decide) dX8_partOf_43) ?_
  refine snd_cons (snd_goto X dX8_partOf_46 (by decide)) ?_
  refine snd_cons (snd_aload_n X dX8_partOf_49 rfl) ?_
  refine snd_cons (snd_iload_n X dX8_partOf_50 rfl) ?_
  refine snd_cons (snd_iload_n X dX8_partOf_51 rfl) ?_
  refine snd_cons (snd_iload_n X dX8_partOf_52 rfl) ?_
  refine snd_cons (snd_callV X Fk8 (ok_X8_partOfStrip l D ca) rfl rfl w_770 w_772 wp_27 w_9 w_773 (by decide) (by decide) dX8_partOf_53) ?_
  refine snd_cons (snd_ret X dX8_partOf_56) ?_
  exact snd_nil
theorem k_X8_partOf_0 (ca : Nat → ClassId) : k_X8_partOf ca 0 = i_iload 1 1 := rfl
theorem k_X8_partOf_1 (ca : Nat → ClassId) : k_X8_partOf ca 1 = i_callS 1 0 0 0 0 (sp_X8_isOne ca) 4 := rfl
theorem k_X8_partOf_4 (ca : Nat → ClassId) : k_X8_partOf ca 4 = i_if (fun x => x = 0) 20 7 := rfl
theorem k_X8_partOf_7 (ca : Nat → ClassId) : k_X8_partOf ca 7 = i_iload 3 8 := rfl
theorem k_X8_partOf_8 (ca : Nat → ClassId) : k_X8_partOf ca 8 = i_push (.int 0) 9 := rfl
theorem k_X8_partOf_9 (ca : Nat → ClassId) : k_X8_partOf ca 9 = i_push (.int 3) 10 := rfl
theorem k_X8_partOf_10 (ca : Nat → ClassId) : k_X8_partOf ca 10 = i_callS 3 0 0 0 0 (sp_X8_in ca) 13 := rfl
theorem k_X8_partOf_13 (ca : Nat → ClassId) : k_X8_partOf ca 13 = i_if (fun x => x = 0) 20 16 := rfl
theorem k_X8_partOf_16 (ca : Nat → ClassId) : k_X8_partOf ca 16 = i_iload 2 17 := rfl
theorem k_X8_partOf_17 (ca : Nat → ClassId) : k_X8_partOf ca 17 = i_if (fun x => 0 ≤ x) 23 20 := rfl
theorem k_X8_partOf_20 (ca : Nat → ClassId) : k_X8_partOf ca 20 = i_push (.int (-10000001)) 22 := rfl
theorem k_X8_partOf_22 (ca : Nat → ClassId) : k_X8_partOf ca 22 = i_ret := rfl
theorem k_X8_partOf_23 (ca : Nat → ClassId) : k_X8_partOf ca 23 = i_iload 2 24 := rfl
theorem k_X8_partOf_24 (ca : Nat → ClassId) : k_X8_partOf ca 24 = i_aload 0 25 := rfl
theorem k_X8_partOf_25 (ca : Nat → ClassId) : k_X8_partOf ca 25 = i_iload 1 26 := rfl
theorem k_X8_partOf_26 (ca : Nat → ClassId) : k_X8_partOf ca 26 = i_callV 8 1 0 0 0 0 (sp_X8_many ca) 29 := rfl
theorem k_X8_partOf_29 (ca : Nat → ClassId) : k_X8_partOf ca 29 = i_icmp (fun x y => x < y) 35 32 := rfl
theorem k_X8_partOf_32 (ca : Nat → ClassId) : k_X8_partOf ca 32 = i_push (.int (-10000004)) 34 := rfl
theorem k_X8_partOf_34 (ca : Nat → ClassId) : k_X8_partOf ca 34 = i_ret := rfl
theorem k_X8_partOf_35 (ca : Nat → ClassId) : k_X8_partOf ca 35 = i_iload 3 36 := rfl
theorem k_X8_partOf_36 (ca : Nat → ClassId) : k_X8_partOf ca 36 = i_push (.int 3) 37 := rfl
theorem k_X8_partOf_37 (ca : Nat → ClassId) : k_X8_partOf ca 37 = i_icmp (fun x y => ¬ x = y) 49 40 := rfl
theorem k_X8_partOf_40 (ca : Nat → ClassId) : k_X8_partOf ca 40 = i_aload 0 41 := rfl
theorem k_X8_partOf_41 (ca : Nat → ClassId) : k_X8_partOf ca 41 = i_iload 1 42 := rfl
theorem k_X8_partOf_42 (ca : Nat → ClassId) : k_X8_partOf ca 42 = i_iload 2 43 := rfl
theorem k_X8_partOf_43 (ca : Nat → ClassId) : k_X8_partOf ca 43 = i_callV 8 2 0 0 0 0 (sp_X8_bendOfPart ca) 46 := rfl
theorem k_X8_partOf_46 (ca : Nat → ClassId) : k_X8_partOf ca 46 = i_goto 56 := rfl
theorem k_X8_partOf_49 (ca : Nat → ClassId) : k_X8_partOf ca 49 = i_aload 0 50 := rfl
theorem k_X8_partOf_50 (ca : Nat → ClassId) : k_X8_partOf ca 50 = i_iload 1 51 := rfl
theorem k_X8_partOf_51 (ca : Nat → ClassId) : k_X8_partOf ca 51 = i_iload 2 52 := rfl
theorem k_X8_partOf_52 (ca : Nat → ClassId) : k_X8_partOf ca 52 = i_iload 3 53 := rfl
theorem k_X8_partOf_53 (ca : Nat → ClassId) : k_X8_partOf ca 53 = i_callV 8 3 0 0 0 0 (sp_X8_partOfStrip ca) 56 := rfl
theorem k_X8_partOf_56 (ca : Nat → ClassId) : k_X8_partOf ca 56 = i_ret := rfl
set_option maxHeartbeats 4000000 in
set_option maxRecDepth 20000 in
theorem ok_X8_partOf (l : Launch) (D : va_G) (ca : Nat → ClassId) : OkAll l D ca yX8_partOf cX8_partOf 4 (some .int) 3 0 0 (sp_X8_partOf ca) := by
  intro av h post hs
  obtain ⟨m, a, s, p, t, f, n, x, i, w, rfl, ⟨g, hR⟩, hW, hs⟩ := hs
  obtain ⟨fm, at', re, bd, kp, ks, iw, ip, fo, em, e0, -⟩ := id hR
  have em' := em
  unfold eMod at em'
  unfold aPartOf at hs
  refine okM_of t_X8_partOf (by decide +kernel) (c1_ref (c1_int (c1_int (c1_int c1_nil)))) (Nat.le_of_ble_eq_true rfl) ?_
  intro K go
  cases q1 : isIn x 0 2 with
  | false =>
    rw [q1, if_neg (by decide)] at hs
    refine goN go (stp []) 160 _ _ _ _ _ _ (fun F hF hF0 => ?_)
    simp only [hF, hF0, ite_not, i_push, i_iload, i_lload, i_aload, i_istore, i_astore, i_lstore, i_iinc, i_bin, i_dv, i_un, i_lbin, i_lsh, i_i2l, i_l2i, i_lcmp, i_dup, i_dup2, i_pop, i_if, i_icmp, i_goto, swG, i_sw, i_getf, i_puti, i_putz, i_putr, i_ald, i_lald, i_aald, i_ast, i_last, i_aast, i_alen, i_new, i_newi, i_newl, i_newq, i_oinit, i_ret, i_zret, i_lret, i_vret, catS, tk, rpush, isO, i_m1, i_m2, i_acopy, i_callV, i_callS, KRet, lget, lput, lputL, lcl0, isL, lv0, List.map_cons, List.map_nil, List.length_cons, List.length_nil, List.cons_append, List.nil_append, Nat.reduceAdd, Nat.reduceSub, Nat.reduceLeDiff, List.replicate_succ, List.replicate_zero, List.getElem?_cons_succ, List.getElem?_cons_zero, List.set_cons_succ, List.set_cons_zero, true_and, and_true, if_true, if_false, ↓reduceIte, Nat.le_refl, Value.category, va_up_app, eq_self, stp, Nat.reduceBEq, Bool.or_false, Bool.false_or, Bool.true_or, Bool.or_true, or_true, true_or, bx_uu, implies_true, true_implies, not_true, not_false_eq_true, false_implies, and_self, Nat.reduceLT, Int32.reduceAdd, Int32.reduceSub, Int32.reduceMul, Int32.reduceLE, Int32.reduceLT, Int32.reduceToNatClampNeg, va_rf_some, Bool.false_eq_true, k_X8_partOf_0 ca, k_X8_partOf_1 ca, k_X8_partOf_4 ca, k_X8_partOf_7 ca, k_X8_partOf_8 ca, k_X8_partOf_9 ca, k_X8_partOf_10 ca, k_X8_partOf_13 ca, k_X8_partOf_16 ca, k_X8_partOf_17 ca, k_X8_partOf_20 ca, k_X8_partOf_22 ca, k_X8_partOf_23 ca, k_X8_partOf_24 ca, k_X8_partOf_25 ca, k_X8_partOf_26 ca, k_X8_partOf_29 ca, k_X8_partOf_32 ca, k_X8_partOf_34 ca, k_X8_partOf_35 ca, k_X8_partOf_36 ca, k_X8_partOf_37 ca, k_X8_partOf_40 ca, k_X8_partOf_41 ca, k_X8_partOf_42 ca, k_X8_partOf_43 ca, k_X8_partOf_46 ca, k_X8_partOf_49 ca, k_X8_partOf_50 ca, k_X8_partOf_51 ca, k_X8_partOf_52 ca, k_X8_partOf_53 ca, k_X8_partOf_56 ca, sp_X8_isOne, sp_X7_isRoom, q1, b2i_f]
    try clear hF hF0 F
    exact hs
  | true =>
    rw [q1, if_pos rfl] at hs
    cases q2 : isIn w 0 3 with
    | false =>
      rw [q2, if_neg (by decide)] at hs
      refine goN go (stp []) 160 _ _ _ _ _ _ (fun F hF hF0 => ?_)
      simp only [hF, hF0, ite_not, i_push, i_iload, i_lload, i_aload, i_istore, i_astore, i_lstore, i_iinc, i_bin, i_dv, i_un, i_lbin, i_lsh, i_i2l, i_l2i, i_lcmp, i_dup, i_dup2, i_pop, i_if, i_icmp, i_goto, swG, i_sw, i_getf, i_puti, i_putz, i_putr, i_ald, i_lald, i_aald, i_ast, i_last, i_aast, i_alen, i_new, i_newi, i_newl, i_newq, i_oinit, i_ret, i_zret, i_lret, i_vret, catS, tk, rpush, isO, i_m1, i_m2, i_acopy, i_callV, i_callS, KRet, lget, lput, lputL, lcl0, isL, lv0, List.map_cons, List.map_nil, List.length_cons, List.length_nil, List.cons_append, List.nil_append, Nat.reduceAdd, Nat.reduceSub, Nat.reduceLeDiff, List.replicate_succ, List.replicate_zero, List.getElem?_cons_succ, List.getElem?_cons_zero, List.set_cons_succ, List.set_cons_zero, true_and, and_true, if_true, if_false, ↓reduceIte, Nat.le_refl, Value.category, va_up_app, eq_self, stp, Nat.reduceBEq, Bool.or_false, Bool.false_or, Bool.true_or, Bool.or_true, or_true, true_or, bx_uu, implies_true, true_implies, not_true, not_false_eq_true, false_implies, and_self, Nat.reduceLT, Int32.reduceAdd, Int32.reduceSub, Int32.reduceMul, Int32.reduceLE, Int32.reduceLT, Int32.reduceToNatClampNeg, va_rf_some, Bool.false_eq_true, k_X8_partOf_0 ca, k_X8_partOf_1 ca, k_X8_partOf_4 ca, k_X8_partOf_7 ca, k_X8_partOf_8 ca, k_X8_partOf_9 ca, k_X8_partOf_10 ca, k_X8_partOf_13 ca, k_X8_partOf_16 ca, k_X8_partOf_17 ca, k_X8_partOf_20 ca, k_X8_partOf_22 ca, k_X8_partOf_23 ca, k_X8_partOf_24 ca, k_X8_partOf_25 ca, k_X8_partOf_26 ca, k_X8_partOf_29 ca, k_X8_partOf_32 ca, k_X8_partOf_34 ca, k_X8_partOf_35 ca, k_X8_partOf_36 ca, k_X8_partOf_37 ca, k_X8_partOf_40 ca, k_X8_partOf_41 ca, k_X8_partOf_42 ca, k_X8_partOf_43 ca, k_X8_partOf_46 ca, k_X8_partOf_49 ca, k_X8_partOf_50 ca, k_X8_partOf_51 ca, k_X8_partOf_52 ca, k_X8_partOf_53 ca, k_X8_partOf_56 ca, sp_X8_isOne, sp_X7_isRoom, sp_X8_in, sp_X7_isWithin, q1, q2, b2i_f, b2i_t, one0]
      try clear hF hF0 F
      exact hs
    | true =>
      rw [q2, if_pos rfl] at hs
      by_cases q3 : i < 0
      · rw [if_pos q3] at hs
        have g3 : (0 ≤ i) = False := eq_false (Int32.not_le.mpr q3)
        refine goN go (stp []) 160 _ _ _ _ _ _ (fun F hF hF0 => ?_)
        simp only [hF, hF0, ite_not, i_push, i_iload, i_lload, i_aload, i_istore, i_astore, i_lstore, i_iinc, i_bin, i_dv, i_un, i_lbin, i_lsh, i_i2l, i_l2i, i_lcmp, i_dup, i_dup2, i_pop, i_if, i_icmp, i_goto, swG, i_sw, i_getf, i_puti, i_putz, i_putr, i_ald, i_lald, i_aald, i_ast, i_last, i_aast, i_alen, i_new, i_newi, i_newl, i_newq, i_oinit, i_ret, i_zret, i_lret, i_vret, catS, tk, rpush, isO, i_m1, i_m2, i_acopy, i_callV, i_callS, KRet, lget, lput, lputL, lcl0, isL, lv0, List.map_cons, List.map_nil, List.length_cons, List.length_nil, List.cons_append, List.nil_append, Nat.reduceAdd, Nat.reduceSub, Nat.reduceLeDiff, List.replicate_succ, List.replicate_zero, List.getElem?_cons_succ, List.getElem?_cons_zero, List.set_cons_succ, List.set_cons_zero, true_and, and_true, if_true, if_false, ↓reduceIte, Nat.le_refl, Value.category, va_up_app, eq_self, stp, Nat.reduceBEq, Bool.or_false, Bool.false_or, Bool.true_or, Bool.or_true, or_true, true_or, bx_uu, implies_true, true_implies, not_true, not_false_eq_true, false_implies, and_self, Nat.reduceLT, Int32.reduceAdd, Int32.reduceSub, Int32.reduceMul, Int32.reduceLE, Int32.reduceLT, Int32.reduceToNatClampNeg, va_rf_some, Bool.false_eq_true, k_X8_partOf_0 ca, k_X8_partOf_1 ca, k_X8_partOf_4 ca, k_X8_partOf_7 ca, k_X8_partOf_8 ca, k_X8_partOf_9 ca, k_X8_partOf_10 ca, k_X8_partOf_13 ca, k_X8_partOf_16 ca, k_X8_partOf_17 ca, k_X8_partOf_20 ca, k_X8_partOf_22 ca, k_X8_partOf_23 ca, k_X8_partOf_24 ca, k_X8_partOf_25 ca, k_X8_partOf_26 ca, k_X8_partOf_29 ca, k_X8_partOf_32 ca, k_X8_partOf_34 ca, k_X8_partOf_35 ca, k_X8_partOf_36 ca, k_X8_partOf_37 ca, k_X8_partOf_40 ca, k_X8_partOf_41 ca, k_X8_partOf_42 ca, k_X8_partOf_43 ca, k_X8_partOf_46 ca, k_X8_partOf_49 ca, k_X8_partOf_50 ca, k_X8_partOf_51 ca, k_X8_partOf_52 ca, k_X8_partOf_53 ca, k_X8_partOf_56 ca, sp_X8_isOne, sp_X7_isRoom, sp_X8_in, sp_X7_isWithin, q1, q2, b2i_t, one0, g3]
        try clear hF hF0 F
        exact hs
      · rw [if_neg q3] at hs
        have g3 : (0 ≤ i) = True := eq_true (Int32.not_lt.mp q3)
        obtain ⟨X, hX, rfl⟩ := isIn0 (B := 2) rfl q1
        have xx : (nI X).toNatClampNeg = X := tn127 (by omega)
        rw [xx] at hs
        have Wk := hW.k (k := X) (by omega)
        obtain ⟨hN, hN8⟩ := Wk.n
        generalize hNN : (s (10 + 32 * X)).toNatClampNeg = N at *
        have x0 : (nI (10 + 32 * X)).toNatClampNeg = 10 + 32 * X := tn127 (by omega)
        have v0 : vp_in (nI (10 + 32 * X)) 127 := vp127 (by omega)
        obtain ⟨J, hJ, rfl, eJ⟩ := tnI q3
        by_cases q4 : s (10 + 32 * X) ≤ nI J
        · rw [if_pos q4] at hs
          have g4 : (nI J < s (10 + 32 * X)) = False := eq_false (Int32.not_lt.mpr q4)
          refine goN go (stp []) 160 _ _ _ _ _ _ (fun F hF hF0 => ?_)
          simp only [hF, hF0, ite_not, i_push, i_iload, i_lload, i_aload, i_istore, i_astore, i_lstore, i_iinc, i_bin, i_dv, i_un, i_lbin, i_lsh, i_i2l, i_l2i, i_lcmp, i_dup, i_dup2, i_pop, i_if, i_icmp, i_goto, swG, i_sw, i_getf, i_puti, i_putz, i_putr, i_ald, i_lald, i_aald, i_ast, i_last, i_aast, i_alen, i_new, i_newi, i_newl, i_newq, i_oinit, i_ret, i_zret, i_lret, i_vret, catS, tk, rpush, isO, i_m1, i_m2, i_acopy, i_callV, i_callS, KRet, lget, lput, lputL, lcl0, isL, lv0, List.map_cons, List.map_nil, List.length_cons, List.length_nil, List.cons_append, List.nil_append, Nat.reduceAdd, Nat.reduceSub, Nat.reduceLeDiff, List.replicate_succ, List.replicate_zero, List.getElem?_cons_succ, List.getElem?_cons_zero, List.set_cons_succ, List.set_cons_zero, true_and, and_true, if_true, if_false, ↓reduceIte, Nat.le_refl, Value.category, va_up_app, eq_self, stp, Nat.reduceBEq, Bool.or_false, Bool.false_or, Bool.true_or, Bool.or_true, or_true, true_or, bx_uu, implies_true, true_implies, not_true, not_false_eq_true, false_implies, and_self, Nat.reduceLT, Int32.reduceAdd, Int32.reduceSub, Int32.reduceMul, Int32.reduceLE, Int32.reduceLT, Int32.reduceToNatClampNeg, va_rf_some, Bool.false_eq_true, k_X8_partOf_0 ca, k_X8_partOf_1 ca, k_X8_partOf_4 ca, k_X8_partOf_7 ca, k_X8_partOf_8 ca, k_X8_partOf_9 ca, k_X8_partOf_10 ca, k_X8_partOf_13 ca, k_X8_partOf_16 ca, k_X8_partOf_17 ca, k_X8_partOf_20 ca, k_X8_partOf_22 ca, k_X8_partOf_23 ca, k_X8_partOf_24 ca, k_X8_partOf_25 ca, k_X8_partOf_26 ca, k_X8_partOf_29 ca, k_X8_partOf_32 ca, k_X8_partOf_34 ca, k_X8_partOf_35 ca, k_X8_partOf_36 ca, k_X8_partOf_37 ca, k_X8_partOf_40 ca, k_X8_partOf_41 ca, k_X8_partOf_42 ca, k_X8_partOf_43 ca, k_X8_partOf_46 ca, k_X8_partOf_49 ca, k_X8_partOf_50 ca, k_X8_partOf_51 ca, k_X8_partOf_52 ca, k_X8_partOf_53 ca, k_X8_partOf_56 ca, sp_X8_isOne, sp_X7_isRoom, sp_X8_in, sp_X7_isWithin, q1, q2, b2i_t, one0, g3, sp_X8_many, s10, a_0, x0, v0, em', e0, g4]
          try clear hF hF0 F
          exact hs
        · rw [if_neg q4, eJ] at hs
          have g4 : (nI J < s (10 + 32 * X)) = True := eq_true (Int32.not_le.mp q4)
          have hJN : J < N := by
            rw [hN] at q4
            exact Nat.lt_of_not_le (fun z => q4 (nI_le z (by omega)))
          obtain ⟨W, hW3, rfl⟩ := isIn0 (B := 3) rfl q2
          have xw : (nI W).toNatClampNeg = W := tn127 (by omega)
          rw [xw] at hs
          unfold pOf at hs
          have hP := Wk.2.2 J (by rw [hNN]; exact hJN)
          have i1 : 10 + 32 * X + 8 + 3 * J = 10 + 32 * X + (8 + 3 * J) := by omega
          have i2 : 10 + 32 * X + (8 + 3 * J) + 1 = 10 + 32 * X + (9 + 3 * J) := by omega
          have i3 : 10 + 32 * X + (8 + 3 * J) + 2 = 10 + 32 * X + (10 + 3 * J) := by omega
          have y1 : vp_in (nI (10 + 32 * X + (8 + 3 * J))) 127 := vp127 (by omega)
          have y2 : vp_in (nI (10 + 32 * X + (9 + 3 * J))) 127 := vp127 (by omega)
          have y3 : vp_in (nI (10 + 32 * X + (10 + 3 * J))) 127 := vp127 (by omega)
          have x1 : (nI (10 + 32 * X + (8 + 3 * J))).toNatClampNeg = 10 + 32 * X + (8 + 3 * J) := tn127 (by omega)
          have x2 : (nI (10 + 32 * X + (9 + 3 * J))).toNatClampNeg = 10 + 32 * X + (9 + 3 * J) := tn127 (by omega)
          have x3 : (nI (10 + 32 * X + (10 + 3 * J))).toNatClampNeg = 10 + 32 * X + (10 + 3 * J) := tn127 (by omega)
          have u1 := vp_wide hP.1
          have u2 := vp_wide hP.2
          have yw : vp_in (nI (10 + 32 * X + (8 + 3 * J) + W)) 127 := vp127 (by omega)
          have xw : (nI (10 + 32 * X + (8 + 3 * J) + W)).toNatClampNeg = 10 + 32 * X + (8 + 3 * J) + W := tn127 (by omega)
          by_cases q5 : W = 3
          · rw [if_pos q5] at hs
            have g5 : (nI W = 3) = True := eq_true (by rw [q5]; rfl)
            refine goN go (stp []) 160 _ _ _ _ _ _ (fun F hF hF0 => ?_)
            simp only [hF, hF0, ite_not, i_push, i_iload, i_lload, i_aload, i_istore, i_astore, i_lstore, i_iinc, i_bin, i_dv, i_un, i_lbin, i_lsh, i_i2l, i_l2i, i_lcmp, i_dup, i_dup2, i_pop, i_if, i_icmp, i_goto, swG, i_sw, i_getf, i_puti, i_putz, i_putr, i_ald, i_lald, i_aald, i_ast, i_last, i_aast, i_alen, i_new, i_newi, i_newl, i_newq, i_oinit, i_ret, i_zret, i_lret, i_vret, catS, tk, rpush, isO, i_m1, i_m2, i_acopy, i_callV, i_callS, KRet, lget, lput, lputL, lcl0, isL, lv0, List.map_cons, List.map_nil, List.length_cons, List.length_nil, List.cons_append, List.nil_append, Nat.reduceAdd, Nat.reduceSub, Nat.reduceLeDiff, List.replicate_succ, List.replicate_zero, List.getElem?_cons_succ, List.getElem?_cons_zero, List.set_cons_succ, List.set_cons_zero, true_and, and_true, if_true, if_false, ↓reduceIte, Nat.le_refl, Value.category, va_up_app, eq_self, stp, Nat.reduceBEq, Bool.or_false, Bool.false_or, Bool.true_or, Bool.or_true, or_true, true_or, bx_uu, implies_true, true_implies, not_true, not_false_eq_true, false_implies, and_self, Nat.reduceLT, Int32.reduceAdd, Int32.reduceSub, Int32.reduceMul, Int32.reduceLE, Int32.reduceLT, Int32.reduceToNatClampNeg, va_rf_some, Bool.false_eq_true, k_X8_partOf_0 ca, k_X8_partOf_1 ca, k_X8_partOf_4 ca, k_X8_partOf_7 ca, k_X8_partOf_8 ca, k_X8_partOf_9 ca, k_X8_partOf_10 ca, k_X8_partOf_13 ca, k_X8_partOf_16 ca, k_X8_partOf_17 ca, k_X8_partOf_20 ca, k_X8_partOf_22 ca, k_X8_partOf_23 ca, k_X8_partOf_24 ca, k_X8_partOf_25 ca, k_X8_partOf_26 ca, k_X8_partOf_29 ca, k_X8_partOf_32 ca, k_X8_partOf_34 ca, k_X8_partOf_35 ca, k_X8_partOf_36 ca, k_X8_partOf_37 ca, k_X8_partOf_40 ca, k_X8_partOf_41 ca, k_X8_partOf_42 ca, k_X8_partOf_43 ca, k_X8_partOf_46 ca, k_X8_partOf_49 ca, k_X8_partOf_50 ca, k_X8_partOf_51 ca, k_X8_partOf_52 ca, k_X8_partOf_53 ca, k_X8_partOf_56 ca, sp_X8_isOne, sp_X7_isRoom, sp_X8_in, sp_X7_isWithin, q1, q2, b2i_t, one0, g3, sp_X8_many, s10, a_0, x0, v0, em', e0, g4, g5, sp_X8_bendOfPart, a_1, a_2, a_8, m_3, nI_add, i1, i2, i3, y1, y2, y3, x1, x2, x3, u1, u2, Int32.zero_add]
            try clear hF hF0 F
            exact hs
          · rw [if_neg q5, i1] at hs
            have g5 : (nI W = 3) = False := eq_false (fun z => q5 ((nI_eq (b := 3) (by omega) (by decide)).mp z))
            refine goN go (stp []) 160 _ _ _ _ _ _ (fun F hF hF0 => ?_)
            simp only [hF, hF0, ite_not, i_push, i_iload, i_lload, i_aload, i_istore, i_astore, i_lstore, i_iinc, i_bin, i_dv, i_un, i_lbin, i_lsh, i_i2l, i_l2i, i_lcmp, i_dup, i_dup2, i_pop, i_if, i_icmp, i_goto, swG, i_sw, i_getf, i_puti, i_putz, i_putr, i_ald, i_lald, i_aald, i_ast, i_last, i_aast, i_alen, i_new, i_newi, i_newl, i_newq, i_oinit, i_ret, i_zret, i_lret, i_vret, catS, tk, rpush, isO, i_m1, i_m2, i_acopy, i_callV, i_callS, KRet, lget, lput, lputL, lcl0, isL, lv0, List.map_cons, List.map_nil, List.length_cons, List.length_nil, List.cons_append, List.nil_append, Nat.reduceAdd, Nat.reduceSub, Nat.reduceLeDiff, List.replicate_succ, List.replicate_zero, List.getElem?_cons_succ, List.getElem?_cons_zero, List.set_cons_succ, List.set_cons_zero, true_and, and_true, if_true, if_false, ↓reduceIte, Nat.le_refl, Value.category, va_up_app, eq_self, stp, Nat.reduceBEq, Bool.or_false, Bool.false_or, Bool.true_or, Bool.or_true, or_true, true_or, bx_uu, implies_true, true_implies, not_true, not_false_eq_true, false_implies, and_self, Nat.reduceLT, Int32.reduceAdd, Int32.reduceSub, Int32.reduceMul, Int32.reduceLE, Int32.reduceLT, Int32.reduceToNatClampNeg, va_rf_some, Bool.false_eq_true, k_X8_partOf_0 ca, k_X8_partOf_1 ca, k_X8_partOf_4 ca, k_X8_partOf_7 ca, k_X8_partOf_8 ca, k_X8_partOf_9 ca, k_X8_partOf_10 ca, k_X8_partOf_13 ca, k_X8_partOf_16 ca, k_X8_partOf_17 ca, k_X8_partOf_20 ca, k_X8_partOf_22 ca, k_X8_partOf_23 ca, k_X8_partOf_24 ca, k_X8_partOf_25 ca, k_X8_partOf_26 ca, k_X8_partOf_29 ca, k_X8_partOf_32 ca, k_X8_partOf_34 ca, k_X8_partOf_35 ca, k_X8_partOf_36 ca, k_X8_partOf_37 ca, k_X8_partOf_40 ca, k_X8_partOf_41 ca, k_X8_partOf_42 ca, k_X8_partOf_43 ca, k_X8_partOf_46 ca, k_X8_partOf_49 ca, k_X8_partOf_50 ca, k_X8_partOf_51 ca, k_X8_partOf_52 ca, k_X8_partOf_53 ca, k_X8_partOf_56 ca, sp_X8_isOne, sp_X7_isRoom, sp_X8_in, sp_X7_isWithin, q1, q2, b2i_t, one0, g3, sp_X8_many, s10, a_0, x0, v0, em', e0, g4, g5, sp_X8_partOfStrip, a_8, m_3, nI_add, i1, yw, xw]
            try clear hF hF0 F
            exact hs
def aRoomOf (s : Nat → Int32) (x w : Int32) : Int32 := if isIn x 0 2 = true then (if isIn w 0 6 = true then (if w ≤ 4 then s (106 + 7 * x.toNatClampNeg + w.toNatClampNeg) else if s 9 = 0 then -10000004 else s (106 + 7 * x.toNatClampNeg + w.toNatClampNeg)) else -10000001) else -10000001
theorem v9 : vp_in 9 127 := vpl (by decide)
def sp_X8_roomOf (ca : Nat → ClassId) : SPEC := fun av h post => ∃ m a s p t f n x w, av = [.ref m, .int x, .int w] ∧ RAt ca h m a s p t f n ∧ post (some (.int (aRoomOf s x w))) h
def k_X8_roomOf (ca : Nat → ClassId) : Nat → IT := fun pc => lk pc [(0, i_iload 1 1),
  (1, i_callS 1 0 0 0 0 (sp_X8_isOne ca) 4),
  (4, i_if (fun x => x = 0) 17 7),
  (7, i_iload 2 8),
  (8, i_push (.int 0) 9),
  (9, i_push (.int 6) 11),
  (11, i_callS 3 0 0 0 0 (sp_X8_in ca) 14),
  (14, i_if (fun x => ¬ x = 0) 20 17),
  (17, i_push (.int (-10000001)) 19),
  (19, i_ret),
  (20, i_iload 2 21),
  (21, i_push (.int 4) 22),
  (22, i_icmp (fun x y => x ≤ y) 40 25),
  (25, i_aload 0 26),
  (26, i_getf 8 0 29),
  (29, i_push (.int 9) 31),
  (31, i_ald (ca 0) 32),
  (32, i_if (fun x => ¬ x = 0) 40 35),
  (35, i_push (.int (-10000004)) 37),
  (37, i_goto 51),
  (40, i_aload 0 41),
  (41, i_getf 8 0 44),
  (44, i_iload 1 45),
  (45, i_callS 1 0 0 0 0 (sp_X8_roomAt ca) 48),
  (48, i_iload 2 49),
  (49, i_bin (fun x y => x + y) 50),
  (50, i_ald (ca 0) 51),
  (51, i_ret)]
set_option maxRecDepth 20000 in
theorem t_X8_roomOf : Tb k_X8_roomOf yX8_roomOf cX8_roomOf 3 (some .int) 2 0 0 := by
  intro l D ca A p e s m args below meth c post X
  unfold k_X8_roomOf
  refine snd_cons (snd_iload_n X dX8_roomOf_0 rfl) ?_
  refine snd_cons (snd_callS X (ok_X8_isOne l D ca) rfl rfl w_722 w_723 w_9 w_724 (by decide) (by decide) dX8_roomOf_1) ?_
  refine snd_cons (snd_if_eq X dX8_roomOf_4 (by decide)) ?_
  refine snd_cons (snd_iload_n X dX8_roomOf_7 rfl) ?_
  refine snd_cons (snd_iconst X dX8_roomOf_8 (by decide)) ?_
  refine snd_cons (snd_bipush X dX8_roomOf_9 (by decide)) ?_
  refine snd_cons (snd_callS X (ok_X8_in l D ca) rfl rfl w_702 w_703 w_9 w_704 (by decide) (by decide) dX8_roomOf_11) ?_
  refine snd_cons (snd_if_ne X dX8_roomOf_14 (by decide)) ?_
  refine snd_cons (snd_ldc X w_709 dX8_roomOf_17) ?_
  refine snd_cons (snd_ret X dX8_roomOf_19) ?_
  refine snd_cons (snd_iload_n X dX8_roomOf_20 rfl) ?_
  refine snd_cons (snd_iconst X dX8_roomOf_21 (by decide)) ?_
  refine snd_cons (snd_icmp_le X dX8_roomOf_22 (by decide)) ?_
  refine snd_cons (snd_aload_n X dX8_roomOf_25 rfl) ?_
  refine snd_cons (snd_getf X Fk8 0 (by decide) w_647 dX8_roomOf_26) ?_
  refine snd_cons (snd_bipush X dX8_roomOf_29 (by decide)) ?_
  refine snd_cons (snd_iaload X dX8_roomOf_31) ?_
  refine snd_cons (snd_if_ne X dX8_roomOf_32 (by decide)) ?_
  refine snd_cons (snd_ldc X w_857 dX8_roomOf_35) ?_
  refine snd_cons (snd_goto X dX8_roomOf_37 (by decide)) ?_
  refine snd_cons (snd_aload_n X dX8_roomOf_40 rfl) ?_
  refine snd_cons (snd_getf X Fk8 0 (by decide) w_647 dX8_roomOf_41) ?_
  refine snd_cons (snd_iload_n X dX8_roomOf_44 rfl) ?_
  refine snd_cons (snd_callS X (ok_X8_roomAt l D ca) rfl rfl w_644 w_645 w_9 w_646 (by decide) (by decide) dX8_roomOf_45) ?_
  refine snd_cons (snd_iload_n X dX8_roomOf_48 rfl) ?_
  refine snd_cons (snd_iadd X dX8_roomOf_49) ?_
  refine snd_cons (snd_iaload X dX8_roomOf_50) ?_
  refine snd_cons (snd_ret X dX8_roomOf_51) ?_
  exact snd_nil
theorem k_X8_roomOf_0 (ca : Nat → ClassId) : k_X8_roomOf ca 0 = i_iload 1 1 := rfl
theorem k_X8_roomOf_1 (ca : Nat → ClassId) : k_X8_roomOf ca 1 = i_callS 1 0 0 0 0 (sp_X8_isOne ca) 4 := rfl
theorem k_X8_roomOf_4 (ca : Nat → ClassId) : k_X8_roomOf ca 4 = i_if (fun x => x = 0) 17 7 := rfl
theorem k_X8_roomOf_7 (ca : Nat → ClassId) : k_X8_roomOf ca 7 = i_iload 2 8 := rfl
theorem k_X8_roomOf_8 (ca : Nat → ClassId) : k_X8_roomOf ca 8 = i_push (.int 0) 9 := rfl
theorem k_X8_roomOf_9 (ca : Nat → ClassId) : k_X8_roomOf ca 9 = i_push (.int 6) 11 := rfl
theorem k_X8_roomOf_11 (ca : Nat → ClassId) : k_X8_roomOf ca 11 = i_callS 3 0 0 0 0 (sp_X8_in ca) 14 := rfl
theorem k_X8_roomOf_14 (ca : Nat → ClassId) : k_X8_roomOf ca 14 = i_if (fun x => ¬ x = 0) 20 17 := rfl
theorem k_X8_roomOf_17 (ca : Nat → ClassId) : k_X8_roomOf ca 17 = i_push (.int (-10000001)) 19 := rfl
theorem k_X8_roomOf_19 (ca : Nat → ClassId) : k_X8_roomOf ca 19 = i_ret := rfl
theorem k_X8_roomOf_20 (ca : Nat → ClassId) : k_X8_roomOf ca 20 = i_iload 2 21 := rfl
theorem k_X8_roomOf_21 (ca : Nat → ClassId) : k_X8_roomOf ca 21 = i_push (.int 4) 22 := rfl
theorem k_X8_roomOf_22 (ca : Nat → ClassId) : k_X8_roomOf ca 22 = i_icmp (fun x y => x ≤ y) 40 25 := rfl
theorem k_X8_roomOf_25 (ca : Nat → ClassId) : k_X8_roomOf ca 25 = i_aload 0 26 := rfl
theorem k_X8_roomOf_26 (ca : Nat → ClassId) : k_X8_roomOf ca 26 = i_getf 8 0 29 := rfl
theorem k_X8_roomOf_29 (ca : Nat → ClassId) : k_X8_roomOf ca 29 = i_push (.int 9) 31 := rfl
theorem k_X8_roomOf_31 (ca : Nat → ClassId) : k_X8_roomOf ca 31 = i_ald (ca 0) 32 := rfl
theorem k_X8_roomOf_32 (ca : Nat → ClassId) : k_X8_roomOf ca 32 = i_if (fun x => ¬ x = 0) 40 35 := rfl
theorem k_X8_roomOf_35 (ca : Nat → ClassId) : k_X8_roomOf ca 35 = i_push (.int (-10000004)) 37 := rfl
theorem k_X8_roomOf_37 (ca : Nat → ClassId) : k_X8_roomOf ca 37 = i_goto 51 := rfl
theorem k_X8_roomOf_40 (ca : Nat → ClassId) : k_X8_roomOf ca 40 = i_aload 0 41 := rfl
theorem k_X8_roomOf_41 (ca : Nat → ClassId) : k_X8_roomOf ca 41 = i_getf 8 0 44 := rfl
theorem k_X8_roomOf_44 (ca : Nat → ClassId) : k_X8_roomOf ca 44 = i_iload 1 45 := rfl
theorem k_X8_roomOf_45 (ca : Nat → ClassId) : k_X8_roomOf ca 45 = i_callS 1 0 0 0 0 (sp_X8_roomAt ca) 48 := rfl
theorem k_X8_roomOf_48 (ca : Nat → ClassId) : k_X8_roomOf ca 48 = i_iload 2 49 := rfl
theorem k_X8_roomOf_49 (ca : Nat → ClassId) : k_X8_roomOf ca 49 = i_bin (fun x y => x + y) 50 := rfl
theorem k_X8_roomOf_50 (ca : Nat → ClassId) : k_X8_roomOf ca 50 = i_ald (ca 0) 51 := rfl
theorem k_X8_roomOf_51 (ca : Nat → ClassId) : k_X8_roomOf ca 51 = i_ret := rfl
set_option maxHeartbeats 4000000 in
set_option maxRecDepth 20000 in
theorem ok_X8_roomOf (l : Launch) (D : va_G) (ca : Nat → ClassId) : OkAll l D ca yX8_roomOf cX8_roomOf 3 (some .int) 2 0 0 (sp_X8_roomOf ca) := by
  intro av h post hs
  obtain ⟨m, a, s, p, t, f, n, x, w, rfl, ⟨g, hR⟩, hs⟩ := hs
  obtain ⟨fm, at', re, bd, kp, ks, iw, ip, fo, em, e0, -⟩ := id hR
  have em' := em
  unfold eMod at em'
  unfold aRoomOf at hs
  refine okM_of t_X8_roomOf (by decide +kernel) (c1_ref (c1_int (c1_int c1_nil))) (Nat.le_of_ble_eq_true rfl) ?_
  intro K go
  cases q1 : isIn x 0 2 with
  | false =>
    rw [q1, if_neg (by decide)] at hs
    refine goN go (stp []) 160 _ _ _ _ _ _ (fun F hF hF0 => ?_)
    simp only [hF, hF0, ite_not, i_push, i_iload, i_lload, i_aload, i_istore, i_astore, i_lstore, i_iinc, i_bin, i_dv, i_un, i_lbin, i_lsh, i_i2l, i_l2i, i_lcmp, i_dup, i_dup2, i_pop, i_if, i_icmp, i_goto, swG, i_sw, i_getf, i_puti, i_putz, i_putr, i_ald, i_lald, i_aald, i_ast, i_last, i_aast, i_alen, i_new, i_newi, i_newl, i_newq, i_oinit, i_ret, i_zret, i_lret, i_vret, catS, tk, rpush, isO, i_m1, i_m2, i_acopy, i_callV, i_callS, KRet, lget, lput, lputL, lcl0, isL, lv0, List.map_cons, List.map_nil, List.length_cons, List.length_nil, List.cons_append, List.nil_append, Nat.reduceAdd, Nat.reduceSub, Nat.reduceLeDiff, List.replicate_succ, List.replicate_zero, List.getElem?_cons_succ, List.getElem?_cons_zero, List.set_cons_succ, List.set_cons_zero, true_and, and_true, if_true, if_false, ↓reduceIte, Nat.le_refl, Value.category, va_up_app, eq_self, stp, Nat.reduceBEq, Bool.or_false, Bool.false_or, Bool.true_or, Bool.or_true, or_true, true_or, bx_uu, implies_true, true_implies, not_true, not_false_eq_true, false_implies, and_self, Nat.reduceLT, Int32.reduceAdd, Int32.reduceSub, Int32.reduceMul, Int32.reduceLE, Int32.reduceLT, Int32.reduceToNatClampNeg, va_rf_some, Bool.false_eq_true, k_X8_roomOf_0 ca, k_X8_roomOf_1 ca, k_X8_roomOf_4 ca, k_X8_roomOf_7 ca, k_X8_roomOf_8 ca, k_X8_roomOf_9 ca, k_X8_roomOf_11 ca, k_X8_roomOf_14 ca, k_X8_roomOf_17 ca, k_X8_roomOf_19 ca, k_X8_roomOf_20 ca, k_X8_roomOf_21 ca, k_X8_roomOf_22 ca, k_X8_roomOf_25 ca, k_X8_roomOf_26 ca, k_X8_roomOf_29 ca, k_X8_roomOf_31 ca, k_X8_roomOf_32 ca, k_X8_roomOf_35 ca, k_X8_roomOf_37 ca, k_X8_roomOf_40 ca, k_X8_roomOf_41 ca, k_X8_roomOf_44 ca, k_X8_roomOf_45 ca, k_X8_roomOf_48 ca, k_X8_roomOf_49 ca, k_X8_roomOf_50 ca, k_X8_roomOf_51 ca, sp_X8_isOne, sp_X7_isRoom, q1, b2i_f]
    try clear hF hF0 F
    exact hs
  | true =>
    rw [q1, if_pos rfl] at hs
    cases q2 : isIn w 0 6 with
    | false =>
      rw [q2, if_neg (by decide)] at hs
      refine goN go (stp []) 160 _ _ _ _ _ _ (fun F hF hF0 => ?_)
      simp only [hF, hF0, ite_not, i_push, i_iload, i_lload, i_aload, i_istore, i_astore, i_lstore, i_iinc, i_bin, i_dv, i_un, i_lbin, i_lsh, i_i2l, i_l2i, i_lcmp, i_dup, i_dup2, i_pop, i_if, i_icmp, i_goto, swG, i_sw, i_getf, i_puti, i_putz, i_putr, i_ald, i_lald, i_aald, i_ast, i_last, i_aast, i_alen, i_new, i_newi, i_newl, i_newq, i_oinit, i_ret, i_zret, i_lret, i_vret, catS, tk, rpush, isO, i_m1, i_m2, i_acopy, i_callV, i_callS, KRet, lget, lput, lputL, lcl0, isL, lv0, List.map_cons, List.map_nil, List.length_cons, List.length_nil, List.cons_append, List.nil_append, Nat.reduceAdd, Nat.reduceSub, Nat.reduceLeDiff, List.replicate_succ, List.replicate_zero, List.getElem?_cons_succ, List.getElem?_cons_zero, List.set_cons_succ, List.set_cons_zero, true_and, and_true, if_true, if_false, ↓reduceIte, Nat.le_refl, Value.category, va_up_app, eq_self, stp, Nat.reduceBEq, Bool.or_false, Bool.false_or, Bool.true_or, Bool.or_true, or_true, true_or, bx_uu, implies_true, true_implies, not_true, not_false_eq_true, false_implies, and_self, Nat.reduceLT, Int32.reduceAdd, Int32.reduceSub, Int32.reduceMul, Int32.reduceLE, Int32.reduceLT, Int32.reduceToNatClampNeg, va_rf_some, Bool.false_eq_true, k_X8_roomOf_0 ca, k_X8_roomOf_1 ca, k_X8_roomOf_4 ca, k_X8_roomOf_7 ca, k_X8_roomOf_8 ca, k_X8_roomOf_9 ca, k_X8_roomOf_11 ca, k_X8_roomOf_14 ca, k_X8_roomOf_17 ca, k_X8_roomOf_19 ca, k_X8_roomOf_20 ca, k_X8_roomOf_21 ca, k_X8_roomOf_22 ca, k_X8_roomOf_25 ca, k_X8_roomOf_26 ca, k_X8_roomOf_29 ca, k_X8_roomOf_31 ca, k_X8_roomOf_32 ca, k_X8_roomOf_35 ca, k_X8_roomOf_37 ca, k_X8_roomOf_40 ca, k_X8_roomOf_41 ca, k_X8_roomOf_44 ca, k_X8_roomOf_45 ca, k_X8_roomOf_48 ca, k_X8_roomOf_49 ca, k_X8_roomOf_50 ca, k_X8_roomOf_51 ca, sp_X8_isOne, sp_X7_isRoom, sp_X8_in, sp_X7_isWithin, q1, q2, b2i_f, b2i_t, one0]
      try clear hF hF0 F
      exact hs
    | true =>
      rw [q2, if_pos rfl] at hs
      obtain ⟨X, hX, rfl⟩ := isIn0 (B := 2) rfl q1
      obtain ⟨W, hW, rfl⟩ := isIn0 (B := 6) rfl q2
      have xx : (nI X).toNatClampNeg = X := tn127 (by omega)
      have xw : (nI W).toNatClampNeg = W := tn127 (by omega)
      rw [xx, xw] at hs
      have y1 : vp_in (nI (106 + 7 * X + W)) 127 := vp127 (by omega)
      have x1 : (nI (106 + 7 * X + W)).toNatClampNeg = 106 + 7 * X + W := tn127 (by omega)
      by_cases q3 : nI W ≤ 4
      · rw [if_pos q3] at hs
        refine goN go (stp []) 160 _ _ _ _ _ _ (fun F hF hF0 => ?_)
        simp only [hF, hF0, ite_not, i_push, i_iload, i_lload, i_aload, i_istore, i_astore, i_lstore, i_iinc, i_bin, i_dv, i_un, i_lbin, i_lsh, i_i2l, i_l2i, i_lcmp, i_dup, i_dup2, i_pop, i_if, i_icmp, i_goto, swG, i_sw, i_getf, i_puti, i_putz, i_putr, i_ald, i_lald, i_aald, i_ast, i_last, i_aast, i_alen, i_new, i_newi, i_newl, i_newq, i_oinit, i_ret, i_zret, i_lret, i_vret, catS, tk, rpush, isO, i_m1, i_m2, i_acopy, i_callV, i_callS, KRet, lget, lput, lputL, lcl0, isL, lv0, List.map_cons, List.map_nil, List.length_cons, List.length_nil, List.cons_append, List.nil_append, Nat.reduceAdd, Nat.reduceSub, Nat.reduceLeDiff, List.replicate_succ, List.replicate_zero, List.getElem?_cons_succ, List.getElem?_cons_zero, List.set_cons_succ, List.set_cons_zero, true_and, and_true, if_true, if_false, ↓reduceIte, Nat.le_refl, Value.category, va_up_app, eq_self, stp, Nat.reduceBEq, Bool.or_false, Bool.false_or, Bool.true_or, Bool.or_true, or_true, true_or, bx_uu, implies_true, true_implies, not_true, not_false_eq_true, false_implies, and_self, Nat.reduceLT, Int32.reduceAdd, Int32.reduceSub, Int32.reduceMul, Int32.reduceLE, Int32.reduceLT, Int32.reduceToNatClampNeg, va_rf_some, Bool.false_eq_true, k_X8_roomOf_0 ca, k_X8_roomOf_1 ca, k_X8_roomOf_4 ca, k_X8_roomOf_7 ca, k_X8_roomOf_8 ca, k_X8_roomOf_9 ca, k_X8_roomOf_11 ca, k_X8_roomOf_14 ca, k_X8_roomOf_17 ca, k_X8_roomOf_19 ca, k_X8_roomOf_20 ca, k_X8_roomOf_21 ca, k_X8_roomOf_22 ca, k_X8_roomOf_25 ca, k_X8_roomOf_26 ca, k_X8_roomOf_29 ca, k_X8_roomOf_31 ca, k_X8_roomOf_32 ca, k_X8_roomOf_35 ca, k_X8_roomOf_37 ca, k_X8_roomOf_40 ca, k_X8_roomOf_41 ca, k_X8_roomOf_44 ca, k_X8_roomOf_45 ca, k_X8_roomOf_48 ca, k_X8_roomOf_49 ca, k_X8_roomOf_50 ca, k_X8_roomOf_51 ca, sp_X8_isOne, sp_X7_isRoom, sp_X8_in, sp_X7_isWithin, sp_X8_roomAt, s106, nI_add, q1, q2, q3, b2i_t, one0, em', e0, y1, x1]
        try clear hF hF0 F
        exact hs
      · rw [if_neg q3] at hs
        by_cases q4 : s 9 = 0
        · rw [if_pos q4] at hs
          refine goN go (stp []) 160 _ _ _ _ _ _ (fun F hF hF0 => ?_)
          simp only [hF, hF0, ite_not, i_push, i_iload, i_lload, i_aload, i_istore, i_astore, i_lstore, i_iinc, i_bin, i_dv, i_un, i_lbin, i_lsh, i_i2l, i_l2i, i_lcmp, i_dup, i_dup2, i_pop, i_if, i_icmp, i_goto, swG, i_sw, i_getf, i_puti, i_putz, i_putr, i_ald, i_lald, i_aald, i_ast, i_last, i_aast, i_alen, i_new, i_newi, i_newl, i_newq, i_oinit, i_ret, i_zret, i_lret, i_vret, catS, tk, rpush, isO, i_m1, i_m2, i_acopy, i_callV, i_callS, KRet, lget, lput, lputL, lcl0, isL, lv0, List.map_cons, List.map_nil, List.length_cons, List.length_nil, List.cons_append, List.nil_append, Nat.reduceAdd, Nat.reduceSub, Nat.reduceLeDiff, List.replicate_succ, List.replicate_zero, List.getElem?_cons_succ, List.getElem?_cons_zero, List.set_cons_succ, List.set_cons_zero, true_and, and_true, if_true, if_false, ↓reduceIte, Nat.le_refl, Value.category, va_up_app, eq_self, stp, Nat.reduceBEq, Bool.or_false, Bool.false_or, Bool.true_or, Bool.or_true, or_true, true_or, bx_uu, implies_true, true_implies, not_true, not_false_eq_true, false_implies, and_self, Nat.reduceLT, Int32.reduceAdd, Int32.reduceSub, Int32.reduceMul, Int32.reduceLE, Int32.reduceLT, Int32.reduceToNatClampNeg, va_rf_some, Bool.false_eq_true, k_X8_roomOf_0 ca, k_X8_roomOf_1 ca, k_X8_roomOf_4 ca, k_X8_roomOf_7 ca, k_X8_roomOf_8 ca, k_X8_roomOf_9 ca, k_X8_roomOf_11 ca, k_X8_roomOf_14 ca, k_X8_roomOf_17 ca, k_X8_roomOf_19 ca, k_X8_roomOf_20 ca, k_X8_roomOf_21 ca, k_X8_roomOf_22 ca, k_X8_roomOf_25 ca, k_X8_roomOf_26 ca, k_X8_roomOf_29 ca, k_X8_roomOf_31 ca, k_X8_roomOf_32 ca, k_X8_roomOf_35 ca, k_X8_roomOf_37 ca, k_X8_roomOf_40 ca, k_X8_roomOf_41 ca, k_X8_roomOf_44 ca, k_X8_roomOf_45 ca, k_X8_roomOf_48 ca, k_X8_roomOf_49 ca, k_X8_roomOf_50 ca, k_X8_roomOf_51 ca, sp_X8_isOne, sp_X7_isRoom, sp_X8_in, sp_X7_isWithin, q1, q2, q3, b2i_t, one0, em', e0, v9, q4]
          try clear hF hF0 F
          exact hs
        · rw [if_neg q4] at hs
          refine goN go (stp []) 160 _ _ _ _ _ _ (fun F hF hF0 => ?_)
          simp only [hF, hF0, ite_not, i_push, i_iload, i_lload, i_aload, i_istore, i_astore, i_lstore, i_iinc, i_bin, i_dv, i_un, i_lbin, i_lsh, i_i2l, i_l2i, i_lcmp, i_dup, i_dup2, i_pop, i_if, i_icmp, i_goto, swG, i_sw, i_getf, i_puti, i_putz, i_putr, i_ald, i_lald, i_aald, i_ast, i_last, i_aast, i_alen, i_new, i_newi, i_newl, i_newq, i_oinit, i_ret, i_zret, i_lret, i_vret, catS, tk, rpush, isO, i_m1, i_m2, i_acopy, i_callV, i_callS, KRet, lget, lput, lputL, lcl0, isL, lv0, List.map_cons, List.map_nil, List.length_cons, List.length_nil, List.cons_append, List.nil_append, Nat.reduceAdd, Nat.reduceSub, Nat.reduceLeDiff, List.replicate_succ, List.replicate_zero, List.getElem?_cons_succ, List.getElem?_cons_zero, List.set_cons_succ, List.set_cons_zero, true_and, and_true, if_true, if_false, ↓reduceIte, Nat.le_refl, Value.category, va_up_app, eq_self, stp, Nat.reduceBEq, Bool.or_false, Bool.false_or, Bool.true_or, Bool.or_true, or_true, true_or, bx_uu, implies_true, true_implies, not_true, not_false_eq_true, false_implies, and_self, Nat.reduceLT, Int32.reduceAdd, Int32.reduceSub, Int32.reduceMul, Int32.reduceLE, Int32.reduceLT, Int32.reduceToNatClampNeg, va_rf_some, Bool.false_eq_true, k_X8_roomOf_0 ca, k_X8_roomOf_1 ca, k_X8_roomOf_4 ca, k_X8_roomOf_7 ca, k_X8_roomOf_8 ca, k_X8_roomOf_9 ca, k_X8_roomOf_11 ca, k_X8_roomOf_14 ca, k_X8_roomOf_17 ca, k_X8_roomOf_19 ca, k_X8_roomOf_20 ca, k_X8_roomOf_21 ca, k_X8_roomOf_22 ca, k_X8_roomOf_25 ca, k_X8_roomOf_26 ca, k_X8_roomOf_29 ca, k_X8_roomOf_31 ca, k_X8_roomOf_32 ca, k_X8_roomOf_35 ca, k_X8_roomOf_37 ca, k_X8_roomOf_40 ca, k_X8_roomOf_41 ca, k_X8_roomOf_44 ca, k_X8_roomOf_45 ca, k_X8_roomOf_48 ca, k_X8_roomOf_49 ca, k_X8_roomOf_50 ca, k_X8_roomOf_51 ca, sp_X8_isOne, sp_X7_isRoom, sp_X8_in, sp_X7_isWithin, sp_X8_roomAt, s106, nI_add, q1, q2, q3, b2i_t, one0, em', e0, v9, q4, y1, x1]
          try clear hF hF0 F
          exact hs
def aCount (s : Nat → Int32) (t n : Nat) (w : Int32) : Int32 := if w = 0 then s 9 else if w = 1 then s 16 + s 48 + s 80 else if w = 2 then s 8 else if w = 3 then nI t else if w = 4 then nI n else if w = 5 then s 6 else if w = 6 then s 7 else if isIn w 10 15 = true then s (w - 10).toNatClampNeg else -10000001
def sp_X8_count (ca : Nat → ClassId) : SPEC := fun av h post => ∃ m a s p t f n w, av = [.ref m, .int w] ∧ RAt ca h m a s p t f n ∧ post (some (.int (aCount s t n w))) h
theorem vl (i : Int32) (h : ¬ (i < 0 ∨ 127 ≤ i.toNatClampNeg)) : vp_in i 127 := h
def k_X8_count (ca : Nat → ClassId) : Nat → IT := fun pc => if pc < 105 then lk pc [(0, i_iload 1 1),
  (1, i_sw [(0, 44), (1, 52), (2, 91), (3, 99), (4, 104), (5, 109), (6, 109)] 121),
  (44, i_aload 0 45),
  (45, i_getf 8 0 48),
  (48, i_push (.int 9) 50),
  (50, i_ald (ca 0) 51),
  (51, i_ret),
  (52, i_aload 0 53),
  (53, i_getf 8 0 56),
  (56, i_push (.int 0) 57),
  (57, i_callS 1 0 0 0 0 (sp_X8_stripAt ca) 60),
  (60, i_push (.int 6) 62),
  (62, i_bin (fun x y => x + y) 63),
  (63, i_ald (ca 0) 64),
  (64, i_aload 0 65),
  (65, i_getf 8 0 68),
  (68, i_push (.int 1) 69),
  (69, i_callS 1 0 0 0 0 (sp_X8_stripAt ca) 72),
  (72, i_push (.int 6) 74),
  (74, i_bin (fun x y => x + y) 75),
  (75, i_ald (ca 0) 76),
  (76, i_bin (fun x y => x + y) 77),
  (77, i_aload 0 78),
  (78, i_getf 8 0 81),
  (81, i_push (.int 2) 82),
  (82, i_callS 1 0 0 0 0 (sp_X8_stripAt ca) 85),
  (85, i_push (.int 6) 87),
  (87, i_bin (fun x y => x + y) 88),
  (88, i_ald (ca 0) 89),
  (89, i_bin (fun x y => x + y) 90),
  (90, i_ret),
  (91, i_aload 0 92),
  (92, i_getf 8 0 95),
  (95, i_push (.int 8) 97),
  (97, i_ald (ca 0) 98),
  (98, i_ret),
  (99, i_aload 0 100),
  (100, i_getf 8 3 103),
  (103, i_ret),
  (104, i_aload 0 105)] else
  lk pc [(105, i_getf 8 5 108),
  (108, i_ret),
  (109, i_aload 0 110),
  (110, i_getf 8 0 113),
  (113, i_push (.int 6) 115),
  (115, i_iload 1 116),
  (116, i_bin (fun x y => x + y) 117),
  (117, i_push (.int 5) 118),
  (118, i_bin (fun x y => x - y) 119),
  (119, i_ald (ca 0) 120),
  (120, i_ret),
  (121, i_iload 1 122),
  (122, i_push (.int 10) 124),
  (124, i_push (.int 15) 126),
  (126, i_callS 3 0 0 0 0 (sp_X8_in ca) 129),
  (129, i_if (fun x => x = 0) 146 132),
  (132, i_aload 0 133),
  (133, i_getf 8 0 136),
  (136, i_push (.int 0) 137),
  (137, i_iload 1 138),
  (138, i_bin (fun x y => x + y) 139),
  (139, i_push (.int 10) 141),
  (141, i_bin (fun x y => x - y) 142),
  (142, i_ald (ca 0) 143),
  (143, i_goto 148),
  (146, i_push (.int (-10000001)) 148),
  (148, i_ret)]
set_option maxRecDepth 20000 in
theorem t_X8_count : Tb k_X8_count yX8_count cX8_count 2 (some .int) 1 0 0 := by
  intro l D ca A p e s m args below meth c post X
  unfold k_X8_count
  refine snd_split (105) ?_ ?_
  · refine snd_cons (snd_iload_n X dX8_count_0 rfl) ?_
    refine snd_cons (snd_table X dX8_count_1 (by decide) (by decide) (by decide)) ?_
    refine snd_cons (snd_aload_n X dX8_count_44 rfl) ?_
    refine snd_cons (snd_getf X Fk8 0 (by decide) w_647 dX8_count_45) ?_
    refine snd_cons (snd_bipush X dX8_count_48 (by decide)) ?_
    refine snd_cons (snd_iaload X dX8_count_50) ?_
    refine snd_cons (snd_ret X dX8_count_51) ?_
    refine snd_cons (snd_aload_n X dX8_count_52 rfl) ?_
    refine snd_cons (snd_getf X Fk8 0 (by decide) w_647 dX8_count_53) ?_
    refine snd_cons (snd_iconst X dX8_count_56 (by decide)) ?_
    refine snd_cons (snd_callS X (ok_X8_stripAt l D ca) rfl rfl w_641 w_642 w_9 w_643 (by decide) (by decide) dX8_count_57) ?_
    refine snd_cons (snd_bipush X dX8_count_60 (by decide)) ?_
    refine snd_cons (snd_iadd X dX8_count_62) ?_
    refine snd_cons (snd_iaload X dX8_count_63) ?_
    refine snd_cons (snd_aload_n X dX8_count_64 rfl) ?_
    refine snd_cons (snd_getf X Fk8 0 (by decide) w_647 dX8_count_65) ?_
    refine snd_cons (snd_iconst X dX8_count_68 (by decide)) ?_
    refine snd_cons (snd_callS X (ok_X8_stripAt l D ca) rfl rfl w_641 w_642 w_9 w_643 (by decide) (by decide) dX8_count_69) ?_
    refine snd_cons (snd_bipush X dX8_count_72 (by decide)) ?_
    refine snd_cons (snd_iadd X dX8_count_74) ?_
    refine snd_cons (snd_iaload X dX8_count_75) ?_
    refine snd_cons (snd_iadd X dX8_count_76) ?_
    refine snd_cons (snd_aload_n X dX8_count_77 rfl) ?_
    refine snd_cons (snd_getf X Fk8 0 (by decide) w_647 dX8_count_78) ?_
    refine snd_cons (snd_iconst X dX8_count_81 (by decide)) ?_
    refine snd_cons (snd_callS X (ok_X8_stripAt l D ca) rfl rfl w_641 w_642 w_9 w_643 (by decide) (by decide) dX8_count_82) ?_
    refine snd_cons (snd_bipush X dX8_count_85 (by decide)) ?_
    refine snd_cons (snd_iadd X dX8_count_87) ?_
    refine snd_cons (snd_iaload X dX8_count_88) ?_
    refine snd_cons (snd_iadd X dX8_count_89) ?_
    refine snd_cons (snd_ret X dX8_count_90) ?_
    refine snd_cons (snd_aload_n X dX8_count_91 rfl) ?_
    refine snd_cons (snd_getf X Fk8 0 (by decide) w_647 dX8_count_92) ?_
    refine snd_cons (snd_bipush X dX8_count_95 (by decide)) ?_
    refine snd_cons (snd_iaload X dX8_count_97) ?_
    refine snd_cons (snd_ret X dX8_count_98) ?_
    refine snd_cons (snd_aload_n X dX8_count_99 rfl) ?_
    refine snd_cons (snd_getf X Fk8 3 (by decide) w_650 dX8_count_100) ?_
    refine snd_cons (snd_ret X dX8_count_103) ?_
    refine snd_cons (snd_aload_n X dX8_count_104 rfl) ?_
    exact snd_nil
  refine snd_cons (snd_getf X Fk8 5 (by decide) w_652 dX8_count_105) ?_
  refine snd_cons (snd_ret X dX8_count_108) ?_
  refine snd_cons (snd_aload_n X dX8_count_109 rfl) ?_
  refine snd_cons (snd_getf X Fk8 0 (by decide) w_647 dX8_count_110) ?_
  refine snd_cons (snd_bipush X dX8_count_113 (by decide)) ?_
  refine snd_cons (snd_iload_n X dX8_count_115 rfl) ?_
  refine snd_cons (snd_iadd X dX8_count_116) ?_
  refine snd_cons (snd_iconst X dX8_count_117 (by decide)) ?_
  refine snd_cons (snd_isub X dX8_count_118) ?_
  refine snd_cons (snd_iaload X dX8_count_119) ?_
  refine snd_cons (snd_ret X dX8_count_120) ?_
  refine snd_cons (snd_iload_n X dX8_count_121 rfl) ?_
  refine snd_cons (snd_bipush X dX8_count_122 (by decide)) ?_
  refine snd_cons (snd_bipush X dX8_count_124 (by decide)) ?_
  refine snd_cons (snd_callS X (ok_X8_in l D ca) rfl rfl w_702 w_703 w_9 w_704 (by decide) (by decide) dX8_count_126) ?_
  refine snd_cons (snd_if_eq X dX8_count_129 (by decide)) ?_
  refine snd_cons (snd_aload_n X dX8_count_132 rfl) ?_
  refine snd_cons (snd_getf X Fk8 0 (by decide) w_647 dX8_count_133) ?_
  refine snd_cons (snd_iconst X dX8_count_136 (by decide)) ?_
  refine snd_cons (snd_iload_n X dX8_count_137 rfl) ?_
  refine snd_cons (snd_iadd X dX8_count_138) ?_
  refine snd_cons (snd_bipush X dX8_count_139 (by decide)) ?_
  refine snd_cons (snd_isub X dX8_count_141) ?_
  refine snd_cons (snd_iaload X dX8_count_142) ?_
  refine snd_cons (snd_goto X dX8_count_143 (by decide)) ?_
  refine snd_cons (snd_ldc X w_709 dX8_count_146) ?_
  refine snd_cons (snd_ret X dX8_count_148) ?_
  exact snd_nil
theorem k_X8_count_0 (ca : Nat → ClassId) : k_X8_count ca 0 = i_iload 1 1 := rfl
theorem k_X8_count_1 (ca : Nat → ClassId) : k_X8_count ca 1 = i_sw [(0, 44), (1, 52), (2, 91), (3, 99), (4, 104), (5, 109), (6, 109)] 121 := rfl
theorem k_X8_count_44 (ca : Nat → ClassId) : k_X8_count ca 44 = i_aload 0 45 := rfl
theorem k_X8_count_45 (ca : Nat → ClassId) : k_X8_count ca 45 = i_getf 8 0 48 := rfl
theorem k_X8_count_48 (ca : Nat → ClassId) : k_X8_count ca 48 = i_push (.int 9) 50 := rfl
theorem k_X8_count_50 (ca : Nat → ClassId) : k_X8_count ca 50 = i_ald (ca 0) 51 := rfl
theorem k_X8_count_51 (ca : Nat → ClassId) : k_X8_count ca 51 = i_ret := rfl
theorem k_X8_count_52 (ca : Nat → ClassId) : k_X8_count ca 52 = i_aload 0 53 := rfl
theorem k_X8_count_53 (ca : Nat → ClassId) : k_X8_count ca 53 = i_getf 8 0 56 := rfl
theorem k_X8_count_56 (ca : Nat → ClassId) : k_X8_count ca 56 = i_push (.int 0) 57 := rfl
theorem k_X8_count_57 (ca : Nat → ClassId) : k_X8_count ca 57 = i_callS 1 0 0 0 0 (sp_X8_stripAt ca) 60 := rfl
theorem k_X8_count_60 (ca : Nat → ClassId) : k_X8_count ca 60 = i_push (.int 6) 62 := rfl
theorem k_X8_count_62 (ca : Nat → ClassId) : k_X8_count ca 62 = i_bin (fun x y => x + y) 63 := rfl
theorem k_X8_count_63 (ca : Nat → ClassId) : k_X8_count ca 63 = i_ald (ca 0) 64 := rfl
theorem k_X8_count_64 (ca : Nat → ClassId) : k_X8_count ca 64 = i_aload 0 65 := rfl
theorem k_X8_count_65 (ca : Nat → ClassId) : k_X8_count ca 65 = i_getf 8 0 68 := rfl
theorem k_X8_count_68 (ca : Nat → ClassId) : k_X8_count ca 68 = i_push (.int 1) 69 := rfl
theorem k_X8_count_69 (ca : Nat → ClassId) : k_X8_count ca 69 = i_callS 1 0 0 0 0 (sp_X8_stripAt ca) 72 := rfl
theorem k_X8_count_72 (ca : Nat → ClassId) : k_X8_count ca 72 = i_push (.int 6) 74 := rfl
theorem k_X8_count_74 (ca : Nat → ClassId) : k_X8_count ca 74 = i_bin (fun x y => x + y) 75 := rfl
theorem k_X8_count_75 (ca : Nat → ClassId) : k_X8_count ca 75 = i_ald (ca 0) 76 := rfl
theorem k_X8_count_76 (ca : Nat → ClassId) : k_X8_count ca 76 = i_bin (fun x y => x + y) 77 := rfl
theorem k_X8_count_77 (ca : Nat → ClassId) : k_X8_count ca 77 = i_aload 0 78 := rfl
theorem k_X8_count_78 (ca : Nat → ClassId) : k_X8_count ca 78 = i_getf 8 0 81 := rfl
theorem k_X8_count_81 (ca : Nat → ClassId) : k_X8_count ca 81 = i_push (.int 2) 82 := rfl
theorem k_X8_count_82 (ca : Nat → ClassId) : k_X8_count ca 82 = i_callS 1 0 0 0 0 (sp_X8_stripAt ca) 85 := rfl
theorem k_X8_count_85 (ca : Nat → ClassId) : k_X8_count ca 85 = i_push (.int 6) 87 := rfl
theorem k_X8_count_87 (ca : Nat → ClassId) : k_X8_count ca 87 = i_bin (fun x y => x + y) 88 := rfl
theorem k_X8_count_88 (ca : Nat → ClassId) : k_X8_count ca 88 = i_ald (ca 0) 89 := rfl
theorem k_X8_count_89 (ca : Nat → ClassId) : k_X8_count ca 89 = i_bin (fun x y => x + y) 90 := rfl
theorem k_X8_count_90 (ca : Nat → ClassId) : k_X8_count ca 90 = i_ret := rfl
theorem k_X8_count_91 (ca : Nat → ClassId) : k_X8_count ca 91 = i_aload 0 92 := rfl
theorem k_X8_count_92 (ca : Nat → ClassId) : k_X8_count ca 92 = i_getf 8 0 95 := rfl
theorem k_X8_count_95 (ca : Nat → ClassId) : k_X8_count ca 95 = i_push (.int 8) 97 := rfl
theorem k_X8_count_97 (ca : Nat → ClassId) : k_X8_count ca 97 = i_ald (ca 0) 98 := rfl
theorem k_X8_count_98 (ca : Nat → ClassId) : k_X8_count ca 98 = i_ret := rfl
theorem k_X8_count_99 (ca : Nat → ClassId) : k_X8_count ca 99 = i_aload 0 100 := rfl
theorem k_X8_count_100 (ca : Nat → ClassId) : k_X8_count ca 100 = i_getf 8 3 103 := rfl
theorem k_X8_count_103 (ca : Nat → ClassId) : k_X8_count ca 103 = i_ret := rfl
theorem k_X8_count_104 (ca : Nat → ClassId) : k_X8_count ca 104 = i_aload 0 105 := rfl
theorem k_X8_count_105 (ca : Nat → ClassId) : k_X8_count ca 105 = i_getf 8 5 108 := rfl
theorem k_X8_count_108 (ca : Nat → ClassId) : k_X8_count ca 108 = i_ret := rfl
theorem k_X8_count_109 (ca : Nat → ClassId) : k_X8_count ca 109 = i_aload 0 110 := rfl
theorem k_X8_count_110 (ca : Nat → ClassId) : k_X8_count ca 110 = i_getf 8 0 113 := rfl
theorem k_X8_count_113 (ca : Nat → ClassId) : k_X8_count ca 113 = i_push (.int 6) 115 := rfl
theorem k_X8_count_115 (ca : Nat → ClassId) : k_X8_count ca 115 = i_iload 1 116 := rfl
theorem k_X8_count_116 (ca : Nat → ClassId) : k_X8_count ca 116 = i_bin (fun x y => x + y) 117 := rfl
theorem k_X8_count_117 (ca : Nat → ClassId) : k_X8_count ca 117 = i_push (.int 5) 118 := rfl
theorem k_X8_count_118 (ca : Nat → ClassId) : k_X8_count ca 118 = i_bin (fun x y => x - y) 119 := rfl
theorem k_X8_count_119 (ca : Nat → ClassId) : k_X8_count ca 119 = i_ald (ca 0) 120 := rfl
theorem k_X8_count_120 (ca : Nat → ClassId) : k_X8_count ca 120 = i_ret := rfl
theorem k_X8_count_121 (ca : Nat → ClassId) : k_X8_count ca 121 = i_iload 1 122 := rfl
theorem k_X8_count_122 (ca : Nat → ClassId) : k_X8_count ca 122 = i_push (.int 10) 124 := rfl
theorem k_X8_count_124 (ca : Nat → ClassId) : k_X8_count ca 124 = i_push (.int 15) 126 := rfl
theorem k_X8_count_126 (ca : Nat → ClassId) : k_X8_count ca 126 = i_callS 3 0 0 0 0 (sp_X8_in ca) 129 := rfl
theorem k_X8_count_129 (ca : Nat → ClassId) : k_X8_count ca 129 = i_if (fun x => x = 0) 146 132 := rfl
theorem k_X8_count_132 (ca : Nat → ClassId) : k_X8_count ca 132 = i_aload 0 133 := rfl
theorem k_X8_count_133 (ca : Nat → ClassId) : k_X8_count ca 133 = i_getf 8 0 136 := rfl
theorem k_X8_count_136 (ca : Nat → ClassId) : k_X8_count ca 136 = i_push (.int 0) 137 := rfl
theorem k_X8_count_137 (ca : Nat → ClassId) : k_X8_count ca 137 = i_iload 1 138 := rfl
theorem k_X8_count_138 (ca : Nat → ClassId) : k_X8_count ca 138 = i_bin (fun x y => x + y) 139 := rfl
theorem k_X8_count_139 (ca : Nat → ClassId) : k_X8_count ca 139 = i_push (.int 10) 141 := rfl
theorem k_X8_count_141 (ca : Nat → ClassId) : k_X8_count ca 141 = i_bin (fun x y => x - y) 142 := rfl
theorem k_X8_count_142 (ca : Nat → ClassId) : k_X8_count ca 142 = i_ald (ca 0) 143 := rfl
theorem k_X8_count_143 (ca : Nat → ClassId) : k_X8_count ca 143 = i_goto 148 := rfl
theorem k_X8_count_146 (ca : Nat → ClassId) : k_X8_count ca 146 = i_push (.int (-10000001)) 148 := rfl
theorem k_X8_count_148 (ca : Nat → ClassId) : k_X8_count ca 148 = i_ret := rfl
set_option maxHeartbeats 4000000 in
set_option maxRecDepth 20000 in
theorem ok_X8_count (l : Launch) (D : va_G) (ca : Nat → ClassId) : OkAll l D ca yX8_count cX8_count 2 (some .int) 1 0 0 (sp_X8_count ca) := by
  intro av h post hs
  obtain ⟨m, a, s, p, t, f, n, w, rfl, ⟨g, hR⟩, hs⟩ := hs
  obtain ⟨fm, at', re, bd, kp, ks, iw, ip, fo, em, e0, -⟩ := id hR
  have em' := em
  unfold eMod at em'
  have v6 := vl 6 (by decide)
  have v7 := vl 7 (by decide)
  have v8 := vl 8 (by decide)
  have v16 := vl 16 (by decide)
  have v48 := vl 48 (by decide)
  have v80 := vl 80 (by decide)
  unfold aCount at hs
  refine okM_of t_X8_count (by decide +kernel) (c1_ref (c1_int c1_nil)) (Nat.le_of_ble_eq_true rfl) ?_
  intro K go
  by_cases q0 : w = 0
  · subst q0
    rw [if_pos rfl] at hs
    refine goN go (stp []) 160 _ _ _ _ _ _ (fun F hF hF0 => ?_)
    simp only [hF, hF0, ite_not, i_push, i_iload, i_lload, i_aload, i_istore, i_astore, i_lstore, i_iinc, i_bin, i_dv, i_un, i_lbin, i_lsh, i_i2l, i_l2i, i_lcmp, i_dup, i_dup2, i_pop, i_if, i_icmp, i_goto, swG, i_sw, i_getf, i_puti, i_putz, i_putr, i_ald, i_lald, i_aald, i_ast, i_last, i_aast, i_alen, i_new, i_newi, i_newl, i_newq, i_oinit, i_ret, i_zret, i_lret, i_vret, catS, tk, rpush, isO, i_m1, i_m2, i_acopy, i_callV, i_callS, KRet, lget, lput, lputL, lcl0, isL, lv0, List.map_cons, List.map_nil, List.length_cons, List.length_nil, List.cons_append, List.nil_append, Nat.reduceAdd, Nat.reduceSub, Nat.reduceLeDiff, List.replicate_succ, List.replicate_zero, List.getElem?_cons_succ, List.getElem?_cons_zero, List.set_cons_succ, List.set_cons_zero, true_and, and_true, if_true, if_false, ↓reduceIte, Nat.le_refl, Value.category, va_up_app, eq_self, stp, Nat.reduceBEq, Bool.or_false, Bool.false_or, Bool.true_or, Bool.or_true, or_true, true_or, bx_uu, implies_true, true_implies, not_true, not_false_eq_true, false_implies, and_self, Nat.reduceLT, Int32.reduceAdd, Int32.reduceSub, Int32.reduceMul, Int32.reduceLE, Int32.reduceLT, Int32.reduceToNatClampNeg, va_rf_some, Bool.false_eq_true, k_X8_count_0 ca, k_X8_count_1 ca, k_X8_count_44 ca, k_X8_count_45 ca, k_X8_count_48 ca, k_X8_count_50 ca, k_X8_count_51 ca, k_X8_count_52 ca, k_X8_count_53 ca, k_X8_count_56 ca, k_X8_count_57 ca, k_X8_count_60 ca, k_X8_count_62 ca, k_X8_count_63 ca, k_X8_count_64 ca, k_X8_count_65 ca, k_X8_count_68 ca, k_X8_count_69 ca, k_X8_count_72 ca, k_X8_count_74 ca, k_X8_count_75 ca, k_X8_count_76 ca, k_X8_count_77 ca, k_X8_count_78 ca, k_X8_count_81 ca, k_X8_count_82 ca, k_X8_count_85 ca, k_X8_count_87 ca, k_X8_count_88 ca, k_X8_count_89 ca, k_X8_count_90 ca, k_X8_count_91 ca, k_X8_count_92 ca, k_X8_count_95 ca, k_X8_count_97 ca, k_X8_count_98 ca, k_X8_count_99 ca, k_X8_count_100 ca, k_X8_count_103 ca, k_X8_count_104 ca, k_X8_count_105 ca, k_X8_count_108 ca, k_X8_count_109 ca, k_X8_count_110 ca, k_X8_count_113 ca, k_X8_count_115 ca, k_X8_count_116 ca, k_X8_count_117 ca, k_X8_count_118 ca, k_X8_count_119 ca, k_X8_count_120 ca, k_X8_count_121 ca, k_X8_count_122 ca, k_X8_count_124 ca, k_X8_count_126 ca, k_X8_count_129 ca, k_X8_count_132 ca, k_X8_count_133 ca, k_X8_count_136 ca, k_X8_count_137 ca, k_X8_count_138 ca, k_X8_count_139 ca, k_X8_count_141 ca, k_X8_count_142 ca, k_X8_count_143 ca, k_X8_count_146 ca, k_X8_count_148 ca, em', e0, v9]
    try clear hF hF0 F
    exact hs
  rw [if_neg q0] at hs
  by_cases q1 : w = 1
  · subst q1
    rw [if_pos rfl] at hs
    refine goN go (stp []) 160 _ _ _ _ _ _ (fun F hF hF0 => ?_)
    simp only [hF, hF0, ite_not, i_push, i_iload, i_lload, i_aload, i_istore, i_astore, i_lstore, i_iinc, i_bin, i_dv, i_un, i_lbin, i_lsh, i_i2l, i_l2i, i_lcmp, i_dup, i_dup2, i_pop, i_if, i_icmp, i_goto, swG, i_sw, i_getf, i_puti, i_putz, i_putr, i_ald, i_lald, i_aald, i_ast, i_last, i_aast, i_alen, i_new, i_newi, i_newl, i_newq, i_oinit, i_ret, i_zret, i_lret, i_vret, catS, tk, rpush, isO, i_m1, i_m2, i_acopy, i_callV, i_callS, KRet, lget, lput, lputL, lcl0, isL, lv0, List.map_cons, List.map_nil, List.length_cons, List.length_nil, List.cons_append, List.nil_append, Nat.reduceAdd, Nat.reduceSub, Nat.reduceLeDiff, List.replicate_succ, List.replicate_zero, List.getElem?_cons_succ, List.getElem?_cons_zero, List.set_cons_succ, List.set_cons_zero, true_and, and_true, if_true, if_false, ↓reduceIte, Nat.le_refl, Value.category, va_up_app, eq_self, stp, Nat.reduceBEq, Bool.or_false, Bool.false_or, Bool.true_or, Bool.or_true, or_true, true_or, bx_uu, implies_true, true_implies, not_true, not_false_eq_true, false_implies, and_self, Nat.reduceLT, Int32.reduceAdd, Int32.reduceSub, Int32.reduceMul, Int32.reduceLE, Int32.reduceLT, Int32.reduceToNatClampNeg, va_rf_some, Bool.false_eq_true, k_X8_count_0 ca, k_X8_count_1 ca, k_X8_count_44 ca, k_X8_count_45 ca, k_X8_count_48 ca, k_X8_count_50 ca, k_X8_count_51 ca, k_X8_count_52 ca, k_X8_count_53 ca, k_X8_count_56 ca, k_X8_count_57 ca, k_X8_count_60 ca, k_X8_count_62 ca, k_X8_count_63 ca, k_X8_count_64 ca, k_X8_count_65 ca, k_X8_count_68 ca, k_X8_count_69 ca, k_X8_count_72 ca, k_X8_count_74 ca, k_X8_count_75 ca, k_X8_count_76 ca, k_X8_count_77 ca, k_X8_count_78 ca, k_X8_count_81 ca, k_X8_count_82 ca, k_X8_count_85 ca, k_X8_count_87 ca, k_X8_count_88 ca, k_X8_count_89 ca, k_X8_count_90 ca, k_X8_count_91 ca, k_X8_count_92 ca, k_X8_count_95 ca, k_X8_count_97 ca, k_X8_count_98 ca, k_X8_count_99 ca, k_X8_count_100 ca, k_X8_count_103 ca, k_X8_count_104 ca, k_X8_count_105 ca, k_X8_count_108 ca, k_X8_count_109 ca, k_X8_count_110 ca, k_X8_count_113 ca, k_X8_count_115 ca, k_X8_count_116 ca, k_X8_count_117 ca, k_X8_count_118 ca, k_X8_count_119 ca, k_X8_count_120 ca, k_X8_count_121 ca, k_X8_count_122 ca, k_X8_count_124 ca, k_X8_count_126 ca, k_X8_count_129 ca, k_X8_count_132 ca, k_X8_count_133 ca, k_X8_count_136 ca, k_X8_count_137 ca, k_X8_count_138 ca, k_X8_count_139 ca, k_X8_count_141 ca, k_X8_count_142 ca, k_X8_count_143 ca, k_X8_count_146 ca, k_X8_count_148 ca, em', e0, sp_X8_stripAt, v16, v48, v80]
    try clear hF hF0 F
    exact hs
  rw [if_neg q1] at hs
  by_cases q2 : w = 2
  · subst q2
    rw [if_pos rfl] at hs
    refine goN go (stp []) 160 _ _ _ _ _ _ (fun F hF hF0 => ?_)
    simp only [hF, hF0, ite_not, i_push, i_iload, i_lload, i_aload, i_istore, i_astore, i_lstore, i_iinc, i_bin, i_dv, i_un, i_lbin, i_lsh, i_i2l, i_l2i, i_lcmp, i_dup, i_dup2, i_pop, i_if, i_icmp, i_goto, swG, i_sw, i_getf, i_puti, i_putz, i_putr, i_ald, i_lald, i_aald, i_ast, i_last, i_aast, i_alen, i_new, i_newi, i_newl, i_newq, i_oinit, i_ret, i_zret, i_lret, i_vret, catS, tk, rpush, isO, i_m1, i_m2, i_acopy, i_callV, i_callS, KRet, lget, lput, lputL, lcl0, isL, lv0, List.map_cons, List.map_nil, List.length_cons, List.length_nil, List.cons_append, List.nil_append, Nat.reduceAdd, Nat.reduceSub, Nat.reduceLeDiff, List.replicate_succ, List.replicate_zero, List.getElem?_cons_succ, List.getElem?_cons_zero, List.set_cons_succ, List.set_cons_zero, true_and, and_true, if_true, if_false, ↓reduceIte, Nat.le_refl, Value.category, va_up_app, eq_self, stp, Nat.reduceBEq, Bool.or_false, Bool.false_or, Bool.true_or, Bool.or_true, or_true, true_or, bx_uu, implies_true, true_implies, not_true, not_false_eq_true, false_implies, and_self, Nat.reduceLT, Int32.reduceAdd, Int32.reduceSub, Int32.reduceMul, Int32.reduceLE, Int32.reduceLT, Int32.reduceToNatClampNeg, va_rf_some, Bool.false_eq_true, k_X8_count_0 ca, k_X8_count_1 ca, k_X8_count_44 ca, k_X8_count_45 ca, k_X8_count_48 ca, k_X8_count_50 ca, k_X8_count_51 ca, k_X8_count_52 ca, k_X8_count_53 ca, k_X8_count_56 ca, k_X8_count_57 ca, k_X8_count_60 ca, k_X8_count_62 ca, k_X8_count_63 ca, k_X8_count_64 ca, k_X8_count_65 ca, k_X8_count_68 ca, k_X8_count_69 ca, k_X8_count_72 ca, k_X8_count_74 ca, k_X8_count_75 ca, k_X8_count_76 ca, k_X8_count_77 ca, k_X8_count_78 ca, k_X8_count_81 ca, k_X8_count_82 ca, k_X8_count_85 ca, k_X8_count_87 ca, k_X8_count_88 ca, k_X8_count_89 ca, k_X8_count_90 ca, k_X8_count_91 ca, k_X8_count_92 ca, k_X8_count_95 ca, k_X8_count_97 ca, k_X8_count_98 ca, k_X8_count_99 ca, k_X8_count_100 ca, k_X8_count_103 ca, k_X8_count_104 ca, k_X8_count_105 ca, k_X8_count_108 ca, k_X8_count_109 ca, k_X8_count_110 ca, k_X8_count_113 ca, k_X8_count_115 ca, k_X8_count_116 ca, k_X8_count_117 ca, k_X8_count_118 ca, k_X8_count_119 ca, k_X8_count_120 ca, k_X8_count_121 ca, k_X8_count_122 ca, k_X8_count_124 ca, k_X8_count_126 ca, k_X8_count_129 ca, k_X8_count_132 ca, k_X8_count_133 ca, k_X8_count_136 ca, k_X8_count_137 ca, k_X8_count_138 ca, k_X8_count_139 ca, k_X8_count_141 ca, k_X8_count_142 ca, k_X8_count_143 ca, k_X8_count_146 ca, k_X8_count_148 ca, em', e0, v8]
    try clear hF hF0 F
    exact hs
  rw [if_neg q2] at hs
  by_cases q3 : w = 3
  · subst q3
    rw [if_pos rfl] at hs
    refine goN go (stp []) 160 _ _ _ _ _ _ (fun F hF hF0 => ?_)
    simp only [hF, hF0, ite_not, i_push, i_iload, i_lload, i_aload, i_istore, i_astore, i_lstore, i_iinc, i_bin, i_dv, i_un, i_lbin, i_lsh, i_i2l, i_l2i, i_lcmp, i_dup, i_dup2, i_pop, i_if, i_icmp, i_goto, swG, i_sw, i_getf, i_puti, i_putz, i_putr, i_ald, i_lald, i_aald, i_ast, i_last, i_aast, i_alen, i_new, i_newi, i_newl, i_newq, i_oinit, i_ret, i_zret, i_lret, i_vret, catS, tk, rpush, isO, i_m1, i_m2, i_acopy, i_callV, i_callS, KRet, lget, lput, lputL, lcl0, isL, lv0, List.map_cons, List.map_nil, List.length_cons, List.length_nil, List.cons_append, List.nil_append, Nat.reduceAdd, Nat.reduceSub, Nat.reduceLeDiff, List.replicate_succ, List.replicate_zero, List.getElem?_cons_succ, List.getElem?_cons_zero, List.set_cons_succ, List.set_cons_zero, true_and, and_true, if_true, if_false, ↓reduceIte, Nat.le_refl, Value.category, va_up_app, eq_self, stp, Nat.reduceBEq, Bool.or_false, Bool.false_or, Bool.true_or, Bool.or_true, or_true, true_or, bx_uu, implies_true, true_implies, not_true, not_false_eq_true, false_implies, and_self, Nat.reduceLT, Int32.reduceAdd, Int32.reduceSub, Int32.reduceMul, Int32.reduceLE, Int32.reduceLT, Int32.reduceToNatClampNeg, va_rf_some, Bool.false_eq_true, k_X8_count_0 ca, k_X8_count_1 ca, k_X8_count_44 ca, k_X8_count_45 ca, k_X8_count_48 ca, k_X8_count_50 ca, k_X8_count_51 ca, k_X8_count_52 ca, k_X8_count_53 ca, k_X8_count_56 ca, k_X8_count_57 ca, k_X8_count_60 ca, k_X8_count_62 ca, k_X8_count_63 ca, k_X8_count_64 ca, k_X8_count_65 ca, k_X8_count_68 ca, k_X8_count_69 ca, k_X8_count_72 ca, k_X8_count_74 ca, k_X8_count_75 ca, k_X8_count_76 ca, k_X8_count_77 ca, k_X8_count_78 ca, k_X8_count_81 ca, k_X8_count_82 ca, k_X8_count_85 ca, k_X8_count_87 ca, k_X8_count_88 ca, k_X8_count_89 ca, k_X8_count_90 ca, k_X8_count_91 ca, k_X8_count_92 ca, k_X8_count_95 ca, k_X8_count_97 ca, k_X8_count_98 ca, k_X8_count_99 ca, k_X8_count_100 ca, k_X8_count_103 ca, k_X8_count_104 ca, k_X8_count_105 ca, k_X8_count_108 ca, k_X8_count_109 ca, k_X8_count_110 ca, k_X8_count_113 ca, k_X8_count_115 ca, k_X8_count_116 ca, k_X8_count_117 ca, k_X8_count_118 ca, k_X8_count_119 ca, k_X8_count_120 ca, k_X8_count_121 ca, k_X8_count_122 ca, k_X8_count_124 ca, k_X8_count_126 ca, k_X8_count_129 ca, k_X8_count_132 ca, k_X8_count_133 ca, k_X8_count_136 ca, k_X8_count_137 ca, k_X8_count_138 ca, k_X8_count_139 ca, k_X8_count_141 ca, k_X8_count_142 ca, k_X8_count_143 ca, k_X8_count_146 ca, k_X8_count_148 ca, em']
    try clear hF hF0 F
    exact hs
  rw [if_neg q3] at hs
  by_cases q4 : w = 4
  · subst q4
    rw [if_pos rfl] at hs
    refine goN go (stp []) 160 _ _ _ _ _ _ (fun F hF hF0 => ?_)
    simp only [hF, hF0, ite_not, i_push, i_iload, i_lload, i_aload, i_istore, i_astore, i_lstore, i_iinc, i_bin, i_dv, i_un, i_lbin, i_lsh, i_i2l, i_l2i, i_lcmp, i_dup, i_dup2, i_pop, i_if, i_icmp, i_goto, swG, i_sw, i_getf, i_puti, i_putz, i_putr, i_ald, i_lald, i_aald, i_ast, i_last, i_aast, i_alen, i_new, i_newi, i_newl, i_newq, i_oinit, i_ret, i_zret, i_lret, i_vret, catS, tk, rpush, isO, i_m1, i_m2, i_acopy, i_callV, i_callS, KRet, lget, lput, lputL, lcl0, isL, lv0, List.map_cons, List.map_nil, List.length_cons, List.length_nil, List.cons_append, List.nil_append, Nat.reduceAdd, Nat.reduceSub, Nat.reduceLeDiff, List.replicate_succ, List.replicate_zero, List.getElem?_cons_succ, List.getElem?_cons_zero, List.set_cons_succ, List.set_cons_zero, true_and, and_true, if_true, if_false, ↓reduceIte, Nat.le_refl, Value.category, va_up_app, eq_self, stp, Nat.reduceBEq, Bool.or_false, Bool.false_or, Bool.true_or, Bool.or_true, or_true, true_or, bx_uu, implies_true, true_implies, not_true, not_false_eq_true, false_implies, and_self, Nat.reduceLT, Int32.reduceAdd, Int32.reduceSub, Int32.reduceMul, Int32.reduceLE, Int32.reduceLT, Int32.reduceToNatClampNeg, va_rf_some, Bool.false_eq_true, k_X8_count_0 ca, k_X8_count_1 ca, k_X8_count_44 ca, k_X8_count_45 ca, k_X8_count_48 ca, k_X8_count_50 ca, k_X8_count_51 ca, k_X8_count_52 ca, k_X8_count_53 ca, k_X8_count_56 ca, k_X8_count_57 ca, k_X8_count_60 ca, k_X8_count_62 ca, k_X8_count_63 ca, k_X8_count_64 ca, k_X8_count_65 ca, k_X8_count_68 ca, k_X8_count_69 ca, k_X8_count_72 ca, k_X8_count_74 ca, k_X8_count_75 ca, k_X8_count_76 ca, k_X8_count_77 ca, k_X8_count_78 ca, k_X8_count_81 ca, k_X8_count_82 ca, k_X8_count_85 ca, k_X8_count_87 ca, k_X8_count_88 ca, k_X8_count_89 ca, k_X8_count_90 ca, k_X8_count_91 ca, k_X8_count_92 ca, k_X8_count_95 ca, k_X8_count_97 ca, k_X8_count_98 ca, k_X8_count_99 ca, k_X8_count_100 ca, k_X8_count_103 ca, k_X8_count_104 ca, k_X8_count_105 ca, k_X8_count_108 ca, k_X8_count_109 ca, k_X8_count_110 ca, k_X8_count_113 ca, k_X8_count_115 ca, k_X8_count_116 ca, k_X8_count_117 ca, k_X8_count_118 ca, k_X8_count_119 ca, k_X8_count_120 ca, k_X8_count_121 ca, k_X8_count_122 ca, k_X8_count_124 ca, k_X8_count_126 ca, k_X8_count_129 ca, k_X8_count_132 ca, k_X8_count_133 ca, k_X8_count_136 ca, k_X8_count_137 ca, k_X8_count_138 ca, k_X8_count_139 ca, k_X8_count_141 ca, k_X8_count_142 ca, k_X8_count_143 ca, k_X8_count_146 ca, k_X8_count_148 ca, em']
    try clear hF hF0 F
    exact hs
  rw [if_neg q4] at hs
  by_cases q5 : w = 5
  · subst q5
    rw [if_pos rfl] at hs
    refine goN go (stp []) 160 _ _ _ _ _ _ (fun F hF hF0 => ?_)
    simp only [hF, hF0, ite_not, i_push, i_iload, i_lload, i_aload, i_istore, i_astore, i_lstore, i_iinc, i_bin, i_dv, i_un, i_lbin, i_lsh, i_i2l, i_l2i, i_lcmp, i_dup, i_dup2, i_pop, i_if, i_icmp, i_goto, swG, i_sw, i_getf, i_puti, i_putz, i_putr, i_ald, i_lald, i_aald, i_ast, i_last, i_aast, i_alen, i_new, i_newi, i_newl, i_newq, i_oinit, i_ret, i_zret, i_lret, i_vret, catS, tk, rpush, isO, i_m1, i_m2, i_acopy, i_callV, i_callS, KRet, lget, lput, lputL, lcl0, isL, lv0, List.map_cons, List.map_nil, List.length_cons, List.length_nil, List.cons_append, List.nil_append, Nat.reduceAdd, Nat.reduceSub, Nat.reduceLeDiff, List.replicate_succ, List.replicate_zero, List.getElem?_cons_succ, List.getElem?_cons_zero, List.set_cons_succ, List.set_cons_zero, true_and, and_true, if_true, if_false, ↓reduceIte, Nat.le_refl, Value.category, va_up_app, eq_self, stp, Nat.reduceBEq, Bool.or_false, Bool.false_or, Bool.true_or, Bool.or_true, or_true, true_or, bx_uu, implies_true, true_implies, not_true, not_false_eq_true, false_implies, and_self, Nat.reduceLT, Int32.reduceAdd, Int32.reduceSub, Int32.reduceMul, Int32.reduceLE, Int32.reduceLT, Int32.reduceToNatClampNeg, va_rf_some, Bool.false_eq_true, k_X8_count_0 ca, k_X8_count_1 ca, k_X8_count_44 ca, k_X8_count_45 ca, k_X8_count_48 ca, k_X8_count_50 ca, k_X8_count_51 ca, k_X8_count_52 ca, k_X8_count_53 ca, k_X8_count_56 ca, k_X8_count_57 ca, k_X8_count_60 ca, k_X8_count_62 ca, k_X8_count_63 ca, k_X8_count_64 ca, k_X8_count_65 ca, k_X8_count_68 ca, k_X8_count_69 ca, k_X8_count_72 ca, k_X8_count_74 ca, k_X8_count_75 ca, k_X8_count_76 ca, k_X8_count_77 ca, k_X8_count_78 ca, k_X8_count_81 ca, k_X8_count_82 ca, k_X8_count_85 ca, k_X8_count_87 ca, k_X8_count_88 ca, k_X8_count_89 ca, k_X8_count_90 ca, k_X8_count_91 ca, k_X8_count_92 ca, k_X8_count_95 ca, k_X8_count_97 ca, k_X8_count_98 ca, k_X8_count_99 ca, k_X8_count_100 ca, k_X8_count_103 ca, k_X8_count_104 ca, k_X8_count_105 ca, k_X8_count_108 ca, k_X8_count_109 ca, k_X8_count_110 ca, k_X8_count_113 ca, k_X8_count_115 ca, k_X8_count_116 ca, k_X8_count_117 ca, k_X8_count_118 ca, k_X8_count_119 ca, k_X8_count_120 ca, k_X8_count_121 ca, k_X8_count_122 ca, k_X8_count_124 ca, k_X8_count_126 ca, k_X8_count_129 ca, k_X8_count_132 ca, k_X8_count_133 ca, k_X8_count_136 ca, k_X8_count_137 ca, k_X8_count_138 ca, k_X8_count_139 ca, k_X8_count_141 ca, k_X8_count_142 ca, k_X8_count_143 ca, k_X8_count_146 ca, k_X8_count_148 ca, em', e0, v6]
    try clear hF hF0 F
    exact hs
  rw [if_neg q5] at hs
  by_cases q6 : w = 6
  · subst q6
    rw [if_pos rfl] at hs
    refine goN go (stp []) 160 _ _ _ _ _ _ (fun F hF hF0 => ?_)
    simp only [hF, hF0, ite_not, i_push, i_iload, i_lload, i_aload, i_istore, i_astore, i_lstore, i_iinc, i_bin, i_dv, i_un, i_lbin, i_lsh, i_i2l, i_l2i, i_lcmp, i_dup, i_dup2, i_pop, i_if, i_icmp, i_goto, swG, i_sw, i_getf, i_puti, i_putz, i_putr, i_ald, i_lald, i_aald, i_ast, i_last, i_aast, i_alen, i_new, i_newi, i_newl, i_newq, i_oinit, i_ret, i_zret, i_lret, i_vret, catS, tk, rpush, isO, i_m1, i_m2, i_acopy, i_callV, i_callS, KRet, lget, lput, lputL, lcl0, isL, lv0, List.map_cons, List.map_nil, List.length_cons, List.length_nil, List.cons_append, List.nil_append, Nat.reduceAdd, Nat.reduceSub, Nat.reduceLeDiff, List.replicate_succ, List.replicate_zero, List.getElem?_cons_succ, List.getElem?_cons_zero, List.set_cons_succ, List.set_cons_zero, true_and, and_true, if_true, if_false, ↓reduceIte, Nat.le_refl, Value.category, va_up_app, eq_self, stp, Nat.reduceBEq, Bool.or_false, Bool.false_or, Bool.true_or, Bool.or_true, or_true, true_or, bx_uu, implies_true, true_implies, not_true, not_false_eq_true, false_implies, and_self, Nat.reduceLT, Int32.reduceAdd, Int32.reduceSub, Int32.reduceMul, Int32.reduceLE, Int32.reduceLT, Int32.reduceToNatClampNeg, va_rf_some, Bool.false_eq_true, k_X8_count_0 ca, k_X8_count_1 ca, k_X8_count_44 ca, k_X8_count_45 ca, k_X8_count_48 ca, k_X8_count_50 ca, k_X8_count_51 ca, k_X8_count_52 ca, k_X8_count_53 ca, k_X8_count_56 ca, k_X8_count_57 ca, k_X8_count_60 ca, k_X8_count_62 ca, k_X8_count_63 ca, k_X8_count_64 ca, k_X8_count_65 ca, k_X8_count_68 ca, k_X8_count_69 ca, k_X8_count_72 ca, k_X8_count_74 ca, k_X8_count_75 ca, k_X8_count_76 ca, k_X8_count_77 ca, k_X8_count_78 ca, k_X8_count_81 ca, k_X8_count_82 ca, k_X8_count_85 ca, k_X8_count_87 ca, k_X8_count_88 ca, k_X8_count_89 ca, k_X8_count_90 ca, k_X8_count_91 ca, k_X8_count_92 ca, k_X8_count_95 ca, k_X8_count_97 ca, k_X8_count_98 ca, k_X8_count_99 ca, k_X8_count_100 ca, k_X8_count_103 ca, k_X8_count_104 ca, k_X8_count_105 ca, k_X8_count_108 ca, k_X8_count_109 ca, k_X8_count_110 ca, k_X8_count_113 ca, k_X8_count_115 ca, k_X8_count_116 ca, k_X8_count_117 ca, k_X8_count_118 ca, k_X8_count_119 ca, k_X8_count_120 ca, k_X8_count_121 ca, k_X8_count_122 ca, k_X8_count_124 ca, k_X8_count_126 ca, k_X8_count_129 ca, k_X8_count_132 ca, k_X8_count_133 ca, k_X8_count_136 ca, k_X8_count_137 ca, k_X8_count_138 ca, k_X8_count_139 ca, k_X8_count_141 ca, k_X8_count_142 ca, k_X8_count_143 ca, k_X8_count_146 ca, k_X8_count_148 ca, em', e0, v7]
    try clear hF hF0 F
    exact hs
  rw [if_neg q6] at hs
  cases q7 : isIn w 10 15 with
  | false =>
    rw [q7, if_neg (by decide)] at hs
    refine goN go (stp []) 160 _ _ _ _ _ _ (fun F hF hF0 => ?_)
    simp only [hF, hF0, ite_not, i_push, i_iload, i_lload, i_aload, i_istore, i_astore, i_lstore, i_iinc, i_bin, i_dv, i_un, i_lbin, i_lsh, i_i2l, i_l2i, i_lcmp, i_dup, i_dup2, i_pop, i_if, i_icmp, i_goto, swG, i_sw, i_getf, i_puti, i_putz, i_putr, i_ald, i_lald, i_aald, i_ast, i_last, i_aast, i_alen, i_new, i_newi, i_newl, i_newq, i_oinit, i_ret, i_zret, i_lret, i_vret, catS, tk, rpush, isO, i_m1, i_m2, i_acopy, i_callV, i_callS, KRet, lget, lput, lputL, lcl0, isL, lv0, List.map_cons, List.map_nil, List.length_cons, List.length_nil, List.cons_append, List.nil_append, Nat.reduceAdd, Nat.reduceSub, Nat.reduceLeDiff, List.replicate_succ, List.replicate_zero, List.getElem?_cons_succ, List.getElem?_cons_zero, List.set_cons_succ, List.set_cons_zero, true_and, and_true, if_true, if_false, ↓reduceIte, Nat.le_refl, Value.category, va_up_app, eq_self, stp, Nat.reduceBEq, Bool.or_false, Bool.false_or, Bool.true_or, Bool.or_true, or_true, true_or, bx_uu, implies_true, true_implies, not_true, not_false_eq_true, false_implies, and_self, Nat.reduceLT, Int32.reduceAdd, Int32.reduceSub, Int32.reduceMul, Int32.reduceLE, Int32.reduceLT, Int32.reduceToNatClampNeg, va_rf_some, Bool.false_eq_true, k_X8_count_0 ca, k_X8_count_1 ca, k_X8_count_44 ca, k_X8_count_45 ca, k_X8_count_48 ca, k_X8_count_50 ca, k_X8_count_51 ca, k_X8_count_52 ca, k_X8_count_53 ca, k_X8_count_56 ca, k_X8_count_57 ca, k_X8_count_60 ca, k_X8_count_62 ca, k_X8_count_63 ca, k_X8_count_64 ca, k_X8_count_65 ca, k_X8_count_68 ca, k_X8_count_69 ca, k_X8_count_72 ca, k_X8_count_74 ca, k_X8_count_75 ca, k_X8_count_76 ca, k_X8_count_77 ca, k_X8_count_78 ca, k_X8_count_81 ca, k_X8_count_82 ca, k_X8_count_85 ca, k_X8_count_87 ca, k_X8_count_88 ca, k_X8_count_89 ca, k_X8_count_90 ca, k_X8_count_91 ca, k_X8_count_92 ca, k_X8_count_95 ca, k_X8_count_97 ca, k_X8_count_98 ca, k_X8_count_99 ca, k_X8_count_100 ca, k_X8_count_103 ca, k_X8_count_104 ca, k_X8_count_105 ca, k_X8_count_108 ca, k_X8_count_109 ca, k_X8_count_110 ca, k_X8_count_113 ca, k_X8_count_115 ca, k_X8_count_116 ca, k_X8_count_117 ca, k_X8_count_118 ca, k_X8_count_119 ca, k_X8_count_120 ca, k_X8_count_121 ca, k_X8_count_122 ca, k_X8_count_124 ca, k_X8_count_126 ca, k_X8_count_129 ca, k_X8_count_132 ca, k_X8_count_133 ca, k_X8_count_136 ca, k_X8_count_137 ca, k_X8_count_138 ca, k_X8_count_139 ca, k_X8_count_141 ca, k_X8_count_142 ca, k_X8_count_143 ca, k_X8_count_146 ca, k_X8_count_148 ca, q0, q1, q2, q3, q4, q5, q6, sp_X8_in, sp_X7_isWithin, q7, b2i_f]
    try clear hF hF0 F
    exact hs
  | true =>
    rw [q7, if_pos rfl] at hs
    have hw : vp_in (w - 10) 127 := by
      obtain ⟨W, hW, rfl⟩ := isIn1 (B := 15) (by decide) rfl q7
      have hW10 : 10 ≤ W := by
        unfold isIn at q7
        simp only [Bool.and_eq_true, Bool.not_eq_true', decide_eq_false_iff_not] at q7
        exact Nat.le_of_not_lt (fun z => q7.1 (nI_lt (b := 10) z (by decide)))
      rw [show (10 : Int32) = nI 10 from rfl, sub_nI hW10]
      exact vp127 (by omega)
    refine goN go (stp []) 160 _ _ _ _ _ _ (fun F hF hF0 => ?_)
    simp only [hF, hF0, ite_not, i_push, i_iload, i_lload, i_aload, i_istore, i_astore, i_lstore, i_iinc, i_bin, i_dv, i_un, i_lbin, i_lsh, i_i2l, i_l2i, i_lcmp, i_dup, i_dup2, i_pop, i_if, i_icmp, i_goto, swG, i_sw, i_getf, i_puti, i_putz, i_putr, i_ald, i_lald, i_aald, i_ast, i_last, i_aast, i_alen, i_new, i_newi, i_newl, i_newq, i_oinit, i_ret, i_zret, i_lret, i_vret, catS, tk, rpush, isO, i_m1, i_m2, i_acopy, i_callV, i_callS, KRet, lget, lput, lputL, lcl0, isL, lv0, List.map_cons, List.map_nil, List.length_cons, List.length_nil, List.cons_append, List.nil_append, Nat.reduceAdd, Nat.reduceSub, Nat.reduceLeDiff, List.replicate_succ, List.replicate_zero, List.getElem?_cons_succ, List.getElem?_cons_zero, List.set_cons_succ, List.set_cons_zero, true_and, and_true, if_true, if_false, ↓reduceIte, Nat.le_refl, Value.category, va_up_app, eq_self, stp, Nat.reduceBEq, Bool.or_false, Bool.false_or, Bool.true_or, Bool.or_true, or_true, true_or, bx_uu, implies_true, true_implies, not_true, not_false_eq_true, false_implies, and_self, Nat.reduceLT, Int32.reduceAdd, Int32.reduceSub, Int32.reduceMul, Int32.reduceLE, Int32.reduceLT, Int32.reduceToNatClampNeg, va_rf_some, Bool.false_eq_true, k_X8_count_0 ca, k_X8_count_1 ca, k_X8_count_44 ca, k_X8_count_45 ca, k_X8_count_48 ca, k_X8_count_50 ca, k_X8_count_51 ca, k_X8_count_52 ca, k_X8_count_53 ca, k_X8_count_56 ca, k_X8_count_57 ca, k_X8_count_60 ca, k_X8_count_62 ca, k_X8_count_63 ca, k_X8_count_64 ca, k_X8_count_65 ca, k_X8_count_68 ca, k_X8_count_69 ca, k_X8_count_72 ca, k_X8_count_74 ca, k_X8_count_75 ca, k_X8_count_76 ca, k_X8_count_77 ca, k_X8_count_78 ca, k_X8_count_81 ca, k_X8_count_82 ca, k_X8_count_85 ca, k_X8_count_87 ca, k_X8_count_88 ca, k_X8_count_89 ca, k_X8_count_90 ca, k_X8_count_91 ca, k_X8_count_92 ca, k_X8_count_95 ca, k_X8_count_97 ca, k_X8_count_98 ca, k_X8_count_99 ca, k_X8_count_100 ca, k_X8_count_103 ca, k_X8_count_104 ca, k_X8_count_105 ca, k_X8_count_108 ca, k_X8_count_109 ca, k_X8_count_110 ca, k_X8_count_113 ca, k_X8_count_115 ca, k_X8_count_116 ca, k_X8_count_117 ca, k_X8_count_118 ca, k_X8_count_119 ca, k_X8_count_120 ca, k_X8_count_121 ca, k_X8_count_122 ca, k_X8_count_124 ca, k_X8_count_126 ca, k_X8_count_129 ca, k_X8_count_132 ca, k_X8_count_133 ca, k_X8_count_136 ca, k_X8_count_137 ca, k_X8_count_138 ca, k_X8_count_139 ca, k_X8_count_141 ca, k_X8_count_142 ca, k_X8_count_143 ca, k_X8_count_146 ca, k_X8_count_148 ca, q0, q1, q2, q3, q4, q5, q6, sp_X8_in, sp_X7_isWithin, q7, b2i_t, one0, Int32.zero_add, hw, em', e0]
    try clear hF hF0 F
    exact hs
def aBend (s : Nat → Int32) (x w : Int32) : Int32 := if isIn x 0 2 = true then (if isIn w (-500) 1500 = true then rt s (10 + 32 * x.toNatClampNeg) * (w - 200) else -10000001) else -10000001
def sp_X8_bend (ca : Nat → ClassId) : SPEC := fun av h post => ∃ m a s p t f n x w, av = [.ref m, .int x, .int w] ∧ RAt ca h m a s p t f n ∧ WfS s ∧ post (some (.int (aBend s x w))) h
def k_X8_bend (ca : Nat → ClassId) : Nat → IT := fun pc => lk pc [(0, i_iload 1 1),
  (1, i_callS 1 0 0 0 0 (sp_X8_isOne ca) 4),
  (4, i_if (fun x => x = 0) 23 7),
  (7, i_iload 2 8),
  (8, i_callS 1 0 0 0 0 (sp_X8_isWarmth ca) 11),
  (11, i_if (fun x => x = 0) 23 14),
  (14, i_aload 0 15),
  (15, i_iload 1 16),
  (16, i_iload 2 17),
  (17, i_callV 8 2 0 0 0 0 (sp_X8_bendAt ca) 20),
  (20, i_goto 25),
  (23, i_push (.int (-10000001)) 25),
  (25, i_ret)]
set_option maxRecDepth 20000 in
theorem t_X8_bend : Tb k_X8_bend yX8_bend cX8_bend 3 (some .int) 5 0 0 := by
  intro l D ca A p e s m args below meth c post X
  unfold k_X8_bend
  refine snd_cons (snd_iload_n X dX8_bend_0 rfl) ?_
  refine snd_cons (snd_callS X (ok_X8_isOne l D ca) rfl rfl w_722 w_723 w_9 w_724 (by decide) (by decide) dX8_bend_1) ?_
  refine snd_cons (snd_if_eq X dX8_bend_4 (by decide)) ?_
  refine snd_cons (snd_iload_n X dX8_bend_7 rfl) ?_
  refine snd_cons (snd_callS X (ok_X8_isWarmth l D ca) rfl rfl w_794 w_795 w_9 w_796 (by decide) (by decide) dX8_bend_8) ?_
  refine snd_cons (snd_if_eq X dX8_bend_11 (by decide)) ?_
  refine snd_cons (snd_aload_n X dX8_bend_14 rfl) ?_
  refine snd_cons (snd_iload_n X dX8_bend_15 rfl) ?_
  refine snd_cons (snd_iload_n X dX8_bend_16 rfl) ?_
  refine snd_cons (snd_callV X Fk8 (ok_X8_bendAt l D ca) rfl rfl w_758 w_760 wp_24 w_9 w_761 (by decide) (by decide) dX8_bend_17) ?_
  refine snd_cons (snd_goto X dX8_bend_20 (by decide)) ?_
  refine snd_cons (snd_ldc X w_709 dX8_bend_23) ?_
  refine snd_cons (snd_ret X dX8_bend_25) ?_
  exact snd_nil
theorem k_X8_bend_0 (ca : Nat → ClassId) : k_X8_bend ca 0 = i_iload 1 1 := rfl
theorem k_X8_bend_1 (ca : Nat → ClassId) : k_X8_bend ca 1 = i_callS 1 0 0 0 0 (sp_X8_isOne ca) 4 := rfl
theorem k_X8_bend_4 (ca : Nat → ClassId) : k_X8_bend ca 4 = i_if (fun x => x = 0) 23 7 := rfl
theorem k_X8_bend_7 (ca : Nat → ClassId) : k_X8_bend ca 7 = i_iload 2 8 := rfl
theorem k_X8_bend_8 (ca : Nat → ClassId) : k_X8_bend ca 8 = i_callS 1 0 0 0 0 (sp_X8_isWarmth ca) 11 := rfl
theorem k_X8_bend_11 (ca : Nat → ClassId) : k_X8_bend ca 11 = i_if (fun x => x = 0) 23 14 := rfl
theorem k_X8_bend_14 (ca : Nat → ClassId) : k_X8_bend ca 14 = i_aload 0 15 := rfl
theorem k_X8_bend_15 (ca : Nat → ClassId) : k_X8_bend ca 15 = i_iload 1 16 := rfl
theorem k_X8_bend_16 (ca : Nat → ClassId) : k_X8_bend ca 16 = i_iload 2 17 := rfl
theorem k_X8_bend_17 (ca : Nat → ClassId) : k_X8_bend ca 17 = i_callV 8 2 0 0 0 0 (sp_X8_bendAt ca) 20 := rfl
theorem k_X8_bend_20 (ca : Nat → ClassId) : k_X8_bend ca 20 = i_goto 25 := rfl
theorem k_X8_bend_23 (ca : Nat → ClassId) : k_X8_bend ca 23 = i_push (.int (-10000001)) 25 := rfl
theorem k_X8_bend_25 (ca : Nat → ClassId) : k_X8_bend ca 25 = i_ret := rfl
set_option maxHeartbeats 4000000 in
set_option maxRecDepth 20000 in
theorem ok_X8_bend (l : Launch) (D : va_G) (ca : Nat → ClassId) : OkAll l D ca yX8_bend cX8_bend 3 (some .int) 5 0 0 (sp_X8_bend ca) := by
  intro av h post hs
  obtain ⟨m, a, s, p, t, f, n, x, w, rfl, ⟨g, hR⟩, hW, hs⟩ := hs
  obtain ⟨fm, at', re, bd, kp, ks, iw, ip, fo, em, e0, -⟩ := id hR
  unfold aBend at hs
  refine okM_of t_X8_bend (by decide +kernel) (c1_ref (c1_int (c1_int c1_nil))) (Nat.le_of_ble_eq_true rfl) ?_
  intro K go
  cases q1 : isIn x 0 2 with
  | false =>
    rw [q1, if_neg (by decide)] at hs
    refine goN go (stp []) 160 _ _ _ _ _ _ (fun F hF hF0 => ?_)
    simp only [hF, hF0, ite_not, i_push, i_iload, i_lload, i_aload, i_istore, i_astore, i_lstore, i_iinc, i_bin, i_dv, i_un, i_lbin, i_lsh, i_i2l, i_l2i, i_lcmp, i_dup, i_dup2, i_pop, i_if, i_icmp, i_goto, swG, i_sw, i_getf, i_puti, i_putz, i_putr, i_ald, i_lald, i_aald, i_ast, i_last, i_aast, i_alen, i_new, i_newi, i_newl, i_newq, i_oinit, i_ret, i_zret, i_lret, i_vret, catS, tk, rpush, isO, i_m1, i_m2, i_acopy, i_callV, i_callS, KRet, lget, lput, lputL, lcl0, isL, lv0, List.map_cons, List.map_nil, List.length_cons, List.length_nil, List.cons_append, List.nil_append, Nat.reduceAdd, Nat.reduceSub, Nat.reduceLeDiff, List.replicate_succ, List.replicate_zero, List.getElem?_cons_succ, List.getElem?_cons_zero, List.set_cons_succ, List.set_cons_zero, true_and, and_true, if_true, if_false, ↓reduceIte, Nat.le_refl, Value.category, va_up_app, eq_self, stp, Nat.reduceBEq, Bool.or_false, Bool.false_or, Bool.true_or, Bool.or_true, or_true, true_or, bx_uu, implies_true, true_implies, not_true, not_false_eq_true, false_implies, and_self, Nat.reduceLT, Int32.reduceAdd, Int32.reduceSub, Int32.reduceMul, Int32.reduceLE, Int32.reduceLT, Int32.reduceToNatClampNeg, va_rf_some, Bool.false_eq_true, k_X8_bend_0 ca, k_X8_bend_1 ca, k_X8_bend_4 ca, k_X8_bend_7 ca, k_X8_bend_8 ca, k_X8_bend_11 ca, k_X8_bend_14 ca, k_X8_bend_15 ca, k_X8_bend_16 ca, k_X8_bend_17 ca, k_X8_bend_20 ca, k_X8_bend_23 ca, k_X8_bend_25 ca, sp_X8_isOne, sp_X7_isRoom, q1, b2i_f]
    try clear hF hF0 F
    exact hs
  | true =>
    rw [q1, if_pos rfl] at hs
    cases q2 : isIn w (-500) 1500 with
    | false =>
      rw [q2, if_neg (by decide)] at hs
      refine goN go (stp []) 160 _ _ _ _ _ _ (fun F hF hF0 => ?_)
      simp only [hF, hF0, ite_not, i_push, i_iload, i_lload, i_aload, i_istore, i_astore, i_lstore, i_iinc, i_bin, i_dv, i_un, i_lbin, i_lsh, i_i2l, i_l2i, i_lcmp, i_dup, i_dup2, i_pop, i_if, i_icmp, i_goto, swG, i_sw, i_getf, i_puti, i_putz, i_putr, i_ald, i_lald, i_aald, i_ast, i_last, i_aast, i_alen, i_new, i_newi, i_newl, i_newq, i_oinit, i_ret, i_zret, i_lret, i_vret, catS, tk, rpush, isO, i_m1, i_m2, i_acopy, i_callV, i_callS, KRet, lget, lput, lputL, lcl0, isL, lv0, List.map_cons, List.map_nil, List.length_cons, List.length_nil, List.cons_append, List.nil_append, Nat.reduceAdd, Nat.reduceSub, Nat.reduceLeDiff, List.replicate_succ, List.replicate_zero, List.getElem?_cons_succ, List.getElem?_cons_zero, List.set_cons_succ, List.set_cons_zero, true_and, and_true, if_true, if_false, ↓reduceIte, Nat.le_refl, Value.category, va_up_app, eq_self, stp, Nat.reduceBEq, Bool.or_false, Bool.false_or, Bool.true_or, Bool.or_true, or_true, true_or, bx_uu, implies_true, true_implies, not_true, not_false_eq_true, false_implies, and_self, Nat.reduceLT, Int32.reduceAdd, Int32.reduceSub, Int32.reduceMul, Int32.reduceLE, Int32.reduceLT, Int32.reduceToNatClampNeg, va_rf_some, Bool.false_eq_true, k_X8_bend_0 ca, k_X8_bend_1 ca, k_X8_bend_4 ca, k_X8_bend_7 ca, k_X8_bend_8 ca, k_X8_bend_11 ca, k_X8_bend_14 ca, k_X8_bend_15 ca, k_X8_bend_16 ca, k_X8_bend_17 ca, k_X8_bend_20 ca, k_X8_bend_23 ca, k_X8_bend_25 ca, sp_X8_isOne, sp_X7_isRoom, sp_X8_isWarmth, sp_X7_isWarmth, q1, q2, b2i_f, b2i_t, one0]
      try clear hF hF0 F
      exact hs
    | true =>
      rw [q2, if_pos rfl] at hs
      obtain ⟨X, hX, rfl⟩ := isIn0 (B := 2) rfl q1
      have xx : (nI X).toNatClampNeg = X := tn127 (by omega)
      rw [xx] at hs
      have em' := em
      unfold eMod at em'
      refine goN go (stp [20]) 160 _ _ _ _ _ _ (fun F hF hF0 => ?_)
      simp only [hF, hF0, ite_not, i_push, i_iload, i_lload, i_aload, i_istore, i_astore, i_lstore, i_iinc, i_bin, i_dv, i_un, i_lbin, i_lsh, i_i2l, i_l2i, i_lcmp, i_dup, i_dup2, i_pop, i_if, i_icmp, i_goto, swG, i_sw, i_getf, i_puti, i_putz, i_putr, i_ald, i_lald, i_aald, i_ast, i_last, i_aast, i_alen, i_new, i_newi, i_newl, i_newq, i_oinit, i_ret, i_zret, i_lret, i_vret, catS, tk, rpush, isO, i_m1, i_m2, i_acopy, i_callV, i_callS, KRet, lget, lput, lputL, lcl0, isL, lv0, List.map_cons, List.map_nil, List.length_cons, List.length_nil, List.cons_append, List.nil_append, Nat.reduceAdd, Nat.reduceSub, Nat.reduceLeDiff, List.replicate_succ, List.replicate_zero, List.getElem?_cons_succ, List.getElem?_cons_zero, List.set_cons_succ, List.set_cons_zero, true_and, and_true, if_true, if_false, ↓reduceIte, Nat.le_refl, Value.category, va_up_app, eq_self, stp, Nat.reduceBEq, Bool.or_false, Bool.false_or, Bool.true_or, Bool.or_true, or_true, true_or, bx_uu, implies_true, true_implies, not_true, not_false_eq_true, false_implies, and_self, Nat.reduceLT, Int32.reduceAdd, Int32.reduceSub, Int32.reduceMul, Int32.reduceLE, Int32.reduceLT, Int32.reduceToNatClampNeg, va_rf_some, Bool.false_eq_true, k_X8_bend_0 ca, k_X8_bend_1 ca, k_X8_bend_4 ca, k_X8_bend_7 ca, k_X8_bend_8 ca, k_X8_bend_11 ca, k_X8_bend_14 ca, k_X8_bend_15 ca, k_X8_bend_16 ca, k_X8_bend_17 ca, k_X8_bend_20 ca, k_X8_bend_23 ca, k_X8_bend_25 ca, sp_X8_isOne, sp_X7_isRoom, sp_X8_isWarmth, sp_X7_isWarmth, q1, q2, b2i_t, one0, em']
      try clear hF hF0 F
      refine ⟨m, a 0, s, X, w, by omega, rfl, ⟨⟨_, em⟩, e0⟩, hW.k (by omega), ?_⟩
      refine goN go (stp []) 160 _ _ _ _ _ _ (fun F hF hF0 => ?_)
      simp only [hF, hF0, ite_not, i_push, i_iload, i_lload, i_aload, i_istore, i_astore, i_lstore, i_iinc, i_bin, i_dv, i_un, i_lbin, i_lsh, i_i2l, i_l2i, i_lcmp, i_dup, i_dup2, i_pop, i_if, i_icmp, i_goto, swG, i_sw, i_getf, i_puti, i_putz, i_putr, i_ald, i_lald, i_aald, i_ast, i_last, i_aast, i_alen, i_new, i_newi, i_newl, i_newq, i_oinit, i_ret, i_zret, i_lret, i_vret, catS, tk, rpush, isO, i_m1, i_m2, i_acopy, i_callV, i_callS, KRet, lget, lput, lputL, lcl0, isL, lv0, List.map_cons, List.map_nil, List.length_cons, List.length_nil, List.cons_append, List.nil_append, Nat.reduceAdd, Nat.reduceSub, Nat.reduceLeDiff, List.replicate_succ, List.replicate_zero, List.getElem?_cons_succ, List.getElem?_cons_zero, List.set_cons_succ, List.set_cons_zero, true_and, and_true, if_true, if_false, ↓reduceIte, Nat.le_refl, Value.category, va_up_app, eq_self, stp, Nat.reduceBEq, Bool.or_false, Bool.false_or, Bool.true_or, Bool.or_true, or_true, true_or, bx_uu, implies_true, true_implies, not_true, not_false_eq_true, false_implies, and_self, Nat.reduceLT, Int32.reduceAdd, Int32.reduceSub, Int32.reduceMul, Int32.reduceLE, Int32.reduceLT, Int32.reduceToNatClampNeg, va_rf_some, Bool.false_eq_true, k_X8_bend_0 ca, k_X8_bend_1 ca, k_X8_bend_4 ca, k_X8_bend_7 ca, k_X8_bend_8 ca, k_X8_bend_11 ca, k_X8_bend_14 ca, k_X8_bend_15 ca, k_X8_bend_16 ca, k_X8_bend_17 ca, k_X8_bend_20 ca, k_X8_bend_23 ca, k_X8_bend_25 ca]
      try clear hF hF0 F
      exact hs
/-! the least warmth that pulls up, the greatest that pulls back: r warmths left, k seen -/
def tpU (by' hi : Int32) : Nat → Nat → Int32
  | 0, _ => -10000004
  | r + 1, k => if by' * (-500 + nI k - 200) < hi then tpU by' hi r (k + 1) else -500 + nI k
def tpD (by' lo : Int32) : Nat → Nat → Int32
  | 0, _ => -10000004
  | r + 1, k => if lo < by' * (1500 - nI k - 200) then tpD by' lo r (k + 1) else 1500 - nI k
def aTripM (s : Nat → Int32) (x w : Int32) : Int32 := if isIn x 0 2 = true then (if isIn w 0 1 = true then (if w = 0 then tpU (rt s (10 + 32 * x.toNatClampNeg)) (s (10 + 32 * x.toNatClampNeg + 2)) 2001 0 else tpD (rt s (10 + 32 * x.toNatClampNeg)) (s (10 + 32 * x.toNatClampNeg + 1)) 2001 0) else -10000001) else -10000001
def sp_X8_tripsAt (ca : Nat → ClassId) : SPEC := fun av h post => ∃ m a s p t f n x w, av = [.ref m, .int x, .int w] ∧ RAt ca h m a s p t f n ∧ WfS s ∧ post (some (.int (aTripM s x w))) h
def k_X8_tripsAt (ca : Nat → ClassId) : Nat → IT := fun pc => lk pc [(0, i_iload 1 1),
  (1, i_callS 1 0 0 0 0 (sp_X8_isOne ca) 4),
  (4, i_if (fun x => x = 0) 16 7),
  (7, i_iload 2 8),
  (8, i_push (.int 0) 9),
  (9, i_push (.int 1) 10),
  (10, i_callS 3 0 0 0 0 (sp_X8_in ca) 13),
  (13, i_if (fun x => ¬ x = 0) 19 16),
  (16, i_push (.int (-10000001)) 18),
  (18, i_ret),
  (19, i_aload 0 20),
  (20, i_iload 1 21),
  (21, i_callV 8 1 0 0 0 0 (sp_X8_bendOfStrip ca) 24),
  (24, i_istore 3 25),
  (25, i_push (.int 0) 26),
  (26, i_istore 4 28),
  (28, i_iload 4 30),
  (30, i_push (.int 2000) 33),
  (33, i_icmp (fun x y => y < x) 115 36),
  (36, i_iload 2 37),
  (37, i_if (fun x => ¬ x = 0) 49 40),
  (40, i_push (.int (-500)) 43),
  (43, i_iload 4 45),
  (45, i_bin (fun x y => x + y) 46),
  (46, i_goto 55),
  (49, i_push (.int 1500) 52),
  (52, i_iload 4 54),
  (54, i_bin (fun x y => x - y) 55),
  (55, i_istore 5 57),
  (57, i_iload 3 58),
  (58, i_iload 5 60),
  (60, i_push (.int 200) 63),
  (63, i_bin (fun x y => x - y) 64),
  (64, i_bin (fun x y => x * y) 65),
  (65, i_istore 6 67),
  (67, i_iload 2 68),
  (68, i_if (fun x => ¬ x = 0) 90 71),
  (71, i_iload 6 73),
  (73, i_aload 0 74),
  (74, i_getf 8 0 77),
  (77, i_iload 1 78),
  (78, i_callS 1 0 0 0 0 (sp_X8_stripAt ca) 81),
  (81, i_push (.int 2) 82),
  (82, i_bin (fun x y => x + y) 83),
  (83, i_ald (ca 0) 84),
  (84, i_icmp (fun x y => x < y) 109 87),
  (87, i_goto 106),
  (90, i_iload 6 92),
  (92, i_aload 0 93),
  (93, i_getf 8 0 96),
  (96, i_iload 1 97),
  (97, i_callS 1 0 0 0 0 (sp_X8_stripAt ca) 100),
  (100, i_push (.int 1) 101),
  (101, i_bin (fun x y => x + y) 102),
  (102, i_ald (ca 0) 103),
  (103, i_icmp (fun x y => y < x) 109 106),
  (106, i_iload 5 108),
  (108, i_ret),
  (109, i_iinc 4 1 112),
  (112, i_goto 28),
  (115, i_push (.int (-10000004)) 117),
  (117, i_ret)]
set_option maxRecDepth 20000 in
theorem t_X8_tripsAt : Tb k_X8_tripsAt yX8_tripsAt cX8_tripsAt 7 (some .int) 4 0 0 := by
  intro l D ca A p e s m args below meth c post X
  unfold k_X8_tripsAt
  refine snd_cons (snd_iload_n X dX8_tripsAt_0 rfl) ?_
  refine snd_cons (snd_callS X (ok_X8_isOne l D ca) rfl rfl w_722 w_723 w_9 w_724 (by decide) (by decide) dX8_tripsAt_1) ?_
  refine snd_cons (snd_if_eq X dX8_tripsAt_4 (by decide)) ?_
  refine snd_cons (snd_iload_n X dX8_tripsAt_7 rfl) ?_
  refine snd_cons (snd_iconst X dX8_tripsAt_8 (by decide)) ?_
  refine snd_cons (snd_iconst X dX8_tripsAt_9 (by decide)) ?_
  refine snd_cons (snd_callS X (ok_X8_in l D ca) rfl rfl w_702 w_703 w_9 w_704 (by decide) (by decide) dX8_tripsAt_10) ?_
  refine snd_cons (snd_if_ne X dX8_tripsAt_13 (by decide)) ?_
  refine snd_cons (snd_ldc X w_709 dX8_tripsAt_16) ?_
  refine snd_cons (snd_ret X dX8_tripsAt_18) ?_
  refine snd_cons (snd_aload_n X dX8_tripsAt_19 rfl) ?_
  refine snd_cons (snd_iload_n X dX8_tripsAt_20 rfl) ?_
  refine snd_cons (snd_callV X Fk8 (ok_X8_bendOfStrip l D ca) rfl rfl w_762 w_764 wp_25 w_9 w_765 (by decide) (by decide) dX8_tripsAt_21) ?_
  refine snd_cons (snd_istore_n X dX8_tripsAt_24 rfl (by decide)) ?_
  refine snd_cons (snd_iconst X dX8_tripsAt_25 (by decide)) ?_
  refine snd_cons (snd_istore X dX8_tripsAt_26 (by decide)) ?_
  refine snd_cons (snd_iload X dX8_tripsAt_28) ?_
  refine snd_cons (snd_sipush X dX8_tripsAt_30 (by decide)) ?_
  refine snd_cons (snd_icmp_gt X dX8_tripsAt_33 (by decide)) ?_
  refine snd_cons (snd_iload_n X dX8_tripsAt_36 rfl) ?_
  refine snd_cons (snd_if_ne X dX8_tripsAt_37 (by decide)) ?_
  refine snd_cons (snd_sipush X dX8_tripsAt_40 (by decide)) ?_
  refine snd_cons (snd_iload X dX8_tripsAt_43) ?_
  refine snd_cons (snd_iadd X dX8_tripsAt_45) ?_
  refine snd_cons (snd_goto X dX8_tripsAt_46 (by decide)) ?_
  refine snd_cons (snd_sipush X dX8_tripsAt_49 (by decide)) ?_
  refine snd_cons (snd_iload X dX8_tripsAt_52) ?_
  refine snd_cons (snd_isub X dX8_tripsAt_54) ?_
  refine snd_cons (snd_istore X dX8_tripsAt_55 (by decide)) ?_
  refine snd_cons (snd_iload_n X dX8_tripsAt_57 rfl) ?_
  refine snd_cons (snd_iload X dX8_tripsAt_58) ?_
  refine snd_cons (snd_sipush X dX8_tripsAt_60 (by decide)) ?_
  refine snd_cons (snd_isub X dX8_tripsAt_63) ?_
  refine snd_cons (snd_imul X dX8_tripsAt_64) ?_
  refine snd_cons (snd_istore X dX8_tripsAt_65 (by decide)) ?_
  refine snd_cons (snd_iload_n X dX8_tripsAt_67 rfl) ?_
  refine snd_cons (snd_if_ne X dX8_tripsAt_68 (by decide)) ?_
  refine snd_cons (snd_iload X dX8_tripsAt_71) ?_
  refine snd_cons (snd_aload_n X dX8_tripsAt_73 rfl) ?_
  refine snd_cons (snd_getf X Fk8 0 (by decide) w_647 dX8_tripsAt_74) ?_
  refine snd_cons (snd_iload_n X dX8_tripsAt_77 rfl) ?_
  refine snd_cons (snd_callS X (ok_X8_stripAt l D ca) rfl rfl w_641 w_642 w_9 w_643 (by decide) (by decide) dX8_tripsAt_78) ?_
  refine snd_cons (snd_iconst X dX8_tripsAt_81 (by decide)) ?_
  refine snd_cons (snd_iadd X dX8_tripsAt_82) ?_
  refine snd_cons (snd_iaload X dX8_tripsAt_83) ?_
  refine snd_cons (snd_icmp_lt X dX8_tripsAt_84 (by decide)) ?_
  refine snd_cons (snd_goto X dX8_tripsAt_87 (by decide)) ?_
  refine snd_cons (snd_iload X dX8_tripsAt_90) ?_
  refine snd_cons (snd_aload_n X dX8_tripsAt_92 rfl) ?_
  refine snd_cons (snd_getf X Fk8 0 (by decide) w_647 dX8_tripsAt_93) ?_
  refine snd_cons (snd_iload_n X dX8_tripsAt_96 rfl) ?_
  refine snd_cons (snd_callS X (ok_X8_stripAt l D ca) rfl rfl w_641 w_642 w_9 w_643 (by decide) (by decide) dX8_tripsAt_97) ?_
  refine snd_cons (snd_iconst X dX8_tripsAt_100 (by decide)) ?_
  refine snd_cons (snd_iadd X dX8_tripsAt_101) ?_
  refine snd_cons (snd_iaload X dX8_tripsAt_102) ?_
  refine snd_cons (snd_icmp_gt X dX8_tripsAt_103 (by decide)) ?_
  refine snd_cons (snd_iload X dX8_tripsAt_106) ?_
  refine snd_cons (snd_ret X dX8_tripsAt_108) ?_
  refine snd_cons (snd_iinc X dX8_tripsAt_109 (by decide) (by decide)) ?_
  refine snd_cons (snd_goto X dX8_tripsAt_112 (by decide)) ?_
  refine snd_cons (snd_ldc X w_857 dX8_tripsAt_115) ?_
  refine snd_cons (snd_ret X dX8_tripsAt_117) ?_
  exact snd_nil
theorem k_X8_tripsAt_0 (ca : Nat → ClassId) : k_X8_tripsAt ca 0 = i_iload 1 1 := rfl
theorem k_X8_tripsAt_1 (ca : Nat → ClassId) : k_X8_tripsAt ca 1 = i_callS 1 0 0 0 0 (sp_X8_isOne ca) 4 := rfl
theorem k_X8_tripsAt_4 (ca : Nat → ClassId) : k_X8_tripsAt ca 4 = i_if (fun x => x = 0) 16 7 := rfl
theorem k_X8_tripsAt_7 (ca : Nat → ClassId) : k_X8_tripsAt ca 7 = i_iload 2 8 := rfl
theorem k_X8_tripsAt_8 (ca : Nat → ClassId) : k_X8_tripsAt ca 8 = i_push (.int 0) 9 := rfl
theorem k_X8_tripsAt_9 (ca : Nat → ClassId) : k_X8_tripsAt ca 9 = i_push (.int 1) 10 := rfl
theorem k_X8_tripsAt_10 (ca : Nat → ClassId) : k_X8_tripsAt ca 10 = i_callS 3 0 0 0 0 (sp_X8_in ca) 13 := rfl
theorem k_X8_tripsAt_13 (ca : Nat → ClassId) : k_X8_tripsAt ca 13 = i_if (fun x => ¬ x = 0) 19 16 := rfl
theorem k_X8_tripsAt_16 (ca : Nat → ClassId) : k_X8_tripsAt ca 16 = i_push (.int (-10000001)) 18 := rfl
theorem k_X8_tripsAt_18 (ca : Nat → ClassId) : k_X8_tripsAt ca 18 = i_ret := rfl
theorem k_X8_tripsAt_19 (ca : Nat → ClassId) : k_X8_tripsAt ca 19 = i_aload 0 20 := rfl
theorem k_X8_tripsAt_20 (ca : Nat → ClassId) : k_X8_tripsAt ca 20 = i_iload 1 21 := rfl
theorem k_X8_tripsAt_21 (ca : Nat → ClassId) : k_X8_tripsAt ca 21 = i_callV 8 1 0 0 0 0 (sp_X8_bendOfStrip ca) 24 := rfl
theorem k_X8_tripsAt_24 (ca : Nat → ClassId) : k_X8_tripsAt ca 24 = i_istore 3 25 := rfl
theorem k_X8_tripsAt_25 (ca : Nat → ClassId) : k_X8_tripsAt ca 25 = i_push (.int 0) 26 := rfl
theorem k_X8_tripsAt_26 (ca : Nat → ClassId) : k_X8_tripsAt ca 26 = i_istore 4 28 := rfl
theorem k_X8_tripsAt_28 (ca : Nat → ClassId) : k_X8_tripsAt ca 28 = i_iload 4 30 := rfl
theorem k_X8_tripsAt_30 (ca : Nat → ClassId) : k_X8_tripsAt ca 30 = i_push (.int 2000) 33 := rfl
theorem k_X8_tripsAt_33 (ca : Nat → ClassId) : k_X8_tripsAt ca 33 = i_icmp (fun x y => y < x) 115 36 := rfl
theorem k_X8_tripsAt_36 (ca : Nat → ClassId) : k_X8_tripsAt ca 36 = i_iload 2 37 := rfl
theorem k_X8_tripsAt_37 (ca : Nat → ClassId) : k_X8_tripsAt ca 37 = i_if (fun x => ¬ x = 0) 49 40 := rfl
theorem k_X8_tripsAt_40 (ca : Nat → ClassId) : k_X8_tripsAt ca 40 = i_push (.int (-500)) 43 := rfl
theorem k_X8_tripsAt_43 (ca : Nat → ClassId) : k_X8_tripsAt ca 43 = i_iload 4 45 := rfl
theorem k_X8_tripsAt_45 (ca : Nat → ClassId) : k_X8_tripsAt ca 45 = i_bin (fun x y => x + y) 46 := rfl
theorem k_X8_tripsAt_46 (ca : Nat → ClassId) : k_X8_tripsAt ca 46 = i_goto 55 := rfl
theorem k_X8_tripsAt_49 (ca : Nat → ClassId) : k_X8_tripsAt ca 49 = i_push (.int 1500) 52 := rfl
theorem k_X8_tripsAt_52 (ca : Nat → ClassId) : k_X8_tripsAt ca 52 = i_iload 4 54 := rfl
theorem k_X8_tripsAt_54 (ca : Nat → ClassId) : k_X8_tripsAt ca 54 = i_bin (fun x y => x - y) 55 := rfl
theorem k_X8_tripsAt_55 (ca : Nat → ClassId) : k_X8_tripsAt ca 55 = i_istore 5 57 := rfl
theorem k_X8_tripsAt_57 (ca : Nat → ClassId) : k_X8_tripsAt ca 57 = i_iload 3 58 := rfl
theorem k_X8_tripsAt_58 (ca : Nat → ClassId) : k_X8_tripsAt ca 58 = i_iload 5 60 := rfl
theorem k_X8_tripsAt_60 (ca : Nat → ClassId) : k_X8_tripsAt ca 60 = i_push (.int 200) 63 := rfl
theorem k_X8_tripsAt_63 (ca : Nat → ClassId) : k_X8_tripsAt ca 63 = i_bin (fun x y => x - y) 64 := rfl
theorem k_X8_tripsAt_64 (ca : Nat → ClassId) : k_X8_tripsAt ca 64 = i_bin (fun x y => x * y) 65 := rfl
theorem k_X8_tripsAt_65 (ca : Nat → ClassId) : k_X8_tripsAt ca 65 = i_istore 6 67 := rfl
theorem k_X8_tripsAt_67 (ca : Nat → ClassId) : k_X8_tripsAt ca 67 = i_iload 2 68 := rfl
theorem k_X8_tripsAt_68 (ca : Nat → ClassId) : k_X8_tripsAt ca 68 = i_if (fun x => ¬ x = 0) 90 71 := rfl
theorem k_X8_tripsAt_71 (ca : Nat → ClassId) : k_X8_tripsAt ca 71 = i_iload 6 73 := rfl
theorem k_X8_tripsAt_73 (ca : Nat → ClassId) : k_X8_tripsAt ca 73 = i_aload 0 74 := rfl
theorem k_X8_tripsAt_74 (ca : Nat → ClassId) : k_X8_tripsAt ca 74 = i_getf 8 0 77 := rfl
theorem k_X8_tripsAt_77 (ca : Nat → ClassId) : k_X8_tripsAt ca 77 = i_iload 1 78 := rfl
theorem k_X8_tripsAt_78 (ca : Nat → ClassId) : k_X8_tripsAt ca 78 = i_callS 1 0 0 0 0 (sp_X8_stripAt ca) 81 := rfl
theorem k_X8_tripsAt_81 (ca : Nat → ClassId) : k_X8_tripsAt ca 81 = i_push (.int 2) 82 := rfl
theorem k_X8_tripsAt_82 (ca : Nat → ClassId) : k_X8_tripsAt ca 82 = i_bin (fun x y => x + y) 83 := rfl
theorem k_X8_tripsAt_83 (ca : Nat → ClassId) : k_X8_tripsAt ca 83 = i_ald (ca 0) 84 := rfl
theorem k_X8_tripsAt_84 (ca : Nat → ClassId) : k_X8_tripsAt ca 84 = i_icmp (fun x y => x < y) 109 87 := rfl
theorem k_X8_tripsAt_87 (ca : Nat → ClassId) : k_X8_tripsAt ca 87 = i_goto 106 := rfl
theorem k_X8_tripsAt_90 (ca : Nat → ClassId) : k_X8_tripsAt ca 90 = i_iload 6 92 := rfl
theorem k_X8_tripsAt_92 (ca : Nat → ClassId) : k_X8_tripsAt ca 92 = i_aload 0 93 := rfl
theorem k_X8_tripsAt_93 (ca : Nat → ClassId) : k_X8_tripsAt ca 93 = i_getf 8 0 96 := rfl
theorem k_X8_tripsAt_96 (ca : Nat → ClassId) : k_X8_tripsAt ca 96 = i_iload 1 97 := rfl
theorem k_X8_tripsAt_97 (ca : Nat → ClassId) : k_X8_tripsAt ca 97 = i_callS 1 0 0 0 0 (sp_X8_stripAt ca) 100 := rfl
theorem k_X8_tripsAt_100 (ca : Nat → ClassId) : k_X8_tripsAt ca 100 = i_push (.int 1) 101 := rfl
theorem k_X8_tripsAt_101 (ca : Nat → ClassId) : k_X8_tripsAt ca 101 = i_bin (fun x y => x + y) 102 := rfl
theorem k_X8_tripsAt_102 (ca : Nat → ClassId) : k_X8_tripsAt ca 102 = i_ald (ca 0) 103 := rfl
theorem k_X8_tripsAt_103 (ca : Nat → ClassId) : k_X8_tripsAt ca 103 = i_icmp (fun x y => y < x) 109 106 := rfl
theorem k_X8_tripsAt_106 (ca : Nat → ClassId) : k_X8_tripsAt ca 106 = i_iload 5 108 := rfl
theorem k_X8_tripsAt_108 (ca : Nat → ClassId) : k_X8_tripsAt ca 108 = i_ret := rfl
theorem k_X8_tripsAt_109 (ca : Nat → ClassId) : k_X8_tripsAt ca 109 = i_iinc 4 1 112 := rfl
theorem k_X8_tripsAt_112 (ca : Nat → ClassId) : k_X8_tripsAt ca 112 = i_goto 28 := rfl
theorem k_X8_tripsAt_115 (ca : Nat → ClassId) : k_X8_tripsAt ca 115 = i_push (.int (-10000004)) 117 := rfl
theorem k_X8_tripsAt_117 (ca : Nat → ClassId) : k_X8_tripsAt ca 117 = i_ret := rfl
set_option maxHeartbeats 4000000 in
set_option maxRecDepth 20000 in
theorem ok_X8_tripsAt (l : Launch) (D : va_G) (ca : Nat → ClassId) : OkAll l D ca yX8_tripsAt cX8_tripsAt 7 (some .int) 4 0 0 (sp_X8_tripsAt ca) := by
  intro av h post hs
  obtain ⟨m, a, s, p, t, f, n, x, w, rfl, ⟨g, hR⟩, hW, hs⟩ := hs
  obtain ⟨fm, at', re, bd, kp, ks, iw, ip, fo, em, e0, -⟩ := id hR
  have em' := em
  unfold eMod at em'
  unfold aTripM at hs
  refine okM_of t_X8_tripsAt (by decide +kernel) (c1_ref (c1_int (c1_int c1_nil))) (Nat.le_of_ble_eq_true rfl) ?_
  intro K go
  cases q1 : isIn x 0 2 with
  | false =>
    rw [q1, if_neg (by decide)] at hs
    refine goN go (stp []) 160 _ _ _ _ _ _ (fun F hF hF0 => ?_)
    simp only [hF, hF0, ite_not, i_push, i_iload, i_lload, i_aload, i_istore, i_astore, i_lstore, i_iinc, i_bin, i_dv, i_un, i_lbin, i_lsh, i_i2l, i_l2i, i_lcmp, i_dup, i_dup2, i_pop, i_if, i_icmp, i_goto, swG, i_sw, i_getf, i_puti, i_putz, i_putr, i_ald, i_lald, i_aald, i_ast, i_last, i_aast, i_alen, i_new, i_newi, i_newl, i_newq, i_oinit, i_ret, i_zret, i_lret, i_vret, catS, tk, rpush, isO, i_m1, i_m2, i_acopy, i_callV, i_callS, KRet, lget, lput, lputL, lcl0, isL, lv0, List.map_cons, List.map_nil, List.length_cons, List.length_nil, List.cons_append, List.nil_append, Nat.reduceAdd, Nat.reduceSub, Nat.reduceLeDiff, List.replicate_succ, List.replicate_zero, List.getElem?_cons_succ, List.getElem?_cons_zero, List.set_cons_succ, List.set_cons_zero, true_and, and_true, if_true, if_false, ↓reduceIte, Nat.le_refl, Value.category, va_up_app, eq_self, stp, Nat.reduceBEq, Bool.or_false, Bool.false_or, Bool.true_or, Bool.or_true, or_true, true_or, bx_uu, implies_true, true_implies, not_true, not_false_eq_true, false_implies, and_self, Nat.reduceLT, Int32.reduceAdd, Int32.reduceSub, Int32.reduceMul, Int32.reduceLE, Int32.reduceLT, Int32.reduceToNatClampNeg, va_rf_some, Bool.false_eq_true, k_X8_tripsAt_0 ca, k_X8_tripsAt_1 ca, k_X8_tripsAt_4 ca, k_X8_tripsAt_7 ca, k_X8_tripsAt_8 ca, k_X8_tripsAt_9 ca, k_X8_tripsAt_10 ca, k_X8_tripsAt_13 ca, k_X8_tripsAt_16 ca, k_X8_tripsAt_18 ca, k_X8_tripsAt_19 ca, k_X8_tripsAt_20 ca, k_X8_tripsAt_21 ca, k_X8_tripsAt_24 ca, k_X8_tripsAt_25 ca, k_X8_tripsAt_26 ca, k_X8_tripsAt_28 ca, k_X8_tripsAt_30 ca, k_X8_tripsAt_33 ca, k_X8_tripsAt_36 ca, k_X8_tripsAt_37 ca, k_X8_tripsAt_40 ca, k_X8_tripsAt_43 ca, k_X8_tripsAt_45 ca, k_X8_tripsAt_46 ca, k_X8_tripsAt_49 ca, k_X8_tripsAt_52 ca, k_X8_tripsAt_54 ca, k_X8_tripsAt_55 ca, k_X8_tripsAt_57 ca, k_X8_tripsAt_58 ca, k_X8_tripsAt_60 ca, k_X8_tripsAt_63 ca, k_X8_tripsAt_64 ca, k_X8_tripsAt_65 ca, k_X8_tripsAt_67 ca, k_X8_tripsAt_68 ca, k_X8_tripsAt_71 ca, k_X8_tripsAt_73 ca, k_X8_tripsAt_74 ca, k_X8_tripsAt_77 ca, k_X8_tripsAt_78 ca, k_X8_tripsAt_81 ca, k_X8_tripsAt_82 ca, k_X8_tripsAt_83 ca, k_X8_tripsAt_84 ca, k_X8_tripsAt_87 ca, k_X8_tripsAt_90 ca, k_X8_tripsAt_92 ca, k_X8_tripsAt_93 ca, k_X8_tripsAt_96 ca, k_X8_tripsAt_97 ca, k_X8_tripsAt_100 ca, k_X8_tripsAt_101 ca, k_X8_tripsAt_102 ca, k_X8_tripsAt_103 ca, k_X8_tripsAt_106 ca, k_X8_tripsAt_108 ca, k_X8_tripsAt_109 ca, k_X8_tripsAt_112 ca, k_X8_tripsAt_115 ca, k_X8_tripsAt_117 ca, sp_X8_isOne, sp_X7_isRoom, q1, b2i_f]
    try clear hF hF0 F
    exact hs
  | true =>
    rw [q1, if_pos rfl] at hs
    cases q2 : isIn w 0 1 with
    | false =>
      rw [q2, if_neg (by decide)] at hs
      refine goN go (stp []) 160 _ _ _ _ _ _ (fun F hF hF0 => ?_)
      simp only [hF, hF0, ite_not, i_push, i_iload, i_lload, i_aload, i_istore, i_astore, i_lstore, i_iinc, i_bin, i_dv, i_un, i_lbin, i_lsh, i_i2l, i_l2i, i_lcmp, i_dup, i_dup2, i_pop, i_if, i_icmp, i_goto, swG, i_sw, i_getf, i_puti, i_putz, i_putr, i_ald, i_lald, i_aald, i_ast, i_last, i_aast, i_alen, i_new, i_newi, i_newl, i_newq, i_oinit, i_ret, i_zret, i_lret, i_vret, catS, tk, rpush, isO, i_m1, i_m2, i_acopy, i_callV, i_callS, KRet, lget, lput, lputL, lcl0, isL, lv0, List.map_cons, List.map_nil, List.length_cons, List.length_nil, List.cons_append, List.nil_append, Nat.reduceAdd, Nat.reduceSub, Nat.reduceLeDiff, List.replicate_succ, List.replicate_zero, List.getElem?_cons_succ, List.getElem?_cons_zero, List.set_cons_succ, List.set_cons_zero, true_and, and_true, if_true, if_false, ↓reduceIte, Nat.le_refl, Value.category, va_up_app, eq_self, stp, Nat.reduceBEq, Bool.or_false, Bool.false_or, Bool.true_or, Bool.or_true, or_true, true_or, bx_uu, implies_true, true_implies, not_true, not_false_eq_true, false_implies, and_self, Nat.reduceLT, Int32.reduceAdd, Int32.reduceSub, Int32.reduceMul, Int32.reduceLE, Int32.reduceLT, Int32.reduceToNatClampNeg, va_rf_some, Bool.false_eq_true, k_X8_tripsAt_0 ca, k_X8_tripsAt_1 ca, k_X8_tripsAt_4 ca, k_X8_tripsAt_7 ca, k_X8_tripsAt_8 ca, k_X8_tripsAt_9 ca, k_X8_tripsAt_10 ca, k_X8_tripsAt_13 ca, k_X8_tripsAt_16 ca, k_X8_tripsAt_18 ca, k_X8_tripsAt_19 ca, k_X8_tripsAt_20 ca, k_X8_tripsAt_21 ca, k_X8_tripsAt_24 ca, k_X8_tripsAt_25 ca, k_X8_tripsAt_26 ca, k_X8_tripsAt_28 ca, k_X8_tripsAt_30 ca, k_X8_tripsAt_33 ca, k_X8_tripsAt_36 ca, k_X8_tripsAt_37 ca, k_X8_tripsAt_40 ca, k_X8_tripsAt_43 ca, k_X8_tripsAt_45 ca, k_X8_tripsAt_46 ca, k_X8_tripsAt_49 ca, k_X8_tripsAt_52 ca, k_X8_tripsAt_54 ca, k_X8_tripsAt_55 ca, k_X8_tripsAt_57 ca, k_X8_tripsAt_58 ca, k_X8_tripsAt_60 ca, k_X8_tripsAt_63 ca, k_X8_tripsAt_64 ca, k_X8_tripsAt_65 ca, k_X8_tripsAt_67 ca, k_X8_tripsAt_68 ca, k_X8_tripsAt_71 ca, k_X8_tripsAt_73 ca, k_X8_tripsAt_74 ca, k_X8_tripsAt_77 ca, k_X8_tripsAt_78 ca, k_X8_tripsAt_81 ca, k_X8_tripsAt_82 ca, k_X8_tripsAt_83 ca, k_X8_tripsAt_84 ca, k_X8_tripsAt_87 ca, k_X8_tripsAt_90 ca, k_X8_tripsAt_92 ca, k_X8_tripsAt_93 ca, k_X8_tripsAt_96 ca, k_X8_tripsAt_97 ca, k_X8_tripsAt_100 ca, k_X8_tripsAt_101 ca, k_X8_tripsAt_102 ca, k_X8_tripsAt_103 ca, k_X8_tripsAt_106 ca, k_X8_tripsAt_108 ca, k_X8_tripsAt_109 ca, k_X8_tripsAt_112 ca, k_X8_tripsAt_115 ca, k_X8_tripsAt_117 ca, sp_X8_isOne, sp_X7_isRoom, sp_X8_in, sp_X7_isWithin, q1, q2, b2i_f, b2i_t, one0]
      try clear hF hF0 F
      exact hs
    | true =>
      rw [q2, if_pos rfl] at hs
      obtain ⟨X, hX, rfl⟩ := isIn0 (B := 2) rfl q1
      have xx : (nI X).toNatClampNeg = X := tn127 (by omega)
      rw [xx] at hs
      refine goN go (stp [24]) 160 _ _ _ _ _ _ (fun F hF hF0 => ?_)
      simp only [hF, hF0, ite_not, i_push, i_iload, i_lload, i_aload, i_istore, i_astore, i_lstore, i_iinc, i_bin, i_dv, i_un, i_lbin, i_lsh, i_i2l, i_l2i, i_lcmp, i_dup, i_dup2, i_pop, i_if, i_icmp, i_goto, swG, i_sw, i_getf, i_puti, i_putz, i_putr, i_ald, i_lald, i_aald, i_ast, i_last, i_aast, i_alen, i_new, i_newi, i_newl, i_newq, i_oinit, i_ret, i_zret, i_lret, i_vret, catS, tk, rpush, isO, i_m1, i_m2, i_acopy, i_callV, i_callS, KRet, lget, lput, lputL, lcl0, isL, lv0, List.map_cons, List.map_nil, List.length_cons, List.length_nil, List.cons_append, List.nil_append, Nat.reduceAdd, Nat.reduceSub, Nat.reduceLeDiff, List.replicate_succ, List.replicate_zero, List.getElem?_cons_succ, List.getElem?_cons_zero, List.set_cons_succ, List.set_cons_zero, true_and, and_true, if_true, if_false, ↓reduceIte, Nat.le_refl, Value.category, va_up_app, eq_self, stp, Nat.reduceBEq, Bool.or_false, Bool.false_or, Bool.true_or, Bool.or_true, or_true, true_or, bx_uu, implies_true, true_implies, not_true, not_false_eq_true, false_implies, and_self, Nat.reduceLT, Int32.reduceAdd, Int32.reduceSub, Int32.reduceMul, Int32.reduceLE, Int32.reduceLT, Int32.reduceToNatClampNeg, va_rf_some, Bool.false_eq_true, k_X8_tripsAt_0 ca, k_X8_tripsAt_1 ca, k_X8_tripsAt_4 ca, k_X8_tripsAt_7 ca, k_X8_tripsAt_8 ca, k_X8_tripsAt_9 ca, k_X8_tripsAt_10 ca, k_X8_tripsAt_13 ca, k_X8_tripsAt_16 ca, k_X8_tripsAt_18 ca, k_X8_tripsAt_19 ca, k_X8_tripsAt_20 ca, k_X8_tripsAt_21 ca, k_X8_tripsAt_24 ca, k_X8_tripsAt_25 ca, k_X8_tripsAt_26 ca, k_X8_tripsAt_28 ca, k_X8_tripsAt_30 ca, k_X8_tripsAt_33 ca, k_X8_tripsAt_36 ca, k_X8_tripsAt_37 ca, k_X8_tripsAt_40 ca, k_X8_tripsAt_43 ca, k_X8_tripsAt_45 ca, k_X8_tripsAt_46 ca, k_X8_tripsAt_49 ca, k_X8_tripsAt_52 ca, k_X8_tripsAt_54 ca, k_X8_tripsAt_55 ca, k_X8_tripsAt_57 ca, k_X8_tripsAt_58 ca, k_X8_tripsAt_60 ca, k_X8_tripsAt_63 ca, k_X8_tripsAt_64 ca, k_X8_tripsAt_65 ca, k_X8_tripsAt_67 ca, k_X8_tripsAt_68 ca, k_X8_tripsAt_71 ca, k_X8_tripsAt_73 ca, k_X8_tripsAt_74 ca, k_X8_tripsAt_77 ca, k_X8_tripsAt_78 ca, k_X8_tripsAt_81 ca, k_X8_tripsAt_82 ca, k_X8_tripsAt_83 ca, k_X8_tripsAt_84 ca, k_X8_tripsAt_87 ca, k_X8_tripsAt_90 ca, k_X8_tripsAt_92 ca, k_X8_tripsAt_93 ca, k_X8_tripsAt_96 ca, k_X8_tripsAt_97 ca, k_X8_tripsAt_100 ca, k_X8_tripsAt_101 ca, k_X8_tripsAt_102 ca, k_X8_tripsAt_103 ca, k_X8_tripsAt_106 ca, k_X8_tripsAt_108 ca, k_X8_tripsAt_109 ca, k_X8_tripsAt_112 ca, k_X8_tripsAt_115 ca, k_X8_tripsAt_117 ca, sp_X8_isOne, sp_X7_isRoom, sp_X8_in, sp_X7_isWithin, q1, q2, b2i_t, one0, em']
      try clear hF hF0 F
      refine ⟨m, a 0, s, X, by omega, rfl, ⟨⟨_, em⟩, e0⟩, hW.k (by omega), ?_⟩
      generalize rt s (10 + 32 * X) = R at *
      clear q1 q2
      have x1 : (nI (10 + 32 * X + 1)).toNatClampNeg = 10 + 32 * X + 1 := tn127 (by omega)
      have v1 : vp_in (nI (10 + 32 * X + 1)) 127 := vp127 (by omega)
      have x2 : (nI (10 + 32 * X + 2)).toNatClampNeg = 10 + 32 * X + 2 := tn127 (by omega)
      have v2 : vp_in (nI (10 + 32 * X + 2)) 127 := vp127 (by omega)
      by_cases q3 : w = 0
      · subst q3
        rw [if_pos rfl] at hs
        have key : ∀ r k y5 y6, k + r = 2001 → tpU R (s (10 + 32 * X + 2)) 2001 0 = tpU R (s (10 + 32 * X + 2)) r k → K 0 0 28 [some (.ref m), some (.int (nI X)), some (.int 0), some (.int R), some (.int (nI k)), y5, y6] [] h := by
          intro r
          induction r with
          | zero =>
            intro k y5 y6 hk e
            rw [e] at hs
            have g1 : ((2000 : Int32) < nI k) = True := eq_true (nI_lt (a := 2000) (by omega) (by omega))
            refine goN go (stp []) 160 _ _ _ _ _ _ (fun F hF hF0 => ?_)
            simp only [hF, hF0, ite_not, i_push, i_iload, i_lload, i_aload, i_istore, i_astore, i_lstore, i_iinc, i_bin, i_dv, i_un, i_lbin, i_lsh, i_i2l, i_l2i, i_lcmp, i_dup, i_dup2, i_pop, i_if, i_icmp, i_goto, swG, i_sw, i_getf, i_puti, i_putz, i_putr, i_ald, i_lald, i_aald, i_ast, i_last, i_aast, i_alen, i_new, i_newi, i_newl, i_newq, i_oinit, i_ret, i_zret, i_lret, i_vret, catS, tk, rpush, isO, i_m1, i_m2, i_acopy, i_callV, i_callS, KRet, lget, lput, lputL, lcl0, isL, lv0, List.map_cons, List.map_nil, List.length_cons, List.length_nil, List.cons_append, List.nil_append, Nat.reduceAdd, Nat.reduceSub, Nat.reduceLeDiff, List.replicate_succ, List.replicate_zero, List.getElem?_cons_succ, List.getElem?_cons_zero, List.set_cons_succ, List.set_cons_zero, true_and, and_true, if_true, if_false, ↓reduceIte, Nat.le_refl, Value.category, va_up_app, eq_self, stp, Nat.reduceBEq, Bool.or_false, Bool.false_or, Bool.true_or, Bool.or_true, or_true, true_or, bx_uu, implies_true, true_implies, not_true, not_false_eq_true, false_implies, and_self, Nat.reduceLT, Int32.reduceAdd, Int32.reduceSub, Int32.reduceMul, Int32.reduceLE, Int32.reduceLT, Int32.reduceToNatClampNeg, va_rf_some, Bool.false_eq_true, k_X8_tripsAt_0 ca, k_X8_tripsAt_1 ca, k_X8_tripsAt_4 ca, k_X8_tripsAt_7 ca, k_X8_tripsAt_8 ca, k_X8_tripsAt_9 ca, k_X8_tripsAt_10 ca, k_X8_tripsAt_13 ca, k_X8_tripsAt_16 ca, k_X8_tripsAt_18 ca, k_X8_tripsAt_19 ca, k_X8_tripsAt_20 ca, k_X8_tripsAt_21 ca, k_X8_tripsAt_24 ca, k_X8_tripsAt_25 ca, k_X8_tripsAt_26 ca, k_X8_tripsAt_28 ca, k_X8_tripsAt_30 ca, k_X8_tripsAt_33 ca, k_X8_tripsAt_36 ca, k_X8_tripsAt_37 ca, k_X8_tripsAt_40 ca, k_X8_tripsAt_43 ca, k_X8_tripsAt_45 ca, k_X8_tripsAt_46 ca, k_X8_tripsAt_49 ca, k_X8_tripsAt_52 ca, k_X8_tripsAt_54 ca, k_X8_tripsAt_55 ca, k_X8_tripsAt_57 ca, k_X8_tripsAt_58 ca, k_X8_tripsAt_60 ca, k_X8_tripsAt_63 ca, k_X8_tripsAt_64 ca, k_X8_tripsAt_65 ca, k_X8_tripsAt_67 ca, k_X8_tripsAt_68 ca, k_X8_tripsAt_71 ca, k_X8_tripsAt_73 ca, k_X8_tripsAt_74 ca, k_X8_tripsAt_77 ca, k_X8_tripsAt_78 ca, k_X8_tripsAt_81 ca, k_X8_tripsAt_82 ca, k_X8_tripsAt_83 ca, k_X8_tripsAt_84 ca, k_X8_tripsAt_87 ca, k_X8_tripsAt_90 ca, k_X8_tripsAt_92 ca, k_X8_tripsAt_93 ca, k_X8_tripsAt_96 ca, k_X8_tripsAt_97 ca, k_X8_tripsAt_100 ca, k_X8_tripsAt_101 ca, k_X8_tripsAt_102 ca, k_X8_tripsAt_103 ca, k_X8_tripsAt_106 ca, k_X8_tripsAt_108 ca, k_X8_tripsAt_109 ca, k_X8_tripsAt_112 ca, k_X8_tripsAt_115 ca, k_X8_tripsAt_117 ca, g1]
            try clear hF hF0 F
            exact hs
          | succ r ih =>
            intro k y5 y6 hk e
            have g1 : ((2000 : Int32) < nI k) = False := eq_false (nI_nlt (a := 2000) (by omega) (by omega))
            rw [show tpU R (s (10 + 32 * X + 2)) (r + 1) k = if R * (-500 + nI k - 200) < s (10 + 32 * X + 2) then tpU R (s (10 + 32 * X + 2)) r (k + 1) else -500 + nI k from rfl] at e
            by_cases q4 : R * (-500 + nI k - 200) < s (10 + 32 * X + 2)
            · rw [if_pos q4] at e
              have k0 := ih (k + 1) (some (.int (-500 + nI k))) (some (.int (R * (-500 + nI k - 200)))) (by omega) e
              refine goN go (stp [28]) 160 _ _ _ _ _ _ (fun F hF hF0 => ?_)
              simp only [hF, hF0, ite_not, i_push, i_iload, i_lload, i_aload, i_istore, i_astore, i_lstore, i_iinc, i_bin, i_dv, i_un, i_lbin, i_lsh, i_i2l, i_l2i, i_lcmp, i_dup, i_dup2, i_pop, i_if, i_icmp, i_goto, swG, i_sw, i_getf, i_puti, i_putz, i_putr, i_ald, i_lald, i_aald, i_ast, i_last, i_aast, i_alen, i_new, i_newi, i_newl, i_newq, i_oinit, i_ret, i_zret, i_lret, i_vret, catS, tk, rpush, isO, i_m1, i_m2, i_acopy, i_callV, i_callS, KRet, lget, lput, lputL, lcl0, isL, lv0, List.map_cons, List.map_nil, List.length_cons, List.length_nil, List.cons_append, List.nil_append, Nat.reduceAdd, Nat.reduceSub, Nat.reduceLeDiff, List.replicate_succ, List.replicate_zero, List.getElem?_cons_succ, List.getElem?_cons_zero, List.set_cons_succ, List.set_cons_zero, true_and, and_true, if_true, if_false, ↓reduceIte, Nat.le_refl, Value.category, va_up_app, eq_self, stp, Nat.reduceBEq, Bool.or_false, Bool.false_or, Bool.true_or, Bool.or_true, or_true, true_or, bx_uu, implies_true, true_implies, not_true, not_false_eq_true, false_implies, and_self, Nat.reduceLT, Int32.reduceAdd, Int32.reduceSub, Int32.reduceMul, Int32.reduceLE, Int32.reduceLT, Int32.reduceToNatClampNeg, va_rf_some, Bool.false_eq_true, k_X8_tripsAt_0 ca, k_X8_tripsAt_1 ca, k_X8_tripsAt_4 ca, k_X8_tripsAt_7 ca, k_X8_tripsAt_8 ca, k_X8_tripsAt_9 ca, k_X8_tripsAt_10 ca, k_X8_tripsAt_13 ca, k_X8_tripsAt_16 ca, k_X8_tripsAt_18 ca, k_X8_tripsAt_19 ca, k_X8_tripsAt_20 ca, k_X8_tripsAt_21 ca, k_X8_tripsAt_24 ca, k_X8_tripsAt_25 ca, k_X8_tripsAt_26 ca, k_X8_tripsAt_28 ca, k_X8_tripsAt_30 ca, k_X8_tripsAt_33 ca, k_X8_tripsAt_36 ca, k_X8_tripsAt_37 ca, k_X8_tripsAt_40 ca, k_X8_tripsAt_43 ca, k_X8_tripsAt_45 ca, k_X8_tripsAt_46 ca, k_X8_tripsAt_49 ca, k_X8_tripsAt_52 ca, k_X8_tripsAt_54 ca, k_X8_tripsAt_55 ca, k_X8_tripsAt_57 ca, k_X8_tripsAt_58 ca, k_X8_tripsAt_60 ca, k_X8_tripsAt_63 ca, k_X8_tripsAt_64 ca, k_X8_tripsAt_65 ca, k_X8_tripsAt_67 ca, k_X8_tripsAt_68 ca, k_X8_tripsAt_71 ca, k_X8_tripsAt_73 ca, k_X8_tripsAt_74 ca, k_X8_tripsAt_77 ca, k_X8_tripsAt_78 ca, k_X8_tripsAt_81 ca, k_X8_tripsAt_82 ca, k_X8_tripsAt_83 ca, k_X8_tripsAt_84 ca, k_X8_tripsAt_87 ca, k_X8_tripsAt_90 ca, k_X8_tripsAt_92 ca, k_X8_tripsAt_93 ca, k_X8_tripsAt_96 ca, k_X8_tripsAt_97 ca, k_X8_tripsAt_100 ca, k_X8_tripsAt_101 ca, k_X8_tripsAt_102 ca, k_X8_tripsAt_103 ca, k_X8_tripsAt_106 ca, k_X8_tripsAt_108 ca, k_X8_tripsAt_109 ca, k_X8_tripsAt_112 ca, k_X8_tripsAt_115 ca, k_X8_tripsAt_117 ca, g1, em', e0, sp_X8_stripAt, s10, a_1, a_2, x2, v2, q4]
              try clear hF hF0 F
              exact k0
            · rw [if_neg q4] at e
              rw [e] at hs
              refine goN go (stp [28]) 160 _ _ _ _ _ _ (fun F hF hF0 => ?_)
              simp only [hF, hF0, ite_not, i_push, i_iload, i_lload, i_aload, i_istore, i_astore, i_lstore, i_iinc, i_bin, i_dv, i_un, i_lbin, i_lsh, i_i2l, i_l2i, i_lcmp, i_dup, i_dup2, i_pop, i_if, i_icmp, i_goto, swG, i_sw, i_getf, i_puti, i_putz, i_putr, i_ald, i_lald, i_aald, i_ast, i_last, i_aast, i_alen, i_new, i_newi, i_newl, i_newq, i_oinit, i_ret, i_zret, i_lret, i_vret, catS, tk, rpush, isO, i_m1, i_m2, i_acopy, i_callV, i_callS, KRet, lget, lput, lputL, lcl0, isL, lv0, List.map_cons, List.map_nil, List.length_cons, List.length_nil, List.cons_append, List.nil_append, Nat.reduceAdd, Nat.reduceSub, Nat.reduceLeDiff, List.replicate_succ, List.replicate_zero, List.getElem?_cons_succ, List.getElem?_cons_zero, List.set_cons_succ, List.set_cons_zero, true_and, and_true, if_true, if_false, ↓reduceIte, Nat.le_refl, Value.category, va_up_app, eq_self, stp, Nat.reduceBEq, Bool.or_false, Bool.false_or, Bool.true_or, Bool.or_true, or_true, true_or, bx_uu, implies_true, true_implies, not_true, not_false_eq_true, false_implies, and_self, Nat.reduceLT, Int32.reduceAdd, Int32.reduceSub, Int32.reduceMul, Int32.reduceLE, Int32.reduceLT, Int32.reduceToNatClampNeg, va_rf_some, Bool.false_eq_true, k_X8_tripsAt_0 ca, k_X8_tripsAt_1 ca, k_X8_tripsAt_4 ca, k_X8_tripsAt_7 ca, k_X8_tripsAt_8 ca, k_X8_tripsAt_9 ca, k_X8_tripsAt_10 ca, k_X8_tripsAt_13 ca, k_X8_tripsAt_16 ca, k_X8_tripsAt_18 ca, k_X8_tripsAt_19 ca, k_X8_tripsAt_20 ca, k_X8_tripsAt_21 ca, k_X8_tripsAt_24 ca, k_X8_tripsAt_25 ca, k_X8_tripsAt_26 ca, k_X8_tripsAt_28 ca, k_X8_tripsAt_30 ca, k_X8_tripsAt_33 ca, k_X8_tripsAt_36 ca, k_X8_tripsAt_37 ca, k_X8_tripsAt_40 ca, k_X8_tripsAt_43 ca, k_X8_tripsAt_45 ca, k_X8_tripsAt_46 ca, k_X8_tripsAt_49 ca, k_X8_tripsAt_52 ca, k_X8_tripsAt_54 ca, k_X8_tripsAt_55 ca, k_X8_tripsAt_57 ca, k_X8_tripsAt_58 ca, k_X8_tripsAt_60 ca, k_X8_tripsAt_63 ca, k_X8_tripsAt_64 ca, k_X8_tripsAt_65 ca, k_X8_tripsAt_67 ca, k_X8_tripsAt_68 ca, k_X8_tripsAt_71 ca, k_X8_tripsAt_73 ca, k_X8_tripsAt_74 ca, k_X8_tripsAt_77 ca, k_X8_tripsAt_78 ca, k_X8_tripsAt_81 ca, k_X8_tripsAt_82 ca, k_X8_tripsAt_83 ca, k_X8_tripsAt_84 ca, k_X8_tripsAt_87 ca, k_X8_tripsAt_90 ca, k_X8_tripsAt_92 ca, k_X8_tripsAt_93 ca, k_X8_tripsAt_96 ca, k_X8_tripsAt_97 ca, k_X8_tripsAt_100 ca, k_X8_tripsAt_101 ca, k_X8_tripsAt_102 ca, k_X8_tripsAt_103 ca, k_X8_tripsAt_106 ca, k_X8_tripsAt_108 ca, k_X8_tripsAt_109 ca, k_X8_tripsAt_112 ca, k_X8_tripsAt_115 ca, k_X8_tripsAt_117 ca, g1, em', e0, sp_X8_stripAt, s10, a_1, a_2, x2, v2, q4]
              try clear hF hF0 F
              exact hs
        have k0 := key 2001 0 none none (by omega) rfl
        rw [nI_0] at k0
        refine goN go (stp [28]) 160 _ _ _ _ _ _ (fun F hF hF0 => ?_)
        simp only [hF, hF0, ite_not, i_push, i_iload, i_lload, i_aload, i_istore, i_astore, i_lstore, i_iinc, i_bin, i_dv, i_un, i_lbin, i_lsh, i_i2l, i_l2i, i_lcmp, i_dup, i_dup2, i_pop, i_if, i_icmp, i_goto, swG, i_sw, i_getf, i_puti, i_putz, i_putr, i_ald, i_lald, i_aald, i_ast, i_last, i_aast, i_alen, i_new, i_newi, i_newl, i_newq, i_oinit, i_ret, i_zret, i_lret, i_vret, catS, tk, rpush, isO, i_m1, i_m2, i_acopy, i_callV, i_callS, KRet, lget, lput, lputL, lcl0, isL, lv0, List.map_cons, List.map_nil, List.length_cons, List.length_nil, List.cons_append, List.nil_append, Nat.reduceAdd, Nat.reduceSub, Nat.reduceLeDiff, List.replicate_succ, List.replicate_zero, List.getElem?_cons_succ, List.getElem?_cons_zero, List.set_cons_succ, List.set_cons_zero, true_and, and_true, if_true, if_false, ↓reduceIte, Nat.le_refl, Value.category, va_up_app, eq_self, stp, Nat.reduceBEq, Bool.or_false, Bool.false_or, Bool.true_or, Bool.or_true, or_true, true_or, bx_uu, implies_true, true_implies, not_true, not_false_eq_true, false_implies, and_self, Nat.reduceLT, Int32.reduceAdd, Int32.reduceSub, Int32.reduceMul, Int32.reduceLE, Int32.reduceLT, Int32.reduceToNatClampNeg, va_rf_some, Bool.false_eq_true, k_X8_tripsAt_0 ca, k_X8_tripsAt_1 ca, k_X8_tripsAt_4 ca, k_X8_tripsAt_7 ca, k_X8_tripsAt_8 ca, k_X8_tripsAt_9 ca, k_X8_tripsAt_10 ca, k_X8_tripsAt_13 ca, k_X8_tripsAt_16 ca, k_X8_tripsAt_18 ca, k_X8_tripsAt_19 ca, k_X8_tripsAt_20 ca, k_X8_tripsAt_21 ca, k_X8_tripsAt_24 ca, k_X8_tripsAt_25 ca, k_X8_tripsAt_26 ca, k_X8_tripsAt_28 ca, k_X8_tripsAt_30 ca, k_X8_tripsAt_33 ca, k_X8_tripsAt_36 ca, k_X8_tripsAt_37 ca, k_X8_tripsAt_40 ca, k_X8_tripsAt_43 ca, k_X8_tripsAt_45 ca, k_X8_tripsAt_46 ca, k_X8_tripsAt_49 ca, k_X8_tripsAt_52 ca, k_X8_tripsAt_54 ca, k_X8_tripsAt_55 ca, k_X8_tripsAt_57 ca, k_X8_tripsAt_58 ca, k_X8_tripsAt_60 ca, k_X8_tripsAt_63 ca, k_X8_tripsAt_64 ca, k_X8_tripsAt_65 ca, k_X8_tripsAt_67 ca, k_X8_tripsAt_68 ca, k_X8_tripsAt_71 ca, k_X8_tripsAt_73 ca, k_X8_tripsAt_74 ca, k_X8_tripsAt_77 ca, k_X8_tripsAt_78 ca, k_X8_tripsAt_81 ca, k_X8_tripsAt_82 ca, k_X8_tripsAt_83 ca, k_X8_tripsAt_84 ca, k_X8_tripsAt_87 ca, k_X8_tripsAt_90 ca, k_X8_tripsAt_92 ca, k_X8_tripsAt_93 ca, k_X8_tripsAt_96 ca, k_X8_tripsAt_97 ca, k_X8_tripsAt_100 ca, k_X8_tripsAt_101 ca, k_X8_tripsAt_102 ca, k_X8_tripsAt_103 ca, k_X8_tripsAt_106 ca, k_X8_tripsAt_108 ca, k_X8_tripsAt_109 ca, k_X8_tripsAt_112 ca, k_X8_tripsAt_115 ca, k_X8_tripsAt_117 ca]
        try clear hF hF0 F
        exact k0
      · rw [if_neg q3] at hs
        have key : ∀ r k y5 y6, k + r = 2001 → tpD R (s (10 + 32 * X + 1)) 2001 0 = tpD R (s (10 + 32 * X + 1)) r k → K 0 0 28 [some (.ref m), some (.int (nI X)), some (.int w), some (.int R), some (.int (nI k)), y5, y6] [] h := by
          intro r
          induction r with
          | zero =>
            intro k y5 y6 hk e
            rw [e] at hs
            have g1 : ((2000 : Int32) < nI k) = True := eq_true (nI_lt (a := 2000) (by omega) (by omega))
            refine goN go (stp []) 160 _ _ _ _ _ _ (fun F hF hF0 => ?_)
            simp only [hF, hF0, ite_not, i_push, i_iload, i_lload, i_aload, i_istore, i_astore, i_lstore, i_iinc, i_bin, i_dv, i_un, i_lbin, i_lsh, i_i2l, i_l2i, i_lcmp, i_dup, i_dup2, i_pop, i_if, i_icmp, i_goto, swG, i_sw, i_getf, i_puti, i_putz, i_putr, i_ald, i_lald, i_aald, i_ast, i_last, i_aast, i_alen, i_new, i_newi, i_newl, i_newq, i_oinit, i_ret, i_zret, i_lret, i_vret, catS, tk, rpush, isO, i_m1, i_m2, i_acopy, i_callV, i_callS, KRet, lget, lput, lputL, lcl0, isL, lv0, List.map_cons, List.map_nil, List.length_cons, List.length_nil, List.cons_append, List.nil_append, Nat.reduceAdd, Nat.reduceSub, Nat.reduceLeDiff, List.replicate_succ, List.replicate_zero, List.getElem?_cons_succ, List.getElem?_cons_zero, List.set_cons_succ, List.set_cons_zero, true_and, and_true, if_true, if_false, ↓reduceIte, Nat.le_refl, Value.category, va_up_app, eq_self, stp, Nat.reduceBEq, Bool.or_false, Bool.false_or, Bool.true_or, Bool.or_true, or_true, true_or, bx_uu, implies_true, true_implies, not_true, not_false_eq_true, false_implies, and_self, Nat.reduceLT, Int32.reduceAdd, Int32.reduceSub, Int32.reduceMul, Int32.reduceLE, Int32.reduceLT, Int32.reduceToNatClampNeg, va_rf_some, Bool.false_eq_true, k_X8_tripsAt_0 ca, k_X8_tripsAt_1 ca, k_X8_tripsAt_4 ca, k_X8_tripsAt_7 ca, k_X8_tripsAt_8 ca, k_X8_tripsAt_9 ca, k_X8_tripsAt_10 ca, k_X8_tripsAt_13 ca, k_X8_tripsAt_16 ca, k_X8_tripsAt_18 ca, k_X8_tripsAt_19 ca, k_X8_tripsAt_20 ca, k_X8_tripsAt_21 ca, k_X8_tripsAt_24 ca, k_X8_tripsAt_25 ca, k_X8_tripsAt_26 ca, k_X8_tripsAt_28 ca, k_X8_tripsAt_30 ca, k_X8_tripsAt_33 ca, k_X8_tripsAt_36 ca, k_X8_tripsAt_37 ca, k_X8_tripsAt_40 ca, k_X8_tripsAt_43 ca, k_X8_tripsAt_45 ca, k_X8_tripsAt_46 ca, k_X8_tripsAt_49 ca, k_X8_tripsAt_52 ca, k_X8_tripsAt_54 ca, k_X8_tripsAt_55 ca, k_X8_tripsAt_57 ca, k_X8_tripsAt_58 ca, k_X8_tripsAt_60 ca, k_X8_tripsAt_63 ca, k_X8_tripsAt_64 ca, k_X8_tripsAt_65 ca, k_X8_tripsAt_67 ca, k_X8_tripsAt_68 ca, k_X8_tripsAt_71 ca, k_X8_tripsAt_73 ca, k_X8_tripsAt_74 ca, k_X8_tripsAt_77 ca, k_X8_tripsAt_78 ca, k_X8_tripsAt_81 ca, k_X8_tripsAt_82 ca, k_X8_tripsAt_83 ca, k_X8_tripsAt_84 ca, k_X8_tripsAt_87 ca, k_X8_tripsAt_90 ca, k_X8_tripsAt_92 ca, k_X8_tripsAt_93 ca, k_X8_tripsAt_96 ca, k_X8_tripsAt_97 ca, k_X8_tripsAt_100 ca, k_X8_tripsAt_101 ca, k_X8_tripsAt_102 ca, k_X8_tripsAt_103 ca, k_X8_tripsAt_106 ca, k_X8_tripsAt_108 ca, k_X8_tripsAt_109 ca, k_X8_tripsAt_112 ca, k_X8_tripsAt_115 ca, k_X8_tripsAt_117 ca, g1]
            try clear hF hF0 F
            exact hs
          | succ r ih =>
            intro k y5 y6 hk e
            have g1 : ((2000 : Int32) < nI k) = False := eq_false (nI_nlt (a := 2000) (by omega) (by omega))
            rw [show tpD R (s (10 + 32 * X + 1)) (r + 1) k = if s (10 + 32 * X + 1) < R * (1500 - nI k - 200) then tpD R (s (10 + 32 * X + 1)) r (k + 1) else 1500 - nI k from rfl] at e
            by_cases q4 : s (10 + 32 * X + 1) < R * (1500 - nI k - 200)
            · rw [if_pos q4] at e
              have k0 := ih (k + 1) (some (.int (1500 - nI k))) (some (.int (R * (1500 - nI k - 200)))) (by omega) e
              refine goN go (stp [28]) 160 _ _ _ _ _ _ (fun F hF hF0 => ?_)
              simp only [hF, hF0, ite_not, i_push, i_iload, i_lload, i_aload, i_istore, i_astore, i_lstore, i_iinc, i_bin, i_dv, i_un, i_lbin, i_lsh, i_i2l, i_l2i, i_lcmp, i_dup, i_dup2, i_pop, i_if, i_icmp, i_goto, swG, i_sw, i_getf, i_puti, i_putz, i_putr, i_ald, i_lald, i_aald, i_ast, i_last, i_aast, i_alen, i_new, i_newi, i_newl, i_newq, i_oinit, i_ret, i_zret, i_lret, i_vret, catS, tk, rpush, isO, i_m1, i_m2, i_acopy, i_callV, i_callS, KRet, lget, lput, lputL, lcl0, isL, lv0, List.map_cons, List.map_nil, List.length_cons, List.length_nil, List.cons_append, List.nil_append, Nat.reduceAdd, Nat.reduceSub, Nat.reduceLeDiff, List.replicate_succ, List.replicate_zero, List.getElem?_cons_succ, List.getElem?_cons_zero, List.set_cons_succ, List.set_cons_zero, true_and, and_true, if_true, if_false, ↓reduceIte, Nat.le_refl, Value.category, va_up_app, eq_self, stp, Nat.reduceBEq, Bool.or_false, Bool.false_or, Bool.true_or, Bool.or_true, or_true, true_or, bx_uu, implies_true, true_implies, not_true, not_false_eq_true, false_implies, and_self, Nat.reduceLT, Int32.reduceAdd, Int32.reduceSub, Int32.reduceMul, Int32.reduceLE, Int32.reduceLT, Int32.reduceToNatClampNeg, va_rf_some, Bool.false_eq_true, k_X8_tripsAt_0 ca, k_X8_tripsAt_1 ca, k_X8_tripsAt_4 ca, k_X8_tripsAt_7 ca, k_X8_tripsAt_8 ca, k_X8_tripsAt_9 ca, k_X8_tripsAt_10 ca, k_X8_tripsAt_13 ca, k_X8_tripsAt_16 ca, k_X8_tripsAt_18 ca, k_X8_tripsAt_19 ca, k_X8_tripsAt_20 ca, k_X8_tripsAt_21 ca, k_X8_tripsAt_24 ca, k_X8_tripsAt_25 ca, k_X8_tripsAt_26 ca, k_X8_tripsAt_28 ca, k_X8_tripsAt_30 ca, k_X8_tripsAt_33 ca, k_X8_tripsAt_36 ca, k_X8_tripsAt_37 ca, k_X8_tripsAt_40 ca, k_X8_tripsAt_43 ca, k_X8_tripsAt_45 ca, k_X8_tripsAt_46 ca, k_X8_tripsAt_49 ca, k_X8_tripsAt_52 ca, k_X8_tripsAt_54 ca, k_X8_tripsAt_55 ca, k_X8_tripsAt_57 ca, k_X8_tripsAt_58 ca, k_X8_tripsAt_60 ca, k_X8_tripsAt_63 ca, k_X8_tripsAt_64 ca, k_X8_tripsAt_65 ca, k_X8_tripsAt_67 ca, k_X8_tripsAt_68 ca, k_X8_tripsAt_71 ca, k_X8_tripsAt_73 ca, k_X8_tripsAt_74 ca, k_X8_tripsAt_77 ca, k_X8_tripsAt_78 ca, k_X8_tripsAt_81 ca, k_X8_tripsAt_82 ca, k_X8_tripsAt_83 ca, k_X8_tripsAt_84 ca, k_X8_tripsAt_87 ca, k_X8_tripsAt_90 ca, k_X8_tripsAt_92 ca, k_X8_tripsAt_93 ca, k_X8_tripsAt_96 ca, k_X8_tripsAt_97 ca, k_X8_tripsAt_100 ca, k_X8_tripsAt_101 ca, k_X8_tripsAt_102 ca, k_X8_tripsAt_103 ca, k_X8_tripsAt_106 ca, k_X8_tripsAt_108 ca, k_X8_tripsAt_109 ca, k_X8_tripsAt_112 ca, k_X8_tripsAt_115 ca, k_X8_tripsAt_117 ca, g1, q3, em', e0, sp_X8_stripAt, s10, a_1, a_2, x1, v1, q4]
              try clear hF hF0 F
              exact k0
            · rw [if_neg q4] at e
              rw [e] at hs
              refine goN go (stp [28]) 160 _ _ _ _ _ _ (fun F hF hF0 => ?_)
              simp only [hF, hF0, ite_not, i_push, i_iload, i_lload, i_aload, i_istore, i_astore, i_lstore, i_iinc, i_bin, i_dv, i_un, i_lbin, i_lsh, i_i2l, i_l2i, i_lcmp, i_dup, i_dup2, i_pop, i_if, i_icmp, i_goto, swG, i_sw, i_getf, i_puti, i_putz, i_putr, i_ald, i_lald, i_aald, i_ast, i_last, i_aast, i_alen, i_new, i_newi, i_newl, i_newq, i_oinit, i_ret, i_zret, i_lret, i_vret, catS, tk, rpush, isO, i_m1, i_m2, i_acopy, i_callV, i_callS, KRet, lget, lput, lputL, lcl0, isL, lv0, List.map_cons, List.map_nil, List.length_cons, List.length_nil, List.cons_append, List.nil_append, Nat.reduceAdd, Nat.reduceSub, Nat.reduceLeDiff, List.replicate_succ, List.replicate_zero, List.getElem?_cons_succ, List.getElem?_cons_zero, List.set_cons_succ, List.set_cons_zero, true_and, and_true, if_true, if_false, ↓reduceIte, Nat.le_refl, Value.category, va_up_app, eq_self, stp, Nat.reduceBEq, Bool.or_false, Bool.false_or, Bool.true_or, Bool.or_true, or_true, true_or, bx_uu, implies_true, true_implies, not_true, not_false_eq_true, false_implies, and_self, Nat.reduceLT, Int32.reduceAdd, Int32.reduceSub, Int32.reduceMul, Int32.reduceLE, Int32.reduceLT, Int32.reduceToNatClampNeg, va_rf_some, Bool.false_eq_true, k_X8_tripsAt_0 ca, k_X8_tripsAt_1 ca, k_X8_tripsAt_4 ca, k_X8_tripsAt_7 ca, k_X8_tripsAt_8 ca, k_X8_tripsAt_9 ca, k_X8_tripsAt_10 ca, k_X8_tripsAt_13 ca, k_X8_tripsAt_16 ca, k_X8_tripsAt_18 ca, k_X8_tripsAt_19 ca, k_X8_tripsAt_20 ca, k_X8_tripsAt_21 ca, k_X8_tripsAt_24 ca, k_X8_tripsAt_25 ca, k_X8_tripsAt_26 ca, k_X8_tripsAt_28 ca, k_X8_tripsAt_30 ca, k_X8_tripsAt_33 ca, k_X8_tripsAt_36 ca, k_X8_tripsAt_37 ca, k_X8_tripsAt_40 ca, k_X8_tripsAt_43 ca, k_X8_tripsAt_45 ca, k_X8_tripsAt_46 ca, k_X8_tripsAt_49 ca, k_X8_tripsAt_52 ca, k_X8_tripsAt_54 ca, k_X8_tripsAt_55 ca, k_X8_tripsAt_57 ca, k_X8_tripsAt_58 ca, k_X8_tripsAt_60 ca, k_X8_tripsAt_63 ca, k_X8_tripsAt_64 ca, k_X8_tripsAt_65 ca, k_X8_tripsAt_67 ca, k_X8_tripsAt_68 ca, k_X8_tripsAt_71 ca, k_X8_tripsAt_73 ca, k_X8_tripsAt_74 ca, k_X8_tripsAt_77 ca, k_X8_tripsAt_78 ca, k_X8_tripsAt_81 ca, k_X8_tripsAt_82 ca, k_X8_tripsAt_83 ca, k_X8_tripsAt_84 ca, k_X8_tripsAt_87 ca, k_X8_tripsAt_90 ca, k_X8_tripsAt_92 ca, k_X8_tripsAt_93 ca, k_X8_tripsAt_96 ca, k_X8_tripsAt_97 ca, k_X8_tripsAt_100 ca, k_X8_tripsAt_101 ca, k_X8_tripsAt_102 ca, k_X8_tripsAt_103 ca, k_X8_tripsAt_106 ca, k_X8_tripsAt_108 ca, k_X8_tripsAt_109 ca, k_X8_tripsAt_112 ca, k_X8_tripsAt_115 ca, k_X8_tripsAt_117 ca, g1, q3, em', e0, sp_X8_stripAt, s10, a_1, a_2, x1, v1, q4]
              try clear hF hF0 F
              exact hs
        have k0 := key 2001 0 none none (by omega) rfl
        rw [nI_0] at k0
        refine goN go (stp [28]) 160 _ _ _ _ _ _ (fun F hF hF0 => ?_)
        simp only [hF, hF0, ite_not, i_push, i_iload, i_lload, i_aload, i_istore, i_astore, i_lstore, i_iinc, i_bin, i_dv, i_un, i_lbin, i_lsh, i_i2l, i_l2i, i_lcmp, i_dup, i_dup2, i_pop, i_if, i_icmp, i_goto, swG, i_sw, i_getf, i_puti, i_putz, i_putr, i_ald, i_lald, i_aald, i_ast, i_last, i_aast, i_alen, i_new, i_newi, i_newl, i_newq, i_oinit, i_ret, i_zret, i_lret, i_vret, catS, tk, rpush, isO, i_m1, i_m2, i_acopy, i_callV, i_callS, KRet, lget, lput, lputL, lcl0, isL, lv0, List.map_cons, List.map_nil, List.length_cons, List.length_nil, List.cons_append, List.nil_append, Nat.reduceAdd, Nat.reduceSub, Nat.reduceLeDiff, List.replicate_succ, List.replicate_zero, List.getElem?_cons_succ, List.getElem?_cons_zero, List.set_cons_succ, List.set_cons_zero, true_and, and_true, if_true, if_false, ↓reduceIte, Nat.le_refl, Value.category, va_up_app, eq_self, stp, Nat.reduceBEq, Bool.or_false, Bool.false_or, Bool.true_or, Bool.or_true, or_true, true_or, bx_uu, implies_true, true_implies, not_true, not_false_eq_true, false_implies, and_self, Nat.reduceLT, Int32.reduceAdd, Int32.reduceSub, Int32.reduceMul, Int32.reduceLE, Int32.reduceLT, Int32.reduceToNatClampNeg, va_rf_some, Bool.false_eq_true, k_X8_tripsAt_0 ca, k_X8_tripsAt_1 ca, k_X8_tripsAt_4 ca, k_X8_tripsAt_7 ca, k_X8_tripsAt_8 ca, k_X8_tripsAt_9 ca, k_X8_tripsAt_10 ca, k_X8_tripsAt_13 ca, k_X8_tripsAt_16 ca, k_X8_tripsAt_18 ca, k_X8_tripsAt_19 ca, k_X8_tripsAt_20 ca, k_X8_tripsAt_21 ca, k_X8_tripsAt_24 ca, k_X8_tripsAt_25 ca, k_X8_tripsAt_26 ca, k_X8_tripsAt_28 ca, k_X8_tripsAt_30 ca, k_X8_tripsAt_33 ca, k_X8_tripsAt_36 ca, k_X8_tripsAt_37 ca, k_X8_tripsAt_40 ca, k_X8_tripsAt_43 ca, k_X8_tripsAt_45 ca, k_X8_tripsAt_46 ca, k_X8_tripsAt_49 ca, k_X8_tripsAt_52 ca, k_X8_tripsAt_54 ca, k_X8_tripsAt_55 ca, k_X8_tripsAt_57 ca, k_X8_tripsAt_58 ca, k_X8_tripsAt_60 ca, k_X8_tripsAt_63 ca, k_X8_tripsAt_64 ca, k_X8_tripsAt_65 ca, k_X8_tripsAt_67 ca, k_X8_tripsAt_68 ca, k_X8_tripsAt_71 ca, k_X8_tripsAt_73 ca, k_X8_tripsAt_74 ca, k_X8_tripsAt_77 ca, k_X8_tripsAt_78 ca, k_X8_tripsAt_81 ca, k_X8_tripsAt_82 ca, k_X8_tripsAt_83 ca, k_X8_tripsAt_84 ca, k_X8_tripsAt_87 ca, k_X8_tripsAt_90 ca, k_X8_tripsAt_92 ca, k_X8_tripsAt_93 ca, k_X8_tripsAt_96 ca, k_X8_tripsAt_97 ca, k_X8_tripsAt_100 ca, k_X8_tripsAt_101 ca, k_X8_tripsAt_102 ca, k_X8_tripsAt_103 ca, k_X8_tripsAt_106 ca, k_X8_tripsAt_108 ca, k_X8_tripsAt_109 ca, k_X8_tripsAt_112 ca, k_X8_tripsAt_115 ca, k_X8_tripsAt_117 ca]
        try clear hF hF0 F
        exact k0
