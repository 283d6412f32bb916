/-! SnapStacksModel: replaces -/
def rpS (s f : Nat → Int32) (o N : Nat) : Nat → Nat → Int32
  | 0 => shS s o N N
  | i + 1 => upd (upd (upd (upd (rpS s f o N i) (o + 8 + 3 * i) (f (4 * i) - 48)) (o + 8 + 3 * i + 1) (f (4 * i + 1) - 97)) (o + 8 + 3 * i + 2) (f (4 * i + 2) - 97)) o (nI (i + 1))
theorem rpS_o {s f : Nat → Int32} {o N : Nat} : ∀ i, rpS s f o N i o = nI i
  | 0 => by unfold rpS shS; rw [if_pos rfl, Nat.sub_self]
  | i + 1 => by unfold rpS; rw [pk_us]
def sp_X8_replaces (ca : Nat → ClassId) : SPEC := fun av h post => ∃ m a st n fm p re s f k M N, k < 3 ∧ M ≤ 8 ∧ av = [.ref m, .int (nI k), .int (nI M)] ∧ h m = some (eMod a st n fm p re) ∧ h (a 0) = some (.inl (ca 0, 127, .inl s)) ∧ h (a 3) = some (.inl (ca 0, 60, .inl f)) ∧ ¬ m = a 0 ∧ ¬ a 3 = a 0 ∧ s (10 + 32 * k) = nI N ∧ N ≤ 8 ∧
  post (some (.int (nI M))) (va_up h (a 0) (some (.inl (ca 0, 127, .inl (rpS s f (10 + 32 * k) N M)))))
def k_X8_replaces (ca : Nat → ClassId) : Nat → IT := fun pc => lk pc [(0, i_aload 0 1),
  (1, i_iload 1 2),
  (2, i_aload 0 3),
  (3, i_iload 1 4),
  (4, i_callV 8 1 0 0 0 0 (sp_X8_many ca) 7),
  (7, i_callV 8 2 0 0 0 0 (sp_X8_shortens ca) 10),
  (10, i_istore 3 11),
  (11, i_push (.int 0) 12),
  (12, i_istore 4 14),
  (14, i_iload 4 16),
  (16, i_iload 2 17),
  (17, i_icmp (fun x y => y ≤ x) 72 20),
  (20, i_aload 0 21),
  (21, i_iload 1 22),
  (22, i_aload 0 23),
  (23, i_getf 8 4 26),
  (26, i_push (.int 4) 27),
  (27, i_iload 4 29),
  (29, i_bin (fun x y => x * y) 30),
  (30, i_ald (ca 0) 31),
  (31, i_push (.int 48) 33),
  (33, i_bin (fun x y => x - y) 34),
  (34, i_aload 0 35),
  (35, i_getf 8 4 38),
  (38, i_push (.int 4) 39),
  (39, i_iload 4 41),
  (41, i_bin (fun x y => x * y) 42),
  (42, i_push (.int 1) 43),
  (43, i_bin (fun x y => x + y) 44),
  (44, i_ald (ca 0) 45),
  (45, i_push (.int 97) 47),
  (47, i_bin (fun x y => x - y) 48),
  (48, i_aload 0 49),
  (49, i_getf 8 4 52),
  (52, i_push (.int 4) 53),
  (53, i_iload 4 55),
  (55, i_bin (fun x y => x * y) 56),
  (56, i_push (.int 2) 57),
  (57, i_bin (fun x y => x + y) 58),
  (58, i_ald (ca 0) 59),
  (59, i_push (.int 97) 61),
  (61, i_bin (fun x y => x - y) 62),
  (62, i_callV 8 4 0 0 0 0 (sp_X8_adds ca) 65),
  (65, i_istore 3 66),
  (66, i_iinc 4 1 69),
  (69, i_goto 14),
  (72, i_iload 3 73),
  (73, i_ret)]
set_option maxRecDepth 20000 in
theorem t_X8_replaces : Tb k_X8_replaces yX8_replaces cX8_replaces 5 (some .int) 3 0 0 := by
  intro l D ca A p e s m args below meth c post X
  unfold k_X8_replaces
  refine snd_cons (snd_aload_n X dX8_replaces_0 rfl) ?_
  refine snd_cons (snd_iload_n X dX8_replaces_1 rfl) ?_
  refine snd_cons (snd_aload_n X dX8_replaces_2 rfl) ?_
  refine snd_cons (snd_iload_n X dX8_replaces_3 rfl) ?_
  refine snd_cons (snd_callV X Fk8 (ok_X8_many l D ca) rfl rfl w_732 w_734 wp_21 w_9 w_735 (by decide) (by decide) dX8_replaces_4) ?_
  refine snd_cons (snd_callV X Fk8 (ok_X8_shortens l D ca) rfl rfl w_741 w_743 wp_22 w_9 w_744 (by decide) (by decide) dX8_replaces_7) ?_
  refine snd_cons (snd_istore_n X dX8_replaces_10 rfl (by decide)) ?_
  refine snd_cons (snd_iconst X dX8_replaces_11 (by decide)) ?_
  refine snd_cons (snd_istore X dX8_replaces_12 (by decide)) ?_
  refine snd_cons (snd_iload X dX8_replaces_14) ?_
  refine snd_cons (snd_iload_n X dX8_replaces_16 rfl) ?_
  refine snd_cons (snd_icmp_ge X dX8_replaces_17 (by decide)) ?_
  refine snd_cons (snd_aload_n X dX8_replaces_20 rfl) ?_
  refine snd_cons (snd_iload_n X dX8_replaces_21 rfl) ?_
  refine snd_cons (snd_aload_n X dX8_replaces_22 rfl) ?_
  refine snd_cons (snd_getf X Fk8 4 (by decide) w_651 dX8_replaces_23) ?_
  refine snd_cons (snd_iconst X dX8_replaces_26 (by decide)) ?_
  refine snd_cons (snd_iload X dX8_replaces_27) ?_
  refine snd_cons (snd_imul X dX8_replaces_29) ?_
  refine snd_cons (snd_iaload X dX8_replaces_30) ?_
  refine snd_cons (snd_bipush X dX8_replaces_31 (by decide)) ?_
  refine snd_cons (snd_isub X dX8_replaces_33) ?_
  refine snd_cons (snd_aload_n X dX8_replaces_34 rfl) ?_
  refine snd_cons (snd_getf X Fk8 4 (by decide) w_651 dX8_replaces_35) ?_
  refine snd_cons (snd_iconst X dX8_replaces_38 (by decide)) ?_
  refine snd_cons (snd_iload X dX8_replaces_39) ?_
  refine snd_cons (snd_imul X dX8_replaces_41) ?_
  refine snd_cons (snd_iconst X dX8_replaces_42 (by decide)) ?_
  refine snd_cons (snd_iadd X dX8_replaces_43) ?_
  refine snd_cons (snd_iaload X dX8_replaces_44) ?_
  refine snd_cons (snd_bipush X dX8_replaces_45 (by decide)) ?_
  refine snd_cons (snd_isub X dX8_replaces_47) ?_
  refine snd_cons (snd_aload_n X dX8_replaces_48 rfl) ?_
  refine snd_cons (snd_getf X Fk8 4 (by decide) w_651 dX8_replaces_49) ?_
  refine snd_cons (snd_iconst X dX8_replaces_52 (by decide)) ?_
  refine snd_cons (snd_iload X dX8_replaces_53) ?_
  refine snd_cons (snd_imul X dX8_replaces_55) ?_
  refine snd_cons (snd_iconst X dX8_replaces_56 (by decide)) ?_
  refine snd_cons (snd_iadd X dX8_replaces_57) ?_
  refine snd_cons (snd_iaload X dX8_replaces_58) ?_
  refine snd_cons (snd_bipush X dX8_replaces_59 (by decide)) ?_
  refine snd_cons (snd_isub X dX8_replaces_61) ?_
  refine snd_cons (snd_callV X Fk8 (ok_X8_adds l D ca) rfl rfl w_728 w_730 wp_20 w_9 w_731 (by decide) (by decide) dX8_replaces_62) ?_
  refine snd_cons (snd_istore_n X dX8_replaces_65 rfl (by decide)) ?_
  refine snd_cons (snd_iinc X dX8_replaces_66 (by decide) (by decide)) ?_
  refine snd_cons (snd_goto X dX8_replaces_69 (by decide)) ?_
  refine snd_cons (snd_iload_n X dX8_replaces_72 rfl) ?_
  refine snd_cons (snd_ret X dX8_replaces_73) ?_
  exact snd_nil
theorem k_X8_replaces_0 (ca : Nat → ClassId) : k_X8_replaces ca 0 = i_aload 0 1 := rfl
theorem k_X8_replaces_1 (ca : Nat → ClassId) : k_X8_replaces ca 1 = i_iload 1 2 := rfl
theorem k_X8_replaces_2 (ca : Nat → ClassId) : k_X8_replaces ca 2 = i_aload 0 3 := rfl
theorem k_X8_replaces_3 (ca : Nat → ClassId) : k_X8_replaces ca 3 = i_iload 1 4 := rfl
theorem k_X8_replaces_4 (ca : Nat → ClassId) : k_X8_replaces ca 4 = i_callV 8 1 0 0 0 0 (sp_X8_many ca) 7 := rfl
theorem k_X8_replaces_7 (ca : Nat → ClassId) : k_X8_replaces ca 7 = i_callV 8 2 0 0 0 0 (sp_X8_shortens ca) 10 := rfl
theorem k_X8_replaces_10 (ca : Nat → ClassId) : k_X8_replaces ca 10 = i_istore 3 11 := rfl
theorem k_X8_replaces_11 (ca : Nat → ClassId) : k_X8_replaces ca 11 = i_push (.int 0) 12 := rfl
theorem k_X8_replaces_12 (ca : Nat → ClassId) : k_X8_replaces ca 12 = i_istore 4 14 := rfl
theorem k_X8_replaces_14 (ca : Nat → ClassId) : k_X8_replaces ca 14 = i_iload 4 16 := rfl
theorem k_X8_replaces_16 (ca : Nat → ClassId) : k_X8_replaces ca 16 = i_iload 2 17 := rfl
theorem k_X8_replaces_17 (ca : Nat → ClassId) : k_X8_replaces ca 17 = i_icmp (fun x y => y ≤ x) 72 20 := rfl
theorem k_X8_replaces_20 (ca : Nat → ClassId) : k_X8_replaces ca 20 = i_aload 0 21 := rfl
theorem k_X8_replaces_21 (ca : Nat → ClassId) : k_X8_replaces ca 21 = i_iload 1 22 := rfl
theorem k_X8_replaces_22 (ca : Nat → ClassId) : k_X8_replaces ca 22 = i_aload 0 23 := rfl
theorem k_X8_replaces_23 (ca : Nat → ClassId) : k_X8_replaces ca 23 = i_getf 8 4 26 := rfl
theorem k_X8_replaces_26 (ca : Nat → ClassId) : k_X8_replaces ca 26 = i_push (.int 4) 27 := rfl
theorem k_X8_replaces_27 (ca : Nat → ClassId) : k_X8_replaces ca 27 = i_iload 4 29 := rfl
theorem k_X8_replaces_29 (ca : Nat → ClassId) : k_X8_replaces ca 29 = i_bin (fun x y => x * y) 30 := rfl
theorem k_X8_replaces_30 (ca : Nat → ClassId) : k_X8_replaces ca 30 = i_ald (ca 0) 31 := rfl
theorem k_X8_replaces_31 (ca : Nat → ClassId) : k_X8_replaces ca 31 = i_push (.int 48) 33 := rfl
theorem k_X8_replaces_33 (ca : Nat → ClassId) : k_X8_replaces ca 33 = i_bin (fun x y => x - y) 34 := rfl
theorem k_X8_replaces_34 (ca : Nat → ClassId) : k_X8_replaces ca 34 = i_aload 0 35 := rfl
theorem k_X8_replaces_35 (ca : Nat → ClassId) : k_X8_replaces ca 35 = i_getf 8 4 38 := rfl
theorem k_X8_replaces_38 (ca : Nat → ClassId) : k_X8_replaces ca 38 = i_push (.int 4) 39 := rfl
theorem k_X8_replaces_39 (ca : Nat → ClassId) : k_X8_replaces ca 39 = i_iload 4 41 := rfl
theorem k_X8_replaces_41 (ca : Nat → ClassId) : k_X8_replaces ca 41 = i_bin (fun x y => x * y) 42 := rfl
theorem k_X8_replaces_42 (ca : Nat → ClassId) : k_X8_replaces ca 42 = i_push (.int 1) 43 := rfl
theorem k_X8_replaces_43 (ca : Nat → ClassId) : k_X8_replaces ca 43 = i_bin (fun x y => x + y) 44 := rfl
theorem k_X8_replaces_44 (ca : Nat → ClassId) : k_X8_replaces ca 44 = i_ald (ca 0) 45 := rfl
theorem k_X8_replaces_45 (ca : Nat → ClassId) : k_X8_replaces ca 45 = i_push (.int 97) 47 := rfl
theorem k_X8_replaces_47 (ca : Nat → ClassId) : k_X8_replaces ca 47 = i_bin (fun x y => x - y) 48 := rfl
theorem k_X8_replaces_48 (ca : Nat → ClassId) : k_X8_replaces ca 48 = i_aload 0 49 := rfl
theorem k_X8_replaces_49 (ca : Nat → ClassId) : k_X8_replaces ca 49 = i_getf 8 4 52 := rfl
theorem k_X8_replaces_52 (ca : Nat → ClassId) : k_X8_replaces ca 52 = i_push (.int 4) 53 := rfl
theorem k_X8_replaces_53 (ca : Nat → ClassId) : k_X8_replaces ca 53 = i_iload 4 55 := rfl
theorem k_X8_replaces_55 (ca : Nat → ClassId) : k_X8_replaces ca 55 = i_bin (fun x y => x * y) 56 := rfl
theorem k_X8_replaces_56 (ca : Nat → ClassId) : k_X8_replaces ca 56 = i_push (.int 2) 57 := rfl
theorem k_X8_replaces_57 (ca : Nat → ClassId) : k_X8_replaces ca 57 = i_bin (fun x y => x + y) 58 := rfl
theorem k_X8_replaces_58 (ca : Nat → ClassId) : k_X8_replaces ca 58 = i_ald (ca 0) 59 := rfl
theorem k_X8_replaces_59 (ca : Nat → ClassId) : k_X8_replaces ca 59 = i_push (.int 97) 61 := rfl
theorem k_X8_replaces_61 (ca : Nat → ClassId) : k_X8_replaces ca 61 = i_bin (fun x y => x - y) 62 := rfl
theorem k_X8_replaces_62 (ca : Nat → ClassId) : k_X8_replaces ca 62 = i_callV 8 4 0 0 0 0 (sp_X8_adds ca) 65 := rfl
theorem k_X8_replaces_65 (ca : Nat → ClassId) : k_X8_replaces ca 65 = i_istore 3 66 := rfl
theorem k_X8_replaces_66 (ca : Nat → ClassId) : k_X8_replaces ca 66 = i_iinc 4 1 69 := rfl
theorem k_X8_replaces_69 (ca : Nat → ClassId) : k_X8_replaces ca 69 = i_goto 14 := rfl
theorem k_X8_replaces_72 (ca : Nat → ClassId) : k_X8_replaces ca 72 = i_iload 3 73 := rfl
theorem k_X8_replaces_73 (ca : Nat → ClassId) : k_X8_replaces ca 73 = i_ret := rfl
set_option maxHeartbeats 4000000 in
set_option maxRecDepth 20000 in
theorem ok_X8_replaces (l : Launch) (D : va_G) (ca : Nat → ClassId) : OkAll l D ca yX8_replaces cX8_replaces 5 (some .int) 3 0 0 (sp_X8_replaces ca) := by
  intro av h post hs
  obtain ⟨m, a, st, n, fm, p, re, s, f, k, M, N, hk, hM, rfl, hm, h0, h3, d1, d2, hN, hN8, hs⟩ := hs
  have e0 := hm
  unfold eMod at e0
  have z0 : vp_in (nI (10 + 32 * k)) 127 := vp127 (by omega)
  have z1 : (nI (10 + 32 * k)).toNatClampNeg = 10 + 32 * k := tn127 (by omega)
  refine okM_of t_X8_replaces (by decide +kernel) (c1_ref (c1_int (c1_int c1_nil))) (Nat.le_of_ble_eq_true rfl) ?_
  intro K go
  have hMS : ∀ s1, MS ca (va_up h (a 0) (some (.inl (ca 0, 127, .inl s1)))) m (a 0) s1 := fun s1 => ⟨⟨_, (va_up_ne _ _ d1).trans e0⟩, va_up_self _ _ _⟩
  have key : ∀ r i, i + r = M → K 0 0 14 [some (.ref m), some (.int (nI k)), some (.int (nI M)), some (.int (nI i)), some (.int (nI i))] [] (va_up h (a 0) (some (.inl (ca 0, 127, .inl (rpS s f (10 + 32 * k) N i))))) := by
    intro r
    induction r with
    | zero =>
      intro i hi
      have hi : i = M := hi
      subst hi
      refine goN go (stp []) 160 _ _ _ _ _ _ (fun F hF hF0 => ?_)
      simp only [hF, hF0, ite_not, i_push, i_iload, i_lload, i_aload, i_istore, i_astore, i_lstore, i_iinc, i_bin, i_dv, i_un, i_lbin, i_lsh, i_i2l, i_l2i, i_lcmp, i_dup, i_dup2, i_pop, i_if, i_icmp, i_goto, swG, i_sw, i_getf, i_puti, i_putz, i_putr, i_ald, i_lald, i_aald, i_ast, i_last, i_aast, i_alen, i_new, i_newi, i_newl, i_newq, i_oinit, i_ret, i_zret, i_lret, i_vret, catS, tk, rpush, isO, i_m1, i_m2, i_acopy, i_callV, i_callS, KRet, lget, lput, lputL, lcl0, isL, lv0, List.map_cons, List.map_nil, List.length_cons, List.length_nil, List.cons_append, List.nil_append, Nat.reduceAdd, Nat.reduceSub, Nat.reduceLeDiff, List.replicate_succ, List.replicate_zero, List.getElem?_cons_succ, List.getElem?_cons_zero, List.set_cons_succ, List.set_cons_zero, true_and, and_true, if_true, if_false, ↓reduceIte, Nat.le_refl, Value.category, va_up_app, eq_self, stp, Nat.reduceBEq, Bool.or_false, Bool.false_or, Bool.true_or, Bool.or_true, or_true, true_or, bx_uu, implies_true, true_implies, not_true, not_false_eq_true, false_implies, and_self, Nat.reduceLT, Int32.reduceAdd, Int32.reduceSub, Int32.reduceMul, Int32.reduceLE, Int32.reduceLT, Int32.reduceToNatClampNeg, va_rf_some, Bool.false_eq_true, k_X8_replaces_0 ca, k_X8_replaces_1 ca, k_X8_replaces_2 ca, k_X8_replaces_3 ca, k_X8_replaces_4 ca, k_X8_replaces_7 ca, k_X8_replaces_10 ca, k_X8_replaces_11 ca, k_X8_replaces_12 ca, k_X8_replaces_14 ca, k_X8_replaces_16 ca, k_X8_replaces_17 ca, k_X8_replaces_20 ca, k_X8_replaces_21 ca, k_X8_replaces_22 ca, k_X8_replaces_23 ca, k_X8_replaces_26 ca, k_X8_replaces_27 ca, k_X8_replaces_29 ca, k_X8_replaces_30 ca, k_X8_replaces_31 ca, k_X8_replaces_33 ca, k_X8_replaces_34 ca, k_X8_replaces_35 ca, k_X8_replaces_38 ca, k_X8_replaces_39 ca, k_X8_replaces_41 ca, k_X8_replaces_42 ca, k_X8_replaces_43 ca, k_X8_replaces_44 ca, k_X8_replaces_45 ca, k_X8_replaces_47 ca, k_X8_replaces_48 ca, k_X8_replaces_49 ca, k_X8_replaces_52 ca, k_X8_replaces_53 ca, k_X8_replaces_55 ca, k_X8_replaces_56 ca, k_X8_replaces_57 ca, k_X8_replaces_58 ca, k_X8_replaces_59 ca, k_X8_replaces_61 ca, k_X8_replaces_62 ca, k_X8_replaces_65 ca, k_X8_replaces_66 ca, k_X8_replaces_69 ca, k_X8_replaces_72 ca, k_X8_replaces_73 ca, Int32.le_refl]
      try clear hF hF0 F
      exact hs
    | succ r ih =>
      intro i hi
      have g1 : ¬ nI M ≤ nI i := nI_ge (by omega) (by omega)
      have m4 : (4 : Int32) * nI i = nI (4 * i) := by rw [← n4, pk_mul]
      have y1 : vp_in (nI (4 * i)) 60 := vp_in_nI (by omega) (by decide)
      have x1 : (nI (4 * i)).toNatClampNeg = 4 * i := nI_clamp (by omega)
      have y2 : vp_in (nI (4 * i + 1)) 60 := vp_in_nI (by omega) (by decide)
      have x2 : (nI (4 * i + 1)).toNatClampNeg = 4 * i + 1 := nI_clamp (by omega)
      have y3 : vp_in (nI (4 * i + 2)) 60 := vp_in_nI (by omega) (by decide)
      have x3 : (nI (4 * i + 2)).toNatClampNeg = 4 * i + 2 := nI_clamp (by omega)
      refine goN go (stp [65]) 160 _ _ _ _ _ _ (fun F hF hF0 => ?_)
      simp only [hF, hF0, ite_not, i_push, i_iload, i_lload, i_aload, i_istore, i_astore, i_lstore, i_iinc, i_bin, i_dv, i_un, i_lbin, i_lsh, i_i2l, i_l2i, i_lcmp, i_dup, i_dup2, i_pop, i_if, i_icmp, i_goto, swG, i_sw, i_getf, i_puti, i_putz, i_putr, i_ald, i_lald, i_aald, i_ast, i_last, i_aast, i_alen, i_new, i_newi, i_newl, i_newq, i_oinit, i_ret, i_zret, i_lret, i_vret, catS, tk, rpush, isO, i_m1, i_m2, i_acopy, i_callV, i_callS, KRet, lget, lput, lputL, lcl0, isL, lv0, List.map_cons, List.map_nil, List.length_cons, List.length_nil, List.cons_append, List.nil_append, Nat.reduceAdd, Nat.reduceSub, Nat.reduceLeDiff, List.replicate_succ, List.replicate_zero, List.getElem?_cons_succ, List.getElem?_cons_zero, List.set_cons_succ, List.set_cons_zero, true_and, and_true, if_true, if_false, ↓reduceIte, Nat.le_refl, Value.category, va_up_app, eq_self, stp, Nat.reduceBEq, Bool.or_false, Bool.false_or, Bool.true_or, Bool.or_true, or_true, true_or, bx_uu, implies_true, true_implies, not_true, not_false_eq_true, false_implies, and_self, Nat.reduceLT, Int32.reduceAdd, Int32.reduceSub, Int32.reduceMul, Int32.reduceLE, Int32.reduceLT, Int32.reduceToNatClampNeg, va_rf_some, Bool.false_eq_true, k_X8_replaces_0 ca, k_X8_replaces_1 ca, k_X8_replaces_2 ca, k_X8_replaces_3 ca, k_X8_replaces_4 ca, k_X8_replaces_7 ca, k_X8_replaces_10 ca, k_X8_replaces_11 ca, k_X8_replaces_12 ca, k_X8_replaces_14 ca, k_X8_replaces_16 ca, k_X8_replaces_17 ca, k_X8_replaces_20 ca, k_X8_replaces_21 ca, k_X8_replaces_22 ca, k_X8_replaces_23 ca, k_X8_replaces_26 ca, k_X8_replaces_27 ca, k_X8_replaces_29 ca, k_X8_replaces_30 ca, k_X8_replaces_31 ca, k_X8_replaces_33 ca, k_X8_replaces_34 ca, k_X8_replaces_35 ca, k_X8_replaces_38 ca, k_X8_replaces_39 ca, k_X8_replaces_41 ca, k_X8_replaces_42 ca, k_X8_replaces_43 ca, k_X8_replaces_44 ca, k_X8_replaces_45 ca, k_X8_replaces_47 ca, k_X8_replaces_48 ca, k_X8_replaces_49 ca, k_X8_replaces_52 ca, k_X8_replaces_53 ca, k_X8_replaces_55 ca, k_X8_replaces_56 ca, k_X8_replaces_57 ca, k_X8_replaces_58 ca, k_X8_replaces_59 ca, k_X8_replaces_61 ca, k_X8_replaces_62 ca, k_X8_replaces_65 ca, k_X8_replaces_66 ca, k_X8_replaces_69 ca, k_X8_replaces_72 ca, k_X8_replaces_73 ca, g1, e0, h3, d1, d2, m4, a_1, a_2, y1, x1, y2, x2, y3, x3]
      try clear hF hF0 F
      refine ⟨m, a 0, _, k, _, _, _, i, hk, rfl, hMS _, d1, rpS_o i, by omega, fun z => absurd z (by omega), fun _ => ?_⟩
      rw [bx_uu]
      have k0 := ih (i + 1) (by omega)
      refine goN go (stp [14]) 160 _ _ _ _ _ _ (fun F hF hF0 => ?_)
      simp only [hF, hF0, ite_not, i_push, i_iload, i_lload, i_aload, i_istore, i_astore, i_lstore, i_iinc, i_bin, i_dv, i_un, i_lbin, i_lsh, i_i2l, i_l2i, i_lcmp, i_dup, i_dup2, i_pop, i_if, i_icmp, i_goto, swG, i_sw, i_getf, i_puti, i_putz, i_putr, i_ald, i_lald, i_aald, i_ast, i_last, i_aast, i_alen, i_new, i_newi, i_newl, i_newq, i_oinit, i_ret, i_zret, i_lret, i_vret, catS, tk, rpush, isO, i_m1, i_m2, i_acopy, i_callV, i_callS, KRet, lget, lput, lputL, lcl0, isL, lv0, List.map_cons, List.map_nil, List.length_cons, List.length_nil, List.cons_append, List.nil_append, Nat.reduceAdd, Nat.reduceSub, Nat.reduceLeDiff, List.replicate_succ, List.replicate_zero, List.getElem?_cons_succ, List.getElem?_cons_zero, List.set_cons_succ, List.set_cons_zero, true_and, and_true, if_true, if_false, ↓reduceIte, Nat.le_refl, Value.category, va_up_app, eq_self, stp, Nat.reduceBEq, Bool.or_false, Bool.false_or, Bool.true_or, Bool.or_true, or_true, true_or, bx_uu, implies_true, true_implies, not_true, not_false_eq_true, false_implies, and_self, Nat.reduceLT, Int32.reduceAdd, Int32.reduceSub, Int32.reduceMul, Int32.reduceLE, Int32.reduceLT, Int32.reduceToNatClampNeg, va_rf_some, Bool.false_eq_true, k_X8_replaces_0 ca, k_X8_replaces_1 ca, k_X8_replaces_2 ca, k_X8_replaces_3 ca, k_X8_replaces_4 ca, k_X8_replaces_7 ca, k_X8_replaces_10 ca, k_X8_replaces_11 ca, k_X8_replaces_12 ca, k_X8_replaces_14 ca, k_X8_replaces_16 ca, k_X8_replaces_17 ca, k_X8_replaces_20 ca, k_X8_replaces_21 ca, k_X8_replaces_22 ca, k_X8_replaces_23 ca, k_X8_replaces_26 ca, k_X8_replaces_27 ca, k_X8_replaces_29 ca, k_X8_replaces_30 ca, k_X8_replaces_31 ca, k_X8_replaces_33 ca, k_X8_replaces_34 ca, k_X8_replaces_35 ca, k_X8_replaces_38 ca, k_X8_replaces_39 ca, k_X8_replaces_41 ca, k_X8_replaces_42 ca, k_X8_replaces_43 ca, k_X8_replaces_44 ca, k_X8_replaces_45 ca, k_X8_replaces_47 ca, k_X8_replaces_48 ca, k_X8_replaces_49 ca, k_X8_replaces_52 ca, k_X8_replaces_53 ca, k_X8_replaces_55 ca, k_X8_replaces_56 ca, k_X8_replaces_57 ca, k_X8_replaces_58 ca, k_X8_replaces_59 ca, k_X8_replaces_61 ca, k_X8_replaces_62 ca, k_X8_replaces_65 ca, k_X8_replaces_66 ca, k_X8_replaces_69 ca, k_X8_replaces_72 ca, k_X8_replaces_73 ca, a_1]
      try clear hF hF0 F
      exact k0
  have hB : N - N = 0 := Nat.sub_self N
  refine goN go (stp [10]) 160 _ _ _ _ _ _ (fun F hF hF0 => ?_)
  simp only [hF, hF0, ite_not, i_push, i_iload, i_lload, i_aload, i_istore, i_astore, i_lstore, i_iinc, i_bin, i_dv, i_un, i_lbin, i_lsh, i_i2l, i_l2i, i_lcmp, i_dup, i_dup2, i_pop, i_if, i_icmp, i_goto, swG, i_sw, i_getf, i_puti, i_putz, i_putr, i_ald, i_lald, i_aald, i_ast, i_last, i_aast, i_alen, i_new, i_newi, i_newl, i_newq, i_oinit, i_ret, i_zret, i_lret, i_vret, catS, tk, rpush, isO, i_m1, i_m2, i_acopy, i_callV, i_callS, KRet, lget, lput, lputL, lcl0, isL, lv0, List.map_cons, List.map_nil, List.length_cons, List.length_nil, List.cons_append, List.nil_append, Nat.reduceAdd, Nat.reduceSub, Nat.reduceLeDiff, List.replicate_succ, List.replicate_zero, List.getElem?_cons_succ, List.getElem?_cons_zero, List.set_cons_succ, List.set_cons_zero, true_and, and_true, if_true, if_false, ↓reduceIte, Nat.le_refl, Value.category, va_up_app, eq_self, stp, Nat.reduceBEq, Bool.or_false, Bool.false_or, Bool.true_or, Bool.or_true, or_true, true_or, bx_uu, implies_true, true_implies, not_true, not_false_eq_true, false_implies, and_self, Nat.reduceLT, Int32.reduceAdd, Int32.reduceSub, Int32.reduceMul, Int32.reduceLE, Int32.reduceLT, Int32.reduceToNatClampNeg, va_rf_some, Bool.false_eq_true, k_X8_replaces_0 ca, k_X8_replaces_1 ca, k_X8_replaces_2 ca, k_X8_replaces_3 ca, k_X8_replaces_4 ca, k_X8_replaces_7 ca, k_X8_replaces_10 ca, k_X8_replaces_11 ca, k_X8_replaces_12 ca, k_X8_replaces_14 ca, k_X8_replaces_16 ca, k_X8_replaces_17 ca, k_X8_replaces_20 ca, k_X8_replaces_21 ca, k_X8_replaces_22 ca, k_X8_replaces_23 ca, k_X8_replaces_26 ca, k_X8_replaces_27 ca, k_X8_replaces_29 ca, k_X8_replaces_30 ca, k_X8_replaces_31 ca, k_X8_replaces_33 ca, k_X8_replaces_34 ca, k_X8_replaces_35 ca, k_X8_replaces_38 ca, k_X8_replaces_39 ca, k_X8_replaces_41 ca, k_X8_replaces_42 ca, k_X8_replaces_43 ca, k_X8_replaces_44 ca, k_X8_replaces_45 ca, k_X8_replaces_47 ca, k_X8_replaces_48 ca, k_X8_replaces_49 ca, k_X8_replaces_52 ca, k_X8_replaces_53 ca, k_X8_replaces_55 ca, k_X8_replaces_56 ca, k_X8_replaces_57 ca, k_X8_replaces_58 ca, k_X8_replaces_59 ca, k_X8_replaces_61 ca, k_X8_replaces_62 ca, k_X8_replaces_65 ca, k_X8_replaces_66 ca, k_X8_replaces_69 ca, k_X8_replaces_72 ca, k_X8_replaces_73 ca, e0, h0, sp_X8_many, s10, a_0, z0, z1, hN]
  try clear hF hF0 F
  refine ⟨m, a 0, s, k, N, N, hk, rfl, by omega, ⟨⟨_, e0⟩, h0⟩, d1, hN, hN8, fun z => absurd z (by omega), fun _ => ?_⟩
  rw [hB, nI_0]
  have k0 := key M 0 (by omega)
  rw [nI_0] at k0
  refine goN go (stp [14]) 160 _ _ _ _ _ _ (fun F hF hF0 => ?_)
  simp only [hF, hF0, ite_not, i_push, i_iload, i_lload, i_aload, i_istore, i_astore, i_lstore, i_iinc, i_bin, i_dv, i_un, i_lbin, i_lsh, i_i2l, i_l2i, i_lcmp, i_dup, i_dup2, i_pop, i_if, i_icmp, i_goto, swG, i_sw, i_getf, i_puti, i_putz, i_putr, i_ald, i_lald, i_aald, i_ast, i_last, i_aast, i_alen, i_new, i_newi, i_newl, i_newq, i_oinit, i_ret, i_zret, i_lret, i_vret, catS, tk, rpush, isO, i_m1, i_m2, i_acopy, i_callV, i_callS, KRet, lget, lput, lputL, lcl0, isL, lv0, List.map_cons, List.map_nil, List.length_cons, List.length_nil, List.cons_append, List.nil_append, Nat.reduceAdd, Nat.reduceSub, Nat.reduceLeDiff, List.replicate_succ, List.replicate_zero, List.getElem?_cons_succ, List.getElem?_cons_zero, List.set_cons_succ, List.set_cons_zero, true_and, and_true, if_true, if_false, ↓reduceIte, Nat.le_refl, Value.category, va_up_app, eq_self, stp, Nat.reduceBEq, Bool.or_false, Bool.false_or, Bool.true_or, Bool.or_true, or_true, true_or, bx_uu, implies_true, true_implies, not_true, not_false_eq_true, false_implies, and_self, Nat.reduceLT, Int32.reduceAdd, Int32.reduceSub, Int32.reduceMul, Int32.reduceLE, Int32.reduceLT, Int32.reduceToNatClampNeg, va_rf_some, Bool.false_eq_true, k_X8_replaces_0 ca, k_X8_replaces_1 ca, k_X8_replaces_2 ca, k_X8_replaces_3 ca, k_X8_replaces_4 ca, k_X8_replaces_7 ca, k_X8_replaces_10 ca, k_X8_replaces_11 ca, k_X8_replaces_12 ca, k_X8_replaces_14 ca, k_X8_replaces_16 ca, k_X8_replaces_17 ca, k_X8_replaces_20 ca, k_X8_replaces_21 ca, k_X8_replaces_22 ca, k_X8_replaces_23 ca, k_X8_replaces_26 ca, k_X8_replaces_27 ca, k_X8_replaces_29 ca, k_X8_replaces_30 ca, k_X8_replaces_31 ca, k_X8_replaces_33 ca, k_X8_replaces_34 ca, k_X8_replaces_35 ca, k_X8_replaces_38 ca, k_X8_replaces_39 ca, k_X8_replaces_41 ca, k_X8_replaces_42 ca, k_X8_replaces_43 ca, k_X8_replaces_44 ca, k_X8_replaces_45 ca, k_X8_replaces_47 ca, k_X8_replaces_48 ca, k_X8_replaces_49 ca, k_X8_replaces_52 ca, k_X8_replaces_53 ca, k_X8_replaces_55 ca, k_X8_replaces_56 ca, k_X8_replaces_57 ca, k_X8_replaces_58 ca, k_X8_replaces_59 ca, k_X8_replaces_61 ca, k_X8_replaces_62 ca, k_X8_replaces_65 ca, k_X8_replaces_66 ca, k_X8_replaces_69 ca, k_X8_replaces_72 ca, k_X8_replaces_73 ca]
  try clear hF hF0 F
  exact k0
