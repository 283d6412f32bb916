/-! SnapStacksModel: tires, pulls, warmer, laysBends -/
theorem pu {post : Option Value → PH → Prop} {v : Option Value} {h : PH} {a n : Nat} {cA : ClassId} {f f' : Nat → Int32} (e : f = f') (hp : post v (va_up h a (some (.inl (cA, n, .inl f'))))) : post v (va_up h a (some (.inl (cA, n, .inl f)))) := e ▸ hp
theorem upd_v {s : Nat → Int32} {i : Nat} {x y : Int32} (h : x = y) : upd s i x = upd s i y := h ▸ rfl
def sp_X8_tires (ca : Nat → ClassId) : SPEC := fun av h post => ∃ m a0 s k, k < 3 ∧ av = [.ref m, .int (nI k)] ∧ MS ca h m a0 s ∧ post none (va_up h a0 (some (.inl (ca 0, 127, .inl (upd s (12 + 32 * k) (tireF (s (16 + 32 * k)) (s (12 + 32 * k)) (s (11 + 32 * k)) (s 6) (s 7)))))))
theorem one0 : ((1 : Int32) = 0) = False := eq_false (by decide)
theorem i60 {x : Int32} (h : ¬ x ≤ 0) : ¬ x = 0 := nle_ne h
def k_X8_tires (ca : Nat → ClassId) : Nat → IT := fun pc => lk pc [(0, i_iload 1 1),
  (1, i_callS 1 0 0 0 0 (sp_X8_stripAt ca) 4),
  (4, i_istore 2 5),
  (5, i_aload 0 6),
  (6, i_getf 8 0 9),
  (9, i_push (.int 6) 11),
  (11, i_ald (ca 0) 12),
  (12, i_if (fun x => x ≤ 0) 39 15),
  (15, i_aload 0 16),
  (16, i_getf 8 0 19),
  (19, i_iload 2 20),
  (20, i_push (.int 6) 22),
  (22, i_bin (fun x y => x + y) 23),
  (23, i_ald (ca 0) 24),
  (24, i_aload 0 25),
  (25, i_getf 8 0 28),
  (28, i_push (.int 6) 30),
  (30, i_ald (ca 0) 31),
  (31, i_dv (fun x y => x - x / y * y) 32),
  (32, i_if (fun x => ¬ x = 0) 39 35),
  (35, i_push (.int 1) 36),
  (36, i_goto 40),
  (39, i_push (.int 0) 40),
  (40, i_istore 3 41),
  (41, i_aload 0 42),
  (42, i_getf 8 0 45),
  (45, i_iload 2 46),
  (46, i_push (.int 2) 47),
  (47, i_bin (fun x y => x + y) 48),
  (48, i_ald (ca 0) 49),
  (49, i_aload 0 50),
  (50, i_getf 8 0 53),
  (53, i_push (.int 7) 55),
  (55, i_ald (ca 0) 56),
  (56, i_bin (fun x y => x - y) 57),
  (57, i_istore 4 59),
  (59, i_aload 0 60),
  (60, i_getf 8 0 63),
  (63, i_iload 2 64),
  (64, i_push (.int 2) 65),
  (65, i_bin (fun x y => x + y) 66),
  (66, i_iload 3 67),
  (67, i_if (fun x => x = 0) 88 70),
  (70, i_iload 4 72),
  (72, i_aload 0 73),
  (73, i_getf 8 0 76),
  (76, i_iload 2 77),
  (77, i_push (.int 1) 78),
  (78, i_bin (fun x y => x + y) 79),
  (79, i_ald (ca 0) 80),
  (80, i_icmp (fun x y => x ≤ y) 88 83),
  (83, i_iload 4 85),
  (85, i_goto 96),
  (88, i_aload 0 89),
  (89, i_getf 8 0 92),
  (92, i_iload 2 93),
  (93, i_push (.int 2) 94),
  (94, i_bin (fun x y => x + y) 95),
  (95, i_ald (ca 0) 96),
  (96, i_ast (fun x => x) (ca 0) 97),
  (97, i_vret)]
set_option maxRecDepth 20000 in
theorem t_X8_tires : Tb k_X8_tires yX8_tires cX8_tires 5 none 1 0 0 := by
  intro l D ca A p e s m args below meth c post X
  unfold k_X8_tires
  refine snd_cons (snd_iload_n X dX8_tires_0 rfl) ?_
  refine snd_cons (snd_callS X (ok_X8_stripAt l D ca) rfl rfl w_641 w_642 w_9 w_643 (by decide) (by decide) dX8_tires_1) ?_
  refine snd_cons (snd_istore_n X dX8_tires_4 rfl (by decide)) ?_
  refine snd_cons (snd_aload_n X dX8_tires_5 rfl) ?_
  refine snd_cons (snd_getf X Fk8 0 (by decide) w_647 dX8_tires_6) ?_
  refine snd_cons (snd_bipush X dX8_tires_9 (by decide)) ?_
  refine snd_cons (snd_iaload X dX8_tires_11) ?_
  refine snd_cons (snd_if_le X dX8_tires_12 (by decide)) ?_
  refine snd_cons (snd_aload_n X dX8_tires_15 rfl) ?_
  refine snd_cons (snd_getf X Fk8 0 (by decide) w_647 dX8_tires_16) ?_
  refine snd_cons (snd_iload_n X dX8_tires_19 rfl) ?_
  refine snd_cons (snd_bipush X dX8_tires_20 (by decide)) ?_
  refine snd_cons (snd_iadd X dX8_tires_22) ?_
  refine snd_cons (snd_iaload X dX8_tires_23) ?_
  refine snd_cons (snd_aload_n X dX8_tires_24 rfl) ?_
  refine snd_cons (snd_getf X Fk8 0 (by decide) w_647 dX8_tires_25) ?_
  refine snd_cons (snd_bipush X dX8_tires_28 (by decide)) ?_
  refine snd_cons (snd_iaload X dX8_tires_30) ?_
  refine snd_cons (snd_irem X dX8_tires_31) ?_
  refine snd_cons (snd_if_ne X dX8_tires_32 (by decide)) ?_
  refine snd_cons (snd_iconst X dX8_tires_35 (by decide)) ?_
  refine snd_cons (snd_goto X dX8_tires_36 (by decide)) ?_
  refine snd_cons (snd_iconst X dX8_tires_39 (by decide)) ?_
  refine snd_cons (snd_istore_n X dX8_tires_40 rfl (by decide)) ?_
  refine snd_cons (snd_aload_n X dX8_tires_41 rfl) ?_
  refine snd_cons (snd_getf X Fk8 0 (by decide) w_647 dX8_tires_42) ?_
  refine snd_cons (snd_iload_n X dX8_tires_45 rfl) ?_
  refine snd_cons (snd_iconst X dX8_tires_46 (by decide)) ?_
  refine snd_cons (snd_iadd X dX8_tires_47) ?_
  refine snd_cons (snd_iaload X dX8_tires_48) ?_
  refine snd_cons (snd_aload_n X dX8_tires_49 rfl) ?_
  refine snd_cons (snd_getf X Fk8 0 (by decide) w_647 dX8_tires_50) ?_
  refine snd_cons (snd_bipush X dX8_tires_53 (by decide)) ?_
  refine snd_cons (snd_iaload X dX8_tires_55) ?_
  refine snd_cons (snd_isub X dX8_tires_56) ?_
  refine snd_cons (snd_istore X dX8_tires_57 (by decide)) ?_
  refine snd_cons (snd_aload_n X dX8_tires_59 rfl) ?_
  refine snd_cons (snd_getf X Fk8 0 (by decide) w_647 dX8_tires_60) ?_
  refine snd_cons (snd_iload_n X dX8_tires_63 rfl) ?_
  refine snd_cons (snd_iconst X dX8_tires_64 (by decide)) ?_
  refine snd_cons (snd_iadd X dX8_tires_65) ?_
  refine snd_cons (snd_iload_n X dX8_tires_66 rfl) ?_
  refine snd_cons (snd_if_eq X dX8_tires_67 (by decide)) ?_
  refine snd_cons (snd_iload X dX8_tires_70) ?_
  refine snd_cons (snd_aload_n X dX8_tires_72 rfl) ?_
  refine snd_cons (snd_getf X Fk8 0 (by decide) w_647 dX8_tires_73) ?_
  refine snd_cons (snd_iload_n X dX8_tires_76 rfl) ?_
  refine snd_cons (snd_iconst X dX8_tires_77 (by decide)) ?_
  refine snd_cons (snd_iadd X dX8_tires_78) ?_
  refine snd_cons (snd_iaload X dX8_tires_79) ?_
  refine snd_cons (snd_icmp_le X dX8_tires_80 (by decide)) ?_
  refine snd_cons (snd_iload X dX8_tires_83) ?_
  refine snd_cons (snd_goto X dX8_tires_85 (by decide)) ?_
  refine snd_cons (snd_aload_n X dX8_tires_88 rfl) ?_
  refine snd_cons (snd_getf X Fk8 0 (by decide) w_647 dX8_tires_89) ?_
  refine snd_cons (snd_iload_n X dX8_tires_92 rfl) ?_
  refine snd_cons (snd_iconst X dX8_tires_93 (by decide)) ?_
  refine snd_cons (snd_iadd X dX8_tires_94) ?_
  refine snd_cons (snd_iaload X dX8_tires_95) ?_
  refine snd_cons (snd_iastore X dX8_tires_96) ?_
  refine snd_cons (snd_vret X dX8_tires_97) ?_
  exact snd_nil
theorem k_X8_tires_0 (ca : Nat → ClassId) : k_X8_tires ca 0 = i_iload 1 1 := rfl
theorem k_X8_tires_1 (ca : Nat → ClassId) : k_X8_tires ca 1 = i_callS 1 0 0 0 0 (sp_X8_stripAt ca) 4 := rfl
theorem k_X8_tires_4 (ca : Nat → ClassId) : k_X8_tires ca 4 = i_istore 2 5 := rfl
theorem k_X8_tires_5 (ca : Nat → ClassId) : k_X8_tires ca 5 = i_aload 0 6 := rfl
theorem k_X8_tires_6 (ca : Nat → ClassId) : k_X8_tires ca 6 = i_getf 8 0 9 := rfl
theorem k_X8_tires_9 (ca : Nat → ClassId) : k_X8_tires ca 9 = i_push (.int 6) 11 := rfl
theorem k_X8_tires_11 (ca : Nat → ClassId) : k_X8_tires ca 11 = i_ald (ca 0) 12 := rfl
theorem k_X8_tires_12 (ca : Nat → ClassId) : k_X8_tires ca 12 = i_if (fun x => x ≤ 0) 39 15 := rfl
theorem k_X8_tires_15 (ca : Nat → ClassId) : k_X8_tires ca 15 = i_aload 0 16 := rfl
theorem k_X8_tires_16 (ca : Nat → ClassId) : k_X8_tires ca 16 = i_getf 8 0 19 := rfl
theorem k_X8_tires_19 (ca : Nat → ClassId) : k_X8_tires ca 19 = i_iload 2 20 := rfl
theorem k_X8_tires_20 (ca : Nat → ClassId) : k_X8_tires ca 20 = i_push (.int 6) 22 := rfl
theorem k_X8_tires_22 (ca : Nat → ClassId) : k_X8_tires ca 22 = i_bin (fun x y => x + y) 23 := rfl
theorem k_X8_tires_23 (ca : Nat → ClassId) : k_X8_tires ca 23 = i_ald (ca 0) 24 := rfl
theorem k_X8_tires_24 (ca : Nat → ClassId) : k_X8_tires ca 24 = i_aload 0 25 := rfl
theorem k_X8_tires_25 (ca : Nat → ClassId) : k_X8_tires ca 25 = i_getf 8 0 28 := rfl
theorem k_X8_tires_28 (ca : Nat → ClassId) : k_X8_tires ca 28 = i_push (.int 6) 30 := rfl
theorem k_X8_tires_30 (ca : Nat → ClassId) : k_X8_tires ca 30 = i_ald (ca 0) 31 := rfl
theorem k_X8_tires_31 (ca : Nat → ClassId) : k_X8_tires ca 31 = i_dv (fun x y => x - x / y * y) 32 := rfl
theorem k_X8_tires_32 (ca : Nat → ClassId) : k_X8_tires ca 32 = i_if (fun x => ¬ x = 0) 39 35 := rfl
theorem k_X8_tires_35 (ca : Nat → ClassId) : k_X8_tires ca 35 = i_push (.int 1) 36 := rfl
theorem k_X8_tires_36 (ca : Nat → ClassId) : k_X8_tires ca 36 = i_goto 40 := rfl
theorem k_X8_tires_39 (ca : Nat → ClassId) : k_X8_tires ca 39 = i_push (.int 0) 40 := rfl
theorem k_X8_tires_40 (ca : Nat → ClassId) : k_X8_tires ca 40 = i_istore 3 41 := rfl
theorem k_X8_tires_41 (ca : Nat → ClassId) : k_X8_tires ca 41 = i_aload 0 42 := rfl
theorem k_X8_tires_42 (ca : Nat → ClassId) : k_X8_tires ca 42 = i_getf 8 0 45 := rfl
theorem k_X8_tires_45 (ca : Nat → ClassId) : k_X8_tires ca 45 = i_iload 2 46 := rfl
theorem k_X8_tires_46 (ca : Nat → ClassId) : k_X8_tires ca 46 = i_push (.int 2) 47 := rfl
theorem k_X8_tires_47 (ca : Nat → ClassId) : k_X8_tires ca 47 = i_bin (fun x y => x + y) 48 := rfl
theorem k_X8_tires_48 (ca : Nat → ClassId) : k_X8_tires ca 48 = i_ald (ca 0) 49 := rfl
theorem k_X8_tires_49 (ca : Nat → ClassId) : k_X8_tires ca 49 = i_aload 0 50 := rfl
theorem k_X8_tires_50 (ca : Nat → ClassId) : k_X8_tires ca 50 = i_getf 8 0 53 := rfl
theorem k_X8_tires_53 (ca : Nat → ClassId) : k_X8_tires ca 53 = i_push (.int 7) 55 := rfl
theorem k_X8_tires_55 (ca : Nat → ClassId) : k_X8_tires ca 55 = i_ald (ca 0) 56 := rfl
theorem k_X8_tires_56 (ca : Nat → ClassId) : k_X8_tires ca 56 = i_bin (fun x y => x - y) 57 := rfl
theorem k_X8_tires_57 (ca : Nat → ClassId) : k_X8_tires ca 57 = i_istore 4 59 := rfl
theorem k_X8_tires_59 (ca : Nat → ClassId) : k_X8_tires ca 59 = i_aload 0 60 := rfl
theorem k_X8_tires_60 (ca : Nat → ClassId) : k_X8_tires ca 60 = i_getf 8 0 63 := rfl
theorem k_X8_tires_63 (ca : Nat → ClassId) : k_X8_tires ca 63 = i_iload 2 64 := rfl
theorem k_X8_tires_64 (ca : Nat → ClassId) : k_X8_tires ca 64 = i_push (.int 2) 65 := rfl
theorem k_X8_tires_65 (ca : Nat → ClassId) : k_X8_tires ca 65 = i_bin (fun x y => x + y) 66 := rfl
theorem k_X8_tires_66 (ca : Nat → ClassId) : k_X8_tires ca 66 = i_iload 3 67 := rfl
theorem k_X8_tires_67 (ca : Nat → ClassId) : k_X8_tires ca 67 = i_if (fun x => x = 0) 88 70 := rfl
theorem k_X8_tires_70 (ca : Nat → ClassId) : k_X8_tires ca 70 = i_iload 4 72 := rfl
theorem k_X8_tires_72 (ca : Nat → ClassId) : k_X8_tires ca 72 = i_aload 0 73 := rfl
theorem k_X8_tires_73 (ca : Nat → ClassId) : k_X8_tires ca 73 = i_getf 8 0 76 := rfl
theorem k_X8_tires_76 (ca : Nat → ClassId) : k_X8_tires ca 76 = i_iload 2 77 := rfl
theorem k_X8_tires_77 (ca : Nat → ClassId) : k_X8_tires ca 77 = i_push (.int 1) 78 := rfl
theorem k_X8_tires_78 (ca : Nat → ClassId) : k_X8_tires ca 78 = i_bin (fun x y => x + y) 79 := rfl
theorem k_X8_tires_79 (ca : Nat → ClassId) : k_X8_tires ca 79 = i_ald (ca 0) 80 := rfl
theorem k_X8_tires_80 (ca : Nat → ClassId) : k_X8_tires ca 80 = i_icmp (fun x y => x ≤ y) 88 83 := rfl
theorem k_X8_tires_83 (ca : Nat → ClassId) : k_X8_tires ca 83 = i_iload 4 85 := rfl
theorem k_X8_tires_85 (ca : Nat → ClassId) : k_X8_tires ca 85 = i_goto 96 := rfl
theorem k_X8_tires_88 (ca : Nat → ClassId) : k_X8_tires ca 88 = i_aload 0 89 := rfl
theorem k_X8_tires_89 (ca : Nat → ClassId) : k_X8_tires ca 89 = i_getf 8 0 92 := rfl
theorem k_X8_tires_92 (ca : Nat → ClassId) : k_X8_tires ca 92 = i_iload 2 93 := rfl
theorem k_X8_tires_93 (ca : Nat → ClassId) : k_X8_tires ca 93 = i_push (.int 2) 94 := rfl
theorem k_X8_tires_94 (ca : Nat → ClassId) : k_X8_tires ca 94 = i_bin (fun x y => x + y) 95 := rfl
theorem k_X8_tires_95 (ca : Nat → ClassId) : k_X8_tires ca 95 = i_ald (ca 0) 96 := rfl
theorem k_X8_tires_96 (ca : Nat → ClassId) : k_X8_tires ca 96 = i_ast (fun x => x) (ca 0) 97 := rfl
theorem k_X8_tires_97 (ca : Nat → ClassId) : k_X8_tires ca 97 = i_vret := rfl
set_option maxHeartbeats 4000000 in
set_option maxRecDepth 20000 in
theorem ok_X8_tires (l : Launch) (D : va_G) (ca : Nat → ClassId) : OkAll l D ca yX8_tires cX8_tires 5 none 1 0 0 (sp_X8_tires ca) := by
  intro av h post hs
  obtain ⟨m, a0, s, k, hk, rfl, ⟨⟨r, hm⟩, hs0⟩, hs⟩ := hs
  refine okM_of t_X8_tires (by decide +kernel) (c1_ref (c1_int c1_nil)) (Nat.le_of_ble_eq_true rfl) ?_
  intro K go
  have hk3 : k = 0 ∨ k = 1 ∨ k = 2 := by omega
  rcases hk3 with rfl | rfl | rfl
  · rw [nI_0]
    refine go (stp []) 60 _ _ _ _ _ _ ?_
    simp only [wpS, ite_not, i_push, i_iload, i_lload, i_aload, i_istore, i_astore, i_lstore, i_iinc, i_bin, i_dv, i_un, i_lbin, i_lsh, i_i2l, i_l2i, i_lcmp, i_dup, i_dup2, i_pop, i_if, i_icmp, i_goto, swG, i_sw, i_getf, i_puti, i_putz, i_putr, i_ald, i_lald, i_aald, i_ast, i_last, i_aast, i_alen, i_new, i_newi, i_newl, i_newq, i_oinit, i_ret, i_zret, i_lret, i_vret, catS, tk, rpush, isO, i_m1, i_m2, i_acopy, i_callV, i_callS, KRet, lget, lput, lputL, lcl0, isL, lv0, List.map_cons, List.map_nil, List.length_cons, List.length_nil, List.cons_append, List.nil_append, Nat.reduceAdd, Nat.reduceSub, Nat.reduceLeDiff, List.replicate_succ, List.replicate_zero, List.getElem?_cons_succ, List.getElem?_cons_zero, List.set_cons_succ, List.set_cons_zero, true_and, and_true, if_true, if_false, reduceIte, Nat.le_refl, Value.category, va_up_app, eq_self, stp, Nat.reduceBEq, Bool.or_false, Bool.false_or, Bool.true_or, Bool.or_true, or_true, true_or, bx_uu, implies_true, true_implies, not_true, not_false_eq_true, false_implies, and_self, Nat.reduceLT, Int32.reduceAdd, Int32.reduceSub, Int32.reduceMul, Int32.reduceLE, Int32.reduceLT, Int32.reduceToNatClampNeg, va_rf_some, Bool.false_eq_true, k_X8_tires_0 ca, k_X8_tires_1 ca, k_X8_tires_4 ca, k_X8_tires_5 ca, k_X8_tires_6 ca, k_X8_tires_9 ca, k_X8_tires_11 ca, k_X8_tires_12 ca, k_X8_tires_15 ca, k_X8_tires_16 ca, k_X8_tires_19 ca, k_X8_tires_20 ca, k_X8_tires_22 ca, k_X8_tires_23 ca, k_X8_tires_24 ca, k_X8_tires_25 ca, k_X8_tires_28 ca, k_X8_tires_30 ca, k_X8_tires_31 ca, k_X8_tires_32 ca, k_X8_tires_35 ca, k_X8_tires_36 ca, k_X8_tires_39 ca, k_X8_tires_40 ca, k_X8_tires_41 ca, k_X8_tires_42 ca, k_X8_tires_45 ca, k_X8_tires_46 ca, k_X8_tires_47 ca, k_X8_tires_48 ca, k_X8_tires_49 ca, k_X8_tires_50 ca, k_X8_tires_53 ca, k_X8_tires_55 ca, k_X8_tires_56 ca, k_X8_tires_57 ca, k_X8_tires_59 ca, k_X8_tires_60 ca, k_X8_tires_63 ca, k_X8_tires_64 ca, k_X8_tires_65 ca, k_X8_tires_66 ca, k_X8_tires_67 ca, k_X8_tires_70 ca, k_X8_tires_72 ca, k_X8_tires_73 ca, k_X8_tires_76 ca, k_X8_tires_77 ca, k_X8_tires_78 ca, k_X8_tires_79 ca, k_X8_tires_80 ca, k_X8_tires_83 ca, k_X8_tires_85 ca, k_X8_tires_88 ca, k_X8_tires_89 ca, k_X8_tires_92 ca, k_X8_tires_93 ca, k_X8_tires_94 ca, k_X8_tires_95 ca, k_X8_tires_96 ca, k_X8_tires_97 ca, hm, hs0, sp_X8_stripAt, vp_in, or_self, one0]
    clear go
    (repeat' first | exact i60 (by assumption) | intro _ | apply And.intro | apply ifp) <;> first | exact i60 (by assumption) | (refine pu (upd_v ?_) hs; simp only [tireF, Nat.reduceMul, Nat.reduceAdd, if_true, if_false, not_false_eq_true, not_true_eq_false, *])
  · rw [n1]
    refine go (stp []) 60 _ _ _ _ _ _ ?_
    simp only [wpS, ite_not, i_push, i_iload, i_lload, i_aload, i_istore, i_astore, i_lstore, i_iinc, i_bin, i_dv, i_un, i_lbin, i_lsh, i_i2l, i_l2i, i_lcmp, i_dup, i_dup2, i_pop, i_if, i_icmp, i_goto, swG, i_sw, i_getf, i_puti, i_putz, i_putr, i_ald, i_lald, i_aald, i_ast, i_last, i_aast, i_alen, i_new, i_newi, i_newl, i_newq, i_oinit, i_ret, i_zret, i_lret, i_vret, catS, tk, rpush, isO, i_m1, i_m2, i_acopy, i_callV, i_callS, KRet, lget, lput, lputL, lcl0, isL, lv0, List.map_cons, List.map_nil, List.length_cons, List.length_nil, List.cons_append, List.nil_append, Nat.reduceAdd, Nat.reduceSub, Nat.reduceLeDiff, List.replicate_succ, List.replicate_zero, List.getElem?_cons_succ, List.getElem?_cons_zero, List.set_cons_succ, List.set_cons_zero, true_and, and_true, if_true, if_false, reduceIte, Nat.le_refl, Value.category, va_up_app, eq_self, stp, Nat.reduceBEq, Bool.or_false, Bool.false_or, Bool.true_or, Bool.or_true, or_true, true_or, bx_uu, implies_true, true_implies, not_true, not_false_eq_true, false_implies, and_self, Nat.reduceLT, Int32.reduceAdd, Int32.reduceSub, Int32.reduceMul, Int32.reduceLE, Int32.reduceLT, Int32.reduceToNatClampNeg, va_rf_some, Bool.false_eq_true, k_X8_tires_0 ca, k_X8_tires_1 ca, k_X8_tires_4 ca, k_X8_tires_5 ca, k_X8_tires_6 ca, k_X8_tires_9 ca, k_X8_tires_11 ca, k_X8_tires_12 ca, k_X8_tires_15 ca, k_X8_tires_16 ca, k_X8_tires_19 ca, k_X8_tires_20 ca, k_X8_tires_22 ca, k_X8_tires_23 ca, k_X8_tires_24 ca, k_X8_tires_25 ca, k_X8_tires_28 ca, k_X8_tires_30 ca, k_X8_tires_31 ca, k_X8_tires_32 ca, k_X8_tires_35 ca, k_X8_tires_36 ca, k_X8_tires_39 ca, k_X8_tires_40 ca, k_X8_tires_41 ca, k_X8_tires_42 ca, k_X8_tires_45 ca, k_X8_tires_46 ca, k_X8_tires_47 ca, k_X8_tires_48 ca, k_X8_tires_49 ca, k_X8_tires_50 ca, k_X8_tires_53 ca, k_X8_tires_55 ca, k_X8_tires_56 ca, k_X8_tires_57 ca, k_X8_tires_59 ca, k_X8_tires_60 ca, k_X8_tires_63 ca, k_X8_tires_64 ca, k_X8_tires_65 ca, k_X8_tires_66 ca, k_X8_tires_67 ca, k_X8_tires_70 ca, k_X8_tires_72 ca, k_X8_tires_73 ca, k_X8_tires_76 ca, k_X8_tires_77 ca, k_X8_tires_78 ca, k_X8_tires_79 ca, k_X8_tires_80 ca, k_X8_tires_83 ca, k_X8_tires_85 ca, k_X8_tires_88 ca, k_X8_tires_89 ca, k_X8_tires_92 ca, k_X8_tires_93 ca, k_X8_tires_94 ca, k_X8_tires_95 ca, k_X8_tires_96 ca, k_X8_tires_97 ca, hm, hs0, sp_X8_stripAt, vp_in, or_self, one0]
    clear go
    (repeat' first | exact i60 (by assumption) | intro _ | apply And.intro | apply ifp) <;> first | exact i60 (by assumption) | (refine pu (upd_v ?_) hs; simp only [tireF, Nat.reduceMul, Nat.reduceAdd, if_true, if_false, not_false_eq_true, not_true_eq_false, *])
  · rw [n2]
    refine go (stp []) 60 _ _ _ _ _ _ ?_
    simp only [wpS, ite_not, i_push, i_iload, i_lload, i_aload, i_istore, i_astore, i_lstore, i_iinc, i_bin, i_dv, i_un, i_lbin, i_lsh, i_i2l, i_l2i, i_lcmp, i_dup, i_dup2, i_pop, i_if, i_icmp, i_goto, swG, i_sw, i_getf, i_puti, i_putz, i_putr, i_ald, i_lald, i_aald, i_ast, i_last, i_aast, i_alen, i_new, i_newi, i_newl, i_newq, i_oinit, i_ret, i_zret, i_lret, i_vret, catS, tk, rpush, isO, i_m1, i_m2, i_acopy, i_callV, i_callS, KRet, lget, lput, lputL, lcl0, isL, lv0, List.map_cons, List.map_nil, List.length_cons, List.length_nil, List.cons_append, List.nil_append, Nat.reduceAdd, Nat.reduceSub, Nat.reduceLeDiff, List.replicate_succ, List.replicate_zero, List.getElem?_cons_succ, List.getElem?_cons_zero, List.set_cons_succ, List.set_cons_zero, true_and, and_true, if_true, if_false, reduceIte, Nat.le_refl, Value.category, va_up_app, eq_self, stp, Nat.reduceBEq, Bool.or_false, Bool.false_or, Bool.true_or, Bool.or_true, or_true, true_or, bx_uu, implies_true, true_implies, not_true, not_false_eq_true, false_implies, and_self, Nat.reduceLT, Int32.reduceAdd, Int32.reduceSub, Int32.reduceMul, Int32.reduceLE, Int32.reduceLT, Int32.reduceToNatClampNeg, va_rf_some, Bool.false_eq_true, k_X8_tires_0 ca, k_X8_tires_1 ca, k_X8_tires_4 ca, k_X8_tires_5 ca, k_X8_tires_6 ca, k_X8_tires_9 ca, k_X8_tires_11 ca, k_X8_tires_12 ca, k_X8_tires_15 ca, k_X8_tires_16 ca, k_X8_tires_19 ca, k_X8_tires_20 ca, k_X8_tires_22 ca, k_X8_tires_23 ca, k_X8_tires_24 ca, k_X8_tires_25 ca, k_X8_tires_28 ca, k_X8_tires_30 ca, k_X8_tires_31 ca, k_X8_tires_32 ca, k_X8_tires_35 ca, k_X8_tires_36 ca, k_X8_tires_39 ca, k_X8_tires_40 ca, k_X8_tires_41 ca, k_X8_tires_42 ca, k_X8_tires_45 ca, k_X8_tires_46 ca, k_X8_tires_47 ca, k_X8_tires_48 ca, k_X8_tires_49 ca, k_X8_tires_50 ca, k_X8_tires_53 ca, k_X8_tires_55 ca, k_X8_tires_56 ca, k_X8_tires_57 ca, k_X8_tires_59 ca, k_X8_tires_60 ca, k_X8_tires_63 ca, k_X8_tires_64 ca, k_X8_tires_65 ca, k_X8_tires_66 ca, k_X8_tires_67 ca, k_X8_tires_70 ca, k_X8_tires_72 ca, k_X8_tires_73 ca, k_X8_tires_76 ca, k_X8_tires_77 ca, k_X8_tires_78 ca, k_X8_tires_79 ca, k_X8_tires_80 ca, k_X8_tires_83 ca, k_X8_tires_85 ca, k_X8_tires_88 ca, k_X8_tires_89 ca, k_X8_tires_92 ca, k_X8_tires_93 ca, k_X8_tires_94 ca, k_X8_tires_95 ca, k_X8_tires_96 ca, k_X8_tires_97 ca, hm, hs0, sp_X8_stripAt, vp_in, or_self, one0]
    clear go
    (repeat' first | exact i60 (by assumption) | intro _ | apply And.intro | apply ifp) <;> first | exact i60 (by assumption) | (refine pu (upd_v ?_) hs; simp only [tireF, Nat.reduceMul, Nat.reduceAdd, if_true, if_false, not_false_eq_true, not_true_eq_false, *])
theorem upd_app {f : Nat → Int32} {i : Nat} {x : Int32} {j : Nat} : upd f i x j = if j = i then x else f j := by
  by_cases q : j = i
  · subst q
    rw [pk_us, if_pos rfl]
  · rw [pk_un q, if_neg q]
/-- the reference's row behind a pull at strip k; un: 0 where strips get no more tired -/
def plS (s : Nat → Int32) (k : Nat) (un bend : Int32) : Nat → Int32 := ovr s (10 + 32 * k) 8 (mvT (fun i => s (10 + 32 * k + i)) un (s 7) bend)
theorem pulled_eq {lo hi si bend : Int32} (h : si = 0 ∨ si = 1) : pulledM lo hi si bend = pulledF lo hi si bend := by
  unfold pulledM pulledF
  rcases h with rfl | rfl
  · rw [if_pos (by decide), if_pos rfl]
  · rw [if_neg (by decide), if_neg (by decide)]
theorem closed_eq {ki si : Int32} (h : si = 0 ∨ si = 1) : closedM ki si = closedF ki si := by
  unfold closedM closedF
  rcases h with rfl | rfl
  · by_cases q : ki = 1
    · rw [if_pos q, decide_eq_true q]; decide
    · rw [if_neg q, decide_eq_false q]; decide
  · by_cases q : ki = 1
    · rw [if_pos q, decide_eq_true q]; decide
    · rw [if_neg q, decide_eq_false q]; decide
def sp_X8_pulls (ca : Nat → ClassId) : SPEC := fun av h post => ∃ m a0 s k x d, k < 3 ∧ av = [.ref m, .int (nI k), .int x, .int d] ∧ MS ca h m a0 s ∧ ¬ m = a0 ∧ (s (14 + 32 * k) = 0 ∨ s (14 + 32 * k) = 1) ∧
  ∀ s', (∀ j, j < 127 → s' j = plS s k (if d = 0 then 0 else s 6) (x * (s (106 + 7 * k) - 200)) j) → post (some (.int (b2i (chB (s (11 + 32 * k)) (s (12 + 32 * k)) (s (13 + 32 * k)) (s (15 + 32 * k)) (s (14 + 32 * k)) (x * (s (106 + 7 * k) - 200)))))) (va_up h a0 (some (.inl (ca 0, 127, .inl s'))))
theorem ps {post : Option Value → PH → Prop} {h : PH} {a : Nat} {cA : ClassId} {v v' : Int32} {g : Nat → Int32} {s' : Nat → Int32} (hs : ∀ s', (∀ j, j < 127 → s' j = g j) → post (some (.int v')) (va_up h a (some (.inl (cA, 127, .inl s'))))) (e : v = v') (hj : ∀ j, j < 127 → s' j = g j) : post (some (.int v)) (va_up h a (some (.inl (cA, 127, .inl s')))) := e ▸ hs s' hj
theorem plS_eq {s s' : Nat → Int32} {k : Nat} {un bend : Int32} (h : ∀ i, i < 8 → s' (10 + 32 * k + i) = mvT (fun i => s (10 + 32 * k + i)) un (s 7) bend i) (ho : ∀ j, j < 127 → (j < 10 + 32 * k ∨ 18 + 32 * k ≤ j) → s' j = s j) : ∀ j, j < 127 → s' j = plS s k un bend j := by
  intro j hj
  unfold plS
  by_cases q : 10 + 32 * k ≤ j ∧ j < 10 + 32 * k + 8
  · have e : j = 10 + 32 * k + (j - (10 + 32 * k)) := by omega
    rw [e, ovr_in (by omega)]
    exact h _ (by omega)
  · rw [ovr_out (by omega)]
    exact ho j hj (by omega)
theorem eight {P : Nat → Prop} (h0 : P 0) (h1 : P 1) (h2 : P 2) (h3 : P 3) (h4 : P 4) (h5 : P 5) (h6 : P 6) (h7 : P 7) : ∀ i, i < 8 → P i := by
  intro i hi
  have : i = 0 ∨ i = 1 ∨ i = 2 ∨ i = 3 ∨ i = 4 ∨ i = 5 ∨ i = 6 ∨ i = 7 := by omega
  rcases this with rfl | rfl | rfl | rfl | rfl | rfl | rfl | rfl <;> assumption
def k_X8_pulls (ca : Nat → ClassId) : Nat → IT := fun pc => lk pc [(0, i_iload 1 1),
  (1, i_callS 1 0 0 0 0 (sp_X8_stripAt ca) 4),
  (4, i_istore 4 6),
  (6, i_aload 0 7),
  (7, i_iload 1 8),
  (8, i_iload 2 9),
  (9, i_aload 0 10),
  (10, i_getf 8 0 13),
  (13, i_iload 1 14),
  (14, i_callS 1 0 0 0 0 (sp_X8_roomAt ca) 17),
  (17, i_ald (ca 0) 18),
  (18, i_push (.int 200) 21),
  (21, i_bin (fun x y => x - y) 22),
  (22, i_bin (fun x y => x * y) 23),
  (23, i_callV 8 2 0 0 0 0 (sp_X8_isPulled ca) 26),
  (26, i_if (fun x => ¬ x = 0) 41 29),
  (29, i_aload 0 30),
  (30, i_getf 8 0 33),
  (33, i_iload 4 35),
  (35, i_push (.int 5) 36),
  (36, i_bin (fun x y => x + y) 37),
  (37, i_push (.int 0) 38),
  (38, i_ast (fun x => x) (ca 0) 39),
  (39, i_push (.int 0) 40),
  (40, i_ret),
  (41, i_aload 0 42),
  (42, i_getf 8 0 45),
  (45, i_iload 4 47),
  (47, i_push (.int 5) 48),
  (48, i_bin (fun x y => x + y) 49),
  (49, i_ald (ca 0) 50),
  (50, i_aload 0 51),
  (51, i_getf 8 0 54),
  (54, i_iload 4 56),
  (56, i_push (.int 3) 57),
  (57, i_bin (fun x y => x + y) 58),
  (58, i_ald (ca 0) 59),
  (59, i_icmp (fun x y => y ≤ x) 77 62),
  (62, i_aload 0 63),
  (63, i_getf 8 0 66),
  (66, i_iload 4 68),
  (68, i_push (.int 5) 69),
  (69, i_bin (fun x y => x + y) 70),
  (70, i_dup2 71),
  (71, i_ald (ca 0) 72),
  (72, i_push (.int 1) 73),
  (73, i_bin (fun x y => x + y) 74),
  (74, i_ast (fun x => x) (ca 0) 75),
  (75, i_push (.int 0) 76),
  (76, i_ret),
  (77, i_aload 0 78),
  (78, i_getf 8 0 81),
  (81, i_iload 4 83),
  (83, i_push (.int 5) 84),
  (84, i_bin (fun x y => x + y) 85),
  (85, i_push (.int 0) 86),
  (86, i_ast (fun x => x) (ca 0) 87),
  (87, i_aload 0 88),
  (88, i_getf 8 0 91),
  (91, i_iload 4 93),
  (93, i_push (.int 4) 94),
  (94, i_bin (fun x y => x + y) 95),
  (95, i_push (.int 1) 96),
  (96, i_aload 0 97),
  (97, i_getf 8 0 100),
  (100, i_iload 4 102),
  (102, i_push (.int 4) 103),
  (103, i_bin (fun x y => x + y) 104),
  (104, i_ald (ca 0) 105),
  (105, i_bin (fun x y => x - y) 106),
  (106, i_ast (fun x => x) (ca 0) 107),
  (107, i_aload 0 108),
  (108, i_iload 1 109),
  (109, i_callV 8 1 0 0 0 0 (sp_X8_isSnapped ca) 112),
  (112, i_if (fun x => x = 0) 138 115),
  (115, i_aload 0 116),
  (116, i_getf 8 0 119),
  (119, i_iload 4 121),
  (121, i_push (.int 6) 123),
  (123, i_bin (fun x y => x + y) 124),
  (124, i_dup2 125),
  (125, i_ald (ca 0) 126),
  (126, i_push (.int 1) 127),
  (127, i_bin (fun x y => x + y) 128),
  (128, i_ast (fun x => x) (ca 0) 129),
  (129, i_iload 3 130),
  (130, i_if (fun x => x = 0) 138 133),
  (133, i_aload 0 134),
  (134, i_iload 1 135),
  (135, i_callV 8 1 0 0 0 0 (sp_X8_tires ca) 138),
  (138, i_push (.int 1) 139),
  (139, i_ret)]
set_option maxRecDepth 20000 in
theorem t_X8_pulls : Tb k_X8_pulls yX8_pulls cX8_pulls 5 (some .int) 3 0 0 := by
  intro l D ca A p e s m args below meth c post X
  unfold k_X8_pulls
  refine snd_cons (snd_iload_n X dX8_pulls_0 rfl) ?_
  refine snd_cons (snd_callS X (ok_X8_stripAt l D ca) rfl rfl w_641 w_642 w_9 w_643 (by decide) (by decide) dX8_pulls_1) ?_
  refine snd_cons (snd_istore X dX8_pulls_4 (by decide)) ?_
  refine snd_cons (snd_aload_n X dX8_pulls_6 rfl) ?_
  refine snd_cons (snd_iload_n X dX8_pulls_7 rfl) ?_
  refine snd_cons (snd_iload_n X dX8_pulls_8 rfl) ?_
  refine snd_cons (snd_aload_n X dX8_pulls_9 rfl) ?_
  refine snd_cons (snd_getf X Fk8 0 (by decide) w_647 dX8_pulls_10) ?_
  refine snd_cons (snd_iload_n X dX8_pulls_13 rfl) ?_
  refine snd_cons (snd_callS X (ok_X8_roomAt l D ca) rfl rfl w_644 w_645 w_9 w_646 (by decide) (by decide) dX8_pulls_14) ?_
  refine snd_cons (snd_iaload X dX8_pulls_17) ?_
  refine snd_cons (snd_sipush X dX8_pulls_18 (by decide)) ?_
  refine snd_cons (snd_isub X dX8_pulls_21) ?_
  refine snd_cons (snd_imul X dX8_pulls_22) ?_
  refine snd_cons (snd_callV X Fk8 (ok_X8_isPulled l D ca) rfl rfl w_837 w_839 wp_36 w_9 w_840 (by decide) (by decide) dX8_pulls_23) ?_
  refine snd_cons (snd_if_ne X dX8_pulls_26 (by decide)) ?_
  refine snd_cons (snd_aload_n X dX8_pulls_29 rfl) ?_
  refine snd_cons (snd_getf X Fk8 0 (by decide) w_647 dX8_pulls_30) ?_
  refine snd_cons (snd_iload X dX8_pulls_33) ?_
  refine snd_cons (snd_iconst X dX8_pulls_35 (by decide)) ?_
  refine snd_cons (snd_iadd X dX8_pulls_36) ?_
  refine snd_cons (snd_iconst X dX8_pulls_37 (by decide)) ?_
  refine snd_cons (snd_iastore X dX8_pulls_38) ?_
  refine snd_cons (snd_iconst X dX8_pulls_39 (by decide)) ?_
  refine snd_cons (snd_ret X dX8_pulls_40) ?_
  refine snd_cons (snd_aload_n X dX8_pulls_41 rfl) ?_
  refine snd_cons (snd_getf X Fk8 0 (by decide) w_647 dX8_pulls_42) ?_
  refine snd_cons (snd_iload X dX8_pulls_45) ?_
  refine snd_cons (snd_iconst X dX8_pulls_47 (by decide)) ?_
  refine snd_cons (snd_iadd X dX8_pulls_48) ?_
  refine snd_cons (snd_iaload X dX8_pulls_49) ?_
  refine snd_cons (snd_aload_n X dX8_pulls_50 rfl) ?_
  refine snd_cons (snd_getf X Fk8 0 (by decide) w_647 dX8_pulls_51) ?_
  refine snd_cons (snd_iload X dX8_pulls_54) ?_
  refine snd_cons (snd_iconst X dX8_pulls_56 (by decide)) ?_
  refine snd_cons (snd_iadd X dX8_pulls_57) ?_
  refine snd_cons (snd_iaload X dX8_pulls_58) ?_
  refine snd_cons (snd_icmp_ge X dX8_pulls_59 (by decide)) ?_
  refine snd_cons (snd_aload_n X dX8_pulls_62 rfl) ?_
  refine snd_cons (snd_getf X Fk8 0 (by decide) w_647 dX8_pulls_63) ?_
  refine snd_cons (snd_iload X dX8_pulls_66) ?_
  refine snd_cons (snd_iconst X dX8_pulls_68 (by decide)) ?_
  refine snd_cons (snd_iadd X dX8_pulls_69) ?_
  refine snd_cons (snd_dup2 X dX8_pulls_70) ?_
  refine snd_cons (snd_iaload X dX8_pulls_71) ?_
  refine snd_cons (snd_iconst X dX8_pulls_72 (by decide)) ?_
  refine snd_cons (snd_iadd X dX8_pulls_73) ?_
  refine snd_cons (snd_iastore X dX8_pulls_74) ?_
  refine snd_cons (snd_iconst X dX8_pulls_75 (by decide)) ?_
  refine snd_cons (snd_ret X dX8_pulls_76) ?_
  refine snd_cons (snd_aload_n X dX8_pulls_77 rfl) ?_
  refine snd_cons (snd_getf X Fk8 0 (by decide) w_647 dX8_pulls_78) ?_
  refine snd_cons (snd_iload X dX8_pulls_81) ?_
  refine snd_cons (snd_iconst X dX8_pulls_83 (by decide)) ?_
  refine snd_cons (snd_iadd X dX8_pulls_84) ?_
  refine snd_cons (snd_iconst X dX8_pulls_85 (by decide)) ?_
  refine snd_cons (snd_iastore X dX8_pulls_86) ?_
  refine snd_cons (snd_aload_n X dX8_pulls_87 rfl) ?_
  refine snd_cons (snd_getf X Fk8 0 (by decide) w_647 dX8_pulls_88) ?_
  refine snd_cons (snd_iload X dX8_pulls_91) ?_
  refine snd_cons (snd_iconst X dX8_pulls_93 (by decide)) ?_
  refine snd_cons (snd_iadd X dX8_pulls_94) ?_
  refine snd_cons (snd_iconst X dX8_pulls_95 (by decide)) ?_
  refine snd_cons (snd_aload_n X dX8_pulls_96 rfl) ?_
  refine snd_cons (snd_getf X Fk8 0 (by decide) w_647 dX8_pulls_97) ?_
  refine snd_cons (snd_iload X dX8_pulls_100) ?_
  refine snd_cons (snd_iconst X dX8_pulls_102 (by decide)) ?_
  refine snd_cons (snd_iadd X dX8_pulls_103) ?_
  refine snd_cons (snd_iaload X dX8_pulls_104) ?_
  refine snd_cons (snd_isub X dX8_pulls_105) ?_
  refine snd_cons (snd_iastore X dX8_pulls_106) ?_
  refine snd_cons (snd_aload_n X dX8_pulls_107 rfl) ?_
  refine snd_cons (snd_iload_n X dX8_pulls_108 rfl) ?_
  refine snd_cons (snd_callV X Fk8 (ok_X8_isSnapped l D ca) rfl rfl w_782 w_784 wp_29 w_9 w_785 (by decide) (by decide) dX8_pulls_109) ?_
  refine snd_cons (snd_if_eq X dX8_pulls_112 (by decide)) ?_
  refine snd_cons (snd_aload_n X dX8_pulls_115 rfl) ?_
  refine snd_cons (snd_getf X Fk8 0 (by decide) w_647 dX8_pulls_116) ?_
  refine snd_cons (snd_iload X dX8_pulls_119) ?_
  refine snd_cons (snd_bipush X dX8_pulls_121 (by decide)) ?_
  refine snd_cons (snd_iadd X dX8_pulls_123) ?_
  refine snd_cons (snd_dup2 X dX8_pulls_124) ?_
  refine snd_cons (snd_iaload X dX8_pulls_125) ?_
  refine snd_cons (snd_iconst X dX8_pulls_126 (by decide)) ?_
  refine snd_cons (snd_iadd X dX8_pulls_127) ?_
  refine snd_cons (snd_iastore X dX8_pulls_128) ?_
  refine snd_cons (snd_iload_n X dX8_pulls_129 rfl) ?_
  refine snd_cons (snd_if_eq X dX8_pulls_130 (by decide)) ?_
  refine snd_cons (snd_aload_n X dX8_pulls_133 rfl) ?_
  refine snd_cons (snd_iload_n X dX8_pulls_134 rfl) ?_
  refine snd_cons (snd_callV X Fk8 (ok_X8_tires l D ca) rfl rfl w_841 w_843 wp_37 w_9 w_844 (by decide) (by decide) dX8_pulls_135) ?_
  refine snd_cons (snd_iconst X dX8_pulls_138 (by decide)) ?_
  refine snd_cons (snd_ret X dX8_pulls_139) ?_
  exact snd_nil
theorem k_X8_pulls_0 (ca : Nat → ClassId) : k_X8_pulls ca 0 = i_iload 1 1 := rfl
theorem k_X8_pulls_1 (ca : Nat → ClassId) : k_X8_pulls ca 1 = i_callS 1 0 0 0 0 (sp_X8_stripAt ca) 4 := rfl
theorem k_X8_pulls_4 (ca : Nat → ClassId) : k_X8_pulls ca 4 = i_istore 4 6 := rfl
theorem k_X8_pulls_6 (ca : Nat → ClassId) : k_X8_pulls ca 6 = i_aload 0 7 := rfl
theorem k_X8_pulls_7 (ca : Nat → ClassId) : k_X8_pulls ca 7 = i_iload 1 8 := rfl
theorem k_X8_pulls_8 (ca : Nat → ClassId) : k_X8_pulls ca 8 = i_iload 2 9 := rfl
theorem k_X8_pulls_9 (ca : Nat → ClassId) : k_X8_pulls ca 9 = i_aload 0 10 := rfl
theorem k_X8_pulls_10 (ca : Nat → ClassId) : k_X8_pulls ca 10 = i_getf 8 0 13 := rfl
theorem k_X8_pulls_13 (ca : Nat → ClassId) : k_X8_pulls ca 13 = i_iload 1 14 := rfl
theorem k_X8_pulls_14 (ca : Nat → ClassId) : k_X8_pulls ca 14 = i_callS 1 0 0 0 0 (sp_X8_roomAt ca) 17 := rfl
theorem k_X8_pulls_17 (ca : Nat → ClassId) : k_X8_pulls ca 17 = i_ald (ca 0) 18 := rfl
theorem k_X8_pulls_18 (ca : Nat → ClassId) : k_X8_pulls ca 18 = i_push (.int 200) 21 := rfl
theorem k_X8_pulls_21 (ca : Nat → ClassId) : k_X8_pulls ca 21 = i_bin (fun x y => x - y) 22 := rfl
theorem k_X8_pulls_22 (ca : Nat → ClassId) : k_X8_pulls ca 22 = i_bin (fun x y => x * y) 23 := rfl
theorem k_X8_pulls_23 (ca : Nat → ClassId) : k_X8_pulls ca 23 = i_callV 8 2 0 0 0 0 (sp_X8_isPulled ca) 26 := rfl
theorem k_X8_pulls_26 (ca : Nat → ClassId) : k_X8_pulls ca 26 = i_if (fun x => ¬ x = 0) 41 29 := rfl
theorem k_X8_pulls_29 (ca : Nat → ClassId) : k_X8_pulls ca 29 = i_aload 0 30 := rfl
theorem k_X8_pulls_30 (ca : Nat → ClassId) : k_X8_pulls ca 30 = i_getf 8 0 33 := rfl
theorem k_X8_pulls_33 (ca : Nat → ClassId) : k_X8_pulls ca 33 = i_iload 4 35 := rfl
theorem k_X8_pulls_35 (ca : Nat → ClassId) : k_X8_pulls ca 35 = i_push (.int 5) 36 := rfl
theorem k_X8_pulls_36 (ca : Nat → ClassId) : k_X8_pulls ca 36 = i_bin (fun x y => x + y) 37 := rfl
theorem k_X8_pulls_37 (ca : Nat → ClassId) : k_X8_pulls ca 37 = i_push (.int 0) 38 := rfl
theorem k_X8_pulls_38 (ca : Nat → ClassId) : k_X8_pulls ca 38 = i_ast (fun x => x) (ca 0) 39 := rfl
theorem k_X8_pulls_39 (ca : Nat → ClassId) : k_X8_pulls ca 39 = i_push (.int 0) 40 := rfl
theorem k_X8_pulls_40 (ca : Nat → ClassId) : k_X8_pulls ca 40 = i_ret := rfl
theorem k_X8_pulls_41 (ca : Nat → ClassId) : k_X8_pulls ca 41 = i_aload 0 42 := rfl
theorem k_X8_pulls_42 (ca : Nat → ClassId) : k_X8_pulls ca 42 = i_getf 8 0 45 := rfl
theorem k_X8_pulls_45 (ca : Nat → ClassId) : k_X8_pulls ca 45 = i_iload 4 47 := rfl
theorem k_X8_pulls_47 (ca : Nat → ClassId) : k_X8_pulls ca 47 = i_push (.int 5) 48 := rfl
theorem k_X8_pulls_48 (ca : Nat → ClassId) : k_X8_pulls ca 48 = i_bin (fun x y => x + y) 49 := rfl
theorem k_X8_pulls_49 (ca : Nat → ClassId) : k_X8_pulls ca 49 = i_ald (ca 0) 50 := rfl
theorem k_X8_pulls_50 (ca : Nat → ClassId) : k_X8_pulls ca 50 = i_aload 0 51 := rfl
theorem k_X8_pulls_51 (ca : Nat → ClassId) : k_X8_pulls ca 51 = i_getf 8 0 54 := rfl
theorem k_X8_pulls_54 (ca : Nat → ClassId) : k_X8_pulls ca 54 = i_iload 4 56 := rfl
theorem k_X8_pulls_56 (ca : Nat → ClassId) : k_X8_pulls ca 56 = i_push (.int 3) 57 := rfl
theorem k_X8_pulls_57 (ca : Nat → ClassId) : k_X8_pulls ca 57 = i_bin (fun x y => x + y) 58 := rfl
theorem k_X8_pulls_58 (ca : Nat → ClassId) : k_X8_pulls ca 58 = i_ald (ca 0) 59 := rfl
theorem k_X8_pulls_59 (ca : Nat → ClassId) : k_X8_pulls ca 59 = i_icmp (fun x y => y ≤ x) 77 62 := rfl
theorem k_X8_pulls_62 (ca : Nat → ClassId) : k_X8_pulls ca 62 = i_aload 0 63 := rfl
theorem k_X8_pulls_63 (ca : Nat → ClassId) : k_X8_pulls ca 63 = i_getf 8 0 66 := rfl
theorem k_X8_pulls_66 (ca : Nat → ClassId) : k_X8_pulls ca 66 = i_iload 4 68 := rfl
theorem k_X8_pulls_68 (ca : Nat → ClassId) : k_X8_pulls ca 68 = i_push (.int 5) 69 := rfl
theorem k_X8_pulls_69 (ca : Nat → ClassId) : k_X8_pulls ca 69 = i_bin (fun x y => x + y) 70 := rfl
theorem k_X8_pulls_70 (ca : Nat → ClassId) : k_X8_pulls ca 70 = i_dup2 71 := rfl
theorem k_X8_pulls_71 (ca : Nat → ClassId) : k_X8_pulls ca 71 = i_ald (ca 0) 72 := rfl
theorem k_X8_pulls_72 (ca : Nat → ClassId) : k_X8_pulls ca 72 = i_push (.int 1) 73 := rfl
theorem k_X8_pulls_73 (ca : Nat → ClassId) : k_X8_pulls ca 73 = i_bin (fun x y => x + y) 74 := rfl
theorem k_X8_pulls_74 (ca : Nat → ClassId) : k_X8_pulls ca 74 = i_ast (fun x => x) (ca 0) 75 := rfl
theorem k_X8_pulls_75 (ca : Nat → ClassId) : k_X8_pulls ca 75 = i_push (.int 0) 76 := rfl
theorem k_X8_pulls_76 (ca : Nat → ClassId) : k_X8_pulls ca 76 = i_ret := rfl
theorem k_X8_pulls_77 (ca : Nat → ClassId) : k_X8_pulls ca 77 = i_aload 0 78 := rfl
theorem k_X8_pulls_78 (ca : Nat → ClassId) : k_X8_pulls ca 78 = i_getf 8 0 81 := rfl
theorem k_X8_pulls_81 (ca : Nat → ClassId) : k_X8_pulls ca 81 = i_iload 4 83 := rfl
theorem k_X8_pulls_83 (ca : Nat → ClassId) : k_X8_pulls ca 83 = i_push (.int 5) 84 := rfl
theorem k_X8_pulls_84 (ca : Nat → ClassId) : k_X8_pulls ca 84 = i_bin (fun x y => x + y) 85 := rfl
theorem k_X8_pulls_85 (ca : Nat → ClassId) : k_X8_pulls ca 85 = i_push (.int 0) 86 := rfl
theorem k_X8_pulls_86 (ca : Nat → ClassId) : k_X8_pulls ca 86 = i_ast (fun x => x) (ca 0) 87 := rfl
theorem k_X8_pulls_87 (ca : Nat → ClassId) : k_X8_pulls ca 87 = i_aload 0 88 := rfl
theorem k_X8_pulls_88 (ca : Nat → ClassId) : k_X8_pulls ca 88 = i_getf 8 0 91 := rfl
theorem k_X8_pulls_91 (ca : Nat → ClassId) : k_X8_pulls ca 91 = i_iload 4 93 := rfl
theorem k_X8_pulls_93 (ca : Nat → ClassId) : k_X8_pulls ca 93 = i_push (.int 4) 94 := rfl
theorem k_X8_pulls_94 (ca : Nat → ClassId) : k_X8_pulls ca 94 = i_bin (fun x y => x + y) 95 := rfl
theorem k_X8_pulls_95 (ca : Nat → ClassId) : k_X8_pulls ca 95 = i_push (.int 1) 96 := rfl
theorem k_X8_pulls_96 (ca : Nat → ClassId) : k_X8_pulls ca 96 = i_aload 0 97 := rfl
theorem k_X8_pulls_97 (ca : Nat → ClassId) : k_X8_pulls ca 97 = i_getf 8 0 100 := rfl
theorem k_X8_pulls_100 (ca : Nat → ClassId) : k_X8_pulls ca 100 = i_iload 4 102 := rfl
theorem k_X8_pulls_102 (ca : Nat → ClassId) : k_X8_pulls ca 102 = i_push (.int 4) 103 := rfl
theorem k_X8_pulls_103 (ca : Nat → ClassId) : k_X8_pulls ca 103 = i_bin (fun x y => x + y) 104 := rfl
theorem k_X8_pulls_104 (ca : Nat → ClassId) : k_X8_pulls ca 104 = i_ald (ca 0) 105 := rfl
theorem k_X8_pulls_105 (ca : Nat → ClassId) : k_X8_pulls ca 105 = i_bin (fun x y => x - y) 106 := rfl
theorem k_X8_pulls_106 (ca : Nat → ClassId) : k_X8_pulls ca 106 = i_ast (fun x => x) (ca 0) 107 := rfl
theorem k_X8_pulls_107 (ca : Nat → ClassId) : k_X8_pulls ca 107 = i_aload 0 108 := rfl
theorem k_X8_pulls_108 (ca : Nat → ClassId) : k_X8_pulls ca 108 = i_iload 1 109 := rfl
theorem k_X8_pulls_109 (ca : Nat → ClassId) : k_X8_pulls ca 109 = i_callV 8 1 0 0 0 0 (sp_X8_isSnapped ca) 112 := rfl
theorem k_X8_pulls_112 (ca : Nat → ClassId) : k_X8_pulls ca 112 = i_if (fun x => x = 0) 138 115 := rfl
theorem k_X8_pulls_115 (ca : Nat → ClassId) : k_X8_pulls ca 115 = i_aload 0 116 := rfl
theorem k_X8_pulls_116 (ca : Nat → ClassId) : k_X8_pulls ca 116 = i_getf 8 0 119 := rfl
theorem k_X8_pulls_119 (ca : Nat → ClassId) : k_X8_pulls ca 119 = i_iload 4 121 := rfl
theorem k_X8_pulls_121 (ca : Nat → ClassId) : k_X8_pulls ca 121 = i_push (.int 6) 123 := rfl
theorem k_X8_pulls_123 (ca : Nat → ClassId) : k_X8_pulls ca 123 = i_bin (fun x y => x + y) 124 := rfl
theorem k_X8_pulls_124 (ca : Nat → ClassId) : k_X8_pulls ca 124 = i_dup2 125 := rfl
theorem k_X8_pulls_125 (ca : Nat → ClassId) : k_X8_pulls ca 125 = i_ald (ca 0) 126 := rfl
theorem k_X8_pulls_126 (ca : Nat → ClassId) : k_X8_pulls ca 126 = i_push (.int 1) 127 := rfl
theorem k_X8_pulls_127 (ca : Nat → ClassId) : k_X8_pulls ca 127 = i_bin (fun x y => x + y) 128 := rfl
theorem k_X8_pulls_128 (ca : Nat → ClassId) : k_X8_pulls ca 128 = i_ast (fun x => x) (ca 0) 129 := rfl
theorem k_X8_pulls_129 (ca : Nat → ClassId) : k_X8_pulls ca 129 = i_iload 3 130 := rfl
theorem k_X8_pulls_130 (ca : Nat → ClassId) : k_X8_pulls ca 130 = i_if (fun x => x = 0) 138 133 := rfl
theorem k_X8_pulls_133 (ca : Nat → ClassId) : k_X8_pulls ca 133 = i_aload 0 134 := rfl
theorem k_X8_pulls_134 (ca : Nat → ClassId) : k_X8_pulls ca 134 = i_iload 1 135 := rfl
theorem k_X8_pulls_135 (ca : Nat → ClassId) : k_X8_pulls ca 135 = i_callV 8 1 0 0 0 0 (sp_X8_tires ca) 138 := rfl
theorem k_X8_pulls_138 (ca : Nat → ClassId) : k_X8_pulls ca 138 = i_push (.int 1) 139 := rfl
theorem k_X8_pulls_139 (ca : Nat → ClassId) : k_X8_pulls ca 139 = i_ret := rfl
set_option maxHeartbeats 4000000 in
set_option maxRecDepth 20000 in
theorem ok_X8_pulls (l : Launch) (D : va_G) (ca : Nat → ClassId) : OkAll l D ca yX8_pulls cX8_pulls 5 (some .int) 3 0 0 (sp_X8_pulls ca) := by
  intro av h post hs
  obtain ⟨m, a0, s, k, x, d, hk, rfl, ⟨⟨r, hm⟩, hs0⟩, hma, hsi, hs⟩ := hs
  refine okM_of t_X8_pulls (by decide +kernel) (c1_ref (c1_int (c1_int (c1_int c1_nil)))) (Nat.le_of_ble_eq_true rfl) ?_
  intro K go
  have hk3 : k = 0 ∨ k = 1 ∨ k = 2 := by omega
  rcases hk3 with rfl | rfl | rfl
  · rw [nI_0]
    have hp := pulled_eq (lo := s 11) (hi := s 12) (bend := x * (s 106 - 200)) hsi
    have fin : ∀ H, post (some (.int 1)) H → K 0 0 138 [some (.ref m), some (.int 0), some (.int x), some (.int d), some (.int 10)] [] H := by
      intro H hH
      refine go (stp []) 4 _ _ _ _ _ _ ?_
      simp only [wpS, ite_not, i_push, i_iload, i_lload, i_aload, i_istore, i_astore, i_lstore, i_iinc, i_bin, i_dv, i_un, i_lbin, i_lsh, i_i2l, i_l2i, i_lcmp, i_dup, i_dup2, i_pop, i_if, i_icmp, i_goto, swG, i_sw, i_getf, i_puti, i_putz, i_putr, i_ald, i_lald, i_aald, i_ast, i_last, i_aast, i_alen, i_new, i_newi, i_newl, i_newq, i_oinit, i_ret, i_zret, i_lret, i_vret, catS, tk, rpush, isO, i_m1, i_m2, i_acopy, i_callV, i_callS, KRet, lget, lput, lputL, lcl0, isL, lv0, List.map_cons, List.map_nil, List.length_cons, List.length_nil, List.cons_append, List.nil_append, Nat.reduceAdd, Nat.reduceSub, Nat.reduceLeDiff, List.replicate_succ, List.replicate_zero, List.getElem?_cons_succ, List.getElem?_cons_zero, List.set_cons_succ, List.set_cons_zero, true_and, and_true, if_true, if_false, reduceIte, Nat.le_refl, Value.category, va_up_app, eq_self, stp, Nat.reduceBEq, Bool.or_false, Bool.false_or, Bool.true_or, Bool.or_true, or_true, true_or, bx_uu, implies_true, true_implies, not_true, not_false_eq_true, false_implies, and_self, Nat.reduceLT, Int32.reduceAdd, Int32.reduceSub, Int32.reduceMul, Int32.reduceLE, Int32.reduceLT, Int32.reduceToNatClampNeg, va_rf_some, Bool.false_eq_true, k_X8_pulls_0 ca, k_X8_pulls_1 ca, k_X8_pulls_4 ca, k_X8_pulls_6 ca, k_X8_pulls_7 ca, k_X8_pulls_8 ca, k_X8_pulls_9 ca, k_X8_pulls_10 ca, k_X8_pulls_13 ca, k_X8_pulls_14 ca, k_X8_pulls_17 ca, k_X8_pulls_18 ca, k_X8_pulls_21 ca, k_X8_pulls_22 ca, k_X8_pulls_23 ca, k_X8_pulls_26 ca, k_X8_pulls_29 ca, k_X8_pulls_30 ca, k_X8_pulls_33 ca, k_X8_pulls_35 ca, k_X8_pulls_36 ca, k_X8_pulls_37 ca, k_X8_pulls_38 ca, k_X8_pulls_39 ca, k_X8_pulls_40 ca, k_X8_pulls_41 ca, k_X8_pulls_42 ca, k_X8_pulls_45 ca, k_X8_pulls_47 ca, k_X8_pulls_48 ca, k_X8_pulls_49 ca, k_X8_pulls_50 ca, k_X8_pulls_51 ca, k_X8_pulls_54 ca, k_X8_pulls_56 ca, k_X8_pulls_57 ca, k_X8_pulls_58 ca, k_X8_pulls_59 ca, k_X8_pulls_62 ca, k_X8_pulls_63 ca, k_X8_pulls_66 ca, k_X8_pulls_68 ca, k_X8_pulls_69 ca, k_X8_pulls_70 ca, k_X8_pulls_71 ca, k_X8_pulls_72 ca, k_X8_pulls_73 ca, k_X8_pulls_74 ca, k_X8_pulls_75 ca, k_X8_pulls_76 ca, k_X8_pulls_77 ca, k_X8_pulls_78 ca, k_X8_pulls_81 ca, k_X8_pulls_83 ca, k_X8_pulls_84 ca, k_X8_pulls_85 ca, k_X8_pulls_86 ca, k_X8_pulls_87 ca, k_X8_pulls_88 ca, k_X8_pulls_91 ca, k_X8_pulls_93 ca, k_X8_pulls_94 ca, k_X8_pulls_95 ca, k_X8_pulls_96 ca, k_X8_pulls_97 ca, k_X8_pulls_100 ca, k_X8_pulls_102 ca, k_X8_pulls_103 ca, k_X8_pulls_104 ca, k_X8_pulls_105 ca, k_X8_pulls_106 ca, k_X8_pulls_107 ca, k_X8_pulls_108 ca, k_X8_pulls_109 ca, k_X8_pulls_112 ca, k_X8_pulls_115 ca, k_X8_pulls_116 ca, k_X8_pulls_119 ca, k_X8_pulls_121 ca, k_X8_pulls_123 ca, k_X8_pulls_124 ca, k_X8_pulls_125 ca, k_X8_pulls_126 ca, k_X8_pulls_127 ca, k_X8_pulls_128 ca, k_X8_pulls_129 ca, k_X8_pulls_130 ca, k_X8_pulls_133 ca, k_X8_pulls_134 ca, k_X8_pulls_135 ca, k_X8_pulls_138 ca, k_X8_pulls_139 ca]
      exact hH
    refine go (stp [138]) 75 _ _ _ _ _ _ ?_
    simp only [wpS, ite_not, i_push, i_iload, i_lload, i_aload, i_istore, i_astore, i_lstore, i_iinc, i_bin, i_dv, i_un, i_lbin, i_lsh, i_i2l, i_l2i, i_lcmp, i_dup, i_dup2, i_pop, i_if, i_icmp, i_goto, swG, i_sw, i_getf, i_puti, i_putz, i_putr, i_ald, i_lald, i_aald, i_ast, i_last, i_aast, i_alen, i_new, i_newi, i_newl, i_newq, i_oinit, i_ret, i_zret, i_lret, i_vret, catS, tk, rpush, isO, i_m1, i_m2, i_acopy, i_callV, i_callS, KRet, lget, lput, lputL, lcl0, isL, lv0, List.map_cons, List.map_nil, List.length_cons, List.length_nil, List.cons_append, List.nil_append, Nat.reduceAdd, Nat.reduceSub, Nat.reduceLeDiff, List.replicate_succ, List.replicate_zero, List.getElem?_cons_succ, List.getElem?_cons_zero, List.set_cons_succ, List.set_cons_zero, true_and, and_true, if_true, if_false, reduceIte, Nat.le_refl, Value.category, va_up_app, eq_self, stp, Nat.reduceBEq, Bool.or_false, Bool.false_or, Bool.true_or, Bool.or_true, or_true, true_or, bx_uu, implies_true, true_implies, not_true, not_false_eq_true, false_implies, and_self, Nat.reduceLT, Int32.reduceAdd, Int32.reduceSub, Int32.reduceMul, Int32.reduceLE, Int32.reduceLT, Int32.reduceToNatClampNeg, va_rf_some, Bool.false_eq_true, k_X8_pulls_0 ca, k_X8_pulls_1 ca, k_X8_pulls_4 ca, k_X8_pulls_6 ca, k_X8_pulls_7 ca, k_X8_pulls_8 ca, k_X8_pulls_9 ca, k_X8_pulls_10 ca, k_X8_pulls_13 ca, k_X8_pulls_14 ca, k_X8_pulls_17 ca, k_X8_pulls_18 ca, k_X8_pulls_21 ca, k_X8_pulls_22 ca, k_X8_pulls_23 ca, k_X8_pulls_26 ca, k_X8_pulls_29 ca, k_X8_pulls_30 ca, k_X8_pulls_33 ca, k_X8_pulls_35 ca, k_X8_pulls_36 ca, k_X8_pulls_37 ca, k_X8_pulls_38 ca, k_X8_pulls_39 ca, k_X8_pulls_40 ca, k_X8_pulls_41 ca, k_X8_pulls_42 ca, k_X8_pulls_45 ca, k_X8_pulls_47 ca, k_X8_pulls_48 ca, k_X8_pulls_49 ca, k_X8_pulls_50 ca, k_X8_pulls_51 ca, k_X8_pulls_54 ca, k_X8_pulls_56 ca, k_X8_pulls_57 ca, k_X8_pulls_58 ca, k_X8_pulls_59 ca, k_X8_pulls_62 ca, k_X8_pulls_63 ca, k_X8_pulls_66 ca, k_X8_pulls_68 ca, k_X8_pulls_69 ca, k_X8_pulls_70 ca, k_X8_pulls_71 ca, k_X8_pulls_72 ca, k_X8_pulls_73 ca, k_X8_pulls_74 ca, k_X8_pulls_75 ca, k_X8_pulls_76 ca, k_X8_pulls_77 ca, k_X8_pulls_78 ca, k_X8_pulls_81 ca, k_X8_pulls_83 ca, k_X8_pulls_84 ca, k_X8_pulls_85 ca, k_X8_pulls_86 ca, k_X8_pulls_87 ca, k_X8_pulls_88 ca, k_X8_pulls_91 ca, k_X8_pulls_93 ca, k_X8_pulls_94 ca, k_X8_pulls_95 ca, k_X8_pulls_96 ca, k_X8_pulls_97 ca, k_X8_pulls_100 ca, k_X8_pulls_102 ca, k_X8_pulls_103 ca, k_X8_pulls_104 ca, k_X8_pulls_105 ca, k_X8_pulls_106 ca, k_X8_pulls_107 ca, k_X8_pulls_108 ca, k_X8_pulls_109 ca, k_X8_pulls_112 ca, k_X8_pulls_115 ca, k_X8_pulls_116 ca, k_X8_pulls_119 ca, k_X8_pulls_121 ca, k_X8_pulls_123 ca, k_X8_pulls_124 ca, k_X8_pulls_125 ca, k_X8_pulls_126 ca, k_X8_pulls_127 ca, k_X8_pulls_128 ca, k_X8_pulls_129 ca, k_X8_pulls_130 ca, k_X8_pulls_133 ca, k_X8_pulls_134 ca, k_X8_pulls_135 ca, k_X8_pulls_138 ca, k_X8_pulls_139 ca, hm, hs0, hma, sp_X8_stripAt, sp_X8_roomAt, sp_X8_isPulled, sp_X8_isSnapped, vp_in, or_self, hp, b2i_0, b2i_1, pk_us, upd_app, Nat.reduceEqDiff, one0]
    clear go hp
    simp only [Nat.reduceMul, Nat.reduceAdd] at hsi hs
    simp only [Nat.reduceMul, Nat.reduceAdd]
    refine ifp (fun c1 => ?_) (fun c1 => ?_)
    · refine ps hs ?_ (plS_eq (eight ?_ ?_ ?_ ?_ ?_ ?_ ?_ ?_) (fun j hj ho => ?_))
      · simp [chB, c1, b2i_f]
      all_goals first | (simp only [upd_app]; rw [if_neg (by omega)]; done) | simp [upd_app, mvT, mvU, chB, chPu, chSi, c1]
    · simp only [Bool.not_eq_false] at c1
      refine ifp (fun c2 => ?_) (fun c2 => ?_)
      · rcases hsi with h14 | h14
        · rw [h14] at c1 ⊢
          refine ifp (fun c3 => absurd c3 (by decide)) (fun _ => ifp (fun c4 => ?_) (fun c4 => ?_))
          · refine fin _ (ps hs ?_ (plS_eq (eight ?_ ?_ ?_ ?_ ?_ ?_ ?_ ?_) (fun j hj ho => ?_)))
            · simp [chB, c1, c2, h14, b2i_t]
            all_goals first | (simp only [upd_app]; rw [if_neg (by omega), if_neg (by omega), if_neg (by omega)]; done) | simp [upd_app, mvT, mvU, chB, chPu, chSi, tireF, c1, c2, c4, h14]
          · refine ⟨m, a0, _, 0, by omega, rfl, ⟨⟨r, (va_up_ne _ _ hma).trans hm⟩, va_up_self _ _ _⟩, ?_⟩
            rw [bx_uu]
            refine fin _ (ps hs ?_ (plS_eq (eight ?_ ?_ ?_ ?_ ?_ ?_ ?_ ?_) (fun j hj ho => ?_)))
            · simp [chB, c1, c2, h14, b2i_t]
            all_goals first | (simp only [upd_app]; rw [if_neg (by omega), if_neg (by omega), if_neg (by omega), if_neg (by omega)]; done) | simp [upd_app, mvT, mvU, chB, chPu, chSi, c1, c2, c4, h14]
        · rw [h14] at c1 ⊢
          refine ifp (fun c3 => ?_) (fun c3 => absurd (by decide) c3)
          refine fin _ (ps hs ?_ (plS_eq (eight ?_ ?_ ?_ ?_ ?_ ?_ ?_ ?_) (fun j hj ho => ?_)))
          · simp [chB, c1, c2, h14, b2i_t]
          all_goals first | (simp only [upd_app]; rw [if_neg (by omega), if_neg (by omega)]; done) | simp [upd_app, mvT, mvU, chB, chPu, chSi, c1, c2, h14]
      · refine ps hs ?_ (plS_eq (eight ?_ ?_ ?_ ?_ ?_ ?_ ?_ ?_) (fun j hj ho => ?_))
        · simp [chB, c1, c2, b2i_f]
        all_goals first | (simp only [upd_app]; rw [if_neg (by omega)]; done) | simp [upd_app, mvT, mvU, chB, chPu, chSi, c1, c2]
  · rw [n1]
    have hp := pulled_eq (lo := s 43) (hi := s 44) (bend := x * (s 113 - 200)) hsi
    have fin : ∀ H, post (some (.int 1)) H → K 0 0 138 [some (.ref m), some (.int 1), some (.int x), some (.int d), some (.int 42)] [] H := by
      intro H hH
      refine go (stp []) 4 _ _ _ _ _ _ ?_
      simp only [wpS, ite_not, i_push, i_iload, i_lload, i_aload, i_istore, i_astore, i_lstore, i_iinc, i_bin, i_dv, i_un, i_lbin, i_lsh, i_i2l, i_l2i, i_lcmp, i_dup, i_dup2, i_pop, i_if, i_icmp, i_goto, swG, i_sw, i_getf, i_puti, i_putz, i_putr, i_ald, i_lald, i_aald, i_ast, i_last, i_aast, i_alen, i_new, i_newi, i_newl, i_newq, i_oinit, i_ret, i_zret, i_lret, i_vret, catS, tk, rpush, isO, i_m1, i_m2, i_acopy, i_callV, i_callS, KRet, lget, lput, lputL, lcl0, isL, lv0, List.map_cons, List.map_nil, List.length_cons, List.length_nil, List.cons_append, List.nil_append, Nat.reduceAdd, Nat.reduceSub, Nat.reduceLeDiff, List.replicate_succ, List.replicate_zero, List.getElem?_cons_succ, List.getElem?_cons_zero, List.set_cons_succ, List.set_cons_zero, true_and, and_true, if_true, if_false, reduceIte, Nat.le_refl, Value.category, va_up_app, eq_self, stp, Nat.reduceBEq, Bool.or_false, Bool.false_or, Bool.true_or, Bool.or_true, or_true, true_or, bx_uu, implies_true, true_implies, not_true, not_false_eq_true, false_implies, and_self, Nat.reduceLT, Int32.reduceAdd, Int32.reduceSub, Int32.reduceMul, Int32.reduceLE, Int32.reduceLT, Int32.reduceToNatClampNeg, va_rf_some, Bool.false_eq_true, k_X8_pulls_0 ca, k_X8_pulls_1 ca, k_X8_pulls_4 ca, k_X8_pulls_6 ca, k_X8_pulls_7 ca, k_X8_pulls_8 ca, k_X8_pulls_9 ca, k_X8_pulls_10 ca, k_X8_pulls_13 ca, k_X8_pulls_14 ca, k_X8_pulls_17 ca, k_X8_pulls_18 ca, k_X8_pulls_21 ca, k_X8_pulls_22 ca, k_X8_pulls_23 ca, k_X8_pulls_26 ca, k_X8_pulls_29 ca, k_X8_pulls_30 ca, k_X8_pulls_33 ca, k_X8_pulls_35 ca, k_X8_pulls_36 ca, k_X8_pulls_37 ca, k_X8_pulls_38 ca, k_X8_pulls_39 ca, k_X8_pulls_40 ca, k_X8_pulls_41 ca, k_X8_pulls_42 ca, k_X8_pulls_45 ca, k_X8_pulls_47 ca, k_X8_pulls_48 ca, k_X8_pulls_49 ca, k_X8_pulls_50 ca, k_X8_pulls_51 ca, k_X8_pulls_54 ca, k_X8_pulls_56 ca, k_X8_pulls_57 ca, k_X8_pulls_58 ca, k_X8_pulls_59 ca, k_X8_pulls_62 ca, k_X8_pulls_63 ca, k_X8_pulls_66 ca, k_X8_pulls_68 ca, k_X8_pulls_69 ca, k_X8_pulls_70 ca, k_X8_pulls_71 ca, k_X8_pulls_72 ca, k_X8_pulls_73 ca, k_X8_pulls_74 ca, k_X8_pulls_75 ca, k_X8_pulls_76 ca, k_X8_pulls_77 ca, k_X8_pulls_78 ca, k_X8_pulls_81 ca, k_X8_pulls_83 ca, k_X8_pulls_84 ca, k_X8_pulls_85 ca, k_X8_pulls_86 ca, k_X8_pulls_87 ca, k_X8_pulls_88 ca, k_X8_pulls_91 ca, k_X8_pulls_93 ca, k_X8_pulls_94 ca, k_X8_pulls_95 ca, k_X8_pulls_96 ca, k_X8_pulls_97 ca, k_X8_pulls_100 ca, k_X8_pulls_102 ca, k_X8_pulls_103 ca, k_X8_pulls_104 ca, k_X8_pulls_105 ca, k_X8_pulls_106 ca, k_X8_pulls_107 ca, k_X8_pulls_108 ca, k_X8_pulls_109 ca, k_X8_pulls_112 ca, k_X8_pulls_115 ca, k_X8_pulls_116 ca, k_X8_pulls_119 ca, k_X8_pulls_121 ca, k_X8_pulls_123 ca, k_X8_pulls_124 ca, k_X8_pulls_125 ca, k_X8_pulls_126 ca, k_X8_pulls_127 ca, k_X8_pulls_128 ca, k_X8_pulls_129 ca, k_X8_pulls_130 ca, k_X8_pulls_133 ca, k_X8_pulls_134 ca, k_X8_pulls_135 ca, k_X8_pulls_138 ca, k_X8_pulls_139 ca]
      exact hH
    refine go (stp [138]) 75 _ _ _ _ _ _ ?_
    simp only [wpS, ite_not, i_push, i_iload, i_lload, i_aload, i_istore, i_astore, i_lstore, i_iinc, i_bin, i_dv, i_un, i_lbin, i_lsh, i_i2l, i_l2i, i_lcmp, i_dup, i_dup2, i_pop, i_if, i_icmp, i_goto, swG, i_sw, i_getf, i_puti, i_putz, i_putr, i_ald, i_lald, i_aald, i_ast, i_last, i_aast, i_alen, i_new, i_newi, i_newl, i_newq, i_oinit, i_ret, i_zret, i_lret, i_vret, catS, tk, rpush, isO, i_m1, i_m2, i_acopy, i_callV, i_callS, KRet, lget, lput, lputL, lcl0, isL, lv0, List.map_cons, List.map_nil, List.length_cons, List.length_nil, List.cons_append, List.nil_append, Nat.reduceAdd, Nat.reduceSub, Nat.reduceLeDiff, List.replicate_succ, List.replicate_zero, List.getElem?_cons_succ, List.getElem?_cons_zero, List.set_cons_succ, List.set_cons_zero, true_and, and_true, if_true, if_false, reduceIte, Nat.le_refl, Value.category, va_up_app, eq_self, stp, Nat.reduceBEq, Bool.or_false, Bool.false_or, Bool.true_or, Bool.or_true, or_true, true_or, bx_uu, implies_true, true_implies, not_true, not_false_eq_true, false_implies, and_self, Nat.reduceLT, Int32.reduceAdd, Int32.reduceSub, Int32.reduceMul, Int32.reduceLE, Int32.reduceLT, Int32.reduceToNatClampNeg, va_rf_some, Bool.false_eq_true, k_X8_pulls_0 ca, k_X8_pulls_1 ca, k_X8_pulls_4 ca, k_X8_pulls_6 ca, k_X8_pulls_7 ca, k_X8_pulls_8 ca, k_X8_pulls_9 ca, k_X8_pulls_10 ca, k_X8_pulls_13 ca, k_X8_pulls_14 ca, k_X8_pulls_17 ca, k_X8_pulls_18 ca, k_X8_pulls_21 ca, k_X8_pulls_22 ca, k_X8_pulls_23 ca, k_X8_pulls_26 ca, k_X8_pulls_29 ca, k_X8_pulls_30 ca, k_X8_pulls_33 ca, k_X8_pulls_35 ca, k_X8_pulls_36 ca, k_X8_pulls_37 ca, k_X8_pulls_38 ca, k_X8_pulls_39 ca, k_X8_pulls_40 ca, k_X8_pulls_41 ca, k_X8_pulls_42 ca, k_X8_pulls_45 ca, k_X8_pulls_47 ca, k_X8_pulls_48 ca, k_X8_pulls_49 ca, k_X8_pulls_50 ca, k_X8_pulls_51 ca, k_X8_pulls_54 ca, k_X8_pulls_56 ca, k_X8_pulls_57 ca, k_X8_pulls_58 ca, k_X8_pulls_59 ca, k_X8_pulls_62 ca, k_X8_pulls_63 ca, k_X8_pulls_66 ca, k_X8_pulls_68 ca, k_X8_pulls_69 ca, k_X8_pulls_70 ca, k_X8_pulls_71 ca, k_X8_pulls_72 ca, k_X8_pulls_73 ca, k_X8_pulls_74 ca, k_X8_pulls_75 ca, k_X8_pulls_76 ca, k_X8_pulls_77 ca, k_X8_pulls_78 ca, k_X8_pulls_81 ca, k_X8_pulls_83 ca, k_X8_pulls_84 ca, k_X8_pulls_85 ca, k_X8_pulls_86 ca, k_X8_pulls_87 ca, k_X8_pulls_88 ca, k_X8_pulls_91 ca, k_X8_pulls_93 ca, k_X8_pulls_94 ca, k_X8_pulls_95 ca, k_X8_pulls_96 ca, k_X8_pulls_97 ca, k_X8_pulls_100 ca, k_X8_pulls_102 ca, k_X8_pulls_103 ca, k_X8_pulls_104 ca, k_X8_pulls_105 ca, k_X8_pulls_106 ca, k_X8_pulls_107 ca, k_X8_pulls_108 ca, k_X8_pulls_109 ca, k_X8_pulls_112 ca, k_X8_pulls_115 ca, k_X8_pulls_116 ca, k_X8_pulls_119 ca, k_X8_pulls_121 ca, k_X8_pulls_123 ca, k_X8_pulls_124 ca, k_X8_pulls_125 ca, k_X8_pulls_126 ca, k_X8_pulls_127 ca, k_X8_pulls_128 ca, k_X8_pulls_129 ca, k_X8_pulls_130 ca, k_X8_pulls_133 ca, k_X8_pulls_134 ca, k_X8_pulls_135 ca, k_X8_pulls_138 ca, k_X8_pulls_139 ca, hm, hs0, hma, sp_X8_stripAt, sp_X8_roomAt, sp_X8_isPulled, sp_X8_isSnapped, vp_in, or_self, hp, b2i_0, b2i_1, pk_us, upd_app, Nat.reduceEqDiff, one0]
    clear go hp
    simp only [Nat.reduceMul, Nat.reduceAdd] at hsi hs
    simp only [Nat.reduceMul, Nat.reduceAdd]
    refine ifp (fun c1 => ?_) (fun c1 => ?_)
    · refine ps hs ?_ (plS_eq (eight ?_ ?_ ?_ ?_ ?_ ?_ ?_ ?_) (fun j hj ho => ?_))
      · simp [chB, c1, b2i_f]
      all_goals first | (simp only [upd_app]; rw [if_neg (by omega)]; done) | simp [upd_app, mvT, mvU, chB, chPu, chSi, c1]
    · simp only [Bool.not_eq_false] at c1
      refine ifp (fun c2 => ?_) (fun c2 => ?_)
      · rcases hsi with h14 | h14
        · rw [h14] at c1 ⊢
          refine ifp (fun c3 => absurd c3 (by decide)) (fun _ => ifp (fun c4 => ?_) (fun c4 => ?_))
          · refine fin _ (ps hs ?_ (plS_eq (eight ?_ ?_ ?_ ?_ ?_ ?_ ?_ ?_) (fun j hj ho => ?_)))
            · simp [chB, c1, c2, h14, b2i_t]
            all_goals first | (simp only [upd_app]; rw [if_neg (by omega), if_neg (by omega), if_neg (by omega)]; done) | simp [upd_app, mvT, mvU, chB, chPu, chSi, tireF, c1, c2, c4, h14]
          · refine ⟨m, a0, _, 1, by omega, rfl, ⟨⟨r, (va_up_ne _ _ hma).trans hm⟩, va_up_self _ _ _⟩, ?_⟩
            rw [bx_uu]
            refine fin _ (ps hs ?_ (plS_eq (eight ?_ ?_ ?_ ?_ ?_ ?_ ?_ ?_) (fun j hj ho => ?_)))
            · simp [chB, c1, c2, h14, b2i_t]
            all_goals first | (simp only [upd_app]; rw [if_neg (by omega), if_neg (by omega), if_neg (by omega), if_neg (by omega)]; done) | simp [upd_app, mvT, mvU, chB, chPu, chSi, c1, c2, c4, h14]
        · rw [h14] at c1 ⊢
          refine ifp (fun c3 => ?_) (fun c3 => absurd (by decide) c3)
          refine fin _ (ps hs ?_ (plS_eq (eight ?_ ?_ ?_ ?_ ?_ ?_ ?_ ?_) (fun j hj ho => ?_)))
          · simp [chB, c1, c2, h14, b2i_t]
          all_goals first | (simp only [upd_app]; rw [if_neg (by omega), if_neg (by omega)]; done) | simp [upd_app, mvT, mvU, chB, chPu, chSi, c1, c2, h14]
      · refine ps hs ?_ (plS_eq (eight ?_ ?_ ?_ ?_ ?_ ?_ ?_ ?_) (fun j hj ho => ?_))
        · simp [chB, c1, c2, b2i_f]
        all_goals first | (simp only [upd_app]; rw [if_neg (by omega)]; done) | simp [upd_app, mvT, mvU, chB, chPu, chSi, c1, c2]
  · rw [n2]
    have hp := pulled_eq (lo := s 75) (hi := s 76) (bend := x * (s 120 - 200)) hsi
    have fin : ∀ H, post (some (.int 1)) H → K 0 0 138 [some (.ref m), some (.int 2), some (.int x), some (.int d), some (.int 74)] [] H := by
      intro H hH
      refine go (stp []) 4 _ _ _ _ _ _ ?_
      simp only [wpS, ite_not, i_push, i_iload, i_lload, i_aload, i_istore, i_astore, i_lstore, i_iinc, i_bin, i_dv, i_un, i_lbin, i_lsh, i_i2l, i_l2i, i_lcmp, i_dup, i_dup2, i_pop, i_if, i_icmp, i_goto, swG, i_sw, i_getf, i_puti, i_putz, i_putr, i_ald, i_lald, i_aald, i_ast, i_last, i_aast, i_alen, i_new, i_newi, i_newl, i_newq, i_oinit, i_ret, i_zret, i_lret, i_vret, catS, tk, rpush, isO, i_m1, i_m2, i_acopy, i_callV, i_callS, KRet, lget, lput, lputL, lcl0, isL, lv0, List.map_cons, List.map_nil, List.length_cons, List.length_nil, List.cons_append, List.nil_append, Nat.reduceAdd, Nat.reduceSub, Nat.reduceLeDiff, List.replicate_succ, List.replicate_zero, List.getElem?_cons_succ, List.getElem?_cons_zero, List.set_cons_succ, List.set_cons_zero, true_and, and_true, if_true, if_false, reduceIte, Nat.le_refl, Value.category, va_up_app, eq_self, stp, Nat.reduceBEq, Bool.or_false, Bool.false_or, Bool.true_or, Bool.or_true, or_true, true_or, bx_uu, implies_true, true_implies, not_true, not_false_eq_true, false_implies, and_self, Nat.reduceLT, Int32.reduceAdd, Int32.reduceSub, Int32.reduceMul, Int32.reduceLE, Int32.reduceLT, Int32.reduceToNatClampNeg, va_rf_some, Bool.false_eq_true, k_X8_pulls_0 ca, k_X8_pulls_1 ca, k_X8_pulls_4 ca, k_X8_pulls_6 ca, k_X8_pulls_7 ca, k_X8_pulls_8 ca, k_X8_pulls_9 ca, k_X8_pulls_10 ca, k_X8_pulls_13 ca, k_X8_pulls_14 ca, k_X8_pulls_17 ca, k_X8_pulls_18 ca, k_X8_pulls_21 ca, k_X8_pulls_22 ca, k_X8_pulls_23 ca, k_X8_pulls_26 ca, k_X8_pulls_29 ca, k_X8_pulls_30 ca, k_X8_pulls_33 ca, k_X8_pulls_35 ca, k_X8_pulls_36 ca, k_X8_pulls_37 ca, k_X8_pulls_38 ca, k_X8_pulls_39 ca, k_X8_pulls_40 ca, k_X8_pulls_41 ca, k_X8_pulls_42 ca, k_X8_pulls_45 ca, k_X8_pulls_47 ca, k_X8_pulls_48 ca, k_X8_pulls_49 ca, k_X8_pulls_50 ca, k_X8_pulls_51 ca, k_X8_pulls_54 ca, k_X8_pulls_56 ca, k_X8_pulls_57 ca, k_X8_pulls_58 ca, k_X8_pulls_59 ca, k_X8_pulls_62 ca, k_X8_pulls_63 ca, k_X8_pulls_66 ca, k_X8_pulls_68 ca, k_X8_pulls_69 ca, k_X8_pulls_70 ca, k_X8_pulls_71 ca, k_X8_pulls_72 ca, k_X8_pulls_73 ca, k_X8_pulls_74 ca, k_X8_pulls_75 ca, k_X8_pulls_76 ca, k_X8_pulls_77 ca, k_X8_pulls_78 ca, k_X8_pulls_81 ca, k_X8_pulls_83 ca, k_X8_pulls_84 ca, k_X8_pulls_85 ca, k_X8_pulls_86 ca, k_X8_pulls_87 ca, k_X8_pulls_88 ca, k_X8_pulls_91 ca, k_X8_pulls_93 ca, k_X8_pulls_94 ca, k_X8_pulls_95 ca, k_X8_pulls_96 ca, k_X8_pulls_97 ca, k_X8_pulls_100 ca, k_X8_pulls_102 ca, k_X8_pulls_103 ca, k_X8_pulls_104 ca, k_X8_pulls_105 ca, k_X8_pulls_106 ca, k_X8_pulls_107 ca, k_X8_pulls_108 ca, k_X8_pulls_109 ca, k_X8_pulls_112 ca, k_X8_pulls_115 ca, k_X8_pulls_116 ca, k_X8_pulls_119 ca, k_X8_pulls_121 ca, k_X8_pulls_123 ca, k_X8_pulls_124 ca, k_X8_pulls_125 ca, k_X8_pulls_126 ca, k_X8_pulls_127 ca, k_X8_pulls_128 ca, k_X8_pulls_129 ca, k_X8_pulls_130 ca, k_X8_pulls_133 ca, k_X8_pulls_134 ca, k_X8_pulls_135 ca, k_X8_pulls_138 ca, k_X8_pulls_139 ca]
      exact hH
    refine go (stp [138]) 75 _ _ _ _ _ _ ?_
    simp only [wpS, ite_not, i_push, i_iload, i_lload, i_aload, i_istore, i_astore, i_lstore, i_iinc, i_bin, i_dv, i_un, i_lbin, i_lsh, i_i2l, i_l2i, i_lcmp, i_dup, i_dup2, i_pop, i_if, i_icmp, i_goto, swG, i_sw, i_getf, i_puti, i_putz, i_putr, i_ald, i_lald, i_aald, i_ast, i_last, i_aast, i_alen, i_new, i_newi, i_newl, i_newq, i_oinit, i_ret, i_zret, i_lret, i_vret, catS, tk, rpush, isO, i_m1, i_m2, i_acopy, i_callV, i_callS, KRet, lget, lput, lputL, lcl0, isL, lv0, List.map_cons, List.map_nil, List.length_cons, List.length_nil, List.cons_append, List.nil_append, Nat.reduceAdd, Nat.reduceSub, Nat.reduceLeDiff, List.replicate_succ, List.replicate_zero, List.getElem?_cons_succ, List.getElem?_cons_zero, List.set_cons_succ, List.set_cons_zero, true_and, and_true, if_true, if_false, reduceIte, Nat.le_refl, Value.category, va_up_app, eq_self, stp, Nat.reduceBEq, Bool.or_false, Bool.false_or, Bool.true_or, Bool.or_true, or_true, true_or, bx_uu, implies_true, true_implies, not_true, not_false_eq_true, false_implies, and_self, Nat.reduceLT, Int32.reduceAdd, Int32.reduceSub, Int32.reduceMul, Int32.reduceLE, Int32.reduceLT, Int32.reduceToNatClampNeg, va_rf_some, Bool.false_eq_true, k_X8_pulls_0 ca, k_X8_pulls_1 ca, k_X8_pulls_4 ca, k_X8_pulls_6 ca, k_X8_pulls_7 ca, k_X8_pulls_8 ca, k_X8_pulls_9 ca, k_X8_pulls_10 ca, k_X8_pulls_13 ca, k_X8_pulls_14 ca, k_X8_pulls_17 ca, k_X8_pulls_18 ca, k_X8_pulls_21 ca, k_X8_pulls_22 ca, k_X8_pulls_23 ca, k_X8_pulls_26 ca, k_X8_pulls_29 ca, k_X8_pulls_30 ca, k_X8_pulls_33 ca, k_X8_pulls_35 ca, k_X8_pulls_36 ca, k_X8_pulls_37 ca, k_X8_pulls_38 ca, k_X8_pulls_39 ca, k_X8_pulls_40 ca, k_X8_pulls_41 ca, k_X8_pulls_42 ca, k_X8_pulls_45 ca, k_X8_pulls_47 ca, k_X8_pulls_48 ca, k_X8_pulls_49 ca, k_X8_pulls_50 ca, k_X8_pulls_51 ca, k_X8_pulls_54 ca, k_X8_pulls_56 ca, k_X8_pulls_57 ca, k_X8_pulls_58 ca, k_X8_pulls_59 ca, k_X8_pulls_62 ca, k_X8_pulls_63 ca, k_X8_pulls_66 ca, k_X8_pulls_68 ca, k_X8_pulls_69 ca, k_X8_pulls_70 ca, k_X8_pulls_71 ca, k_X8_pulls_72 ca, k_X8_pulls_73 ca, k_X8_pulls_74 ca, k_X8_pulls_75 ca, k_X8_pulls_76 ca, k_X8_pulls_77 ca, k_X8_pulls_78 ca, k_X8_pulls_81 ca, k_X8_pulls_83 ca, k_X8_pulls_84 ca, k_X8_pulls_85 ca, k_X8_pulls_86 ca, k_X8_pulls_87 ca, k_X8_pulls_88 ca, k_X8_pulls_91 ca, k_X8_pulls_93 ca, k_X8_pulls_94 ca, k_X8_pulls_95 ca, k_X8_pulls_96 ca, k_X8_pulls_97 ca, k_X8_pulls_100 ca, k_X8_pulls_102 ca, k_X8_pulls_103 ca, k_X8_pulls_104 ca, k_X8_pulls_105 ca, k_X8_pulls_106 ca, k_X8_pulls_107 ca, k_X8_pulls_108 ca, k_X8_pulls_109 ca, k_X8_pulls_112 ca, k_X8_pulls_115 ca, k_X8_pulls_116 ca, k_X8_pulls_119 ca, k_X8_pulls_121 ca, k_X8_pulls_123 ca, k_X8_pulls_124 ca, k_X8_pulls_125 ca, k_X8_pulls_126 ca, k_X8_pulls_127 ca, k_X8_pulls_128 ca, k_X8_pulls_129 ca, k_X8_pulls_130 ca, k_X8_pulls_133 ca, k_X8_pulls_134 ca, k_X8_pulls_135 ca, k_X8_pulls_138 ca, k_X8_pulls_139 ca, hm, hs0, hma, sp_X8_stripAt, sp_X8_roomAt, sp_X8_isPulled, sp_X8_isSnapped, vp_in, or_self, hp, b2i_0, b2i_1, pk_us, upd_app, Nat.reduceEqDiff, one0]
    clear go hp
    simp only [Nat.reduceMul, Nat.reduceAdd] at hsi hs
    simp only [Nat.reduceMul, Nat.reduceAdd]
    refine ifp (fun c1 => ?_) (fun c1 => ?_)
    · refine ps hs ?_ (plS_eq (eight ?_ ?_ ?_ ?_ ?_ ?_ ?_ ?_) (fun j hj ho => ?_))
      · simp [chB, c1, b2i_f]
      all_goals first | (simp only [upd_app]; rw [if_neg (by omega)]; done) | simp [upd_app, mvT, mvU, chB, chPu, chSi, c1]
    · simp only [Bool.not_eq_false] at c1
      refine ifp (fun c2 => ?_) (fun c2 => ?_)
      · rcases hsi with h14 | h14
        · rw [h14] at c1 ⊢
          refine ifp (fun c3 => absurd c3 (by decide)) (fun _ => ifp (fun c4 => ?_) (fun c4 => ?_))
          · refine fin _ (ps hs ?_ (plS_eq (eight ?_ ?_ ?_ ?_ ?_ ?_ ?_ ?_) (fun j hj ho => ?_)))
            · simp [chB, c1, c2, h14, b2i_t]
            all_goals first | (simp only [upd_app]; rw [if_neg (by omega), if_neg (by omega), if_neg (by omega)]; done) | simp [upd_app, mvT, mvU, chB, chPu, chSi, tireF, c1, c2, c4, h14]
          · refine ⟨m, a0, _, 2, by omega, rfl, ⟨⟨r, (va_up_ne _ _ hma).trans hm⟩, va_up_self _ _ _⟩, ?_⟩
            rw [bx_uu]
            refine fin _ (ps hs ?_ (plS_eq (eight ?_ ?_ ?_ ?_ ?_ ?_ ?_ ?_) (fun j hj ho => ?_)))
            · simp [chB, c1, c2, h14, b2i_t]
            all_goals first | (simp only [upd_app]; rw [if_neg (by omega), if_neg (by omega), if_neg (by omega), if_neg (by omega)]; done) | simp [upd_app, mvT, mvU, chB, chPu, chSi, c1, c2, c4, h14]
        · rw [h14] at c1 ⊢
          refine ifp (fun c3 => ?_) (fun c3 => absurd (by decide) c3)
          refine fin _ (ps hs ?_ (plS_eq (eight ?_ ?_ ?_ ?_ ?_ ?_ ?_ ?_) (fun j hj ho => ?_)))
          · simp [chB, c1, c2, h14, b2i_t]
          all_goals first | (simp only [upd_app]; rw [if_neg (by omega), if_neg (by omega)]; done) | simp [upd_app, mvT, mvU, chB, chPu, chSi, c1, c2, h14]
      · refine ps hs ?_ (plS_eq (eight ?_ ?_ ?_ ?_ ?_ ?_ ?_ ?_) (fun j hj ho => ?_))
        · simp [chB, c1, c2, b2i_f]
        all_goals first | (simp only [upd_app]; rw [if_neg (by omega)]; done) | simp [upd_app, mvT, mvU, chB, chPu, chSi, c1, c2]
