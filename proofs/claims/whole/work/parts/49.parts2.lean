/-! SnapStacksModel: shortens -/
def shS (s : Nat → Int32) (o N i : Nat) : Nat → Int32 := fun j => if j = o then nI (N - i) else if o + 8 + 3 * (N - i) ≤ j ∧ j < o + 8 + 3 * N then 0 else s j
theorem shS_0 {s : Nat → Int32} {o N : Nat} (h : s o = nI N) : shS s o N 0 = s := by
  funext j
  unfold shS
  by_cases q : j = o
  · subst q; rw [if_pos rfl, h]; rfl
  · rw [if_neg q, if_neg (by omega)]
theorem shS_s {s : Nat → Int32} {o N i : Nat} (h : i + 1 ≤ N) : upd (upd (upd (upd (shS s o N i) o (nI (N - (i + 1)))) (o + 8 + 3 * (N - (i + 1))) 0) (o + 8 + 3 * (N - (i + 1)) + 1) 0) (o + 8 + 3 * (N - (i + 1)) + 2) 0 = shS s o N (i + 1) := by
  funext j
  rw [upd_app, upd_app, upd_app, upd_app]
  unfold shS
  by_cases q0 : j = o
  · rw [if_neg (by omega), if_neg (by omega), if_neg (by omega), if_pos q0, if_pos q0]
  · by_cases q1 : j = o + 8 + 3 * (N - (i + 1)) + 2
    · rw [if_pos q1, if_neg q0, if_pos (by omega)]
    · rw [if_neg q1]
      by_cases q2 : j = o + 8 + 3 * (N - (i + 1)) + 1
      · rw [if_pos q2, if_neg q0, if_pos (by omega)]
      · rw [if_neg q2]
        by_cases q3 : j = o + 8 + 3 * (N - (i + 1))
        · rw [if_pos q3, if_neg q0, if_pos (by omega)]
        · rw [if_neg q3, if_neg q0, if_neg q0, if_neg q0]
          by_cases q4 : o + 8 + 3 * (N - i) ≤ j ∧ j < o + 8 + 3 * N
          · rw [if_pos q4, if_pos (by omega)]
          · rw [if_neg q4, if_neg (by omega)]
def sp_X8_shortens (ca : Nat → ClassId) : SPEC := fun av h post => ∃ m a0 s k B N, k < 3 ∧ av = [.ref m, .int (nI k), .int (nI B)] ∧ B < 2 ^ 31 ∧ MS ca h m a0 s ∧ ¬ m = a0 ∧ s (10 + 32 * k) = nI N ∧ N ≤ 8 ∧ (N < B → post (some (.int (-10000002))) h) ∧
  (B ≤ N → post (some (.int (nI (N - B)))) (va_up h a0 (some (.inl (ca 0, 127, .inl (shS s (10 + 32 * k) N B))))))
def k_X8_shortens (ca : Nat → ClassId) : Nat → IT := fun pc => lk pc [(0, i_iload 2 1),
  (1, i_aload 0 2),
  (2, i_iload 1 3),
  (3, i_callV 8 1 0 0 0 0 (sp_X8_many ca) 6),
  (6, i_icmp (fun x y => x ≤ y) 12 9),
  (9, i_push (.int (-10000002)) 11),
  (11, i_ret),
  (12, i_push (.int 0) 13),
  (13, i_istore 3 14),
  (14, i_iload 3 15),
  (15, i_iload 2 16),
  (16, i_icmp (fun x y => y ≤ x) 85 19),
  (19, i_aload 0 20),
  (20, i_getf 8 0 23),
  (23, i_iload 1 24),
  (24, i_callS 1 0 0 0 0 (sp_X8_stripAt ca) 27),
  (27, i_push (.int 0) 28),
  (28, i_bin (fun x y => x + y) 29),
  (29, i_dup2 30),
  (30, i_ald (ca 0) 31),
  (31, i_push (.int 1) 32),
  (32, i_bin (fun x y => x - y) 33),
  (33, i_ast (fun x => x) (ca 0) 34),
  (34, i_iload 1 35),
  (35, i_callS 1 0 0 0 0 (sp_X8_stripAt ca) 38),
  (38, i_push (.int 8) 40),
  (40, i_bin (fun x y => x + y) 41),
  (41, i_push (.int 3) 42),
  (42, i_aload 0 43),
  (43, i_iload 1 44),
  (44, i_callV 8 1 0 0 0 0 (sp_X8_many ca) 47),
  (47, i_bin (fun x y => x * y) 48),
  (48, i_bin (fun x y => x + y) 49),
  (49, i_istore 4 51),
  (51, i_aload 0 52),
  (52, i_getf 8 0 55),
  (55, i_iload 4 57),
  (57, i_push (.int 0) 58),
  (58, i_ast (fun x => x) (ca 0) 59),
  (59, i_aload 0 60),
  (60, i_getf 8 0 63),
  (63, i_iload 4 65),
  (65, i_push (.int 1) 66),
  (66, i_bin (fun x y => x + y) 67),
  (67, i_push (.int 0) 68),
  (68, i_ast (fun x => x) (ca 0) 69),
  (69, i_aload 0 70),
  (70, i_getf 8 0 73),
  (73, i_iload 4 75),
  (75, i_push (.int 2) 76),
  (76, i_bin (fun x y => x + y) 77),
  (77, i_push (.int 0) 78),
  (78, i_ast (fun x => x) (ca 0) 79),
  (79, i_iinc 3 1 82),
  (82, i_goto 14),
  (85, i_aload 0 86),
  (86, i_iload 1 87),
  (87, i_callV 8 1 0 0 0 0 (sp_X8_many ca) 90),
  (90, i_ret)]
set_option maxRecDepth 20000 in
theorem t_X8_shortens : Tb k_X8_shortens yX8_shortens cX8_shortens 5 (some .int) 2 0 0 := by
  intro l D ca A p e s m args below meth c post X
  unfold k_X8_shortens
  refine snd_cons (snd_iload_n X dX8_shortens_0 rfl) ?_
  refine snd_cons (snd_aload_n X dX8_shortens_1 rfl) ?_
  refine snd_cons (snd_iload_n X dX8_shortens_2 rfl) ?_
  refine snd_cons (snd_callV X Fk8 (ok_X8_many l D ca) rfl rfl w_732 w_734 wp_21 w_9 w_735 (by decide) (by decide) dX8_shortens_3) ?_
  refine snd_cons (snd_icmp_le X dX8_shortens_6 (by decide)) ?_
  refine snd_cons (snd_ldc X w_745 dX8_shortens_9) ?_
  refine snd_cons (snd_ret X dX8_shortens_11) ?_
  refine snd_cons (snd_iconst X dX8_shortens_12 (by decide)) ?_
  refine snd_cons (snd_istore_n X dX8_shortens_13 rfl (by decide)) ?_
  refine snd_cons (snd_iload_n X dX8_shortens_14 rfl) ?_
  refine snd_cons (snd_iload_n X dX8_shortens_15 rfl) ?_
  refine snd_cons (snd_icmp_ge X dX8_shortens_16 (by decide)) ?_
  refine snd_cons (snd_aload_n X dX8_shortens_19 rfl) ?_
  refine snd_cons (snd_getf X Fk8 0 (by decide) w_647 dX8_shortens_20) ?_
  refine snd_cons (snd_iload_n X dX8_shortens_23 rfl) ?_
  refine snd_cons (snd_callS X (ok_X8_stripAt l D ca) rfl rfl w_641 w_642 w_9 w_643 (by decide) (by decide) dX8_shortens_24) ?_
  refine snd_cons (snd_iconst X dX8_shortens_27 (by decide)) ?_
  refine snd_cons (snd_iadd X dX8_shortens_28) ?_
  refine snd_cons (snd_dup2 X dX8_shortens_29) ?_
  refine snd_cons (snd_iaload X dX8_shortens_30) ?_
  refine snd_cons (snd_iconst X dX8_shortens_31 (by decide)) ?_
  refine snd_cons (snd_isub X dX8_shortens_32) ?_
  refine snd_cons (snd_iastore X dX8_shortens_33) ?_
  refine snd_cons (snd_iload_n X dX8_shortens_34 rfl) ?_
  refine snd_cons (snd_callS X (ok_X8_stripAt l D ca) rfl rfl w_641 w_642 w_9 w_643 (by decide) (by decide) dX8_shortens_35) ?_
  refine snd_cons (snd_bipush X dX8_shortens_38 (by decide)) ?_
  refine snd_cons (snd_iadd X dX8_shortens_40) ?_
  refine snd_cons (snd_iconst X dX8_shortens_41 (by decide)) ?_
  refine snd_cons (snd_aload_n X dX8_shortens_42 rfl) ?_
  refine snd_cons (snd_iload_n X dX8_shortens_43 rfl) ?_
  refine snd_cons (snd_callV X Fk8 (ok_X8_many l D ca) rfl rfl w_732 w_734 wp_21 w_9 w_735 (by decide) (by decide) dX8_shortens_44) ?_
  refine snd_cons (snd_imul X dX8_shortens_47) ?_
  refine snd_cons (snd_iadd X dX8_shortens_48) ?_
  refine snd_cons (snd_istore X dX8_shortens_49 (by decide)) ?_
  refine snd_cons (snd_aload_n X dX8_shortens_51 rfl) ?_
  refine snd_cons (snd_getf X Fk8 0 (by decide) w_647 dX8_shortens_52) ?_
  refine snd_cons (snd_iload X dX8_shortens_55) ?_
  refine snd_cons (snd_iconst X dX8_shortens_57 (by decide)) ?_
  refine snd_cons (snd_iastore X dX8_shortens_58) ?_
  refine snd_cons (snd_aload_n X dX8_shortens_59 rfl) ?_
  refine snd_cons (snd_getf X Fk8 0 (by decide) w_647 dX8_shortens_60) ?_
  refine snd_cons (snd_iload X dX8_shortens_63) ?_
  refine snd_cons (snd_iconst X dX8_shortens_65 (by decide)) ?_
  refine snd_cons (snd_iadd X dX8_shortens_66) ?_
  refine snd_cons (snd_iconst X dX8_shortens_67 (by decide)) ?_
  refine snd_cons (snd_iastore X dX8_shortens_68) ?_
  refine snd_cons (snd_aload_n X dX8_shortens_69 rfl) ?_
  refine snd_cons (snd_getf X Fk8 0 (by decide) w_647 dX8_shortens_70) ?_
  refine snd_cons (snd_iload X dX8_shortens_73) ?_
  refine snd_cons (snd_iconst X dX8_shortens_75 (by decide)) ?_
  refine snd_cons (snd_iadd X dX8_shortens_76) ?_
  refine snd_cons (snd_iconst X dX8_shortens_77 (by decide)) ?_
  refine snd_cons (snd_iastore X dX8_shortens_78) ?_
  refine snd_cons (snd_iinc X dX8_shortens_79 (by decide) (by decide)) ?_
  refine snd_cons (snd_goto X dX8_shortens_82 (by decide)) ?_
  refine snd_cons (snd_aload_n X dX8_shortens_85 rfl) ?_
  refine snd_cons (snd_iload_n X dX8_shortens_86 rfl) ?_
  refine snd_cons (snd_callV X Fk8 (ok_X8_many l D ca) rfl rfl w_732 w_734 wp_21 w_9 w_735 (by decide) (by decide) dX8_shortens_87) ?_
  refine snd_cons (snd_ret X dX8_shortens_90) ?_
  exact snd_nil
theorem k_X8_shortens_0 (ca : Nat → ClassId) : k_X8_shortens ca 0 = i_iload 2 1 := rfl
theorem k_X8_shortens_1 (ca : Nat → ClassId) : k_X8_shortens ca 1 = i_aload 0 2 := rfl
theorem k_X8_shortens_2 (ca : Nat → ClassId) : k_X8_shortens ca 2 = i_iload 1 3 := rfl
theorem k_X8_shortens_3 (ca : Nat → ClassId) : k_X8_shortens ca 3 = i_callV 8 1 0 0 0 0 (sp_X8_many ca) 6 := rfl
theorem k_X8_shortens_6 (ca : Nat → ClassId) : k_X8_shortens ca 6 = i_icmp (fun x y => x ≤ y) 12 9 := rfl
theorem k_X8_shortens_9 (ca : Nat → ClassId) : k_X8_shortens ca 9 = i_push (.int (-10000002)) 11 := rfl
theorem k_X8_shortens_11 (ca : Nat → ClassId) : k_X8_shortens ca 11 = i_ret := rfl
theorem k_X8_shortens_12 (ca : Nat → ClassId) : k_X8_shortens ca 12 = i_push (.int 0) 13 := rfl
theorem k_X8_shortens_13 (ca : Nat → ClassId) : k_X8_shortens ca 13 = i_istore 3 14 := rfl
theorem k_X8_shortens_14 (ca : Nat → ClassId) : k_X8_shortens ca 14 = i_iload 3 15 := rfl
theorem k_X8_shortens_15 (ca : Nat → ClassId) : k_X8_shortens ca 15 = i_iload 2 16 := rfl
theorem k_X8_shortens_16 (ca : Nat → ClassId) : k_X8_shortens ca 16 = i_icmp (fun x y => y ≤ x) 85 19 := rfl
theorem k_X8_shortens_19 (ca : Nat → ClassId) : k_X8_shortens ca 19 = i_aload 0 20 := rfl
theorem k_X8_shortens_20 (ca : Nat → ClassId) : k_X8_shortens ca 20 = i_getf 8 0 23 := rfl
theorem k_X8_shortens_23 (ca : Nat → ClassId) : k_X8_shortens ca 23 = i_iload 1 24 := rfl
theorem k_X8_shortens_24 (ca : Nat → ClassId) : k_X8_shortens ca 24 = i_callS 1 0 0 0 0 (sp_X8_stripAt ca) 27 := rfl
theorem k_X8_shortens_27 (ca : Nat → ClassId) : k_X8_shortens ca 27 = i_push (.int 0) 28 := rfl
theorem k_X8_shortens_28 (ca : Nat → ClassId) : k_X8_shortens ca 28 = i_bin (fun x y => x + y) 29 := rfl
theorem k_X8_shortens_29 (ca : Nat → ClassId) : k_X8_shortens ca 29 = i_dup2 30 := rfl
theorem k_X8_shortens_30 (ca : Nat → ClassId) : k_X8_shortens ca 30 = i_ald (ca 0) 31 := rfl
theorem k_X8_shortens_31 (ca : Nat → ClassId) : k_X8_shortens ca 31 = i_push (.int 1) 32 := rfl
theorem k_X8_shortens_32 (ca : Nat → ClassId) : k_X8_shortens ca 32 = i_bin (fun x y => x - y) 33 := rfl
theorem k_X8_shortens_33 (ca : Nat → ClassId) : k_X8_shortens ca 33 = i_ast (fun x => x) (ca 0) 34 := rfl
theorem k_X8_shortens_34 (ca : Nat → ClassId) : k_X8_shortens ca 34 = i_iload 1 35 := rfl
theorem k_X8_shortens_35 (ca : Nat → ClassId) : k_X8_shortens ca 35 = i_callS 1 0 0 0 0 (sp_X8_stripAt ca) 38 := rfl
theorem k_X8_shortens_38 (ca : Nat → ClassId) : k_X8_shortens ca 38 = i_push (.int 8) 40 := rfl
theorem k_X8_shortens_40 (ca : Nat → ClassId) : k_X8_shortens ca 40 = i_bin (fun x y => x + y) 41 := rfl
theorem k_X8_shortens_41 (ca : Nat → ClassId) : k_X8_shortens ca 41 = i_push (.int 3) 42 := rfl
theorem k_X8_shortens_42 (ca : Nat → ClassId) : k_X8_shortens ca 42 = i_aload 0 43 := rfl
theorem k_X8_shortens_43 (ca : Nat → ClassId) : k_X8_shortens ca 43 = i_iload 1 44 := rfl
theorem k_X8_shortens_44 (ca : Nat → ClassId) : k_X8_shortens ca 44 = i_callV 8 1 0 0 0 0 (sp_X8_many ca) 47 := rfl
theorem k_X8_shortens_47 (ca : Nat → ClassId) : k_X8_shortens ca 47 = i_bin (fun x y => x * y) 48 := rfl
theorem k_X8_shortens_48 (ca : Nat → ClassId) : k_X8_shortens ca 48 = i_bin (fun x y => x + y) 49 := rfl
theorem k_X8_shortens_49 (ca : Nat → ClassId) : k_X8_shortens ca 49 = i_istore 4 51 := rfl
theorem k_X8_shortens_51 (ca : Nat → ClassId) : k_X8_shortens ca 51 = i_aload 0 52 := rfl
theorem k_X8_shortens_52 (ca : Nat → ClassId) : k_X8_shortens ca 52 = i_getf 8 0 55 := rfl
theorem k_X8_shortens_55 (ca : Nat → ClassId) : k_X8_shortens ca 55 = i_iload 4 57 := rfl
theorem k_X8_shortens_57 (ca : Nat → ClassId) : k_X8_shortens ca 57 = i_push (.int 0) 58 := rfl
theorem k_X8_shortens_58 (ca : Nat → ClassId) : k_X8_shortens ca 58 = i_ast (fun x => x) (ca 0) 59 := rfl
theorem k_X8_shortens_59 (ca : Nat → ClassId) : k_X8_shortens ca 59 = i_aload 0 60 := rfl
theorem k_X8_shortens_60 (ca : Nat → ClassId) : k_X8_shortens ca 60 = i_getf 8 0 63 := rfl
theorem k_X8_shortens_63 (ca : Nat → ClassId) : k_X8_shortens ca 63 = i_iload 4 65 := rfl
theorem k_X8_shortens_65 (ca : Nat → ClassId) : k_X8_shortens ca 65 = i_push (.int 1) 66 := rfl
theorem k_X8_shortens_66 (ca : Nat → ClassId) : k_X8_shortens ca 66 = i_bin (fun x y => x + y) 67 := rfl
theorem k_X8_shortens_67 (ca : Nat → ClassId) : k_X8_shortens ca 67 = i_push (.int 0) 68 := rfl
theorem k_X8_shortens_68 (ca : Nat → ClassId) : k_X8_shortens ca 68 = i_ast (fun x => x) (ca 0) 69 := rfl
theorem k_X8_shortens_69 (ca : Nat → ClassId) : k_X8_shortens ca 69 = i_aload 0 70 := rfl
theorem k_X8_shortens_70 (ca : Nat → ClassId) : k_X8_shortens ca 70 = i_getf 8 0 73 := rfl
theorem k_X8_shortens_73 (ca : Nat → ClassId) : k_X8_shortens ca 73 = i_iload 4 75 := rfl
theorem k_X8_shortens_75 (ca : Nat → ClassId) : k_X8_shortens ca 75 = i_push (.int 2) 76 := rfl
theorem k_X8_shortens_76 (ca : Nat → ClassId) : k_X8_shortens ca 76 = i_bin (fun x y => x + y) 77 := rfl
theorem k_X8_shortens_77 (ca : Nat → ClassId) : k_X8_shortens ca 77 = i_push (.int 0) 78 := rfl
theorem k_X8_shortens_78 (ca : Nat → ClassId) : k_X8_shortens ca 78 = i_ast (fun x => x) (ca 0) 79 := rfl
theorem k_X8_shortens_79 (ca : Nat → ClassId) : k_X8_shortens ca 79 = i_iinc 3 1 82 := rfl
theorem k_X8_shortens_82 (ca : Nat → ClassId) : k_X8_shortens ca 82 = i_goto 14 := rfl
theorem k_X8_shortens_85 (ca : Nat → ClassId) : k_X8_shortens ca 85 = i_aload 0 86 := rfl
theorem k_X8_shortens_86 (ca : Nat → ClassId) : k_X8_shortens ca 86 = i_iload 1 87 := rfl
theorem k_X8_shortens_87 (ca : Nat → ClassId) : k_X8_shortens ca 87 = i_callV 8 1 0 0 0 0 (sp_X8_many ca) 90 := rfl
theorem k_X8_shortens_90 (ca : Nat → ClassId) : k_X8_shortens ca 90 = i_ret := rfl
set_option maxHeartbeats 4000000 in
set_option maxRecDepth 20000 in
theorem ok_X8_shortens (l : Launch) (D : va_G) (ca : Nat → ClassId) : OkAll l D ca yX8_shortens cX8_shortens 5 (some .int) 2 0 0 (sp_X8_shortens ca) := by
  intro av h post hs
  obtain ⟨m, a0, s, k, B, N, hk, rfl, hB31, ⟨⟨r, hm⟩, hs0⟩, hma, hN, hN8, hA, hB⟩ := hs
  have z0 : vp_in (nI (10 + 32 * k)) 127 := vp127 (by omega)
  have z1 : (nI (10 + 32 * k)).toNatClampNeg = 10 + 32 * k := tn127 (by omega)
  refine okM_of t_X8_shortens (by decide +kernel) (c1_ref (c1_int (c1_int c1_nil))) (Nat.le_of_ble_eq_true rfl) ?_
  intro K go
  by_cases hBN : B ≤ N
  · have hs := hB hBN
    have hle : nI B ≤ nI N := (nI_leI (by omega) (by omega)).mpr hBN
    have key : ∀ r i, i + r = B → ∀ x4, K 0 0 14 [some (.ref m), some (.int (nI k)), some (.int (nI B)), some (.int (nI i)), x4] [] (va_up h a0 (some (.inl (ca 0, 127, .inl (shS s (10 + 32 * k) N i))))) := by
      intro r
      induction r with
      | zero =>
        intro i hi x4
        have hi : i = B := hi
        subst hi
        have e : shS s (10 + 32 * k) N i (10 + 32 * k) = nI (N - i) := by unfold shS; rw [if_pos rfl]
        refine go (stp []) 8 _ _ _ _ _ _ ?_
        simp only [wpS, ite_not, i_push, i_iload, i_lload, i_aload, i_istore, i_astore, i_lstore, i_iinc, i_bin, i_dv, i_un, i_lbin, i_lsh, i_i2l, i_l2i, i_lcmp, i_dup, i_dup2, i_pop, i_if, i_icmp, i_goto, swG, i_sw, i_getf, i_puti, i_putz, i_putr, i_ald, i_lald, i_aald, i_ast, i_last, i_aast, i_alen, i_new, i_newi, i_newl, i_newq, i_oinit, i_ret, i_zret, i_lret, i_vret, catS, tk, rpush, isO, i_m1, i_m2, i_acopy, i_callV, i_callS, KRet, lget, lput, lputL, lcl0, isL, lv0, List.map_cons, List.map_nil, List.length_cons, List.length_nil, List.cons_append, List.nil_append, Nat.reduceAdd, Nat.reduceSub, Nat.reduceLeDiff, List.replicate_succ, List.replicate_zero, List.getElem?_cons_succ, List.getElem?_cons_zero, List.set_cons_succ, List.set_cons_zero, true_and, and_true, if_true, if_false, reduceIte, Nat.le_refl, Value.category, va_up_app, eq_self, stp, Nat.reduceBEq, Bool.or_false, Bool.false_or, Bool.true_or, Bool.or_true, or_true, true_or, bx_uu, implies_true, true_implies, not_true, not_false_eq_true, false_implies, and_self, Nat.reduceLT, Int32.reduceAdd, Int32.reduceSub, Int32.reduceMul, Int32.reduceLE, Int32.reduceLT, Int32.reduceToNatClampNeg, va_rf_some, Bool.false_eq_true, k_X8_shortens_0 ca, k_X8_shortens_1 ca, k_X8_shortens_2 ca, k_X8_shortens_3 ca, k_X8_shortens_6 ca, k_X8_shortens_9 ca, k_X8_shortens_11 ca, k_X8_shortens_12 ca, k_X8_shortens_13 ca, k_X8_shortens_14 ca, k_X8_shortens_15 ca, k_X8_shortens_16 ca, k_X8_shortens_19 ca, k_X8_shortens_20 ca, k_X8_shortens_23 ca, k_X8_shortens_24 ca, k_X8_shortens_27 ca, k_X8_shortens_28 ca, k_X8_shortens_29 ca, k_X8_shortens_30 ca, k_X8_shortens_31 ca, k_X8_shortens_32 ca, k_X8_shortens_33 ca, k_X8_shortens_34 ca, k_X8_shortens_35 ca, k_X8_shortens_38 ca, k_X8_shortens_40 ca, k_X8_shortens_41 ca, k_X8_shortens_42 ca, k_X8_shortens_43 ca, k_X8_shortens_44 ca, k_X8_shortens_47 ca, k_X8_shortens_48 ca, k_X8_shortens_49 ca, k_X8_shortens_51 ca, k_X8_shortens_52 ca, k_X8_shortens_55 ca, k_X8_shortens_57 ca, k_X8_shortens_58 ca, k_X8_shortens_59 ca, k_X8_shortens_60 ca, k_X8_shortens_63 ca, k_X8_shortens_65 ca, k_X8_shortens_66 ca, k_X8_shortens_67 ca, k_X8_shortens_68 ca, k_X8_shortens_69 ca, k_X8_shortens_70 ca, k_X8_shortens_73 ca, k_X8_shortens_75 ca, k_X8_shortens_76 ca, k_X8_shortens_77 ca, k_X8_shortens_78 ca, k_X8_shortens_79 ca, k_X8_shortens_82 ca, k_X8_shortens_85 ca, k_X8_shortens_86 ca, k_X8_shortens_87 ca, k_X8_shortens_90 ca, hm, hma, sp_X8_many, s10, a_0, z0, z1, Int32.le_refl, e]
        exact hs
      | succ r ih =>
        intro i hi x4
        have g1 : ¬ nI B ≤ nI i := nI_ge (by omega) hB31
        have e : shS s (10 + 32 * k) N i (10 + 32 * k) = nI (N - i) := by unfold shS; rw [if_pos rfl]
        have e2 : nI (N - i) - 1 = nI (N - (i + 1)) := by rw [show N - i = N - (i + 1) + 1 by omega]; exact nI_pred _
        have y1 : vp_in (nI (10 + 32 * k + 8 + 3 * (N - (i + 1)))) 127 := vp127 (by omega)
        have x1 : (nI (10 + 32 * k + 8 + 3 * (N - (i + 1)))).toNatClampNeg = 10 + 32 * k + 8 + 3 * (N - (i + 1)) := tn127 (by omega)
        have y2 : vp_in (nI (10 + 32 * k + 8 + 3 * (N - (i + 1)) + 1)) 127 := vp127 (by omega)
        have x2 : (nI (10 + 32 * k + 8 + 3 * (N - (i + 1)) + 1)).toNatClampNeg = 10 + 32 * k + 8 + 3 * (N - (i + 1)) + 1 := tn127 (by omega)
        have y3 : vp_in (nI (10 + 32 * k + 8 + 3 * (N - (i + 1)) + 2)) 127 := vp127 (by omega)
        have x3 : (nI (10 + 32 * k + 8 + 3 * (N - (i + 1)) + 2)).toNatClampNeg = 10 + 32 * k + 8 + 3 * (N - (i + 1)) + 2 := tn127 (by omega)
        have hst := shS_s (s := s) (o := 10 + 32 * k) (N := N) (i := i) (by omega)
        have e0 : 10 + 32 * k + (8 + 3 * (N - (i + 1))) = 10 + 32 * k + 8 + 3 * (N - (i + 1)) := by omega
        refine go (stp [34]) 16 _ _ _ _ _ _ ?_
        simp only [wpS, ite_not, i_push, i_iload, i_lload, i_aload, i_istore, i_astore, i_lstore, i_iinc, i_bin, i_dv, i_un, i_lbin, i_lsh, i_i2l, i_l2i, i_lcmp, i_dup, i_dup2, i_pop, i_if, i_icmp, i_goto, swG, i_sw, i_getf, i_puti, i_putz, i_putr, i_ald, i_lald, i_aald, i_ast, i_last, i_aast, i_alen, i_new, i_newi, i_newl, i_newq, i_oinit, i_ret, i_zret, i_lret, i_vret, catS, tk, rpush, isO, i_m1, i_m2, i_acopy, i_callV, i_callS, KRet, lget, lput, lputL, lcl0, isL, lv0, List.map_cons, List.map_nil, List.length_cons, List.length_nil, List.cons_append, List.nil_append, Nat.reduceAdd, Nat.reduceSub, Nat.reduceLeDiff, List.replicate_succ, List.replicate_zero, List.getElem?_cons_succ, List.getElem?_cons_zero, List.set_cons_succ, List.set_cons_zero, true_and, and_true, if_true, if_false, reduceIte, Nat.le_refl, Value.category, va_up_app, eq_self, stp, Nat.reduceBEq, Bool.or_false, Bool.false_or, Bool.true_or, Bool.or_true, or_true, true_or, bx_uu, implies_true, true_implies, not_true, not_false_eq_true, false_implies, and_self, Nat.reduceLT, Int32.reduceAdd, Int32.reduceSub, Int32.reduceMul, Int32.reduceLE, Int32.reduceLT, Int32.reduceToNatClampNeg, va_rf_some, Bool.false_eq_true, k_X8_shortens_0 ca, k_X8_shortens_1 ca, k_X8_shortens_2 ca, k_X8_shortens_3 ca, k_X8_shortens_6 ca, k_X8_shortens_9 ca, k_X8_shortens_11 ca, k_X8_shortens_12 ca, k_X8_shortens_13 ca, k_X8_shortens_14 ca, k_X8_shortens_15 ca, k_X8_shortens_16 ca, k_X8_shortens_19 ca, k_X8_shortens_20 ca, k_X8_shortens_23 ca, k_X8_shortens_24 ca, k_X8_shortens_27 ca, k_X8_shortens_28 ca, k_X8_shortens_29 ca, k_X8_shortens_30 ca, k_X8_shortens_31 ca, k_X8_shortens_32 ca, k_X8_shortens_33 ca, k_X8_shortens_34 ca, k_X8_shortens_35 ca, k_X8_shortens_38 ca, k_X8_shortens_40 ca, k_X8_shortens_41 ca, k_X8_shortens_42 ca, k_X8_shortens_43 ca, k_X8_shortens_44 ca, k_X8_shortens_47 ca, k_X8_shortens_48 ca, k_X8_shortens_49 ca, k_X8_shortens_51 ca, k_X8_shortens_52 ca, k_X8_shortens_55 ca, k_X8_shortens_57 ca, k_X8_shortens_58 ca, k_X8_shortens_59 ca, k_X8_shortens_60 ca, k_X8_shortens_63 ca, k_X8_shortens_65 ca, k_X8_shortens_66 ca, k_X8_shortens_67 ca, k_X8_shortens_68 ca, k_X8_shortens_69 ca, k_X8_shortens_70 ca, k_X8_shortens_73 ca, k_X8_shortens_75 ca, k_X8_shortens_76 ca, k_X8_shortens_77 ca, k_X8_shortens_78 ca, k_X8_shortens_79 ca, k_X8_shortens_82 ca, k_X8_shortens_85 ca, k_X8_shortens_86 ca, k_X8_shortens_87 ca, k_X8_shortens_90 ca, hm, hma, sp_X8_stripAt, s10, a_0, z0, z1, g1, e, e2]
        refine go (stp [51]) 14 _ _ _ _ _ _ ?_
        simp only [wpS, ite_not, i_push, i_iload, i_lload, i_aload, i_istore, i_astore, i_lstore, i_iinc, i_bin, i_dv, i_un, i_lbin, i_lsh, i_i2l, i_l2i, i_lcmp, i_dup, i_dup2, i_pop, i_if, i_icmp, i_goto, swG, i_sw, i_getf, i_puti, i_putz, i_putr, i_ald, i_lald, i_aald, i_ast, i_last, i_aast, i_alen, i_new, i_newi, i_newl, i_newq, i_oinit, i_ret, i_zret, i_lret, i_vret, catS, tk, rpush, isO, i_m1, i_m2, i_acopy, i_callV, i_callS, KRet, lget, lput, lputL, lcl0, isL, lv0, List.map_cons, List.map_nil, List.length_cons, List.length_nil, List.cons_append, List.nil_append, Nat.reduceAdd, Nat.reduceSub, Nat.reduceLeDiff, List.replicate_succ, List.replicate_zero, List.getElem?_cons_succ, List.getElem?_cons_zero, List.set_cons_succ, List.set_cons_zero, true_and, and_true, if_true, if_false, reduceIte, Nat.le_refl, Value.category, va_up_app, eq_self, stp, Nat.reduceBEq, Bool.or_false, Bool.false_or, Bool.true_or, Bool.or_true, or_true, true_or, bx_uu, implies_true, true_implies, not_true, not_false_eq_true, false_implies, and_self, Nat.reduceLT, Int32.reduceAdd, Int32.reduceSub, Int32.reduceMul, Int32.reduceLE, Int32.reduceLT, Int32.reduceToNatClampNeg, va_rf_some, Bool.false_eq_true, k_X8_shortens_0 ca, k_X8_shortens_1 ca, k_X8_shortens_2 ca, k_X8_shortens_3 ca, k_X8_shortens_6 ca, k_X8_shortens_9 ca, k_X8_shortens_11 ca, k_X8_shortens_12 ca, k_X8_shortens_13 ca, k_X8_shortens_14 ca, k_X8_shortens_15 ca, k_X8_shortens_16 ca, k_X8_shortens_19 ca, k_X8_shortens_20 ca, k_X8_shortens_23 ca, k_X8_shortens_24 ca, k_X8_shortens_27 ca, k_X8_shortens_28 ca, k_X8_shortens_29 ca, k_X8_shortens_30 ca, k_X8_shortens_31 ca, k_X8_shortens_32 ca, k_X8_shortens_33 ca, k_X8_shortens_34 ca, k_X8_shortens_35 ca, k_X8_shortens_38 ca, k_X8_shortens_40 ca, k_X8_shortens_41 ca, k_X8_shortens_42 ca, k_X8_shortens_43 ca, k_X8_shortens_44 ca, k_X8_shortens_47 ca, k_X8_shortens_48 ca, k_X8_shortens_49 ca, k_X8_shortens_51 ca, k_X8_shortens_52 ca, k_X8_shortens_55 ca, k_X8_shortens_57 ca, k_X8_shortens_58 ca, k_X8_shortens_59 ca, k_X8_shortens_60 ca, k_X8_shortens_63 ca, k_X8_shortens_65 ca, k_X8_shortens_66 ca, k_X8_shortens_67 ca, k_X8_shortens_68 ca, k_X8_shortens_69 ca, k_X8_shortens_70 ca, k_X8_shortens_73 ca, k_X8_shortens_75 ca, k_X8_shortens_76 ca, k_X8_shortens_77 ca, k_X8_shortens_78 ca, k_X8_shortens_79 ca, k_X8_shortens_82 ca, k_X8_shortens_85 ca, k_X8_shortens_86 ca, k_X8_shortens_87 ca, k_X8_shortens_90 ca, hm, hma, sp_X8_many, sp_X8_stripAt, s10, a_0, a_8, m_3, nI_add, z0, z1, pk_us, e0]
        refine go (stp [79]) 18 _ _ _ _ _ _ ?_
        simp only [wpS, ite_not, i_push, i_iload, i_lload, i_aload, i_istore, i_astore, i_lstore, i_iinc, i_bin, i_dv, i_un, i_lbin, i_lsh, i_i2l, i_l2i, i_lcmp, i_dup, i_dup2, i_pop, i_if, i_icmp, i_goto, swG, i_sw, i_getf, i_puti, i_putz, i_putr, i_ald, i_lald, i_aald, i_ast, i_last, i_aast, i_alen, i_new, i_newi, i_newl, i_newq, i_oinit, i_ret, i_zret, i_lret, i_vret, catS, tk, rpush, isO, i_m1, i_m2, i_acopy, i_callV, i_callS, KRet, lget, lput, lputL, lcl0, isL, lv0, List.map_cons, List.map_nil, List.length_cons, List.length_nil, List.cons_append, List.nil_append, Nat.reduceAdd, Nat.reduceSub, Nat.reduceLeDiff, List.replicate_succ, List.replicate_zero, List.getElem?_cons_succ, List.getElem?_cons_zero, List.set_cons_succ, List.set_cons_zero, true_and, and_true, if_true, if_false, reduceIte, Nat.le_refl, Value.category, va_up_app, eq_self, stp, Nat.reduceBEq, Bool.or_false, Bool.false_or, Bool.true_or, Bool.or_true, or_true, true_or, bx_uu, implies_true, true_implies, not_true, not_false_eq_true, false_implies, and_self, Nat.reduceLT, Int32.reduceAdd, Int32.reduceSub, Int32.reduceMul, Int32.reduceLE, Int32.reduceLT, Int32.reduceToNatClampNeg, va_rf_some, Bool.false_eq_true, k_X8_shortens_0 ca, k_X8_shortens_1 ca, k_X8_shortens_2 ca, k_X8_shortens_3 ca, k_X8_shortens_6 ca, k_X8_shortens_9 ca, k_X8_shortens_11 ca, k_X8_shortens_12 ca, k_X8_shortens_13 ca, k_X8_shortens_14 ca, k_X8_shortens_15 ca, k_X8_shortens_16 ca, k_X8_shortens_19 ca, k_X8_shortens_20 ca, k_X8_shortens_23 ca, k_X8_shortens_24 ca, k_X8_shortens_27 ca, k_X8_shortens_28 ca, k_X8_shortens_29 ca, k_X8_shortens_30 ca, k_X8_shortens_31 ca, k_X8_shortens_32 ca, k_X8_shortens_33 ca, k_X8_shortens_34 ca, k_X8_shortens_35 ca, k_X8_shortens_38 ca, k_X8_shortens_40 ca, k_X8_shortens_41 ca, k_X8_shortens_42 ca, k_X8_shortens_43 ca, k_X8_shortens_44 ca, k_X8_shortens_47 ca, k_X8_shortens_48 ca, k_X8_shortens_49 ca, k_X8_shortens_51 ca, k_X8_shortens_52 ca, k_X8_shortens_55 ca, k_X8_shortens_57 ca, k_X8_shortens_58 ca, k_X8_shortens_59 ca, k_X8_shortens_60 ca, k_X8_shortens_63 ca, k_X8_shortens_65 ca, k_X8_shortens_66 ca, k_X8_shortens_67 ca, k_X8_shortens_68 ca, k_X8_shortens_69 ca, k_X8_shortens_70 ca, k_X8_shortens_73 ca, k_X8_shortens_75 ca, k_X8_shortens_76 ca, k_X8_shortens_77 ca, k_X8_shortens_78 ca, k_X8_shortens_79 ca, k_X8_shortens_82 ca, k_X8_shortens_85 ca, k_X8_shortens_86 ca, k_X8_shortens_87 ca, k_X8_shortens_90 ca, hm, hma, a_1, a_2, y1, x1, y2, x2, y3, x3]
        refine go (stp [14]) 4 _ _ _ _ _ _ ?_
        simp only [wpS, ite_not, i_push, i_iload, i_lload, i_aload, i_istore, i_astore, i_lstore, i_iinc, i_bin, i_dv, i_un, i_lbin, i_lsh, i_i2l, i_l2i, i_lcmp, i_dup, i_dup2, i_pop, i_if, i_icmp, i_goto, swG, i_sw, i_getf, i_puti, i_putz, i_putr, i_ald, i_lald, i_aald, i_ast, i_last, i_aast, i_alen, i_new, i_newi, i_newl, i_newq, i_oinit, i_ret, i_zret, i_lret, i_vret, catS, tk, rpush, isO, i_m1, i_m2, i_acopy, i_callV, i_callS, KRet, lget, lput, lputL, lcl0, isL, lv0, List.map_cons, List.map_nil, List.length_cons, List.length_nil, List.cons_append, List.nil_append, Nat.reduceAdd, Nat.reduceSub, Nat.reduceLeDiff, List.replicate_succ, List.replicate_zero, List.getElem?_cons_succ, List.getElem?_cons_zero, List.set_cons_succ, List.set_cons_zero, true_and, and_true, if_true, if_false, reduceIte, Nat.le_refl, Value.category, va_up_app, eq_self, stp, Nat.reduceBEq, Bool.or_false, Bool.false_or, Bool.true_or, Bool.or_true, or_true, true_or, bx_uu, implies_true, true_implies, not_true, not_false_eq_true, false_implies, and_self, Nat.reduceLT, Int32.reduceAdd, Int32.reduceSub, Int32.reduceMul, Int32.reduceLE, Int32.reduceLT, Int32.reduceToNatClampNeg, va_rf_some, Bool.false_eq_true, k_X8_shortens_0 ca, k_X8_shortens_1 ca, k_X8_shortens_2 ca, k_X8_shortens_3 ca, k_X8_shortens_6 ca, k_X8_shortens_9 ca, k_X8_shortens_11 ca, k_X8_shortens_12 ca, k_X8_shortens_13 ca, k_X8_shortens_14 ca, k_X8_shortens_15 ca, k_X8_shortens_16 ca, k_X8_shortens_19 ca, k_X8_shortens_20 ca, k_X8_shortens_23 ca, k_X8_shortens_24 ca, k_X8_shortens_27 ca, k_X8_shortens_28 ca, k_X8_shortens_29 ca, k_X8_shortens_30 ca, k_X8_shortens_31 ca, k_X8_shortens_32 ca, k_X8_shortens_33 ca, k_X8_shortens_34 ca, k_X8_shortens_35 ca, k_X8_shortens_38 ca, k_X8_shortens_40 ca, k_X8_shortens_41 ca, k_X8_shortens_42 ca, k_X8_shortens_43 ca, k_X8_shortens_44 ca, k_X8_shortens_47 ca, k_X8_shortens_48 ca, k_X8_shortens_49 ca, k_X8_shortens_51 ca, k_X8_shortens_52 ca, k_X8_shortens_55 ca, k_X8_shortens_57 ca, k_X8_shortens_58 ca, k_X8_shortens_59 ca, k_X8_shortens_60 ca, k_X8_shortens_63 ca, k_X8_shortens_65 ca, k_X8_shortens_66 ca, k_X8_shortens_67 ca, k_X8_shortens_68 ca, k_X8_shortens_69 ca, k_X8_shortens_70 ca, k_X8_shortens_73 ca, k_X8_shortens_75 ca, k_X8_shortens_76 ca, k_X8_shortens_77 ca, k_X8_shortens_78 ca, k_X8_shortens_79 ca, k_X8_shortens_82 ca, k_X8_shortens_85 ca, k_X8_shortens_86 ca, k_X8_shortens_87 ca, k_X8_shortens_90 ca, a_1]
        rw [hst]
        exact ih (i + 1) (by omega) _
    have k0 := key B 0 (by omega) none
    rw [shS_0 hN, up_id hs0, nI_0] at k0
    have hgt : (nI B ≤ nI N) = True := eq_true hle
    refine go (stp [14]) 10 _ _ _ _ _ _ ?_
    simp only [wpS, ite_not, i_push, i_iload, i_lload, i_aload, i_istore, i_astore, i_lstore, i_iinc, i_bin, i_dv, i_un, i_lbin, i_lsh, i_i2l, i_l2i, i_lcmp, i_dup, i_dup2, i_pop, i_if, i_icmp, i_goto, swG, i_sw, i_getf, i_puti, i_putz, i_putr, i_ald, i_lald, i_aald, i_ast, i_last, i_aast, i_alen, i_new, i_newi, i_newl, i_newq, i_oinit, i_ret, i_zret, i_lret, i_vret, catS, tk, rpush, isO, i_m1, i_m2, i_acopy, i_callV, i_callS, KRet, lget, lput, lputL, lcl0, isL, lv0, List.map_cons, List.map_nil, List.length_cons, List.length_nil, List.cons_append, List.nil_append, Nat.reduceAdd, Nat.reduceSub, Nat.reduceLeDiff, List.replicate_succ, List.replicate_zero, List.getElem?_cons_succ, List.getElem?_cons_zero, List.set_cons_succ, List.set_cons_zero, true_and, and_true, if_true, if_false, reduceIte, Nat.le_refl, Value.category, va_up_app, eq_self, stp, Nat.reduceBEq, Bool.or_false, Bool.false_or, Bool.true_or, Bool.or_true, or_true, true_or, bx_uu, implies_true, true_implies, not_true, not_false_eq_true, false_implies, and_self, Nat.reduceLT, Int32.reduceAdd, Int32.reduceSub, Int32.reduceMul, Int32.reduceLE, Int32.reduceLT, Int32.reduceToNatClampNeg, va_rf_some, Bool.false_eq_true, k_X8_shortens_0 ca, k_X8_shortens_1 ca, k_X8_shortens_2 ca, k_X8_shortens_3 ca, k_X8_shortens_6 ca, k_X8_shortens_9 ca, k_X8_shortens_11 ca, k_X8_shortens_12 ca, k_X8_shortens_13 ca, k_X8_shortens_14 ca, k_X8_shortens_15 ca, k_X8_shortens_16 ca, k_X8_shortens_19 ca, k_X8_shortens_20 ca, k_X8_shortens_23 ca, k_X8_shortens_24 ca, k_X8_shortens_27 ca, k_X8_shortens_28 ca, k_X8_shortens_29 ca, k_X8_shortens_30 ca, k_X8_shortens_31 ca, k_X8_shortens_32 ca, k_X8_shortens_33 ca, k_X8_shortens_34 ca, k_X8_shortens_35 ca, k_X8_shortens_38 ca, k_X8_shortens_40 ca, k_X8_shortens_41 ca, k_X8_shortens_42 ca, k_X8_shortens_43 ca, k_X8_shortens_44 ca, k_X8_shortens_47 ca, k_X8_shortens_48 ca, k_X8_shortens_49 ca, k_X8_shortens_51 ca, k_X8_shortens_52 ca, k_X8_shortens_55 ca, k_X8_shortens_57 ca, k_X8_shortens_58 ca, k_X8_shortens_59 ca, k_X8_shortens_60 ca, k_X8_shortens_63 ca, k_X8_shortens_65 ca, k_X8_shortens_66 ca, k_X8_shortens_67 ca, k_X8_shortens_68 ca, k_X8_shortens_69 ca, k_X8_shortens_70 ca, k_X8_shortens_73 ca, k_X8_shortens_75 ca, k_X8_shortens_76 ca, k_X8_shortens_77 ca, k_X8_shortens_78 ca, k_X8_shortens_79 ca, k_X8_shortens_82 ca, k_X8_shortens_85 ca, k_X8_shortens_86 ca, k_X8_shortens_87 ca, k_X8_shortens_90 ca, hm, hs0, sp_X8_many, s10, a_0, z0, z1, hN, hgt]
    exact k0
  · have hs := hA (by omega)
    have hgt : (nI B ≤ nI N) = False := eq_false (fun z => hBN ((nI_leI (by omega) (by omega)).mp z))
    refine go (stp []) 9 _ _ _ _ _ _ ?_
    simp only [wpS, ite_not, i_push, i_iload, i_lload, i_aload, i_istore, i_astore, i_lstore, i_iinc, i_bin, i_dv, i_un, i_lbin, i_lsh, i_i2l, i_l2i, i_lcmp, i_dup, i_dup2, i_pop, i_if, i_icmp, i_goto, swG, i_sw, i_getf, i_puti, i_putz, i_putr, i_ald, i_lald, i_aald, i_ast, i_last, i_aast, i_alen, i_new, i_newi, i_newl, i_newq, i_oinit, i_ret, i_zret, i_lret, i_vret, catS, tk, rpush, isO, i_m1, i_m2, i_acopy, i_callV, i_callS, KRet, lget, lput, lputL, lcl0, isL, lv0, List.map_cons, List.map_nil, List.length_cons, List.length_nil, List.cons_append, List.nil_append, Nat.reduceAdd, Nat.reduceSub, Nat.reduceLeDiff, List.replicate_succ, List.replicate_zero, List.getElem?_cons_succ, List.getElem?_cons_zero, List.set_cons_succ, List.set_cons_zero, true_and, and_true, if_true, if_false, reduceIte, Nat.le_refl, Value.category, va_up_app, eq_self, stp, Nat.reduceBEq, Bool.or_false, Bool.false_or, Bool.true_or, Bool.or_true, or_true, true_or, bx_uu, implies_true, true_implies, not_true, not_false_eq_true, false_implies, and_self, Nat.reduceLT, Int32.reduceAdd, Int32.reduceSub, Int32.reduceMul, Int32.reduceLE, Int32.reduceLT, Int32.reduceToNatClampNeg, va_rf_some, Bool.false_eq_true, k_X8_shortens_0 ca, k_X8_shortens_1 ca, k_X8_shortens_2 ca, k_X8_shortens_3 ca, k_X8_shortens_6 ca, k_X8_shortens_9 ca, k_X8_shortens_11 ca, k_X8_shortens_12 ca, k_X8_shortens_13 ca, k_X8_shortens_14 ca, k_X8_shortens_15 ca, k_X8_shortens_16 ca, k_X8_shortens_19 ca, k_X8_shortens_20 ca, k_X8_shortens_23 ca, k_X8_shortens_24 ca, k_X8_shortens_27 ca, k_X8_shortens_28 ca, k_X8_shortens_29 ca, k_X8_shortens_30 ca, k_X8_shortens_31 ca, k_X8_shortens_32 ca, k_X8_shortens_33 ca, k_X8_shortens_34 ca, k_X8_shortens_35 ca, k_X8_shortens_38 ca, k_X8_shortens_40 ca, k_X8_shortens_41 ca, k_X8_shortens_42 ca, k_X8_shortens_43 ca, k_X8_shortens_44 ca, k_X8_shortens_47 ca, k_X8_shortens_48 ca, k_X8_shortens_49 ca, k_X8_shortens_51 ca, k_X8_shortens_52 ca, k_X8_shortens_55 ca, k_X8_shortens_57 ca, k_X8_shortens_58 ca, k_X8_shortens_59 ca, k_X8_shortens_60 ca, k_X8_shortens_63 ca, k_X8_shortens_65 ca, k_X8_shortens_66 ca, k_X8_shortens_67 ca, k_X8_shortens_68 ca, k_X8_shortens_69 ca, k_X8_shortens_70 ca, k_X8_shortens_73 ca, k_X8_shortens_75 ca, k_X8_shortens_76 ca, k_X8_shortens_77 ca, k_X8_shortens_78 ca, k_X8_shortens_79 ca, k_X8_shortens_82 ca, k_X8_shortens_85 ca, k_X8_shortens_86 ca, k_X8_shortens_87 ca, k_X8_shortens_90 ca, hm, hs0, sp_X8_many, s10, a_0, z0, z1, hN, hgt]
    exact hs
