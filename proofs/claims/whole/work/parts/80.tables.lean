/-! StackFinder: collectPairs, fillByOne, addToByTwo, fillByTwo -/
def PP (Nf : Nat → Nat) (pf : Nat → Int32) (pc : Nat) (pr : Nat → Nat) (p : Nat) : Prop := pc ≤ p ∧ (∀ i, i < pc → pf i = nI (pr i) ∧ pr i < p) ∧ (∀ i j, i < j → j < pc → pr i < pr j) ∧ (∀ p', p' < p → ∃ i, i < pc ∧ dz Nf (pr i) = dz Nf p' ∧ pr i ≤ p')
def updN (f : Nat → Nat) (k v : Nat) : Nat → Nat := fun j => if j = k then v else f j
theorem PP_new {Nf : Nat → Nat} {pf : Nat → Int32} {pc : Nat} {pr : Nat → Nat} {p : Nat} (h : PP Nf pf pc pr p) : PP Nf (upd pf pc (nI p)) (pc + 1) (updN pr pc p) (p + 1) := by
  obtain ⟨h1, h2, h3, h4⟩ := h
  refine ⟨by omega, fun i hi => ?_, fun i j hij hj => ?_, fun p' hp' => ?_⟩
  · rw [upd_app]
    unfold updN
    by_cases q : i = pc
    · rw [if_pos q, if_pos q]; exact ⟨rfl, by omega⟩
    · rw [if_neg q, if_neg q]
      have := h2 i (by omega)
      exact ⟨this.1, by omega⟩
  · unfold updN
    rw [if_neg (by omega)]
    by_cases q : j = pc
    · rw [if_pos q]; exact (h2 i (by omega)).2
    · rw [if_neg q]; exact h3 i j hij (by omega)
  · by_cases q : p' = p
    · refine ⟨pc, by omega, ?_⟩
      unfold updN
      rw [if_pos rfl, q]
      exact ⟨rfl, Nat.le_refl _⟩
    · obtain ⟨i, hi, e, hle⟩ := h4 p' (by omega)
      refine ⟨i, by omega, ?_⟩
      unfold updN
      rw [if_neg (by omega)]
      exact ⟨e, hle⟩
theorem PP_old {Nf : Nat → Nat} {pf : Nat → Int32} {pc : Nat} {pr : Nat → Nat} {p i : Nat} (h : PP Nf pf pc pr p) (hi : i < pc) (e : dz Nf (pr i) = dz Nf p) : PP Nf pf pc pr (p + 1) := by
  obtain ⟨h1, h2, h3, h4⟩ := h
  refine ⟨by omega, fun j hj => ⟨(h2 j hj).1, by have := (h2 j hj).2; omega⟩, h3, fun p' hp' => ?_⟩
  by_cases q : p' = p
  · exact ⟨i, hi, by rw [q]; exact e, by have := (h2 i hi).2; omega⟩
  · exact h4 p' (by omega)
def sp_X3_collectPairs (ca : Nat → ClassId) : SPEC := fun av h post => ∃ x5 nx tm pp pc0 ox tx Nf pf0, av = [.ref x5] ∧ h x5 = some (eSF nx tm pp pc0 ox tx) ∧ NumA ca h nx Nf ∧ Nm Nf ∧ h pp = some (.inl (ca 0, 36, .inl pf0)) ∧ ¬ x5 = pp ∧ ¬ nx = x5 ∧ ¬ nx = pp ∧
  ∀ pc pf pr, PO Nf pf pc pr → post none (va_up (va_up h pp (some (.inl (ca 0, 36, .inl pf)))) x5 (some (eSF nx tm pp (nI pc) ox tx)))
def k_X3_collectPairs (ca : Nat → ClassId) : Nat → IT := fun pc => lk pc [(0, i_aload 0 1),
  (1, i_push (.int 0) 2),
  (2, i_puti 3 3 5),
  (5, i_push (.int 0) 6),
  (6, i_istore 1 7),
  (7, i_iload 1 8),
  (8, i_push (.int 36) 10),
  (10, i_icmp (fun x y => y ≤ x) 89 13),
  (13, i_push (.int 1) 14),
  (14, i_istore 2 15),
  (15, i_push (.int 0) 16),
  (16, i_istore 3 17),
  (17, i_iload 3 18),
  (18, i_aload 0 19),
  (19, i_getf 3 3 22),
  (22, i_icmp (fun x y => y ≤ x) 59 25),
  (25, i_iload 2 26),
  (26, i_if (fun x => x = 0) 59 29),
  (29, i_aload 0 30),
  (30, i_aload 0 31),
  (31, i_getf 3 2 34),
  (34, i_iload 3 35),
  (35, i_ald (ca 0) 36),
  (36, i_callV 3 1 0 0 0 0 (sp_X3_difference ca) 39),
  (39, i_aload 0 40),
  (40, i_iload 1 41),
  (41, i_callV 3 1 0 0 0 0 (sp_X3_difference ca) 44),
  (44, i_icmp (fun x y => x = y) 51 47),
  (47, i_push (.int 1) 48),
  (48, i_goto 52),
  (51, i_push (.int 0) 52),
  (52, i_istore 2 53),
  (53, i_iinc 3 1 56),
  (56, i_goto 17),
  (59, i_iload 2 60),
  (60, i_if (fun x => x = 0) 83 63),
  (63, i_aload 0 64),
  (64, i_getf 3 2 67),
  (67, i_aload 0 68),
  (68, i_getf 3 3 71),
  (71, i_iload 1 72),
  (72, i_ast (fun x => x) (ca 0) 73),
  (73, i_aload 0 74),
  (74, i_dup 75),
  (75, i_getf 3 3 78),
  (78, i_push (.int 1) 79),
  (79, i_bin (fun x y => x + y) 80),
  (80, i_puti 3 3 83),
  (83, i_iinc 1 1 86),
  (86, i_goto 7),
  (89, i_vret)]
set_option maxRecDepth 20000 in
theorem t_X3_collectPairs : Tb k_X3_collectPairs yX3_collectPairs cX3_collectPairs 4 none 1 0 0 := by
  intro l D ca A p e s m args below meth c post X
  unfold k_X3_collectPairs
  refine snd_cons (snd_aload_n X dX3_collectPairs_0 rfl) ?_
  refine snd_cons (snd_iconst X dX3_collectPairs_1 (by decide)) ?_
  refine snd_cons (snd_puti X Fk3 3 (by decide) rfl rfl w_237 dX3_collectPairs_2) ?_
  refine snd_cons (snd_iconst X dX3_collectPairs_5 (by decide)) ?_
  refine snd_cons (snd_istore_n X dX3_collectPairs_6 rfl (by decide)) ?_
  refine snd_cons (snd_iload_n X dX3_collectPairs_7 rfl) ?_
  refine snd_cons (snd_bipush X dX3_collectPairs_8 (by decide)) ?_
  refine snd_cons (snd_icmp_ge X dX3_collectPairs_10 (by decide)) ?_
  refine snd_cons (snd_iconst X dX3_collectPairs_13 (by decide)) ?_
  refine snd_cons (snd_istore_n X dX3_collectPairs_14 rfl (by decide)) ?_
  refine snd_cons (snd_iconst X dX3_collectPairs_15 (by decide)) ?_
  refine snd_cons (snd_istore_n X dX3_collectPairs_16 rfl (by decide)) ?_
  refine snd_cons (snd_iload_n X dX3_collectPairs_17 rfl) ?_
  refine snd_cons (snd_aload_n X dX3_collectPairs_18 rfl) ?_
  refine snd_cons (snd_getf X Fk3 3 (by decide) w_237 dX3_collectPairs_19) ?_
  refine snd_cons (snd_icmp_ge X dX3_collectPairs_22 (by decide)) ?_
  refine snd_cons (snd_iload_n X dX3_collectPairs_25 rfl) ?_
  refine snd_cons (snd_if_eq X dX3_collectPairs_26 (by decide)) ?_
  refine snd_cons (snd_aload_n X dX3_collectPairs_29 rfl) ?_
  refine snd_cons (snd_aload_n X dX3_collectPairs_30 rfl) ?_
  refine snd_cons (snd_getf X Fk3 2 (by decide) w_236 dX3_collectPairs_31) ?_
  refine snd_cons (snd_iload_n X dX3_collectPairs_34 rfl) ?_
  refine snd_cons (snd_iaload X dX3_collectPairs_35) ?_
  refine snd_cons (snd_callV X Fk3 (ok_X3_difference l D ca) rfl rfl w_525 w_527 wp_6 w_8 w_528 (by decide) (by decide) dX3_collectPairs_36) ?_
  refine snd_cons (snd_aload_n X dX3_collectPairs_39 rfl) ?_
  refine snd_cons (snd_iload_n X dX3_collectPairs_40 rfl) ?_
  refine snd_cons (snd_callV X Fk3 (ok_X3_difference l D ca) rfl rfl w_525 w_527 wp_6 w_8 w_528 (by decide) (by decide) dX3_collectPairs_41) ?_
  refine snd_cons (snd_icmp_eq X dX3_collectPairs_44 (by decide)) ?_
  refine snd_cons (snd_iconst X dX3_collectPairs_47 (by decide)) ?_
  refine snd_cons (snd_goto X dX3_collectPairs_48 (by decide)) ?_
  refine snd_cons (snd_iconst X dX3_collectPairs_51 (by decide)) ?_
  refine snd_cons (snd_istore_n X dX3_collectPairs_52 rfl (by decide)) ?_
  refine snd_cons (snd_iinc X dX3_collectPairs_53 (by decide) (by decide)) ?_
  refine snd_cons (snd_goto X dX3_collectPairs_56 (by decide)) ?_
  refine snd_cons (snd_iload_n X dX3_collectPairs_59 rfl) ?_
  refine snd_cons (snd_if_eq X dX3_collectPairs_60 (by decide)) ?_
  refine snd_cons (snd_aload_n X dX3_collectPairs_63 rfl) ?_
  refine snd_cons (snd_getf X Fk3 2 (by decide) w_236 dX3_collectPairs_64) ?_
  refine snd_cons (snd_aload_n X dX3_collectPairs_67 rfl) ?_
  refine snd_cons (snd_getf X Fk3 3 (by decide) w_237 dX3_collectPairs_68) ?_
  refine snd_cons (snd_iload_n X dX3_collectPairs_71 rfl) ?_
  refine snd_cons (snd_iastore X dX3_collectPairs_72) ?_
  refine snd_cons (snd_aload_n X dX3_collectPairs_73 rfl) ?_
  refine snd_cons (snd_dup X dX3_collectPairs_74) ?_
  refine snd_cons (snd_getf X Fk3 3 (by decide) w_237 dX3_collectPairs_75) ?_
  refine snd_cons (snd_iconst X dX3_collectPairs_78 (by decide)) ?_
  refine snd_cons (snd_iadd X dX3_collectPairs_79) ?_
  refine snd_cons (snd_puti X Fk3 3 (by decide) rfl rfl w_237 dX3_collectPairs_80) ?_
  refine snd_cons (snd_iinc X dX3_collectPairs_83 (by decide) (by decide)) ?_
  refine snd_cons (snd_goto X dX3_collectPairs_86 (by decide)) ?_
  refine snd_cons (snd_vret X dX3_collectPairs_89) ?_
  exact snd_nil
theorem k_X3_collectPairs_0 (ca : Nat → ClassId) : k_X3_collectPairs ca 0 = i_aload 0 1 := rfl
theorem k_X3_collectPairs_1 (ca : Nat → ClassId) : k_X3_collectPairs ca 1 = i_push (.int 0) 2 := rfl
theorem k_X3_collectPairs_2 (ca : Nat → ClassId) : k_X3_collectPairs ca 2 = i_puti 3 3 5 := rfl
theorem k_X3_collectPairs_5 (ca : Nat → ClassId) : k_X3_collectPairs ca 5 = i_push (.int 0) 6 := rfl
theorem k_X3_collectPairs_6 (ca : Nat → ClassId) : k_X3_collectPairs ca 6 = i_istore 1 7 := rfl
theorem k_X3_collectPairs_7 (ca : Nat → ClassId) : k_X3_collectPairs ca 7 = i_iload 1 8 := rfl
theorem k_X3_collectPairs_8 (ca : Nat → ClassId) : k_X3_collectPairs ca 8 = i_push (.int 36) 10 := rfl
theorem k_X3_collectPairs_10 (ca : Nat → ClassId) : k_X3_collectPairs ca 10 = i_icmp (fun x y => y ≤ x) 89 13 := rfl
theorem k_X3_collectPairs_13 (ca : Nat → ClassId) : k_X3_collectPairs ca 13 = i_push (.int 1) 14 := rfl
theorem k_X3_collectPairs_14 (ca : Nat → ClassId) : k_X3_collectPairs ca 14 = i_istore 2 15 := rfl
theorem k_X3_collectPairs_15 (ca : Nat → ClassId) : k_X3_collectPairs ca 15 = i_push (.int 0) 16 := rfl
theorem k_X3_collectPairs_16 (ca : Nat → ClassId) : k_X3_collectPairs ca 16 = i_istore 3 17 := rfl
theorem k_X3_collectPairs_17 (ca : Nat → ClassId) : k_X3_collectPairs ca 17 = i_iload 3 18 := rfl
theorem k_X3_collectPairs_18 (ca : Nat → ClassId) : k_X3_collectPairs ca 18 = i_aload 0 19 := rfl
theorem k_X3_collectPairs_19 (ca : Nat → ClassId) : k_X3_collectPairs ca 19 = i_getf 3 3 22 := rfl
theorem k_X3_collectPairs_22 (ca : Nat → ClassId) : k_X3_collectPairs ca 22 = i_icmp (fun x y => y ≤ x) 59 25 := rfl
theorem k_X3_collectPairs_25 (ca : Nat → ClassId) : k_X3_collectPairs ca 25 = i_iload 2 26 := rfl
theorem k_X3_collectPairs_26 (ca : Nat → ClassId) : k_X3_collectPairs ca 26 = i_if (fun x => x = 0) 59 29 := rfl
theorem k_X3_collectPairs_29 (ca : Nat → ClassId) : k_X3_collectPairs ca 29 = i_aload 0 30 := rfl
theorem k_X3_collectPairs_30 (ca : Nat → ClassId) : k_X3_collectPairs ca 30 = i_aload 0 31 := rfl
theorem k_X3_collectPairs_31 (ca : Nat → ClassId) : k_X3_collectPairs ca 31 = i_getf 3 2 34 := rfl
theorem k_X3_collectPairs_34 (ca : Nat → ClassId) : k_X3_collectPairs ca 34 = i_iload 3 35 := rfl
theorem k_X3_collectPairs_35 (ca : Nat → ClassId) : k_X3_collectPairs ca 35 = i_ald (ca 0) 36 := rfl
theorem k_X3_collectPairs_36 (ca : Nat → ClassId) : k_X3_collectPairs ca 36 = i_callV 3 1 0 0 0 0 (sp_X3_difference ca) 39 := rfl
theorem k_X3_collectPairs_39 (ca : Nat → ClassId) : k_X3_collectPairs ca 39 = i_aload 0 40 := rfl
theorem k_X3_collectPairs_40 (ca : Nat → ClassId) : k_X3_collectPairs ca 40 = i_iload 1 41 := rfl
theorem k_X3_collectPairs_41 (ca : Nat → ClassId) : k_X3_collectPairs ca 41 = i_callV 3 1 0 0 0 0 (sp_X3_difference ca) 44 := rfl
theorem k_X3_collectPairs_44 (ca : Nat → ClassId) : k_X3_collectPairs ca 44 = i_icmp (fun x y => x = y) 51 47 := rfl
theorem k_X3_collectPairs_47 (ca : Nat → ClassId) : k_X3_collectPairs ca 47 = i_push (.int 1) 48 := rfl
theorem k_X3_collectPairs_48 (ca : Nat → ClassId) : k_X3_collectPairs ca 48 = i_goto 52 := rfl
theorem k_X3_collectPairs_51 (ca : Nat → ClassId) : k_X3_collectPairs ca 51 = i_push (.int 0) 52 := rfl
theorem k_X3_collectPairs_52 (ca : Nat → ClassId) : k_X3_collectPairs ca 52 = i_istore 2 53 := rfl
theorem k_X3_collectPairs_53 (ca : Nat → ClassId) : k_X3_collectPairs ca 53 = i_iinc 3 1 56 := rfl
theorem k_X3_collectPairs_56 (ca : Nat → ClassId) : k_X3_collectPairs ca 56 = i_goto 17 := rfl
theorem k_X3_collectPairs_59 (ca : Nat → ClassId) : k_X3_collectPairs ca 59 = i_iload 2 60 := rfl
theorem k_X3_collectPairs_60 (ca : Nat → ClassId) : k_X3_collectPairs ca 60 = i_if (fun x => x = 0) 83 63 := rfl
theorem k_X3_collectPairs_63 (ca : Nat → ClassId) : k_X3_collectPairs ca 63 = i_aload 0 64 := rfl
theorem k_X3_collectPairs_64 (ca : Nat → ClassId) : k_X3_collectPairs ca 64 = i_getf 3 2 67 := rfl
theorem k_X3_collectPairs_67 (ca : Nat → ClassId) : k_X3_collectPairs ca 67 = i_aload 0 68 := rfl
theorem k_X3_collectPairs_68 (ca : Nat → ClassId) : k_X3_collectPairs ca 68 = i_getf 3 3 71 := rfl
theorem k_X3_collectPairs_71 (ca : Nat → ClassId) : k_X3_collectPairs ca 71 = i_iload 1 72 := rfl
theorem k_X3_collectPairs_72 (ca : Nat → ClassId) : k_X3_collectPairs ca 72 = i_ast (fun x => x) (ca 0) 73 := rfl
theorem k_X3_collectPairs_73 (ca : Nat → ClassId) : k_X3_collectPairs ca 73 = i_aload 0 74 := rfl
theorem k_X3_collectPairs_74 (ca : Nat → ClassId) : k_X3_collectPairs ca 74 = i_dup 75 := rfl
theorem k_X3_collectPairs_75 (ca : Nat → ClassId) : k_X3_collectPairs ca 75 = i_getf 3 3 78 := rfl
theorem k_X3_collectPairs_78 (ca : Nat → ClassId) : k_X3_collectPairs ca 78 = i_push (.int 1) 79 := rfl
theorem k_X3_collectPairs_79 (ca : Nat → ClassId) : k_X3_collectPairs ca 79 = i_bin (fun x y => x + y) 80 := rfl
theorem k_X3_collectPairs_80 (ca : Nat → ClassId) : k_X3_collectPairs ca 80 = i_puti 3 3 83 := rfl
theorem k_X3_collectPairs_83 (ca : Nat → ClassId) : k_X3_collectPairs ca 83 = i_iinc 1 1 86 := rfl
theorem k_X3_collectPairs_86 (ca : Nat → ClassId) : k_X3_collectPairs ca 86 = i_goto 7 := rfl
theorem k_X3_collectPairs_89 (ca : Nat → ClassId) : k_X3_collectPairs ca 89 = i_vret := rfl
set_option maxHeartbeats 4000000 in
set_option maxRecDepth 20000 in
theorem ok_X3_collectPairs (l : Launch) (D : va_G) (ca : Nat → ClassId) : OkAll l D ca yX3_collectPairs cX3_collectPairs 4 none 1 0 0 (sp_X3_collectPairs ca) := by
  intro av h post hs
  obtain ⟨x5, nx, tm, pp, pc0, ox, tx, Nf, pf0, rfl, e0, ⟨nf, e2, e3⟩, hN, e1, d1, d2, d3, hs⟩ := hs
  have e0' := e0
  unfold eSF at e0'
  have d1' : ¬ pp = x5 := fun z => d1 z.symm
  refine okM_of t_X3_collectPairs (by decide +kernel) (c1_ref c1_nil) (Nat.le_of_ble_eq_true rfl) ?_
  intro K go
  have key : ∀ r p pc pf pr x2 x3, p + r = 36 → PP Nf pf pc pr p → K 0 0 7 [some (.ref x5), some (.int (nI p)), x2, x3] [] (va_up (va_up h pp (some (.inl (ca 0, 36, .inl pf)))) x5 (some (eSF nx tm pp (nI pc) ox tx))) := by
    intro r
    induction r with
    | zero =>
      intro p pc pf pr x2 x3 hp hP
      have hp : p = 36 := hp
      subst hp
      have e : nI 36 = 36 := rfl
      have k0 := hs pc pf pr ⟨by have := hP.1; omega, hP.2.1, hP.2.2.1, hP.2.2.2⟩
      refine goN go (stp []) 160 _ _ _ _ _ _ (fun F hF hF0 => ?_)
      simp only [hF, hF0, ite_not, i_push, i_iload, i_lload, i_aload, i_istore, i_astore, i_lstore, i_iinc, i_bin, i_dv, i_un, i_lbin, i_lsh, i_i2l, i_l2i, i_lcmp, i_dup, i_dup2, i_pop, i_if, i_icmp, i_goto, swG, i_sw, i_getf, i_puti, i_putz, i_putr, i_ald, i_lald, i_aald, i_ast, i_last, i_aast, i_alen, i_new, i_newi, i_newl, i_newq, i_oinit, i_ret, i_zret, i_lret, i_vret, catS, tk, rpush, isO, i_m1, i_m2, i_acopy, i_callV, i_callS, KRet, lget, lput, lputL, lcl0, isL, lv0, List.map_cons, List.map_nil, List.length_cons, List.length_nil, List.cons_append, List.nil_append, Nat.reduceAdd, Nat.reduceSub, Nat.reduceLeDiff, List.replicate_succ, List.replicate_zero, List.getElem?_cons_succ, List.getElem?_cons_zero, List.set_cons_succ, List.set_cons_zero, true_and, and_true, if_true, if_false, ↓reduceIte, Nat.le_refl, Value.category, va_up_app, eq_self, stp, Nat.reduceBEq, Bool.or_false, Bool.false_or, Bool.true_or, Bool.or_true, or_true, true_or, bx_uu, implies_true, true_implies, not_true, not_false_eq_true, false_implies, and_self, Nat.reduceLT, Int32.reduceAdd, Int32.reduceSub, Int32.reduceMul, Int32.reduceLE, Int32.reduceLT, Int32.reduceToNatClampNeg, va_rf_some, Bool.false_eq_true, k_X3_collectPairs_0 ca, k_X3_collectPairs_1 ca, k_X3_collectPairs_2 ca, k_X3_collectPairs_5 ca, k_X3_collectPairs_6 ca, k_X3_collectPairs_7 ca, k_X3_collectPairs_8 ca, k_X3_collectPairs_10 ca, k_X3_collectPairs_13 ca, k_X3_collectPairs_14 ca, k_X3_collectPairs_15 ca, k_X3_collectPairs_16 ca, k_X3_collectPairs_17 ca, k_X3_collectPairs_18 ca, k_X3_collectPairs_19 ca, k_X3_collectPairs_22 ca, k_X3_collectPairs_25 ca, k_X3_collectPairs_26 ca, k_X3_collectPairs_29 ca, k_X3_collectPairs_30 ca, k_X3_collectPairs_31 ca, k_X3_collectPairs_34 ca, k_X3_collectPairs_35 ca, k_X3_collectPairs_36 ca, k_X3_collectPairs_39 ca, k_X3_collectPairs_40 ca, k_X3_collectPairs_41 ca, k_X3_collectPairs_44 ca, k_X3_collectPairs_47 ca, k_X3_collectPairs_48 ca, k_X3_collectPairs_51 ca, k_X3_collectPairs_52 ca, k_X3_collectPairs_53 ca, k_X3_collectPairs_56 ca, k_X3_collectPairs_59 ca, k_X3_collectPairs_60 ca, k_X3_collectPairs_63 ca, k_X3_collectPairs_64 ca, k_X3_collectPairs_67 ca, k_X3_collectPairs_68 ca, k_X3_collectPairs_71 ca, k_X3_collectPairs_72 ca, k_X3_collectPairs_73 ca, k_X3_collectPairs_74 ca, k_X3_collectPairs_75 ca, k_X3_collectPairs_78 ca, k_X3_collectPairs_79 ca, k_X3_collectPairs_80 ca, k_X3_collectPairs_83 ca, k_X3_collectPairs_86 ca, k_X3_collectPairs_89 ca, e]
      try clear hF hF0 F
      exact k0
    | succ r ih =>
      intro p pc pf pr x2 x3 hp hP
      have g1 : ¬ 36 ≤ nI p := nI_ge (b := 36) (by omega) (by decide)
      have hpc := hP.1
      generalize hH : va_up (va_up h pp (some (.inl (ca 0, 36, .inl pf)))) x5 (some (eSF nx tm pp (nI pc) ox tx)) = H at *
      have f0 : H x5 = some (eSF nx tm pp (nI pc) ox tx) := by rw [← hH]; exact va_up_self _ _ _
      have f1 : H pp = some (.inl (ca 0, 36, .inl pf)) := by rw [← hH]; exact (va_up_ne _ _ d1').trans (va_up_self _ _ _)
      have f2 : NumA ca H nx Nf := ⟨nf, by rw [← hH]; exact (va_up_ne _ _ d2).trans ((va_up_ne _ _ d3).trans e2), e3⟩
      have f0' := f0
      unfold eSF at f0'
      have vpc : vp_in (nI pc) 36 := vp_in_nI (by omega) (by decide)
      have xpc : (nI pc).toNatClampNeg = pc := nI_clamp (by omega)
      have new : (∀ i, i < pc → ¬ dz Nf (pr i) = dz Nf p) → ∀ x3, K 0 0 59 [some (.ref x5), some (.int (nI p)), some (.int 1), x3] [] H := by
        intro _ x3
        have k0 := ih (p + 1) (pc + 1) (upd pf pc (nI p)) (updN pr pc p) (some (.int 1)) x3 (by omega) (PP_new hP)
        unfold eSF at k0
        have hw : va_up (va_up H pp (some (.inl (ca 0, 36, .inl (upd pf pc (nI p)))))) x5 (some (.inr (3, [.ref nx, .int tm, .ref pp, .int (nI (pc + 1)), .ref ox, .ref tx]))) = va_up (va_up h pp (some (.inl (ca 0, 36, .inl (upd pf pc (nI p)))))) x5 (some (.inr (3, [.ref nx, .int tm, .ref pp, .int (nI (pc + 1)), .ref ox, .ref tx]))) := by
          rw [← hH]
          funext j
          by_cases q1 : j = x5
          · rw [q1, va_up_self, va_up_self]
          · rw [va_up_ne _ _ q1, va_up_ne _ _ q1]
            by_cases q2 : j = pp
            · rw [q2, va_up_self, va_up_self]
            · rw [va_up_ne _ _ q2, va_up_ne _ _ q2, va_up_ne _ _ q1, va_up_ne _ _ q2]
        rw [← hw] at k0
        refine goN go (stp [7]) 160 _ _ _ _ _ _ (fun F hF hF0 => ?_)
        simp only [hF, hF0, ite_not, i_push, i_iload, i_lload, i_aload, i_istore, i_astore, i_lstore, i_iinc, i_bin, i_dv, i_un, i_lbin, i_lsh, i_i2l, i_l2i, i_lcmp, i_dup, i_dup2, i_pop, i_if, i_icmp, i_goto, swG, i_sw, i_getf, i_puti, i_putz, i_putr, i_ald, i_lald, i_aald, i_ast, i_last, i_aast, i_alen, i_new, i_newi, i_newl, i_newq, i_oinit, i_ret, i_zret, i_lret, i_vret, catS, tk, rpush, isO, i_m1, i_m2, i_acopy, i_callV, i_callS, KRet, lget, lput, lputL, lcl0, isL, lv0, List.map_cons, List.map_nil, List.length_cons, List.length_nil, List.cons_append, List.nil_append, Nat.reduceAdd, Nat.reduceSub, Nat.reduceLeDiff, List.replicate_succ, List.replicate_zero, List.getElem?_cons_succ, List.getElem?_cons_zero, List.set_cons_succ, List.set_cons_zero, true_and, and_true, if_true, if_false, ↓reduceIte, Nat.le_refl, Value.category, va_up_app, eq_self, stp, Nat.reduceBEq, Bool.or_false, Bool.false_or, Bool.true_or, Bool.or_true, or_true, true_or, bx_uu, implies_true, true_implies, not_true, not_false_eq_true, false_implies, and_self, Nat.reduceLT, Int32.reduceAdd, Int32.reduceSub, Int32.reduceMul, Int32.reduceLE, Int32.reduceLT, Int32.reduceToNatClampNeg, va_rf_some, Bool.false_eq_true, k_X3_collectPairs_0 ca, k_X3_collectPairs_1 ca, k_X3_collectPairs_2 ca, k_X3_collectPairs_5 ca, k_X3_collectPairs_6 ca, k_X3_collectPairs_7 ca, k_X3_collectPairs_8 ca, k_X3_collectPairs_10 ca, k_X3_collectPairs_13 ca, k_X3_collectPairs_14 ca, k_X3_collectPairs_15 ca, k_X3_collectPairs_16 ca, k_X3_collectPairs_17 ca, k_X3_collectPairs_18 ca, k_X3_collectPairs_19 ca, k_X3_collectPairs_22 ca, k_X3_collectPairs_25 ca, k_X3_collectPairs_26 ca, k_X3_collectPairs_29 ca, k_X3_collectPairs_30 ca, k_X3_collectPairs_31 ca, k_X3_collectPairs_34 ca, k_X3_collectPairs_35 ca, k_X3_collectPairs_36 ca, k_X3_collectPairs_39 ca, k_X3_collectPairs_40 ca, k_X3_collectPairs_41 ca, k_X3_collectPairs_44 ca, k_X3_collectPairs_47 ca, k_X3_collectPairs_48 ca, k_X3_collectPairs_51 ca, k_X3_collectPairs_52 ca, k_X3_collectPairs_53 ca, k_X3_collectPairs_56 ca, k_X3_collectPairs_59 ca, k_X3_collectPairs_60 ca, k_X3_collectPairs_63 ca, k_X3_collectPairs_64 ca, k_X3_collectPairs_67 ca, k_X3_collectPairs_68 ca, k_X3_collectPairs_71 ca, k_X3_collectPairs_72 ca, k_X3_collectPairs_73 ca, k_X3_collectPairs_74 ca, k_X3_collectPairs_75 ca, k_X3_collectPairs_78 ca, k_X3_collectPairs_79 ca, k_X3_collectPairs_80 ca, k_X3_collectPairs_83 ca, k_X3_collectPairs_86 ca, k_X3_collectPairs_89 ca, f0', f1, vpc, xpc, one0, d1, a_1]
        try clear hF hF0 F
        exact k0
      have old : ∀ i, i < pc → dz Nf (pr i) = dz Nf p → ∀ x3, K 0 0 59 [some (.ref x5), some (.int (nI p)), some (.int 0), x3] [] H := by
        intro i hi he x3
        have k0 := ih (p + 1) pc pf pr (some (.int 0)) x3 (by omega) (PP_old hP hi he)
        rw [hH] at k0
        refine goN go (stp [7]) 160 _ _ _ _ _ _ (fun F hF hF0 => ?_)
        simp only [hF, hF0, ite_not, i_push, i_iload, i_lload, i_aload, i_istore, i_astore, i_lstore, i_iinc, i_bin, i_dv, i_un, i_lbin, i_lsh, i_i2l, i_l2i, i_lcmp, i_dup, i_dup2, i_pop, i_if, i_icmp, i_goto, swG, i_sw, i_getf, i_puti, i_putz, i_putr, i_ald, i_lald, i_aald, i_ast, i_last, i_aast, i_alen, i_new, i_newi, i_newl, i_newq, i_oinit, i_ret, i_zret, i_lret, i_vret, catS, tk, rpush, isO, i_m1, i_m2, i_acopy, i_callV, i_callS, KRet, lget, lput, lputL, lcl0, isL, lv0, List.map_cons, List.map_nil, List.length_cons, List.length_nil, List.cons_append, List.nil_append, Nat.reduceAdd, Nat.reduceSub, Nat.reduceLeDiff, List.replicate_succ, List.replicate_zero, List.getElem?_cons_succ, List.getElem?_cons_zero, List.set_cons_succ, List.set_cons_zero, true_and, and_true, if_true, if_false, ↓reduceIte, Nat.le_refl, Value.category, va_up_app, eq_self, stp, Nat.reduceBEq, Bool.or_false, Bool.false_or, Bool.true_or, Bool.or_true, or_true, true_or, bx_uu, implies_true, true_implies, not_true, not_false_eq_true, false_implies, and_self, Nat.reduceLT, Int32.reduceAdd, Int32.reduceSub, Int32.reduceMul, Int32.reduceLE, Int32.reduceLT, Int32.reduceToNatClampNeg, va_rf_some, Bool.false_eq_true, k_X3_collectPairs_0 ca, k_X3_collectPairs_1 ca, k_X3_collectPairs_2 ca, k_X3_collectPairs_5 ca, k_X3_collectPairs_6 ca, k_X3_collectPairs_7 ca, k_X3_collectPairs_8 ca, k_X3_collectPairs_10 ca, k_X3_collectPairs_13 ca, k_X3_collectPairs_14 ca, k_X3_collectPairs_15 ca, k_X3_collectPairs_16 ca, k_X3_collectPairs_17 ca, k_X3_collectPairs_18 ca, k_X3_collectPairs_19 ca, k_X3_collectPairs_22 ca, k_X3_collectPairs_25 ca, k_X3_collectPairs_26 ca, k_X3_collectPairs_29 ca, k_X3_collectPairs_30 ca, k_X3_collectPairs_31 ca, k_X3_collectPairs_34 ca, k_X3_collectPairs_35 ca, k_X3_collectPairs_36 ca, k_X3_collectPairs_39 ca, k_X3_collectPairs_40 ca, k_X3_collectPairs_41 ca, k_X3_collectPairs_44 ca, k_X3_collectPairs_47 ca, k_X3_collectPairs_48 ca, k_X3_collectPairs_51 ca, k_X3_collectPairs_52 ca, k_X3_collectPairs_53 ca, k_X3_collectPairs_56 ca, k_X3_collectPairs_59 ca, k_X3_collectPairs_60 ca, k_X3_collectPairs_63 ca, k_X3_collectPairs_64 ca, k_X3_collectPairs_67 ca, k_X3_collectPairs_68 ca, k_X3_collectPairs_71 ca, k_X3_collectPairs_72 ca, k_X3_collectPairs_73 ca, k_X3_collectPairs_74 ca, k_X3_collectPairs_75 ca, k_X3_collectPairs_78 ca, k_X3_collectPairs_79 ca, k_X3_collectPairs_80 ca, k_X3_collectPairs_83 ca, k_X3_collectPairs_86 ca, k_X3_collectPairs_89 ca, a_1]
        try clear hF hF0 F
        exact k0
      have inner : ∀ r2 i, i + r2 = pc → (∀ i', i' < i → ¬ dz Nf (pr i') = dz Nf p) → K 0 0 17 [some (.ref x5), some (.int (nI p)), some (.int 1), some (.int (nI i))] [] H := by
        intro r2
        induction r2 with
        | zero =>
          intro i hi hno
          have hi : i = pc := hi
          subst hi
          have k0 := new hno (some (.int (nI i)))
          refine goN go (stp [59]) 160 _ _ _ _ _ _ (fun F hF hF0 => ?_)
          simp only [hF, hF0, ite_not, i_push, i_iload, i_lload, i_aload, i_istore, i_astore, i_lstore, i_iinc, i_bin, i_dv, i_un, i_lbin, i_lsh, i_i2l, i_l2i, i_lcmp, i_dup, i_dup2, i_pop, i_if, i_icmp, i_goto, swG, i_sw, i_getf, i_puti, i_putz, i_putr, i_ald, i_lald, i_aald, i_ast, i_last, i_aast, i_alen, i_new, i_newi, i_newl, i_newq, i_oinit, i_ret, i_zret, i_lret, i_vret, catS, tk, rpush, isO, i_m1, i_m2, i_acopy, i_callV, i_callS, KRet, lget, lput, lputL, lcl0, isL, lv0, List.map_cons, List.map_nil, List.length_cons, List.length_nil, List.cons_append, List.nil_append, Nat.reduceAdd, Nat.reduceSub, Nat.reduceLeDiff, List.replicate_succ, List.replicate_zero, List.getElem?_cons_succ, List.getElem?_cons_zero, List.set_cons_succ, List.set_cons_zero, true_and, and_true, if_true, if_false, ↓reduceIte, Nat.le_refl, Value.category, va_up_app, eq_self, stp, Nat.reduceBEq, Bool.or_false, Bool.false_or, Bool.true_or, Bool.or_true, or_true, true_or, bx_uu, implies_true, true_implies, not_true, not_false_eq_true, false_implies, and_self, Nat.reduceLT, Int32.reduceAdd, Int32.reduceSub, Int32.reduceMul, Int32.reduceLE, Int32.reduceLT, Int32.reduceToNatClampNeg, va_rf_some, Bool.false_eq_true, k_X3_collectPairs_0 ca, k_X3_collectPairs_1 ca, k_X3_collectPairs_2 ca, k_X3_collectPairs_5 ca, k_X3_collectPairs_6 ca, k_X3_collectPairs_7 ca, k_X3_collectPairs_8 ca, k_X3_collectPairs_10 ca, k_X3_collectPairs_13 ca, k_X3_collectPairs_14 ca, k_X3_collectPairs_15 ca, k_X3_collectPairs_16 ca, k_X3_collectPairs_17 ca, k_X3_collectPairs_18 ca, k_X3_collectPairs_19 ca, k_X3_collectPairs_22 ca, k_X3_collectPairs_25 ca, k_X3_collectPairs_26 ca, k_X3_collectPairs_29 ca, k_X3_collectPairs_30 ca, k_X3_collectPairs_31 ca, k_X3_collectPairs_34 ca, k_X3_collectPairs_35 ca, k_X3_collectPairs_36 ca, k_X3_collectPairs_39 ca, k_X3_collectPairs_40 ca, k_X3_collectPairs_41 ca, k_X3_collectPairs_44 ca, k_X3_collectPairs_47 ca, k_X3_collectPairs_48 ca, k_X3_collectPairs_51 ca, k_X3_collectPairs_52 ca, k_X3_collectPairs_53 ca, k_X3_collectPairs_56 ca, k_X3_collectPairs_59 ca, k_X3_collectPairs_60 ca, k_X3_collectPairs_63 ca, k_X3_collectPairs_64 ca, k_X3_collectPairs_67 ca, k_X3_collectPairs_68 ca, k_X3_collectPairs_71 ca, k_X3_collectPairs_72 ca, k_X3_collectPairs_73 ca, k_X3_collectPairs_74 ca, k_X3_collectPairs_75 ca, k_X3_collectPairs_78 ca, k_X3_collectPairs_79 ca, k_X3_collectPairs_80 ca, k_X3_collectPairs_83 ca, k_X3_collectPairs_86 ca, k_X3_collectPairs_89 ca, f0', Int32.le_refl]
          try clear hF hF0 F
          exact k0
        | succ r2 ih2 =>
          intro i hi hno
          have g2 : ¬ nI pc ≤ nI i := nI_ge (by omega) (by omega)
          have vi : vp_in (nI i) 36 := vp_in_nI (by omega) (by decide)
          have xi : (nI i).toNatClampNeg = i := nI_clamp (by omega)
          obtain ⟨y1, y2⟩ := hP.2.1 i (by omega)
          have b1 := dz_bd hN (show pr i < 36 by omega)
          have b2 := dz_bd hN (show p < 36 by omega)
          have ez := zI_eq (x := dz Nf (pr i)) (y := dz Nf p) (by omega) (by omega)
          refine goN go (stp [39]) 160 _ _ _ _ _ _ (fun F hF hF0 => ?_)
          simp only [hF, hF0, ite_not, i_push, i_iload, i_lload, i_aload, i_istore, i_astore, i_lstore, i_iinc, i_bin, i_dv, i_un, i_lbin, i_lsh, i_i2l, i_l2i, i_lcmp, i_dup, i_dup2, i_pop, i_if, i_icmp, i_goto, swG, i_sw, i_getf, i_puti, i_putz, i_putr, i_ald, i_lald, i_aald, i_ast, i_last, i_aast, i_alen, i_new, i_newi, i_newl, i_newq, i_oinit, i_ret, i_zret, i_lret, i_vret, catS, tk, rpush, isO, i_m1, i_m2, i_acopy, i_callV, i_callS, KRet, lget, lput, lputL, lcl0, isL, lv0, List.map_cons, List.map_nil, List.length_cons, List.length_nil, List.cons_append, List.nil_append, Nat.reduceAdd, Nat.reduceSub, Nat.reduceLeDiff, List.replicate_succ, List.replicate_zero, List.getElem?_cons_succ, List.getElem?_cons_zero, List.set_cons_succ, List.set_cons_zero, true_and, and_true, if_true, if_false, ↓reduceIte, Nat.le_refl, Value.category, va_up_app, eq_self, stp, Nat.reduceBEq, Bool.or_false, Bool.false_or, Bool.true_or, Bool.or_true, or_true, true_or, bx_uu, implies_true, true_implies, not_true, not_false_eq_true, false_implies, and_self, Nat.reduceLT, Int32.reduceAdd, Int32.reduceSub, Int32.reduceMul, Int32.reduceLE, Int32.reduceLT, Int32.reduceToNatClampNeg, va_rf_some, Bool.false_eq_true, k_X3_collectPairs_0 ca, k_X3_collectPairs_1 ca, k_X3_collectPairs_2 ca, k_X3_collectPairs_5 ca, k_X3_collectPairs_6 ca, k_X3_collectPairs_7 ca, k_X3_collectPairs_8 ca, k_X3_collectPairs_10 ca, k_X3_collectPairs_13 ca, k_X3_collectPairs_14 ca, k_X3_collectPairs_15 ca, k_X3_collectPairs_16 ca, k_X3_collectPairs_17 ca, k_X3_collectPairs_18 ca, k_X3_collectPairs_19 ca, k_X3_collectPairs_22 ca, k_X3_collectPairs_25 ca, k_X3_collectPairs_26 ca, k_X3_collectPairs_29 ca, k_X3_collectPairs_30 ca, k_X3_collectPairs_31 ca, k_X3_collectPairs_34 ca, k_X3_collectPairs_35 ca, k_X3_collectPairs_36 ca, k_X3_collectPairs_39 ca, k_X3_collectPairs_40 ca, k_X3_collectPairs_41 ca, k_X3_collectPairs_44 ca, k_X3_collectPairs_47 ca, k_X3_collectPairs_48 ca, k_X3_collectPairs_51 ca, k_X3_collectPairs_52 ca, k_X3_collectPairs_53 ca, k_X3_collectPairs_56 ca, k_X3_collectPairs_59 ca, k_X3_collectPairs_60 ca, k_X3_collectPairs_63 ca, k_X3_collectPairs_64 ca, k_X3_collectPairs_67 ca, k_X3_collectPairs_68 ca, k_X3_collectPairs_71 ca, k_X3_collectPairs_72 ca, k_X3_collectPairs_73 ca, k_X3_collectPairs_74 ca, k_X3_collectPairs_75 ca, k_X3_collectPairs_78 ca, k_X3_collectPairs_79 ca, k_X3_collectPairs_80 ca, k_X3_collectPairs_83 ca, k_X3_collectPairs_86 ca, k_X3_collectPairs_89 ca, g2, f0', f1, vi, xi, y1, one0]
          try clear hF hF0 F
          refine ⟨x5, nx, tm, pp, nI pc, ox, tx, Nf, pr i, by omega, rfl, f0, f2, ?_⟩
          refine goN go (stp [44]) 160 _ _ _ _ _ _ (fun F hF hF0 => ?_)
          simp only [hF, hF0, ite_not, i_push, i_iload, i_lload, i_aload, i_istore, i_astore, i_lstore, i_iinc, i_bin, i_dv, i_un, i_lbin, i_lsh, i_i2l, i_l2i, i_lcmp, i_dup, i_dup2, i_pop, i_if, i_icmp, i_goto, swG, i_sw, i_getf, i_puti, i_putz, i_putr, i_ald, i_lald, i_aald, i_ast, i_last, i_aast, i_alen, i_new, i_newi, i_newl, i_newq, i_oinit, i_ret, i_zret, i_lret, i_vret, catS, tk, rpush, isO, i_m1, i_m2, i_acopy, i_callV, i_callS, KRet, lget, lput, lputL, lcl0, isL, lv0, List.map_cons, List.map_nil, List.length_cons, List.length_nil, List.cons_append, List.nil_append, Nat.reduceAdd, Nat.reduceSub, Nat.reduceLeDiff, List.replicate_succ, List.replicate_zero, List.getElem?_cons_succ, List.getElem?_cons_zero, List.set_cons_succ, List.set_cons_zero, true_and, and_true, if_true, if_false, ↓reduceIte, Nat.le_refl, Value.category, va_up_app, eq_self, stp, Nat.reduceBEq, Bool.or_false, Bool.false_or, Bool.true_or, Bool.or_true, or_true, true_or, bx_uu, implies_true, true_implies, not_true, not_false_eq_true, false_implies, and_self, Nat.reduceLT, Int32.reduceAdd, Int32.reduceSub, Int32.reduceMul, Int32.reduceLE, Int32.reduceLT, Int32.reduceToNatClampNeg, va_rf_some, Bool.false_eq_true, k_X3_collectPairs_0 ca, k_X3_collectPairs_1 ca, k_X3_collectPairs_2 ca, k_X3_collectPairs_5 ca, k_X3_collectPairs_6 ca, k_X3_collectPairs_7 ca, k_X3_collectPairs_8 ca, k_X3_collectPairs_10 ca, k_X3_collectPairs_13 ca, k_X3_collectPairs_14 ca, k_X3_collectPairs_15 ca, k_X3_collectPairs_16 ca, k_X3_collectPairs_17 ca, k_X3_collectPairs_18 ca, k_X3_collectPairs_19 ca, k_X3_collectPairs_22 ca, k_X3_collectPairs_25 ca, k_X3_collectPairs_26 ca, k_X3_collectPairs_29 ca, k_X3_collectPairs_30 ca, k_X3_collectPairs_31 ca, k_X3_collectPairs_34 ca, k_X3_collectPairs_35 ca, k_X3_collectPairs_36 ca, k_X3_collectPairs_39 ca, k_X3_collectPairs_40 ca, k_X3_collectPairs_41 ca, k_X3_collectPairs_44 ca, k_X3_collectPairs_47 ca, k_X3_collectPairs_48 ca, k_X3_collectPairs_51 ca, k_X3_collectPairs_52 ca, k_X3_collectPairs_53 ca, k_X3_collectPairs_56 ca, k_X3_collectPairs_59 ca, k_X3_collectPairs_60 ca, k_X3_collectPairs_63 ca, k_X3_collectPairs_64 ca, k_X3_collectPairs_67 ca, k_X3_collectPairs_68 ca, k_X3_collectPairs_71 ca, k_X3_collectPairs_72 ca, k_X3_collectPairs_73 ca, k_X3_collectPairs_74 ca, k_X3_collectPairs_75 ca, k_X3_collectPairs_78 ca, k_X3_collectPairs_79 ca, k_X3_collectPairs_80 ca, k_X3_collectPairs_83 ca, k_X3_collectPairs_86 ca, k_X3_collectPairs_89 ca, f0']
          try clear hF hF0 F
          refine ⟨x5, nx, tm, pp, nI pc, ox, tx, Nf, p, by omega, rfl, f0, f2, ?_⟩
          by_cases q : dz Nf (pr i) = dz Nf p
          · have k0 := old i (by omega) q (some (.int (nI (i + 1))))
            by_cases q3 : nI pc ≤ nI (i + 1)
            · refine goN go (stp [59]) 160 _ _ _ _ _ _ (fun F hF hF0 => ?_)
              simp only [hF, hF0, ite_not, i_push, i_iload, i_lload, i_aload, i_istore, i_astore, i_lstore, i_iinc, i_bin, i_dv, i_un, i_lbin, i_lsh, i_i2l, i_l2i, i_lcmp, i_dup, i_dup2, i_pop, i_if, i_icmp, i_goto, swG, i_sw, i_getf, i_puti, i_putz, i_putr, i_ald, i_lald, i_aald, i_ast, i_last, i_aast, i_alen, i_new, i_newi, i_newl, i_newq, i_oinit, i_ret, i_zret, i_lret, i_vret, catS, tk, rpush, isO, i_m1, i_m2, i_acopy, i_callV, i_callS, KRet, lget, lput, lputL, lcl0, isL, lv0, List.map_cons, List.map_nil, List.length_cons, List.length_nil, List.cons_append, List.nil_append, Nat.reduceAdd, Nat.reduceSub, Nat.reduceLeDiff, List.replicate_succ, List.replicate_zero, List.getElem?_cons_succ, List.getElem?_cons_zero, List.set_cons_succ, List.set_cons_zero, true_and, and_true, if_true, if_false, ↓reduceIte, Nat.le_refl, Value.category, va_up_app, eq_self, stp, Nat.reduceBEq, Bool.or_false, Bool.false_or, Bool.true_or, Bool.or_true, or_true, true_or, bx_uu, implies_true, true_implies, not_true, not_false_eq_true, false_implies, and_self, Nat.reduceLT, Int32.reduceAdd, Int32.reduceSub, Int32.reduceMul, Int32.reduceLE, Int32.reduceLT, Int32.reduceToNatClampNeg, va_rf_some, Bool.false_eq_true, k_X3_collectPairs_0 ca, k_X3_collectPairs_1 ca, k_X3_collectPairs_2 ca, k_X3_collectPairs_5 ca, k_X3_collectPairs_6 ca, k_X3_collectPairs_7 ca, k_X3_collectPairs_8 ca, k_X3_collectPairs_10 ca, k_X3_collectPairs_13 ca, k_X3_collectPairs_14 ca, k_X3_collectPairs_15 ca, k_X3_collectPairs_16 ca, k_X3_collectPairs_17 ca, k_X3_collectPairs_18 ca, k_X3_collectPairs_19 ca, k_X3_collectPairs_22 ca, k_X3_collectPairs_25 ca, k_X3_collectPairs_26 ca, k_X3_collectPairs_29 ca, k_X3_collectPairs_30 ca, k_X3_collectPairs_31 ca, k_X3_collectPairs_34 ca, k_X3_collectPairs_35 ca, k_X3_collectPairs_36 ca, k_X3_collectPairs_39 ca, k_X3_collectPairs_40 ca, k_X3_collectPairs_41 ca, k_X3_collectPairs_44 ca, k_X3_collectPairs_47 ca, k_X3_collectPairs_48 ca, k_X3_collectPairs_51 ca, k_X3_collectPairs_52 ca, k_X3_collectPairs_53 ca, k_X3_collectPairs_56 ca, k_X3_collectPairs_59 ca, k_X3_collectPairs_60 ca, k_X3_collectPairs_63 ca, k_X3_collectPairs_64 ca, k_X3_collectPairs_67 ca, k_X3_collectPairs_68 ca, k_X3_collectPairs_71 ca, k_X3_collectPairs_72 ca, k_X3_collectPairs_73 ca, k_X3_collectPairs_74 ca, k_X3_collectPairs_75 ca, k_X3_collectPairs_78 ca, k_X3_collectPairs_79 ca, k_X3_collectPairs_80 ca, k_X3_collectPairs_83 ca, k_X3_collectPairs_86 ca, k_X3_collectPairs_89 ca, ez, q, f0', a_1, q3]
              try clear hF hF0 F
              exact k0
            · refine goN go (stp [59]) 160 _ _ _ _ _ _ (fun F hF hF0 => ?_)
              simp only [hF, hF0, ite_not, i_push, i_iload, i_lload, i_aload, i_istore, i_astore, i_lstore, i_iinc, i_bin, i_dv, i_un, i_lbin, i_lsh, i_i2l, i_l2i, i_lcmp, i_dup, i_dup2, i_pop, i_if, i_icmp, i_goto, swG, i_sw, i_getf, i_puti, i_putz, i_putr, i_ald, i_lald, i_aald, i_ast, i_last, i_aast, i_alen, i_new, i_newi, i_newl, i_newq, i_oinit, i_ret, i_zret, i_lret, i_vret, catS, tk, rpush, isO, i_m1, i_m2, i_acopy, i_callV, i_callS, KRet, lget, lput, lputL, lcl0, isL, lv0, List.map_cons, List.map_nil, List.length_cons, List.length_nil, List.cons_append, List.nil_append, Nat.reduceAdd, Nat.reduceSub, Nat.reduceLeDiff, List.replicate_succ, List.replicate_zero, List.getElem?_cons_succ, List.getElem?_cons_zero, List.set_cons_succ, List.set_cons_zero, true_and, and_true, if_true, if_false, ↓reduceIte, Nat.le_refl, Value.category, va_up_app, eq_self, stp, Nat.reduceBEq, Bool.or_false, Bool.false_or, Bool.true_or, Bool.or_true, or_true, true_or, bx_uu, implies_true, true_implies, not_true, not_false_eq_true, false_implies, and_self, Nat.reduceLT, Int32.reduceAdd, Int32.reduceSub, Int32.reduceMul, Int32.reduceLE, Int32.reduceLT, Int32.reduceToNatClampNeg, va_rf_some, Bool.false_eq_true, k_X3_collectPairs_0 ca, k_X3_collectPairs_1 ca, k_X3_collectPairs_2 ca, k_X3_collectPairs_5 ca, k_X3_collectPairs_6 ca, k_X3_collectPairs_7 ca, k_X3_collectPairs_8 ca, k_X3_collectPairs_10 ca, k_X3_collectPairs_13 ca, k_X3_collectPairs_14 ca, k_X3_collectPairs_15 ca, k_X3_collectPairs_16 ca, k_X3_collectPairs_17 ca, k_X3_collectPairs_18 ca, k_X3_collectPairs_19 ca, k_X3_collectPairs_22 ca, k_X3_collectPairs_25 ca, k_X3_collectPairs_26 ca, k_X3_collectPairs_29 ca, k_X3_collectPairs_30 ca, k_X3_collectPairs_31 ca, k_X3_collectPairs_34 ca, k_X3_collectPairs_35 ca, k_X3_collectPairs_36 ca, k_X3_collectPairs_39 ca, k_X3_collectPairs_40 ca, k_X3_collectPairs_41 ca, k_X3_collectPairs_44 ca, k_X3_collectPairs_47 ca, k_X3_collectPairs_48 ca, k_X3_collectPairs_51 ca, k_X3_collectPairs_52 ca, k_X3_collectPairs_53 ca, k_X3_collectPairs_56 ca, k_X3_collectPairs_59 ca, k_X3_collectPairs_60 ca, k_X3_collectPairs_63 ca, k_X3_collectPairs_64 ca, k_X3_collectPairs_67 ca, k_X3_collectPairs_68 ca, k_X3_collectPairs_71 ca, k_X3_collectPairs_72 ca, k_X3_collectPairs_73 ca, k_X3_collectPairs_74 ca, k_X3_collectPairs_75 ca, k_X3_collectPairs_78 ca, k_X3_collectPairs_79 ca, k_X3_collectPairs_80 ca, k_X3_collectPairs_83 ca, k_X3_collectPairs_86 ca, k_X3_collectPairs_89 ca, ez, q, f0', a_1, q3]
              try clear hF hF0 F
              exact k0
          · have k0 := ih2 (i + 1) (by omega) (fun i' h' => by
              by_cases z : i' = i
              · rw [z]; exact q
              · exact hno i' (by omega))
            refine goN go (stp [17]) 160 _ _ _ _ _ _ (fun F hF hF0 => ?_)
            simp only [hF, hF0, ite_not, i_push, i_iload, i_lload, i_aload, i_istore, i_astore, i_lstore, i_iinc, i_bin, i_dv, i_un, i_lbin, i_lsh, i_i2l, i_l2i, i_lcmp, i_dup, i_dup2, i_pop, i_if, i_icmp, i_goto, swG, i_sw, i_getf, i_puti, i_putz, i_putr, i_ald, i_lald, i_aald, i_ast, i_last, i_aast, i_alen, i_new, i_newi, i_newl, i_newq, i_oinit, i_ret, i_zret, i_lret, i_vret, catS, tk, rpush, isO, i_m1, i_m2, i_acopy, i_callV, i_callS, KRet, lget, lput, lputL, lcl0, isL, lv0, List.map_cons, List.map_nil, List.length_cons, List.length_nil, List.cons_append, List.nil_append, Nat.reduceAdd, Nat.reduceSub, Nat.reduceLeDiff, List.replicate_succ, List.replicate_zero, List.getElem?_cons_succ, List.getElem?_cons_zero, List.set_cons_succ, List.set_cons_zero, true_and, and_true, if_true, if_false, ↓reduceIte, Nat.le_refl, Value.category, va_up_app, eq_self, stp, Nat.reduceBEq, Bool.or_false, Bool.false_or, Bool.true_or, Bool.or_true, or_true, true_or, bx_uu, implies_true, true_implies, not_true, not_false_eq_true, false_implies, and_self, Nat.reduceLT, Int32.reduceAdd, Int32.reduceSub, Int32.reduceMul, Int32.reduceLE, Int32.reduceLT, Int32.reduceToNatClampNeg, va_rf_some, Bool.false_eq_true, k_X3_collectPairs_0 ca, k_X3_collectPairs_1 ca, k_X3_collectPairs_2 ca, k_X3_collectPairs_5 ca, k_X3_collectPairs_6 ca, k_X3_collectPairs_7 ca, k_X3_collectPairs_8 ca, k_X3_collectPairs_10 ca, k_X3_collectPairs_13 ca, k_X3_collectPairs_14 ca, k_X3_collectPairs_15 ca, k_X3_collectPairs_16 ca, k_X3_collectPairs_17 ca, k_X3_collectPairs_18 ca, k_X3_collectPairs_19 ca, k_X3_collectPairs_22 ca, k_X3_collectPairs_25 ca, k_X3_collectPairs_26 ca, k_X3_collectPairs_29 ca, k_X3_collectPairs_30 ca, k_X3_collectPairs_31 ca, k_X3_collectPairs_34 ca, k_X3_collectPairs_35 ca, k_X3_collectPairs_36 ca, k_X3_collectPairs_39 ca, k_X3_collectPairs_40 ca, k_X3_collectPairs_41 ca, k_X3_collectPairs_44 ca, k_X3_collectPairs_47 ca, k_X3_collectPairs_48 ca, k_X3_collectPairs_51 ca, k_X3_collectPairs_52 ca, k_X3_collectPairs_53 ca, k_X3_collectPairs_56 ca, k_X3_collectPairs_59 ca, k_X3_collectPairs_60 ca, k_X3_collectPairs_63 ca, k_X3_collectPairs_64 ca, k_X3_collectPairs_67 ca, k_X3_collectPairs_68 ca, k_X3_collectPairs_71 ca, k_X3_collectPairs_72 ca, k_X3_collectPairs_73 ca, k_X3_collectPairs_74 ca, k_X3_collectPairs_75 ca, k_X3_collectPairs_78 ca, k_X3_collectPairs_79 ca, k_X3_collectPairs_80 ca, k_X3_collectPairs_83 ca, k_X3_collectPairs_86 ca, k_X3_collectPairs_89 ca, ez, q, a_1]
            try clear hF hF0 F
            exact k0
      have k0 := inner pc 0 (by omega) (fun i h' => absurd h' (by omega))
      rw [nI_0] at k0
      refine goN go (stp [17]) 160 _ _ _ _ _ _ (fun F hF hF0 => ?_)
      simp only [hF, hF0, ite_not, i_push, i_iload, i_lload, i_aload, i_istore, i_astore, i_lstore, i_iinc, i_bin, i_dv, i_un, i_lbin, i_lsh, i_i2l, i_l2i, i_lcmp, i_dup, i_dup2, i_pop, i_if, i_icmp, i_goto, swG, i_sw, i_getf, i_puti, i_putz, i_putr, i_ald, i_lald, i_aald, i_ast, i_last, i_aast, i_alen, i_new, i_newi, i_newl, i_newq, i_oinit, i_ret, i_zret, i_lret, i_vret, catS, tk, rpush, isO, i_m1, i_m2, i_acopy, i_callV, i_callS, KRet, lget, lput, lputL, lcl0, isL, lv0, List.map_cons, List.map_nil, List.length_cons, List.length_nil, List.cons_append, List.nil_append, Nat.reduceAdd, Nat.reduceSub, Nat.reduceLeDiff, List.replicate_succ, List.replicate_zero, List.getElem?_cons_succ, List.getElem?_cons_zero, List.set_cons_succ, List.set_cons_zero, true_and, and_true, if_true, if_false, ↓reduceIte, Nat.le_refl, Value.category, va_up_app, eq_self, stp, Nat.reduceBEq, Bool.or_false, Bool.false_or, Bool.true_or, Bool.or_true, or_true, true_or, bx_uu, implies_true, true_implies, not_true, not_false_eq_true, false_implies, and_self, Nat.reduceLT, Int32.reduceAdd, Int32.reduceSub, Int32.reduceMul, Int32.reduceLE, Int32.reduceLT, Int32.reduceToNatClampNeg, va_rf_some, Bool.false_eq_true, k_X3_collectPairs_0 ca, k_X3_collectPairs_1 ca, k_X3_collectPairs_2 ca, k_X3_collectPairs_5 ca, k_X3_collectPairs_6 ca, k_X3_collectPairs_7 ca, k_X3_collectPairs_8 ca, k_X3_collectPairs_10 ca, k_X3_collectPairs_13 ca, k_X3_collectPairs_14 ca, k_X3_collectPairs_15 ca, k_X3_collectPairs_16 ca, k_X3_collectPairs_17 ca, k_X3_collectPairs_18 ca, k_X3_collectPairs_19 ca, k_X3_collectPairs_22 ca, k_X3_collectPairs_25 ca, k_X3_collectPairs_26 ca, k_X3_collectPairs_29 ca, k_X3_collectPairs_30 ca, k_X3_collectPairs_31 ca, k_X3_collectPairs_34 ca, k_X3_collectPairs_35 ca, k_X3_collectPairs_36 ca, k_X3_collectPairs_39 ca, k_X3_collectPairs_40 ca, k_X3_collectPairs_41 ca, k_X3_collectPairs_44 ca, k_X3_collectPairs_47 ca, k_X3_collectPairs_48 ca, k_X3_collectPairs_51 ca, k_X3_collectPairs_52 ca, k_X3_collectPairs_53 ca, k_X3_collectPairs_56 ca, k_X3_collectPairs_59 ca, k_X3_collectPairs_60 ca, k_X3_collectPairs_63 ca, k_X3_collectPairs_64 ca, k_X3_collectPairs_67 ca, k_X3_collectPairs_68 ca, k_X3_collectPairs_71 ca, k_X3_collectPairs_72 ca, k_X3_collectPairs_73 ca, k_X3_collectPairs_74 ca, k_X3_collectPairs_75 ca, k_X3_collectPairs_78 ca, k_X3_collectPairs_79 ca, k_X3_collectPairs_80 ca, k_X3_collectPairs_83 ca, k_X3_collectPairs_86 ca, k_X3_collectPairs_89 ca, g1]
      try clear hF hF0 F
      exact k0
  have k0 := key 36 0 0 pf0 (fun _ => 0) none none (by omega) ⟨by omega, fun i hi => absurd hi (by omega), fun i j _ hj => absurd hj (by omega), fun p' hp' => absurd hp' (by omega)⟩
  unfold eSF at k0
  rw [up_id e1, nI_0] at k0
  refine goN go (stp [7]) 160 _ _ _ _ _ _ (fun F hF hF0 => ?_)
  simp only [hF, hF0, ite_not, i_push, i_iload, i_lload, i_aload, i_istore, i_astore, i_lstore, i_iinc, i_bin, i_dv, i_un, i_lbin, i_lsh, i_i2l, i_l2i, i_lcmp, i_dup, i_dup2, i_pop, i_if, i_icmp, i_goto, swG, i_sw, i_getf, i_puti, i_putz, i_putr, i_ald, i_lald, i_aald, i_ast, i_last, i_aast, i_alen, i_new, i_newi, i_newl, i_newq, i_oinit, i_ret, i_zret, i_lret, i_vret, catS, tk, rpush, isO, i_m1, i_m2, i_acopy, i_callV, i_callS, KRet, lget, lput, lputL, lcl0, isL, lv0, List.map_cons, List.map_nil, List.length_cons, List.length_nil, List.cons_append, List.nil_append, Nat.reduceAdd, Nat.reduceSub, Nat.reduceLeDiff, List.replicate_succ, List.replicate_zero, List.getElem?_cons_succ, List.getElem?_cons_zero, List.set_cons_succ, List.set_cons_zero, true_and, and_true, if_true, if_false, ↓reduceIte, Nat.le_refl, Value.category, va_up_app, eq_self, stp, Nat.reduceBEq, Bool.or_false, Bool.false_or, Bool.true_or, Bool.or_true, or_true, true_or, bx_uu, implies_true, true_implies, not_true, not_false_eq_true, false_implies, and_self, Nat.reduceLT, Int32.reduceAdd, Int32.reduceSub, Int32.reduceMul, Int32.reduceLE, Int32.reduceLT, Int32.reduceToNatClampNeg, va_rf_some, Bool.false_eq_true, k_X3_collectPairs_0 ca, k_X3_collectPairs_1 ca, k_X3_collectPairs_2 ca, k_X3_collectPairs_5 ca, k_X3_collectPairs_6 ca, k_X3_collectPairs_7 ca, k_X3_collectPairs_8 ca, k_X3_collectPairs_10 ca, k_X3_collectPairs_13 ca, k_X3_collectPairs_14 ca, k_X3_collectPairs_15 ca, k_X3_collectPairs_16 ca, k_X3_collectPairs_17 ca, k_X3_collectPairs_18 ca, k_X3_collectPairs_19 ca, k_X3_collectPairs_22 ca, k_X3_collectPairs_25 ca, k_X3_collectPairs_26 ca, k_X3_collectPairs_29 ca, k_X3_collectPairs_30 ca, k_X3_collectPairs_31 ca, k_X3_collectPairs_34 ca, k_X3_collectPairs_35 ca, k_X3_collectPairs_36 ca, k_X3_collectPairs_39 ca, k_X3_collectPairs_40 ca, k_X3_collectPairs_41 ca, k_X3_collectPairs_44 ca, k_X3_collectPairs_47 ca, k_X3_collectPairs_48 ca, k_X3_collectPairs_51 ca, k_X3_collectPairs_52 ca, k_X3_collectPairs_53 ca, k_X3_collectPairs_56 ca, k_X3_collectPairs_59 ca, k_X3_collectPairs_60 ca, k_X3_collectPairs_63 ca, k_X3_collectPairs_64 ca, k_X3_collectPairs_67 ca, k_X3_collectPairs_68 ca, k_X3_collectPairs_71 ca, k_X3_collectPairs_72 ca, k_X3_collectPairs_73 ca, k_X3_collectPairs_74 ca, k_X3_collectPairs_75 ca, k_X3_collectPairs_78 ca, k_X3_collectPairs_79 ca, k_X3_collectPairs_80 ca, k_X3_collectPairs_83 ca, k_X3_collectPairs_86 ca, k_X3_collectPairs_89 ca, e0']
  try clear hF hF0 F
  exact k0
def Inv1 (Nf pr : Nat → Nat) (pc : Nat) (bo : Nat → Int32) (i l : Nat) : Prop := ∀ z T : Nat, z ≤ 270 → T < 32 → (bt (bo z) T = true ↔ ∃ i' : Nat, i' < pc ∧ (i' < i ∨ (i' = i ∧ T < l)) ∧ 1 ≤ T ∧ T ≤ 9 ∧ T * (dz Nf (pr i')).natAbs = z)
theorem bt_1l {l T : Nat} (hl : l < 32) (hT : T < 32) : bt ((1 : Int32) <<< (nI l &&& 31)) T = decide (T = l) := by
  rw [b_shl l hl 1 hT]
  by_cases q : l ≤ T
  · rw [decide_eq_true q, Bool.true_and, b_1 (T - l) (by omega)]
    by_cases z : T = l
    · rw [decide_eq_true z, decide_eq_true (by omega)]
    · rw [decide_eq_false z, decide_eq_false (by omega)]
  · rw [decide_eq_false q, Bool.false_and, decide_eq_false (by omega)]
theorem Inv1_s {Nf pr : Nat → Nat} {pc : Nat} {bo : Nat → Int32} {i l : Nat} (hi : i < pc) (hl : 1 ≤ l ∧ l ≤ 9) (h : Inv1 Nf pr pc bo i l) : Inv1 Nf pr pc (upd bo (l * (dz Nf (pr i)).natAbs) (bo (l * (dz Nf (pr i)).natAbs) ||| ((1 : Int32) <<< (nI l &&& 31)))) i (l + 1) := by
  intro z T hz hT
  rw [upd_app]
  by_cases q : z = l * (dz Nf (pr i)).natAbs
  · rw [if_pos q, b_or, bt_1l (by omega) hT, Bool.or_eq_true, decide_eq_true_eq, ← q, h z T hz hT]
    constructor
    · rintro (⟨i', h1, h2, h3, h4, h5⟩ | h1)
      · exact ⟨i', h1, by omega, h3, h4, h5⟩
      · subst h1
        exact ⟨i, hi, Or.inr ⟨rfl, by omega⟩, hl.1, hl.2, q.symm⟩
    · rintro ⟨i', h1, h2, h3, h4, h5⟩
      by_cases w : T = l
      · exact Or.inr w
      · exact Or.inl ⟨i', h1, by omega, h3, h4, h5⟩
  · rw [if_neg q, h z T hz hT]
    constructor
    · rintro ⟨i', h1, h2, h3, h4, h5⟩
      exact ⟨i', h1, by omega, h3, h4, h5⟩
    · rintro ⟨i', h1, h2, h3, h4, h5⟩
      refine ⟨i', h1, ?_, h3, h4, h5⟩
      by_cases w : i' = i ∧ T = l
      · obtain ⟨rfl, rfl⟩ := w
        exact absurd h5.symm q
      · omega
theorem Inv1_n {Nf pr : Nat → Nat} {pc : Nat} {bo : Nat → Int32} {i : Nat} (h : Inv1 Nf pr pc bo i 10) : Inv1 Nf pr pc bo (i + 1) 1 := by
  intro z T hz hT
  rw [h z T hz hT]
  constructor
  · rintro ⟨i', h1, h2, h3, h4, h5⟩
    exact ⟨i', h1, by omega, h3, h4, h5⟩
  · rintro ⟨i', h1, h2, h3, h4, h5⟩
    exact ⟨i', h1, by omega, h3, h4, h5⟩
theorem T_mul {T n : Nat} {x : Int} (hT : 1 ≤ T ∧ T ≤ 9) : (T : Int) * x = (n : Int) ↔ 0 ≤ x ∧ T * x.natAbs = n := by
  have h9 : T = 1 ∨ T = 2 ∨ T = 3 ∨ T = 4 ∨ T = 5 ∨ T = 6 ∨ T = 7 ∨ T = 8 ∨ T = 9 := by omega
  rcases h9 with rfl | rfl | rfl | rfl | rfl | rfl | rfl | rfl | rfl <;> omega
theorem Inv1_z {Nf pr : Nat → Nat} {pf : Nat → Int32} {pc : Nat} {bo : Nat → Int32} (hp : PO Nf pf pc pr) (h : Inv1 Nf pr pc bo pc 1) : ∀ z : Nat, z ≤ 270 → Lens Nf (bo z) 1 z := by
  intro z hz T hT
  rw [h z T hz hT]
  constructor
  · rintro ⟨i', h1, h2, h3, h4, h5⟩
    have hy := (hp.2.1 i' h1).2
    by_cases q : 0 ≤ dz Nf (pr i')
    · refine ⟨T, pr i', h3, h4, hy, by omega, ?_⟩
      rw [(T_mul ⟨h3, h4⟩).mpr ⟨q, h5⟩]
      omega
    · obtain ⟨p2, hp2, e⟩ := dz_sym (Nf := Nf) hy
      refine ⟨T, p2, h3, h4, hp2, by omega, ?_⟩
      rw [(T_mul (n := z) ⟨h3, h4⟩).mpr ⟨by rw [e]; omega, by rw [e, Int.natAbs_neg]; exact h5⟩]
      omega
  · rintro ⟨l, p, h1, h2, h3, h4, h5⟩
    have hl : l = T := by omega
    subst hl
    obtain ⟨i, hi, e, -⟩ := hp.2.2.2 p h3
    refine ⟨i, hi, Or.inl hi, h1, h2, ?_⟩
    rw [e]
    exact ((T_mul ⟨h1, h2⟩).mp (by omega)).2
def sp_X3_fillByOne (ca : Nat → ClassId) : SPEC := fun av h post => ∃ x5 nx tm pp pc ox tx Nf pr bo0, av = [.ref x5] ∧ h x5 = some (eSF nx tm pp (nI pc) ox tx) ∧ NumA ca h nx Nf ∧ Nm Nf ∧ PairsA ca h pp pc Nf pr ∧ h ox = some (.inl (ca 0, 271, .inl bo0)) ∧ ¬ x5 = ox ∧ ¬ nx = ox ∧ ¬ pp = ox ∧
  ∀ bo, (∀ z : Nat, z ≤ 270 → Lens Nf (bo z) 1 z) → post none (va_up h ox (some (.inl (ca 0, 271, .inl bo))))
def k_X3_fillByOne (ca : Nat → ClassId) : Nat → IT := fun pc => lk pc [(0, i_aload 0 1),
  (1, i_getf 3 4 4),
  (4, i_push (.int 0) 5),
  (5, i_callS 2 0 0 0 0 (sp_J7_fill_53178 ca) 8),
  (8, i_push (.int 0) 9),
  (9, i_istore 1 10),
  (10, i_iload 1 11),
  (11, i_aload 0 12),
  (12, i_getf 3 3 15),
  (15, i_icmp (fun x y => y ≤ x) 66 18),
  (18, i_aload 0 19),
  (19, i_aload 0 20),
  (20, i_getf 3 2 23),
  (23, i_iload 1 24),
  (24, i_ald (ca 0) 25),
  (25, i_callV 3 1 0 0 0 0 (sp_X3_difference ca) 28),
  (28, i_m1 (fun x => if 0 ≤ x then x else 0 - x) 0 0 31),
  (31, i_istore 2 32),
  (32, i_push (.int 1) 33),
  (33, i_istore 3 34),
  (34, i_iload 3 35),
  (35, i_push (.int 9) 37),
  (37, i_icmp (fun x y => y < x) 60 40),
  (40, i_aload 0 41),
  (41, i_getf 3 4 44),
  (44, i_iload 3 45),
  (45, i_iload 2 46),
  (46, i_bin (fun x y => x * y) 47),
  (47, i_dup2 48),
  (48, i_ald (ca 0) 49),
  (49, i_push (.int 1) 50),
  (50, i_iload 3 51),
  (51, i_bin (fun x y => x <<< (y &&& 31)) 52),
  (52, i_bin (fun x y => x ||| y) 53),
  (53, i_ast (fun x => x) (ca 0) 54),
  (54, i_iinc 3 1 57),
  (57, i_goto 34),
  (60, i_iinc 1 1 63),
  (63, i_goto 10),
  (66, i_vret)]
set_option maxRecDepth 20000 in
theorem t_X3_fillByOne : Tb k_X3_fillByOne yX3_fillByOne cX3_fillByOne 4 none 1 0 0 := by
  intro l D ca A p e s m args below meth c post X
  unfold k_X3_fillByOne
  refine snd_cons (snd_aload_n X dX3_fillByOne_0 rfl) ?_
  refine snd_cons (snd_getf X Fk3 4 (by decide) w_238 dX3_fillByOne_1) ?_
  refine snd_cons (snd_iconst X dX3_fillByOne_4 (by decide)) ?_
  refine snd_cons (snd_callJ X (ok_J7_fill_53178 l D ca) rfl rfl w_533 w_500 w_12 w_501 (by decide) (by decide) dX3_fillByOne_5) ?_
  refine snd_cons (snd_iconst X dX3_fillByOne_8 (by decide)) ?_
  refine snd_cons (snd_istore_n X dX3_fillByOne_9 rfl (by decide)) ?_
  refine snd_cons (snd_iload_n X dX3_fillByOne_10 rfl) ?_
  refine snd_cons (snd_aload_n X dX3_fillByOne_11 rfl) ?_
  refine snd_cons (snd_getf X Fk3 3 (by decide) w_237 dX3_fillByOne_12) ?_
  refine snd_cons (snd_icmp_ge X dX3_fillByOne_15 (by decide)) ?_
  refine snd_cons (snd_aload_n X dX3_fillByOne_18 rfl) ?_
  refine snd_cons (snd_aload_n X dX3_fillByOne_19 rfl) ?_
  refine snd_cons (snd_getf X Fk3 2 (by decide) w_236 dX3_fillByOne_20) ?_
  refine snd_cons (snd_iload_n X dX3_fillByOne_23 rfl) ?_
  refine snd_cons (snd_iaload X dX3_fillByOne_24) ?_
  refine snd_cons (snd_callV X Fk3 (ok_X3_difference l D ca) rfl rfl w_525 w_527 wp_6 w_8 w_528 (by decide) (by decide) dX3_fillByOne_25) ?_
  refine snd_cons (snd_mabs X rfl rfl w_534 w_535 w_11 w_536 (by decide) (by decide) dX3_fillByOne_28) ?_
  refine snd_cons (snd_istore_n X dX3_fillByOne_31 rfl (by decide)) ?_
  refine snd_cons (snd_iconst X dX3_fillByOne_32 (by decide)) ?_
  refine snd_cons (snd_istore_n X dX3_fillByOne_33 rfl (by decide)) ?_
  refine snd_cons (snd_iload_n X dX3_fillByOne_34 rfl) ?_
  refine snd_cons (snd_bipush X dX3_fillByOne_35 (by decide)) ?_
  refine snd_cons (snd_icmp_gt X dX3_fillByOne_37 (by decide)) ?_
  refine snd_cons (snd_aload_n X dX3_fillByOne_40 rfl) ?_
  refine snd_cons (snd_getf X Fk3 4 (by decide) w_238 dX3_fillByOne_41) ?_
  refine snd_cons (snd_iload_n X dX3_fillByOne_44 rfl) ?_
  refine snd_cons (snd_iload_n X dX3_fillByOne_45 rfl) ?_
  refine snd_cons (snd_imul X dX3_fillByOne_46) ?_
  refine snd_cons (snd_dup2 X dX3_fillByOne_47) ?_
  refine snd_cons (snd_iaload X dX3_fillByOne_48) ?_
  refine snd_cons (snd_iconst X dX3_fillByOne_49 (by decide)) ?_
  refine snd_cons (snd_iload_n X dX3_fillByOne_50 rfl) ?_
  refine snd_cons (snd_ishl X dX3_fillByOne_51) ?_
  refine snd_cons (snd_ior X dX3_fillByOne_52) ?_
  refine snd_cons (snd_iastore X dX3_fillByOne_53) ?_
  refine snd_cons (snd_iinc X dX3_fillByOne_54 (by decide) (by decide)) ?_
  refine snd_cons (snd_goto X dX3_fillByOne_57 (by decide)) ?_
  refine snd_cons (snd_iinc X dX3_fillByOne_60 (by decide) (by decide)) ?_
  refine snd_cons (snd_goto X dX3_fillByOne_63 (by decide)) ?_
  refine snd_cons (snd_vret X dX3_fillByOne_66) ?_
  exact snd_nil
theorem k_X3_fillByOne_0 (ca : Nat → ClassId) : k_X3_fillByOne ca 0 = i_aload 0 1 := rfl
theorem k_X3_fillByOne_1 (ca : Nat → ClassId) : k_X3_fillByOne ca 1 = i_getf 3 4 4 := rfl
theorem k_X3_fillByOne_4 (ca : Nat → ClassId) : k_X3_fillByOne ca 4 = i_push (.int 0) 5 := rfl
theorem k_X3_fillByOne_5 (ca : Nat → ClassId) : k_X3_fillByOne ca 5 = i_callS 2 0 0 0 0 (sp_J7_fill_53178 ca) 8 := rfl
theorem k_X3_fillByOne_8 (ca : Nat → ClassId) : k_X3_fillByOne ca 8 = i_push (.int 0) 9 := rfl
theorem k_X3_fillByOne_9 (ca : Nat → ClassId) : k_X3_fillByOne ca 9 = i_istore 1 10 := rfl
theorem k_X3_fillByOne_10 (ca : Nat → ClassId) : k_X3_fillByOne ca 10 = i_iload 1 11 := rfl
theorem k_X3_fillByOne_11 (ca : Nat → ClassId) : k_X3_fillByOne ca 11 = i_aload 0 12 := rfl
theorem k_X3_fillByOne_12 (ca : Nat → ClassId) : k_X3_fillByOne ca 12 = i_getf 3 3 15 := rfl
theorem k_X3_fillByOne_15 (ca : Nat → ClassId) : k_X3_fillByOne ca 15 = i_icmp (fun x y => y ≤ x) 66 18 := rfl
theorem k_X3_fillByOne_18 (ca : Nat → ClassId) : k_X3_fillByOne ca 18 = i_aload 0 19 := rfl
theorem k_X3_fillByOne_19 (ca : Nat → ClassId) : k_X3_fillByOne ca 19 = i_aload 0 20 := rfl
theorem k_X3_fillByOne_20 (ca : Nat → ClassId) : k_X3_fillByOne ca 20 = i_getf 3 2 23 := rfl
theorem k_X3_fillByOne_23 (ca : Nat → ClassId) : k_X3_fillByOne ca 23 = i_iload 1 24 := rfl
theorem k_X3_fillByOne_24 (ca : Nat → ClassId) : k_X3_fillByOne ca 24 = i_ald (ca 0) 25 := rfl
theorem k_X3_fillByOne_25 (ca : Nat → ClassId) : k_X3_fillByOne ca 25 = i_callV 3 1 0 0 0 0 (sp_X3_difference ca) 28 := rfl
theorem k_X3_fillByOne_28 (ca : Nat → ClassId) : k_X3_fillByOne ca 28 = i_m1 (fun x => if 0 ≤ x then x else 0 - x) 0 0 31 := rfl
theorem k_X3_fillByOne_31 (ca : Nat → ClassId) : k_X3_fillByOne ca 31 = i_istore 2 32 := rfl
theorem k_X3_fillByOne_32 (ca : Nat → ClassId) : k_X3_fillByOne ca 32 = i_push (.int 1) 33 := rfl
theorem k_X3_fillByOne_33 (ca : Nat → ClassId) : k_X3_fillByOne ca 33 = i_istore 3 34 := rfl
theorem k_X3_fillByOne_34 (ca : Nat → ClassId) : k_X3_fillByOne ca 34 = i_iload 3 35 := rfl
theorem k_X3_fillByOne_35 (ca : Nat → ClassId) : k_X3_fillByOne ca 35 = i_push (.int 9) 37 := rfl
theorem k_X3_fillByOne_37 (ca : Nat → ClassId) : k_X3_fillByOne ca 37 = i_icmp (fun x y => y < x) 60 40 := rfl
theorem k_X3_fillByOne_40 (ca : Nat → ClassId) : k_X3_fillByOne ca 40 = i_aload 0 41 := rfl
theorem k_X3_fillByOne_41 (ca : Nat → ClassId) : k_X3_fillByOne ca 41 = i_getf 3 4 44 := rfl
theorem k_X3_fillByOne_44 (ca : Nat → ClassId) : k_X3_fillByOne ca 44 = i_iload 3 45 := rfl
theorem k_X3_fillByOne_45 (ca : Nat → ClassId) : k_X3_fillByOne ca 45 = i_iload 2 46 := rfl
theorem k_X3_fillByOne_46 (ca : Nat → ClassId) : k_X3_fillByOne ca 46 = i_bin (fun x y => x * y) 47 := rfl
theorem k_X3_fillByOne_47 (ca : Nat → ClassId) : k_X3_fillByOne ca 47 = i_dup2 48 := rfl
theorem k_X3_fillByOne_48 (ca : Nat → ClassId) : k_X3_fillByOne ca 48 = i_ald (ca 0) 49 := rfl
theorem k_X3_fillByOne_49 (ca : Nat → ClassId) : k_X3_fillByOne ca 49 = i_push (.int 1) 50 := rfl
theorem k_X3_fillByOne_50 (ca : Nat → ClassId) : k_X3_fillByOne ca 50 = i_iload 3 51 := rfl
theorem k_X3_fillByOne_51 (ca : Nat → ClassId) : k_X3_fillByOne ca 51 = i_bin (fun x y => x <<< (y &&& 31)) 52 := rfl
theorem k_X3_fillByOne_52 (ca : Nat → ClassId) : k_X3_fillByOne ca 52 = i_bin (fun x y => x ||| y) 53 := rfl
theorem k_X3_fillByOne_53 (ca : Nat → ClassId) : k_X3_fillByOne ca 53 = i_ast (fun x => x) (ca 0) 54 := rfl
theorem k_X3_fillByOne_54 (ca : Nat → ClassId) : k_X3_fillByOne ca 54 = i_iinc 3 1 57 := rfl
theorem k_X3_fillByOne_57 (ca : Nat → ClassId) : k_X3_fillByOne ca 57 = i_goto 34 := rfl
theorem k_X3_fillByOne_60 (ca : Nat → ClassId) : k_X3_fillByOne ca 60 = i_iinc 1 1 63 := rfl
theorem k_X3_fillByOne_63 (ca : Nat → ClassId) : k_X3_fillByOne ca 63 = i_goto 10 := rfl
theorem k_X3_fillByOne_66 (ca : Nat → ClassId) : k_X3_fillByOne ca 66 = i_vret := rfl
set_option maxHeartbeats 4000000 in
set_option maxRecDepth 20000 in
theorem ok_X3_fillByOne (l : Launch) (D : va_G) (ca : Nat → ClassId) : OkAll l D ca yX3_fillByOne cX3_fillByOne 4 none 1 0 0 (sp_X3_fillByOne ca) := by
  intro av h post hs
  obtain ⟨x5, nx, tm, pp, pc, ox, tx, Nf, pr, bo0, rfl, e0, ⟨nf, e2, e3⟩, hN, ⟨pf, e4, hp⟩, e1, d1, d2, d3, hs⟩ := hs
  have e0' := e0
  unfold eSF at e0'
  have hpc := hp.1
  refine okM_of t_X3_fillByOne (by decide +kernel) (c1_ref c1_nil) (Nat.le_of_ble_eq_true rfl) ?_
  intro K go
  have key : ∀ r i bo x2 x3, i + r = pc → Inv1 Nf pr pc bo i 1 → K 0 0 10 [some (.ref x5), some (.int (nI i)), x2, x3] [] (va_up h ox (some (.inl (ca 0, 271, .inl bo)))) := by
    intro r
    induction r with
    | zero =>
      intro i bo x2 x3 hi hI
      have hi : i = pc := hi
      subst hi
      have k0 := hs bo (Inv1_z hp hI)
      refine goN go (stp []) 160 _ _ _ _ _ _ (fun F hF hF0 => ?_)
      simp only [hF, hF0, ite_not, i_push, i_iload, i_lload, i_aload, i_istore, i_astore, i_lstore, i_iinc, i_bin, i_dv, i_un, i_lbin, i_lsh, i_i2l, i_l2i, i_lcmp, i_dup, i_dup2, i_pop, i_if, i_icmp, i_goto, swG, i_sw, i_getf, i_puti, i_putz, i_putr, i_ald, i_lald, i_aald, i_ast, i_last, i_aast, i_alen, i_new, i_newi, i_newl, i_newq, i_oinit, i_ret, i_zret, i_lret, i_vret, catS, tk, rpush, isO, i_m1, i_m2, i_acopy, i_callV, i_callS, KRet, lget, lput, lputL, lcl0, isL, lv0, List.map_cons, List.map_nil, List.length_cons, List.length_nil, List.cons_append, List.nil_append, Nat.reduceAdd, Nat.reduceSub, Nat.reduceLeDiff, List.replicate_succ, List.replicate_zero, List.getElem?_cons_succ, List.getElem?_cons_zero, List.set_cons_succ, List.set_cons_zero, true_and, and_true, if_true, if_false, ↓reduceIte, Nat.le_refl, Value.category, va_up_app, eq_self, stp, Nat.reduceBEq, Bool.or_false, Bool.false_or, Bool.true_or, Bool.or_true, or_true, true_or, bx_uu, implies_true, true_implies, not_true, not_false_eq_true, false_implies, and_self, Nat.reduceLT, Int32.reduceAdd, Int32.reduceSub, Int32.reduceMul, Int32.reduceLE, Int32.reduceLT, Int32.reduceToNatClampNeg, va_rf_some, Bool.false_eq_true, k_X3_fillByOne_0 ca, k_X3_fillByOne_1 ca, k_X3_fillByOne_4 ca, k_X3_fillByOne_5 ca, k_X3_fillByOne_8 ca, k_X3_fillByOne_9 ca, k_X3_fillByOne_10 ca, k_X3_fillByOne_11 ca, k_X3_fillByOne_12 ca, k_X3_fillByOne_15 ca, k_X3_fillByOne_18 ca, k_X3_fillByOne_19 ca, k_X3_fillByOne_20 ca, k_X3_fillByOne_23 ca, k_X3_fillByOne_24 ca, k_X3_fillByOne_25 ca, k_X3_fillByOne_28 ca, k_X3_fillByOne_31 ca, k_X3_fillByOne_32 ca, k_X3_fillByOne_33 ca, k_X3_fillByOne_34 ca, k_X3_fillByOne_35 ca, k_X3_fillByOne_37 ca, k_X3_fillByOne_40 ca, k_X3_fillByOne_41 ca, k_X3_fillByOne_44 ca, k_X3_fillByOne_45 ca, k_X3_fillByOne_46 ca, k_X3_fillByOne_47 ca, k_X3_fillByOne_48 ca, k_X3_fillByOne_49 ca, k_X3_fillByOne_50 ca, k_X3_fillByOne_51 ca, k_X3_fillByOne_52 ca, k_X3_fillByOne_53 ca, k_X3_fillByOne_54 ca, k_X3_fillByOne_57 ca, k_X3_fillByOne_60 ca, k_X3_fillByOne_63 ca, k_X3_fillByOne_66 ca, e0', d1, Int32.le_refl]
      try clear hF hF0 F
      exact k0
    | succ r ih =>
      intro i bo x2 x3 hi hI
      have g2 : ¬ nI pc ≤ nI i := nI_ge (by omega) (by omega)
      have vi : vp_in (nI i) 36 := vp_in_nI (by omega) (by decide)
      have xi : (nI i).toNatClampNeg = i := nI_clamp (by omega)
      obtain ⟨y1, y2⟩ := hp.2.1 i (by omega)
      have hbd := dz_bd hN y2
      have ea := zI_abs (z := dz Nf (pr i)) (by omega) (by omega)
      have inner : ∀ r2 l bo, l + r2 = 10 → 1 ≤ l → Inv1 Nf pr pc bo i l → K 0 0 34 [some (.ref x5), some (.int (nI i)), some (.int (nI (dz Nf (pr i)).natAbs)), some (.int (nI l))] [] (va_up h ox (some (.inl (ca 0, 271, .inl bo)))) := by
        intro r2
        induction r2 with
        | zero =>
          intro l bo hl _ hI
          have hl : l = 10 := hl
          subst hl
          have e : nI 10 = 10 := rfl
          have k0 := ih (i + 1) bo (some (.int (nI (dz Nf (pr i)).natAbs))) (some (.int 10)) (by omega) (Inv1_n hI)
          refine goN go (stp [10]) 160 _ _ _ _ _ _ (fun F hF hF0 => ?_)
          simp only [hF, hF0, ite_not, i_push, i_iload, i_lload, i_aload, i_istore, i_astore, i_lstore, i_iinc, i_bin, i_dv, i_un, i_lbin, i_lsh, i_i2l, i_l2i, i_lcmp, i_dup, i_dup2, i_pop, i_if, i_icmp, i_goto, swG, i_sw, i_getf, i_puti, i_putz, i_putr, i_ald, i_lald, i_aald, i_ast, i_last, i_aast, i_alen, i_new, i_newi, i_newl, i_newq, i_oinit, i_ret, i_zret, i_lret, i_vret, catS, tk, rpush, isO, i_m1, i_m2, i_acopy, i_callV, i_callS, KRet, lget, lput, lputL, lcl0, isL, lv0, List.map_cons, List.map_nil, List.length_cons, List.length_nil, List.cons_append, List.nil_append, Nat.reduceAdd, Nat.reduceSub, Nat.reduceLeDiff, List.replicate_succ, List.replicate_zero, List.getElem?_cons_succ, List.getElem?_cons_zero, List.set_cons_succ, List.set_cons_zero, true_and, and_true, if_true, if_false, ↓reduceIte, Nat.le_refl, Value.category, va_up_app, eq_self, stp, Nat.reduceBEq, Bool.or_false, Bool.false_or, Bool.true_or, Bool.or_true, or_true, true_or, bx_uu, implies_true, true_implies, not_true, not_false_eq_true, false_implies, and_self, Nat.reduceLT, Int32.reduceAdd, Int32.reduceSub, Int32.reduceMul, Int32.reduceLE, Int32.reduceLT, Int32.reduceToNatClampNeg, va_rf_some, Bool.false_eq_true, k_X3_fillByOne_0 ca, k_X3_fillByOne_1 ca, k_X3_fillByOne_4 ca, k_X3_fillByOne_5 ca, k_X3_fillByOne_8 ca, k_X3_fillByOne_9 ca, k_X3_fillByOne_10 ca, k_X3_fillByOne_11 ca, k_X3_fillByOne_12 ca, k_X3_fillByOne_15 ca, k_X3_fillByOne_18 ca, k_X3_fillByOne_19 ca, k_X3_fillByOne_20 ca, k_X3_fillByOne_23 ca, k_X3_fillByOne_24 ca, k_X3_fillByOne_25 ca, k_X3_fillByOne_28 ca, k_X3_fillByOne_31 ca, k_X3_fillByOne_32 ca, k_X3_fillByOne_33 ca, k_X3_fillByOne_34 ca, k_X3_fillByOne_35 ca, k_X3_fillByOne_37 ca, k_X3_fillByOne_40 ca, k_X3_fillByOne_41 ca, k_X3_fillByOne_44 ca, k_X3_fillByOne_45 ca, k_X3_fillByOne_46 ca, k_X3_fillByOne_47 ca, k_X3_fillByOne_48 ca, k_X3_fillByOne_49 ca, k_X3_fillByOne_50 ca, k_X3_fillByOne_51 ca, k_X3_fillByOne_52 ca, k_X3_fillByOne_53 ca, k_X3_fillByOne_54 ca, k_X3_fillByOne_57 ca, k_X3_fillByOne_60 ca, k_X3_fillByOne_63 ca, k_X3_fillByOne_66 ca, e, a_1]
          try clear hF hF0 F
          exact k0
        | succ r2 ih2 =>
          intro l bo hl h1l hI
          have g1 : ((9 : Int32) < nI l) = False := eq_false (nI_nlt (a := 9) (by omega) (by omega))
          have hmul : l * (dz Nf (pr i)).natAbs ≤ 9 * 30 := Nat.mul_le_mul (by omega) (by omega)
          have vm : vp_in (nI (l * (dz Nf (pr i)).natAbs)) 271 := vp_in_nI (by omega) (by decide)
          have xm : (nI (l * (dz Nf (pr i)).natAbs)).toNatClampNeg = l * (dz Nf (pr i)).natAbs := nI_clamp (by omega)
          have em := pk_mul l (dz Nf (pr i)).natAbs
          have k0 := ih2 (l + 1) _ (by omega) (by omega) (Inv1_s (by omega) ⟨h1l, by omega⟩ hI)
          refine goN go (stp [34]) 160 _ _ _ _ _ _ (fun F hF hF0 => ?_)
          simp only [hF, hF0, ite_not, i_push, i_iload, i_lload, i_aload, i_istore, i_astore, i_lstore, i_iinc, i_bin, i_dv, i_un, i_lbin, i_lsh, i_i2l, i_l2i, i_lcmp, i_dup, i_dup2, i_pop, i_if, i_icmp, i_goto, swG, i_sw, i_getf, i_puti, i_putz, i_putr, i_ald, i_lald, i_aald, i_ast, i_last, i_aast, i_alen, i_new, i_newi, i_newl, i_newq, i_oinit, i_ret, i_zret, i_lret, i_vret, catS, tk, rpush, isO, i_m1, i_m2, i_acopy, i_callV, i_callS, KRet, lget, lput, lputL, lcl0, isL, lv0, List.map_cons, List.map_nil, List.length_cons, List.length_nil, List.cons_append, List.nil_append, Nat.reduceAdd, Nat.reduceSub, Nat.reduceLeDiff, List.replicate_succ, List.replicate_zero, List.getElem?_cons_succ, List.getElem?_cons_zero, List.set_cons_succ, List.set_cons_zero, true_and, and_true, if_true, if_false, ↓reduceIte, Nat.le_refl, Value.category, va_up_app, eq_self, stp, Nat.reduceBEq, Bool.or_false, Bool.false_or, Bool.true_or, Bool.or_true, or_true, true_or, bx_uu, implies_true, true_implies, not_true, not_false_eq_true, false_implies, and_self, Nat.reduceLT, Int32.reduceAdd, Int32.reduceSub, Int32.reduceMul, Int32.reduceLE, Int32.reduceLT, Int32.reduceToNatClampNeg, va_rf_some, Bool.false_eq_true, k_X3_fillByOne_0 ca, k_X3_fillByOne_1 ca, k_X3_fillByOne_4 ca, k_X3_fillByOne_5 ca, k_X3_fillByOne_8 ca, k_X3_fillByOne_9 ca, k_X3_fillByOne_10 ca, k_X3_fillByOne_11 ca, k_X3_fillByOne_12 ca, k_X3_fillByOne_15 ca, k_X3_fillByOne_18 ca, k_X3_fillByOne_19 ca, k_X3_fillByOne_20 ca, k_X3_fillByOne_23 ca, k_X3_fillByOne_24 ca, k_X3_fillByOne_25 ca, k_X3_fillByOne_28 ca, k_X3_fillByOne_31 ca, k_X3_fillByOne_32 ca, k_X3_fillByOne_33 ca, k_X3_fillByOne_34 ca, k_X3_fillByOne_35 ca, k_X3_fillByOne_37 ca, k_X3_fillByOne_40 ca, k_X3_fillByOne_41 ca, k_X3_fillByOne_44 ca, k_X3_fillByOne_45 ca, k_X3_fillByOne_46 ca, k_X3_fillByOne_47 ca, k_X3_fillByOne_48 ca, k_X3_fillByOne_49 ca, k_X3_fillByOne_50 ca, k_X3_fillByOne_51 ca, k_X3_fillByOne_52 ca, k_X3_fillByOne_53 ca, k_X3_fillByOne_54 ca, k_X3_fillByOne_57 ca, k_X3_fillByOne_60 ca, k_X3_fillByOne_63 ca, k_X3_fillByOne_66 ca, g1, e0', d1, em, vm, xm, a_1]
          try clear hF hF0 F
          exact k0
      have k0 := inner 9 1 bo (by omega) (by omega) hI
      rw [n1] at k0
      have f0 : va_up h ox (some (.inl (ca 0, 271, .inl bo))) x5 = some (eSF nx tm pp (nI pc) ox tx) := (va_up_ne _ _ d1).trans e0
      refine goN go (stp [28]) 160 _ _ _ _ _ _ (fun F hF hF0 => ?_)
      simp only [hF, hF0, ite_not, i_push, i_iload, i_lload, i_aload, i_istore, i_astore, i_lstore, i_iinc, i_bin, i_dv, i_un, i_lbin, i_lsh, i_i2l, i_l2i, i_lcmp, i_dup, i_dup2, i_pop, i_if, i_icmp, i_goto, swG, i_sw, i_getf, i_puti, i_putz, i_putr, i_ald, i_lald, i_aald, i_ast, i_last, i_aast, i_alen, i_new, i_newi, i_newl, i_newq, i_oinit, i_ret, i_zret, i_lret, i_vret, catS, tk, rpush, isO, i_m1, i_m2, i_acopy, i_callV, i_callS, KRet, lget, lput, lputL, lcl0, isL, lv0, List.map_cons, List.map_nil, List.length_cons, List.length_nil, List.cons_append, List.nil_append, Nat.reduceAdd, Nat.reduceSub, Nat.reduceLeDiff, List.replicate_succ, List.replicate_zero, List.getElem?_cons_succ, List.getElem?_cons_zero, List.set_cons_succ, List.set_cons_zero, true_and, and_true, if_true, if_false, ↓reduceIte, Nat.le_refl, Value.category, va_up_app, eq_self, stp, Nat.reduceBEq, Bool.or_false, Bool.false_or, Bool.true_or, Bool.or_true, or_true, true_or, bx_uu, implies_true, true_implies, not_true, not_false_eq_true, false_implies, and_self, Nat.reduceLT, Int32.reduceAdd, Int32.reduceSub, Int32.reduceMul, Int32.reduceLE, Int32.reduceLT, Int32.reduceToNatClampNeg, va_rf_some, Bool.false_eq_true, k_X3_fillByOne_0 ca, k_X3_fillByOne_1 ca, k_X3_fillByOne_4 ca, k_X3_fillByOne_5 ca, k_X3_fillByOne_8 ca, k_X3_fillByOne_9 ca, k_X3_fillByOne_10 ca, k_X3_fillByOne_11 ca, k_X3_fillByOne_12 ca, k_X3_fillByOne_15 ca, k_X3_fillByOne_18 ca, k_X3_fillByOne_19 ca, k_X3_fillByOne_20 ca, k_X3_fillByOne_23 ca, k_X3_fillByOne_24 ca, k_X3_fillByOne_25 ca, k_X3_fillByOne_28 ca, k_X3_fillByOne_31 ca, k_X3_fillByOne_32 ca, k_X3_fillByOne_33 ca, k_X3_fillByOne_34 ca, k_X3_fillByOne_35 ca, k_X3_fillByOne_37 ca, k_X3_fillByOne_40 ca, k_X3_fillByOne_41 ca, k_X3_fillByOne_44 ca, k_X3_fillByOne_45 ca, k_X3_fillByOne_46 ca, k_X3_fillByOne_47 ca, k_X3_fillByOne_48 ca, k_X3_fillByOne_49 ca, k_X3_fillByOne_50 ca, k_X3_fillByOne_51 ca, k_X3_fillByOne_52 ca, k_X3_fillByOne_53 ca, k_X3_fillByOne_54 ca, k_X3_fillByOne_57 ca, k_X3_fillByOne_60 ca, k_X3_fillByOne_63 ca, k_X3_fillByOne_66 ca, g2, e0', d1, d3, e4, vi, xi, y1]
      try clear hF hF0 F
      refine ⟨x5, nx, tm, pp, nI pc, ox, tx, Nf, pr i, y2, rfl, f0, ⟨nf, (va_up_ne _ _ d2).trans e2, e3⟩, ?_⟩
      refine goN go (stp [34]) 160 _ _ _ _ _ _ (fun F hF hF0 => ?_)
      simp only [hF, hF0, ite_not, i_push, i_iload, i_lload, i_aload, i_istore, i_astore, i_lstore, i_iinc, i_bin, i_dv, i_un, i_lbin, i_lsh, i_i2l, i_l2i, i_lcmp, i_dup, i_dup2, i_pop, i_if, i_icmp, i_goto, swG, i_sw, i_getf, i_puti, i_putz, i_putr, i_ald, i_lald, i_aald, i_ast, i_last, i_aast, i_alen, i_new, i_newi, i_newl, i_newq, i_oinit, i_ret, i_zret, i_lret, i_vret, catS, tk, rpush, isO, i_m1, i_m2, i_acopy, i_callV, i_callS, KRet, lget, lput, lputL, lcl0, isL, lv0, List.map_cons, List.map_nil, List.length_cons, List.length_nil, List.cons_append, List.nil_append, Nat.reduceAdd, Nat.reduceSub, Nat.reduceLeDiff, List.replicate_succ, List.replicate_zero, List.getElem?_cons_succ, List.getElem?_cons_zero, List.set_cons_succ, List.set_cons_zero, true_and, and_true, if_true, if_false, ↓reduceIte, Nat.le_refl, Value.category, va_up_app, eq_self, stp, Nat.reduceBEq, Bool.or_false, Bool.false_or, Bool.true_or, Bool.or_true, or_true, true_or, bx_uu, implies_true, true_implies, not_true, not_false_eq_true, false_implies, and_self, Nat.reduceLT, Int32.reduceAdd, Int32.reduceSub, Int32.reduceMul, Int32.reduceLE, Int32.reduceLT, Int32.reduceToNatClampNeg, va_rf_some, Bool.false_eq_true, k_X3_fillByOne_0 ca, k_X3_fillByOne_1 ca, k_X3_fillByOne_4 ca, k_X3_fillByOne_5 ca, k_X3_fillByOne_8 ca, k_X3_fillByOne_9 ca, k_X3_fillByOne_10 ca, k_X3_fillByOne_11 ca, k_X3_fillByOne_12 ca, k_X3_fillByOne_15 ca, k_X3_fillByOne_18 ca, k_X3_fillByOne_19 ca, k_X3_fillByOne_20 ca, k_X3_fillByOne_23 ca, k_X3_fillByOne_24 ca, k_X3_fillByOne_25 ca, k_X3_fillByOne_28 ca, k_X3_fillByOne_31 ca, k_X3_fillByOne_32 ca, k_X3_fillByOne_33 ca, k_X3_fillByOne_34 ca, k_X3_fillByOne_35 ca, k_X3_fillByOne_37 ca, k_X3_fillByOne_40 ca, k_X3_fillByOne_41 ca, k_X3_fillByOne_44 ca, k_X3_fillByOne_45 ca, k_X3_fillByOne_46 ca, k_X3_fillByOne_47 ca, k_X3_fillByOne_48 ca, k_X3_fillByOne_49 ca, k_X3_fillByOne_50 ca, k_X3_fillByOne_51 ca, k_X3_fillByOne_52 ca, k_X3_fillByOne_53 ca, k_X3_fillByOne_54 ca, k_X3_fillByOne_57 ca, k_X3_fillByOne_60 ca, k_X3_fillByOne_63 ca, k_X3_fillByOne_66 ca, ea]
      try clear hF hF0 F
      exact k0
  have k0 := key pc 0 (fil bo0 0 271) none none (by omega) (fun z T hz hT => ⟨fun w => absurd w (by rw [show fil bo0 0 271 z = 0 from flo_in (by omega), b_0]; decide), fun ⟨i', h1, h2, h3, _⟩ => by omega⟩)
  rw [nI_0] at k0
  have l271 : (271 < 2147483648) = True := eq_true (by decide)
  refine goN go (stp [10]) 160 _ _ _ _ _ _ (fun F hF hF0 => ?_)
  simp only [hF, hF0, ite_not, i_push, i_iload, i_lload, i_aload, i_istore, i_astore, i_lstore, i_iinc, i_bin, i_dv, i_un, i_lbin, i_lsh, i_i2l, i_l2i, i_lcmp, i_dup, i_dup2, i_pop, i_if, i_icmp, i_goto, swG, i_sw, i_getf, i_puti, i_putz, i_putr, i_ald, i_lald, i_aald, i_ast, i_last, i_aast, i_alen, i_new, i_newi, i_newl, i_newq, i_oinit, i_ret, i_zret, i_lret, i_vret, catS, tk, rpush, isO, i_m1, i_m2, i_acopy, i_callV, i_callS, KRet, lget, lput, lputL, lcl0, isL, lv0, List.map_cons, List.map_nil, List.length_cons, List.length_nil, List.cons_append, List.nil_append, Nat.reduceAdd, Nat.reduceSub, Nat.reduceLeDiff, List.replicate_succ, List.replicate_zero, List.getElem?_cons_succ, List.getElem?_cons_zero, List.set_cons_succ, List.set_cons_zero, true_and, and_true, if_true, if_false, ↓reduceIte, Nat.le_refl, Value.category, va_up_app, eq_self, stp, Nat.reduceBEq, Bool.or_false, Bool.false_or, Bool.true_or, Bool.or_true, or_true, true_or, bx_uu, implies_true, true_implies, not_true, not_false_eq_true, false_implies, and_self, Nat.reduceLT, Int32.reduceAdd, Int32.reduceSub, Int32.reduceMul, Int32.reduceLE, Int32.reduceLT, Int32.reduceToNatClampNeg, va_rf_some, Bool.false_eq_true, k_X3_fillByOne_0 ca, k_X3_fillByOne_1 ca, k_X3_fillByOne_4 ca, k_X3_fillByOne_5 ca, k_X3_fillByOne_8 ca, k_X3_fillByOne_9 ca, k_X3_fillByOne_10 ca, k_X3_fillByOne_11 ca, k_X3_fillByOne_12 ca, k_X3_fillByOne_15 ca, k_X3_fillByOne_18 ca, k_X3_fillByOne_19 ca, k_X3_fillByOne_20 ca, k_X3_fillByOne_23 ca, k_X3_fillByOne_24 ca, k_X3_fillByOne_25 ca, k_X3_fillByOne_28 ca, k_X3_fillByOne_31 ca, k_X3_fillByOne_32 ca, k_X3_fillByOne_33 ca, k_X3_fillByOne_34 ca, k_X3_fillByOne_35 ca, k_X3_fillByOne_37 ca, k_X3_fillByOne_40 ca, k_X3_fillByOne_41 ca, k_X3_fillByOne_44 ca, k_X3_fillByOne_45 ca, k_X3_fillByOne_46 ca, k_X3_fillByOne_47 ca, k_X3_fillByOne_48 ca, k_X3_fillByOne_49 ca, k_X3_fillByOne_50 ca, k_X3_fillByOne_51 ca, k_X3_fillByOne_52 ca, k_X3_fillByOne_53 ca, k_X3_fillByOne_54 ca, k_X3_fillByOne_57 ca, k_X3_fillByOne_60 ca, k_X3_fillByOne_63 ca, k_X3_fillByOne_66 ca, e0', e1, sp_J7_fill_53178, l271]
  try clear hF hF0 F
  exact k0
def Inv2 (Nf pr : Nat → Nat) (pc : Nat) (bo : Nat → Int32) (B i l : Nat) : Prop := ∀ z T : Nat, z ≤ 540 → T < 32 → (bt (bo z) T = true ↔ ∃ B' i' l' : Nat, B' ≤ 270 ∧ i' < pc ∧ 1 ≤ l' ∧ l' ≤ 9 ∧ (B' < B ∨ (B' = B ∧ (i' < i ∨ (i' = i ∧ l' < l)))) ∧ canZ Nf 1 ((T : Int) - l') B' ∧ (B' : Int) + l' * dz Nf (pr i') = z)
theorem Inv2_s {Nf pr : Nat → Nat} {pc : Nat} {bo : Nat → Int32} {B i l Z : Nat} {L : Int32} (hN : Nm Nf) (hB : B ≤ 270) (hi : i < pc) (hl : 1 ≤ l ∧ l ≤ 9) (hL : Lens Nf L 1 B) (hZ : (B : Int) + l * dz Nf (pr i) = Z) (h : Inv2 Nf pr pc bo B i l) : Inv2 Nf pr pc (upd bo Z (bo Z ||| (L <<< (nI l &&& 31)))) B i (l + 1) := by
  intro z T hz hT
  rw [upd_app]
  by_cases q : z = Z
  · rw [if_pos q, b_or, b_shl l (by omega) L hT, Bool.or_eq_true, Bool.and_eq_true, decide_eq_true_eq, ← q, h z T hz hT]
    constructor
    · rintro (⟨B', i', l', h1, h2, h3, h4, h5, h6, h7⟩ | ⟨h1, h2⟩)
      · exact ⟨B', i', l', h1, h2, h3, h4, by omega, h6, h7⟩
      · refine ⟨B, i, l, hB, hi, hl.1, hl.2, by omega, ?_, by rw [hZ, q]⟩
        have := (hL (T - l) (by omega)).mp h2
        rw [show ((T - l : Nat) : Int) = (T : Int) - l by omega] at this
        exact this
    · rintro ⟨B', i', l', h1, h2, h3, h4, h5, h6, h7⟩
      by_cases w : B' = B ∧ i' = i ∧ l' = l
      · obtain ⟨rfl, rfl, rfl⟩ := w
        have hb := (canZ_bd hN h6).1
        refine Or.inr ⟨by omega, (hL (T - l') (by omega)).mpr ?_⟩
        rw [show ((T - l' : Nat) : Int) = (T : Int) - l' by omega]
        exact h6
      · exact Or.inl ⟨B', i', l', h1, h2, h3, h4, by omega, h6, h7⟩
  · rw [if_neg q, h z T hz hT]
    constructor
    · rintro ⟨B', i', l', h1, h2, h3, h4, h5, h6, h7⟩
      exact ⟨B', i', l', h1, h2, h3, h4, by omega, h6, h7⟩
    · rintro ⟨B', i', l', h1, h2, h3, h4, h5, h6, h7⟩
      refine ⟨B', i', l', h1, h2, h3, h4, ?_, h6, h7⟩
      by_cases w : B' = B ∧ i' = i ∧ l' = l
      · obtain ⟨rfl, rfl, rfl⟩ := w
        rw [hZ] at h7
        exact absurd h7.symm (by omega)
      · omega
theorem Inv2_neg {Nf pr : Nat → Nat} {pc : Nat} {bo : Nat → Int32} {B i l : Nat} (hneg : (B : Int) + l * dz Nf (pr i) < 0) (h : Inv2 Nf pr pc bo B i l) : Inv2 Nf pr pc bo B i (l + 1) := by
  intro z T hz hT
  rw [h z T hz hT]
  constructor
  · rintro ⟨B', i', l', h1, h2, h3, h4, h5, h6, h7⟩
    exact ⟨B', i', l', h1, h2, h3, h4, by omega, h6, h7⟩
  · rintro ⟨B', i', l', h1, h2, h3, h4, h5, h6, h7⟩
    refine ⟨B', i', l', h1, h2, h3, h4, ?_, h6, h7⟩
    by_cases w : B' = B ∧ i' = i ∧ l' = l
    · obtain ⟨rfl, rfl, rfl⟩ := w
      omega
    · omega
theorem Inv2_n {Nf pr : Nat → Nat} {pc : Nat} {bo : Nat → Int32} {B i : Nat} (h : Inv2 Nf pr pc bo B i 10) : Inv2 Nf pr pc bo B (i + 1) 1 := by
  intro z T hz hT
  rw [h z T hz hT]
  constructor
  · rintro ⟨B', i', l', h1, h2, h3, h4, h5, h6, h7⟩
    exact ⟨B', i', l', h1, h2, h3, h4, by omega, h6, h7⟩
  · rintro ⟨B', i', l', h1, h2, h3, h4, h5, h6, h7⟩
    exact ⟨B', i', l', h1, h2, h3, h4, by omega, h6, h7⟩
theorem Inv2_b {Nf pr : Nat → Nat} {pc : Nat} {bo : Nat → Int32} {B : Nat} (h : Inv2 Nf pr pc bo B pc 1) : Inv2 Nf pr pc bo (B + 1) 0 1 := by
  intro z T hz hT
  rw [h z T hz hT]
  constructor
  · rintro ⟨B', i', l', h1, h2, h3, h4, h5, h6, h7⟩
    exact ⟨B', i', l', h1, h2, h3, h4, by omega, h6, h7⟩
  · rintro ⟨B', i', l', h1, h2, h3, h4, h5, h6, h7⟩
    exact ⟨B', i', l', h1, h2, h3, h4, by omega, h6, h7⟩
theorem Inv2_e {Nf pr : Nat → Nat} {pc : Nat} {bo : Nat → Int32} {B : Nat} (he : ∀ T : Int, ¬ canZ Nf 1 T B) (h : Inv2 Nf pr pc bo B 0 1) : Inv2 Nf pr pc bo (B + 1) 0 1 := by
  intro z T hz hT
  rw [h z T hz hT]
  constructor
  · rintro ⟨B', i', l', h1, h2, h3, h4, h5, h6, h7⟩
    exact ⟨B', i', l', h1, h2, h3, h4, by omega, h6, h7⟩
  · rintro ⟨B', i', l', h1, h2, h3, h4, h5, h6, h7⟩
    refine ⟨B', i', l', h1, h2, h3, h4, ?_, h6, h7⟩
    by_cases w : B' = B
    · rw [w] at h6
      exact absurd h6 (he _)
    · omega
theorem Inv2_z {Nf pr : Nat → Nat} {pf : Nat → Int32} {pc : Nat} {bo : Nat → Int32} (hN : Nm Nf) (hp : PO Nf pf pc pr) (h : Inv2 Nf pr pc bo 271 0 1) : ∀ z : Nat, z ≤ 540 → Lens Nf (bo z) 2 z := by
  intro z hz T hT
  rw [h z T hz hT]
  constructor
  · rintro ⟨B', i', l', h1, h2, h3, h4, h5, h6, h7⟩
    refine ⟨l', pr i', h3, h4, (hp.2.1 i' h2).2, ?_⟩
    rw [show (z : Int) - l' * dz Nf (pr i') = B' by omega]
    exact h6
  · rintro ⟨l, p, h1, h2, h3, h4⟩
    have h4 : canZ Nf 1 ((T : Int) - l) ((z : Int) - l * dz Nf p) := h4
    have hb := canZ_bd hN h4
    have hlb := ld_bd h2 (dz_bd hN h3)
    by_cases q : 0 ≤ (z : Int) - l * dz Nf p
    · obtain ⟨i, hi, e, -⟩ := hp.2.2.2 p h3
      refine ⟨((z : Int) - l * dz Nf p).toNat, i, l, by omega, hi, h1, h2, by omega, ?_, ?_⟩
      · rw [show ((((z : Int) - l * dz Nf p).toNat : Nat) : Int) = (z : Int) - l * dz Nf p by omega]
        exact h4
      · rw [e]; omega
    · obtain ⟨l2, p2, g1, g2, g3, g4, g5⟩ := h4
      obtain ⟨i, hi, e, -⟩ := hp.2.2.2 p2 g3
      refine ⟨((l : Int) * dz Nf p).toNat, i, l2, by omega, hi, g1, g2, by omega, ⟨l, p, h1, h2, h3, by omega, by omega⟩, ?_⟩
      rw [e]; omega
def sp_X3_addToByTwo (ca : Nat → ClassId) : SPEC := fun av h post => ∃ x5 nx tm pp pc ox tx Nf pr bo B L, B ≤ 270 ∧ av = [.ref x5, .int (nI B), .int L] ∧ h x5 = some (eSF nx tm pp (nI pc) ox tx) ∧ NumA ca h nx Nf ∧ Nm Nf ∧ PairsA ca h pp pc Nf pr ∧ h tx = some (.inl (ca 0, 541, .inl bo)) ∧ ¬ x5 = tx ∧ ¬ nx = tx ∧ ¬ pp = tx ∧ Lens Nf L 1 B ∧ Inv2 Nf pr pc bo B 0 1 ∧
  ∀ bo', Inv2 Nf pr pc bo' B pc 1 → post none (va_up h tx (some (.inl (ca 0, 541, .inl bo'))))
def k_X3_addToByTwo (ca : Nat → ClassId) : Nat → IT := fun pc => lk pc [(0, i_push (.int 0) 1),
  (1, i_istore 3 2),
  (2, i_iload 3 3),
  (3, i_aload 0 4),
  (4, i_getf 3 3 7),
  (7, i_icmp (fun x y => y ≤ x) 68 10),
  (10, i_push (.int 1) 11),
  (11, i_istore 4 13),
  (13, i_iload 4 15),
  (15, i_push (.int 9) 17),
  (17, i_icmp (fun x y => y < x) 62 20),
  (20, i_iload 1 21),
  (21, i_iload 4 23),
  (23, i_aload 0 24),
  (24, i_aload 0 25),
  (25, i_getf 3 2 28),
  (28, i_iload 3 29),
  (29, i_ald (ca 0) 30),
  (30, i_callV 3 1 0 0 0 0 (sp_X3_difference ca) 33),
  (33, i_bin (fun x y => x * y) 34),
  (34, i_bin (fun x y => x + y) 35),
  (35, i_istore 5 37),
  (37, i_iload 5 39),
  (39, i_if (fun x => x < 0) 56 42),
  (42, i_aload 0 43),
  (43, i_getf 3 5 46),
  (46, i_iload 5 48),
  (48, i_dup2 49),
  (49, i_ald (ca 0) 50),
  (50, i_iload 2 51),
  (51, i_iload 4 53),
  (53, i_bin (fun x y => x <<< (y &&& 31)) 54),
  (54, i_bin (fun x y => x ||| y) 55),
  (55, i_ast (fun x => x) (ca 0) 56),
  (56, i_iinc 4 1 59),
  (59, i_goto 13),
  (62, i_iinc 3 1 65),
  (65, i_goto 2),
  (68, i_vret)]
set_option maxRecDepth 20000 in
theorem t_X3_addToByTwo : Tb k_X3_addToByTwo yX3_addToByTwo cX3_addToByTwo 6 none 1 0 0 := by
  intro l D ca A p e s m args below meth c post X
  unfold k_X3_addToByTwo
  refine snd_cons (snd_iconst X dX3_addToByTwo_0 (by decide)) ?_
  refine snd_cons (snd_istore_n X dX3_addToByTwo_1 rfl (by decide)) ?_
  refine snd_cons (snd_iload_n X dX3_addToByTwo_2 rfl) ?_
  refine snd_cons (snd_aload_n X dX3_addToByTwo_3 rfl) ?_
  refine snd_cons (snd_getf X Fk3 3 (by decide) w_237 dX3_addToByTwo_4) ?_
  refine snd_cons (snd_icmp_ge X dX3_addToByTwo_7 (by decide)) ?_
  refine snd_cons (snd_iconst X dX3_addToByTwo_10 (by decide)) ?_
  refine snd_cons (snd_istore X dX3_addToByTwo_11 (by decide)) ?_
  refine snd_cons (snd_iload X dX3_addToByTwo_13) ?_
  refine snd_cons (snd_bipush X dX3_addToByTwo_15 (by decide)) ?_
  refine snd_cons (snd_icmp_gt X dX3_addToByTwo_17 (by decide)) ?_
  refine snd_cons (snd_iload_n X dX3_addToByTwo_20 rfl) ?_
  refine snd_cons (snd_iload X dX3_addToByTwo_21) ?_
  refine snd_cons (snd_aload_n X dX3_addToByTwo_23 rfl) ?_
  refine snd_cons (snd_aload_n X dX3_addToByTwo_24 rfl) ?_
  refine snd_cons (snd_getf X Fk3 2 (by decide) w_236 dX3_addToByTwo_25) ?_
  refine snd_cons (snd_iload_n X dX3_addToByTwo_28 rfl) ?_
  refine snd_cons (snd_iaload X dX3_addToByTwo_29) ?_
  refine snd_cons (snd_callV X Fk3 (ok_X3_difference l D ca) rfl rfl w_525 w_527 wp_6 w_8 w_528 (by decide) (by decide) dX3_addToByTwo_30) ?_
  refine snd_cons (snd_imul X dX3_addToByTwo_33) ?_
  refine snd_cons (snd_iadd X dX3_addToByTwo_34) ?_
  refine snd_cons (snd_istore X dX3_addToByTwo_35 (by decide)) ?_
  refine snd_cons (snd_iload X dX3_addToByTwo_37) ?_
  refine snd_cons (snd_if_lt X dX3_addToByTwo_39 (by decide)) ?_
  refine snd_cons (snd_aload_n X dX3_addToByTwo_42 rfl) ?_
  refine snd_cons (snd_getf X Fk3 5 (by decide) w_239 dX3_addToByTwo_43) ?_
  refine snd_cons (snd_iload X dX3_addToByTwo_46) ?_
  refine snd_cons (snd_dup2 X dX3_addToByTwo_48) ?_
  refine snd_cons (snd_iaload X dX3_addToByTwo_49) ?_
  refine snd_cons (snd_iload_n X dX3_addToByTwo_50 rfl) ?_
  refine snd_cons (snd_iload X dX3_addToByTwo_51) ?_
  refine snd_cons (snd_ishl X dX3_addToByTwo_53) ?_
  refine snd_cons (snd_ior X dX3_addToByTwo_54) ?_
  refine snd_cons (snd_iastore X dX3_addToByTwo_55) ?_
  refine snd_cons (snd_iinc X dX3_addToByTwo_56 (by decide) (by decide)) ?_
  refine snd_cons (snd_goto X dX3_addToByTwo_59 (by decide)) ?_
  refine snd_cons (snd_iinc X dX3_addToByTwo_62 (by decide) (by decide)) ?_
  refine snd_cons (snd_goto X dX3_addToByTwo_65 (by decide)) ?_
  refine snd_cons (snd_vret X dX3_addToByTwo_68) ?_
  exact snd_nil
theorem k_X3_addToByTwo_0 (ca : Nat → ClassId) : k_X3_addToByTwo ca 0 = i_push (.int 0) 1 := rfl
theorem k_X3_addToByTwo_1 (ca : Nat → ClassId) : k_X3_addToByTwo ca 1 = i_istore 3 2 := rfl
theorem k_X3_addToByTwo_2 (ca : Nat → ClassId) : k_X3_addToByTwo ca 2 = i_iload 3 3 := rfl
theorem k_X3_addToByTwo_3 (ca : Nat → ClassId) : k_X3_addToByTwo ca 3 = i_aload 0 4 := rfl
theorem k_X3_addToByTwo_4 (ca : Nat → ClassId) : k_X3_addToByTwo ca 4 = i_getf 3 3 7 := rfl
theorem k_X3_addToByTwo_7 (ca : Nat → ClassId) : k_X3_addToByTwo ca 7 = i_icmp (fun x y => y ≤ x) 68 10 := rfl
theorem k_X3_addToByTwo_10 (ca : Nat → ClassId) : k_X3_addToByTwo ca 10 = i_push (.int 1) 11 := rfl
theorem k_X3_addToByTwo_11 (ca : Nat → ClassId) : k_X3_addToByTwo ca 11 = i_istore 4 13 := rfl
theorem k_X3_addToByTwo_13 (ca : Nat → ClassId) : k_X3_addToByTwo ca 13 = i_iload 4 15 := rfl
theorem k_X3_addToByTwo_15 (ca : Nat → ClassId) : k_X3_addToByTwo ca 15 = i_push (.int 9) 17 := rfl
theorem k_X3_addToByTwo_17 (ca : Nat → ClassId) : k_X3_addToByTwo ca 17 = i_icmp (fun x y => y < x) 62 20 := rfl
theorem k_X3_addToByTwo_20 (ca : Nat → ClassId) : k_X3_addToByTwo ca 20 = i_iload 1 21 := rfl
theorem k_X3_addToByTwo_21 (ca : Nat → ClassId) : k_X3_addToByTwo ca 21 = i_iload 4 23 := rfl
theorem k_X3_addToByTwo_23 (ca : Nat → ClassId) : k_X3_addToByTwo ca 23 = i_aload 0 24 := rfl
theorem k_X3_addToByTwo_24 (ca : Nat → ClassId) : k_X3_addToByTwo ca 24 = i_aload 0 25 := rfl
theorem k_X3_addToByTwo_25 (ca : Nat → ClassId) : k_X3_addToByTwo ca 25 = i_getf 3 2 28 := rfl
theorem k_X3_addToByTwo_28 (ca : Nat → ClassId) : k_X3_addToByTwo ca 28 = i_iload 3 29 := rfl
theorem k_X3_addToByTwo_29 (ca : Nat → ClassId) : k_X3_addToByTwo ca 29 = i_ald (ca 0) 30 := rfl
theorem k_X3_addToByTwo_30 (ca : Nat → ClassId) : k_X3_addToByTwo ca 30 = i_callV 3 1 0 0 0 0 (sp_X3_difference ca) 33 := rfl
theorem k_X3_addToByTwo_33 (ca : Nat → ClassId) : k_X3_addToByTwo ca 33 = i_bin (fun x y => x * y) 34 := rfl
theorem k_X3_addToByTwo_34 (ca : Nat → ClassId) : k_X3_addToByTwo ca 34 = i_bin (fun x y => x + y) 35 := rfl
theorem k_X3_addToByTwo_35 (ca : Nat → ClassId) : k_X3_addToByTwo ca 35 = i_istore 5 37 := rfl
theorem k_X3_addToByTwo_37 (ca : Nat → ClassId) : k_X3_addToByTwo ca 37 = i_iload 5 39 := rfl
theorem k_X3_addToByTwo_39 (ca : Nat → ClassId) : k_X3_addToByTwo ca 39 = i_if (fun x => x < 0) 56 42 := rfl
theorem k_X3_addToByTwo_42 (ca : Nat → ClassId) : k_X3_addToByTwo ca 42 = i_aload 0 43 := rfl
theorem k_X3_addToByTwo_43 (ca : Nat → ClassId) : k_X3_addToByTwo ca 43 = i_getf 3 5 46 := rfl
theorem k_X3_addToByTwo_46 (ca : Nat → ClassId) : k_X3_addToByTwo ca 46 = i_iload 5 48 := rfl
theorem k_X3_addToByTwo_48 (ca : Nat → ClassId) : k_X3_addToByTwo ca 48 = i_dup2 49 := rfl
theorem k_X3_addToByTwo_49 (ca : Nat → ClassId) : k_X3_addToByTwo ca 49 = i_ald (ca 0) 50 := rfl
theorem k_X3_addToByTwo_50 (ca : Nat → ClassId) : k_X3_addToByTwo ca 50 = i_iload 2 51 := rfl
theorem k_X3_addToByTwo_51 (ca : Nat → ClassId) : k_X3_addToByTwo ca 51 = i_iload 4 53 := rfl
theorem k_X3_addToByTwo_53 (ca : Nat → ClassId) : k_X3_addToByTwo ca 53 = i_bin (fun x y => x <<< (y &&& 31)) 54 := rfl
theorem k_X3_addToByTwo_54 (ca : Nat → ClassId) : k_X3_addToByTwo ca 54 = i_bin (fun x y => x ||| y) 55 := rfl
theorem k_X3_addToByTwo_55 (ca : Nat → ClassId) : k_X3_addToByTwo ca 55 = i_ast (fun x => x) (ca 0) 56 := rfl
theorem k_X3_addToByTwo_56 (ca : Nat → ClassId) : k_X3_addToByTwo ca 56 = i_iinc 4 1 59 := rfl
theorem k_X3_addToByTwo_59 (ca : Nat → ClassId) : k_X3_addToByTwo ca 59 = i_goto 13 := rfl
theorem k_X3_addToByTwo_62 (ca : Nat → ClassId) : k_X3_addToByTwo ca 62 = i_iinc 3 1 65 := rfl
theorem k_X3_addToByTwo_65 (ca : Nat → ClassId) : k_X3_addToByTwo ca 65 = i_goto 2 := rfl
theorem k_X3_addToByTwo_68 (ca : Nat → ClassId) : k_X3_addToByTwo ca 68 = i_vret := rfl
set_option maxHeartbeats 4000000 in
set_option maxRecDepth 20000 in
theorem ok_X3_addToByTwo (l : Launch) (D : va_G) (ca : Nat → ClassId) : OkAll l D ca yX3_addToByTwo cX3_addToByTwo 6 none 1 0 0 (sp_X3_addToByTwo ca) := by
  intro av h post hs
  obtain ⟨x5, nx, tm, pp, pc, ox, tx, Nf, pr, bo0, B, L, hB, rfl, e0, ⟨nf, e2, e3⟩, hN, ⟨pf, e4, hp⟩, e1, d1, d2, d3, hL, hI0, hs⟩ := hs
  have e0' := e0
  unfold eSF at e0'
  have hpc := hp.1
  refine okM_of t_X3_addToByTwo (by decide +kernel) (c1_ref (c1_int (c1_int c1_nil))) (Nat.le_of_ble_eq_true rfl) ?_
  intro K go
  have key : ∀ r i bo x4 x5', i + r = pc → Inv2 Nf pr pc bo B i 1 → K 0 0 2 [some (.ref x5), some (.int (nI B)), some (.int L), some (.int (nI i)), x4, x5'] [] (va_up h tx (some (.inl (ca 0, 541, .inl bo)))) := by
    intro r
    induction r with
    | zero =>
      intro i bo x4 x5' hi hI
      have hi : i = pc := hi
      subst hi
      have k0 := hs bo hI
      refine goN go (stp []) 160 _ _ _ _ _ _ (fun F hF hF0 => ?_)
      simp only [hF, hF0, ite_not, i_push, i_iload, i_lload, i_aload, i_istore, i_astore, i_lstore, i_iinc, i_bin, i_dv, i_un, i_lbin, i_lsh, i_i2l, i_l2i, i_lcmp, i_dup, i_dup2, i_pop, i_if, i_icmp, i_goto, swG, i_sw, i_getf, i_puti, i_putz, i_putr, i_ald, i_lald, i_aald, i_ast, i_last, i_aast, i_alen, i_new, i_newi, i_newl, i_newq, i_oinit, i_ret, i_zret, i_lret, i_vret, catS, tk, rpush, isO, i_m1, i_m2, i_acopy, i_callV, i_callS, KRet, lget, lput, lputL, lcl0, isL, lv0, List.map_cons, List.map_nil, List.length_cons, List.length_nil, List.cons_append, List.nil_append, Nat.reduceAdd, Nat.reduceSub, Nat.reduceLeDiff, List.replicate_succ, List.replicate_zero, List.getElem?_cons_succ, List.getElem?_cons_zero, List.set_cons_succ, List.set_cons_zero, true_and, and_true, if_true, if_false, ↓reduceIte, Nat.le_refl, Value.category, va_up_app, eq_self, stp, Nat.reduceBEq, Bool.or_false, Bool.false_or, Bool.true_or, Bool.or_true, or_true, true_or, bx_uu, implies_true, true_implies, not_true, not_false_eq_true, false_implies, and_self, Nat.reduceLT, Int32.reduceAdd, Int32.reduceSub, Int32.reduceMul, Int32.reduceLE, Int32.reduceLT, Int32.reduceToNatClampNeg, va_rf_some, Bool.false_eq_true, k_X3_addToByTwo_0 ca, k_X3_addToByTwo_1 ca, k_X3_addToByTwo_2 ca, k_X3_addToByTwo_3 ca, k_X3_addToByTwo_4 ca, k_X3_addToByTwo_7 ca, k_X3_addToByTwo_10 ca, k_X3_addToByTwo_11 ca, k_X3_addToByTwo_13 ca, k_X3_addToByTwo_15 ca, k_X3_addToByTwo_17 ca, k_X3_addToByTwo_20 ca, k_X3_addToByTwo_21 ca, k_X3_addToByTwo_23 ca, k_X3_addToByTwo_24 ca, k_X3_addToByTwo_25 ca, k_X3_addToByTwo_28 ca, k_X3_addToByTwo_29 ca, k_X3_addToByTwo_30 ca, k_X3_addToByTwo_33 ca, k_X3_addToByTwo_34 ca, k_X3_addToByTwo_35 ca, k_X3_addToByTwo_37 ca, k_X3_addToByTwo_39 ca, k_X3_addToByTwo_42 ca, k_X3_addToByTwo_43 ca, k_X3_addToByTwo_46 ca, k_X3_addToByTwo_48 ca, k_X3_addToByTwo_49 ca, k_X3_addToByTwo_50 ca, k_X3_addToByTwo_51 ca, k_X3_addToByTwo_53 ca, k_X3_addToByTwo_54 ca, k_X3_addToByTwo_55 ca, k_X3_addToByTwo_56 ca, k_X3_addToByTwo_59 ca, k_X3_addToByTwo_62 ca, k_X3_addToByTwo_65 ca, k_X3_addToByTwo_68 ca, e0', d1, Int32.le_refl]
      try clear hF hF0 F
      exact k0
    | succ r ih =>
      intro i bo x4 x5' hi hI
      have g2 : ¬ nI pc ≤ nI i := nI_ge (by omega) (by omega)
      have vi : vp_in (nI i) 36 := vp_in_nI (by omega) (by decide)
      have xi : (nI i).toNatClampNeg = i := nI_clamp (by omega)
      obtain ⟨y1, y2⟩ := hp.2.1 i (by omega)
      have inner : ∀ r2 l bo x5', l + r2 = 10 → 1 ≤ l → Inv2 Nf pr pc bo B i l → K 0 0 13 [some (.ref x5), some (.int (nI B)), some (.int L), some (.int (nI i)), some (.int (nI l)), x5'] [] (va_up h tx (some (.inl (ca 0, 541, .inl bo)))) := by
        intro r2
        induction r2 with
        | zero =>
          intro l bo x5' hl _ hI
          have hl : l = 10 := hl
          subst hl
          have e : nI 10 = 10 := rfl
          have k0 := ih (i + 1) bo (some (.int 10)) x5' (by omega) (Inv2_n hI)
          refine goN go (stp [2]) 160 _ _ _ _ _ _ (fun F hF hF0 => ?_)
          simp only [hF, hF0, ite_not, i_push, i_iload, i_lload, i_aload, i_istore, i_astore, i_lstore, i_iinc, i_bin, i_dv, i_un, i_lbin, i_lsh, i_i2l, i_l2i, i_lcmp, i_dup, i_dup2, i_pop, i_if, i_icmp, i_goto, swG, i_sw, i_getf, i_puti, i_putz, i_putr, i_ald, i_lald, i_aald, i_ast, i_last, i_aast, i_alen, i_new, i_newi, i_newl, i_newq, i_oinit, i_ret, i_zret, i_lret, i_vret, catS, tk, rpush, isO, i_m1, i_m2, i_acopy, i_callV, i_callS, KRet, lget, lput, lputL, lcl0, isL, lv0, List.map_cons, List.map_nil, List.length_cons, List.length_nil, List.cons_append, List.nil_append, Nat.reduceAdd, Nat.reduceSub, Nat.reduceLeDiff, List.replicate_succ, List.replicate_zero, List.getElem?_cons_succ, List.getElem?_cons_zero, List.set_cons_succ, List.set_cons_zero, true_and, and_true, if_true, if_false, ↓reduceIte, Nat.le_refl, Value.category, va_up_app, eq_self, stp, Nat.reduceBEq, Bool.or_false, Bool.false_or, Bool.true_or, Bool.or_true, or_true, true_or, bx_uu, implies_true, true_implies, not_true, not_false_eq_true, false_implies, and_self, Nat.reduceLT, Int32.reduceAdd, Int32.reduceSub, Int32.reduceMul, Int32.reduceLE, Int32.reduceLT, Int32.reduceToNatClampNeg, va_rf_some, Bool.false_eq_true, k_X3_addToByTwo_0 ca, k_X3_addToByTwo_1 ca, k_X3_addToByTwo_2 ca, k_X3_addToByTwo_3 ca, k_X3_addToByTwo_4 ca, k_X3_addToByTwo_7 ca, k_X3_addToByTwo_10 ca, k_X3_addToByTwo_11 ca, k_X3_addToByTwo_13 ca, k_X3_addToByTwo_15 ca, k_X3_addToByTwo_17 ca, k_X3_addToByTwo_20 ca, k_X3_addToByTwo_21 ca, k_X3_addToByTwo_23 ca, k_X3_addToByTwo_24 ca, k_X3_addToByTwo_25 ca, k_X3_addToByTwo_28 ca, k_X3_addToByTwo_29 ca, k_X3_addToByTwo_30 ca, k_X3_addToByTwo_33 ca, k_X3_addToByTwo_34 ca, k_X3_addToByTwo_35 ca, k_X3_addToByTwo_37 ca, k_X3_addToByTwo_39 ca, k_X3_addToByTwo_42 ca, k_X3_addToByTwo_43 ca, k_X3_addToByTwo_46 ca, k_X3_addToByTwo_48 ca, k_X3_addToByTwo_49 ca, k_X3_addToByTwo_50 ca, k_X3_addToByTwo_51 ca, k_X3_addToByTwo_53 ca, k_X3_addToByTwo_54 ca, k_X3_addToByTwo_55 ca, k_X3_addToByTwo_56 ca, k_X3_addToByTwo_59 ca, k_X3_addToByTwo_62 ca, k_X3_addToByTwo_65 ca, k_X3_addToByTwo_68 ca, e, a_1]
          try clear hF hF0 F
          exact k0
        | succ r2 ih2 =>
          intro l bo x5' hl h1l hI
          have g1 : ((9 : Int32) < nI l) = False := eq_false (nI_nlt (a := 9) (by omega) (by omega))
          have hbd := ld_bd (l := l) (by omega) (dz_bd hN y2)
          have f0 : va_up h tx (some (.inl (ca 0, 541, .inl bo))) x5 = some (eSF nx tm pp (nI pc) ox tx) := (va_up_ne _ _ d1).trans e0
          have eB : ∀ z : Int, nI B + zI z = zI (B + z) := fun z => zI_add B z
          have e0z : (zI ((B : Int) + l * dz Nf (pr i)) < 0) = ((B : Int) + l * dz Nf (pr i) < 0) := zI_lt (y := 0) (by omega) (by omega)
          refine goN go (stp [33]) 160 _ _ _ _ _ _ (fun F hF hF0 => ?_)
          simp only [hF, hF0, ite_not, i_push, i_iload, i_lload, i_aload, i_istore, i_astore, i_lstore, i_iinc, i_bin, i_dv, i_un, i_lbin, i_lsh, i_i2l, i_l2i, i_lcmp, i_dup, i_dup2, i_pop, i_if, i_icmp, i_goto, swG, i_sw, i_getf, i_puti, i_putz, i_putr, i_ald, i_lald, i_aald, i_ast, i_last, i_aast, i_alen, i_new, i_newi, i_newl, i_newq, i_oinit, i_ret, i_zret, i_lret, i_vret, catS, tk, rpush, isO, i_m1, i_m2, i_acopy, i_callV, i_callS, KRet, lget, lput, lputL, lcl0, isL, lv0, List.map_cons, List.map_nil, List.length_cons, List.length_nil, List.cons_append, List.nil_append, Nat.reduceAdd, Nat.reduceSub, Nat.reduceLeDiff, List.replicate_succ, List.replicate_zero, List.getElem?_cons_succ, List.getElem?_cons_zero, List.set_cons_succ, List.set_cons_zero, true_and, and_true, if_true, if_false, ↓reduceIte, Nat.le_refl, Value.category, va_up_app, eq_self, stp, Nat.reduceBEq, Bool.or_false, Bool.false_or, Bool.true_or, Bool.or_true, or_true, true_or, bx_uu, implies_true, true_implies, not_true, not_false_eq_true, false_implies, and_self, Nat.reduceLT, Int32.reduceAdd, Int32.reduceSub, Int32.reduceMul, Int32.reduceLE, Int32.reduceLT, Int32.reduceToNatClampNeg, va_rf_some, Bool.false_eq_true, k_X3_addToByTwo_0 ca, k_X3_addToByTwo_1 ca, k_X3_addToByTwo_2 ca, k_X3_addToByTwo_3 ca, k_X3_addToByTwo_4 ca, k_X3_addToByTwo_7 ca, k_X3_addToByTwo_10 ca, k_X3_addToByTwo_11 ca, k_X3_addToByTwo_13 ca, k_X3_addToByTwo_15 ca, k_X3_addToByTwo_17 ca, k_X3_addToByTwo_20 ca, k_X3_addToByTwo_21 ca, k_X3_addToByTwo_23 ca, k_X3_addToByTwo_24 ca, k_X3_addToByTwo_25 ca, k_X3_addToByTwo_28 ca, k_X3_addToByTwo_29 ca, k_X3_addToByTwo_30 ca, k_X3_addToByTwo_33 ca, k_X3_addToByTwo_34 ca, k_X3_addToByTwo_35 ca, k_X3_addToByTwo_37 ca, k_X3_addToByTwo_39 ca, k_X3_addToByTwo_42 ca, k_X3_addToByTwo_43 ca, k_X3_addToByTwo_46 ca, k_X3_addToByTwo_48 ca, k_X3_addToByTwo_49 ca, k_X3_addToByTwo_50 ca, k_X3_addToByTwo_51 ca, k_X3_addToByTwo_53 ca, k_X3_addToByTwo_54 ca, k_X3_addToByTwo_55 ca, k_X3_addToByTwo_56 ca, k_X3_addToByTwo_59 ca, k_X3_addToByTwo_62 ca, k_X3_addToByTwo_65 ca, k_X3_addToByTwo_68 ca, g1, e0', d1, d3, e4, vi, xi, y1]
          try clear hF hF0 F
          refine ⟨x5, nx, tm, pp, nI pc, ox, tx, Nf, pr i, y2, rfl, f0, ⟨nf, (va_up_ne _ _ d2).trans e2, e3⟩, ?_⟩
          by_cases q : (B : Int) + l * dz Nf (pr i) < 0
          · have k0 := ih2 (l + 1) bo (some (.int (zI ((B : Int) + l * dz Nf (pr i))))) (by omega) (by omega) (Inv2_neg q hI)
            refine goN go (stp [13]) 160 _ _ _ _ _ _ (fun F hF hF0 => ?_)
            simp only [hF, hF0, ite_not, i_push, i_iload, i_lload, i_aload, i_istore, i_astore, i_lstore, i_iinc, i_bin, i_dv, i_un, i_lbin, i_lsh, i_i2l, i_l2i, i_lcmp, i_dup, i_dup2, i_pop, i_if, i_icmp, i_goto, swG, i_sw, i_getf, i_puti, i_putz, i_putr, i_ald, i_lald, i_aald, i_ast, i_last, i_aast, i_alen, i_new, i_newi, i_newl, i_newq, i_oinit, i_ret, i_zret, i_lret, i_vret, catS, tk, rpush, isO, i_m1, i_m2, i_acopy, i_callV, i_callS, KRet, lget, lput, lputL, lcl0, isL, lv0, List.map_cons, List.map_nil, List.length_cons, List.length_nil, List.cons_append, List.nil_append, Nat.reduceAdd, Nat.reduceSub, Nat.reduceLeDiff, List.replicate_succ, List.replicate_zero, List.getElem?_cons_succ, List.getElem?_cons_zero, List.set_cons_succ, List.set_cons_zero, true_and, and_true, if_true, if_false, ↓reduceIte, Nat.le_refl, Value.category, va_up_app, eq_self, stp, Nat.reduceBEq, Bool.or_false, Bool.false_or, Bool.true_or, Bool.or_true, or_true, true_or, bx_uu, implies_true, true_implies, not_true, not_false_eq_true, false_implies, and_self, Nat.reduceLT, Int32.reduceAdd, Int32.reduceSub, Int32.reduceMul, Int32.reduceLE, Int32.reduceLT, Int32.reduceToNatClampNeg, va_rf_some, Bool.false_eq_true, k_X3_addToByTwo_0 ca, k_X3_addToByTwo_1 ca, k_X3_addToByTwo_2 ca, k_X3_addToByTwo_3 ca, k_X3_addToByTwo_4 ca, k_X3_addToByTwo_7 ca, k_X3_addToByTwo_10 ca, k_X3_addToByTwo_11 ca, k_X3_addToByTwo_13 ca, k_X3_addToByTwo_15 ca, k_X3_addToByTwo_17 ca, k_X3_addToByTwo_20 ca, k_X3_addToByTwo_21 ca, k_X3_addToByTwo_23 ca, k_X3_addToByTwo_24 ca, k_X3_addToByTwo_25 ca, k_X3_addToByTwo_28 ca, k_X3_addToByTwo_29 ca, k_X3_addToByTwo_30 ca, k_X3_addToByTwo_33 ca, k_X3_addToByTwo_34 ca, k_X3_addToByTwo_35 ca, k_X3_addToByTwo_37 ca, k_X3_addToByTwo_39 ca, k_X3_addToByTwo_42 ca, k_X3_addToByTwo_43 ca, k_X3_addToByTwo_46 ca, k_X3_addToByTwo_48 ca, k_X3_addToByTwo_49 ca, k_X3_addToByTwo_50 ca, k_X3_addToByTwo_51 ca, k_X3_addToByTwo_53 ca, k_X3_addToByTwo_54 ca, k_X3_addToByTwo_55 ca, k_X3_addToByTwo_56 ca, k_X3_addToByTwo_59 ca, k_X3_addToByTwo_62 ca, k_X3_addToByTwo_65 ca, k_X3_addToByTwo_68 ca, z_mul, eB, e0z, q, a_1]
            try clear hF hF0 F
            exact k0
          · obtain ⟨Z, hZ⟩ : ∃ Z : Nat, (B : Int) + l * dz Nf (pr i) = Z := ⟨((B : Int) + l * dz Nf (pr i)).toNat, by omega⟩
            have vm : vp_in (zI ((B : Int) + l * dz Nf (pr i))) 541 := by rw [hZ]; exact vp_in_nI (by omega) (by decide)
            have xm : (zI ((B : Int) + l * dz Nf (pr i))).toNatClampNeg = Z := by rw [hZ]; exact nI_clamp (by omega)
            have k0 := ih2 (l + 1) _ (some (.int (zI ((B : Int) + l * dz Nf (pr i))))) (by omega) (by omega) (Inv2_s hN hB (by omega) ⟨h1l, by omega⟩ hL hZ hI)
            refine goN go (stp [13]) 160 _ _ _ _ _ _ (fun F hF hF0 => ?_)
            simp only [hF, hF0, ite_not, i_push, i_iload, i_lload, i_aload, i_istore, i_astore, i_lstore, i_iinc, i_bin, i_dv, i_un, i_lbin, i_lsh, i_i2l, i_l2i, i_lcmp, i_dup, i_dup2, i_pop, i_if, i_icmp, i_goto, swG, i_sw, i_getf, i_puti, i_putz, i_putr, i_ald, i_lald, i_aald, i_ast, i_last, i_aast, i_alen, i_new, i_newi, i_newl, i_newq, i_oinit, i_ret, i_zret, i_lret, i_vret, catS, tk, rpush, isO, i_m1, i_m2, i_acopy, i_callV, i_callS, KRet, lget, lput, lputL, lcl0, isL, lv0, List.map_cons, List.map_nil, List.length_cons, List.length_nil, List.cons_append, List.nil_append, Nat.reduceAdd, Nat.reduceSub, Nat.reduceLeDiff, List.replicate_succ, List.replicate_zero, List.getElem?_cons_succ, List.getElem?_cons_zero, List.set_cons_succ, List.set_cons_zero, true_and, and_true, if_true, if_false, ↓reduceIte, Nat.le_refl, Value.category, va_up_app, eq_self, stp, Nat.reduceBEq, Bool.or_false, Bool.false_or, Bool.true_or, Bool.or_true, or_true, true_or, bx_uu, implies_true, true_implies, not_true, not_false_eq_true, false_implies, and_self, Nat.reduceLT, Int32.reduceAdd, Int32.reduceSub, Int32.reduceMul, Int32.reduceLE, Int32.reduceLT, Int32.reduceToNatClampNeg, va_rf_some, Bool.false_eq_true, k_X3_addToByTwo_0 ca, k_X3_addToByTwo_1 ca, k_X3_addToByTwo_2 ca, k_X3_addToByTwo_3 ca, k_X3_addToByTwo_4 ca, k_X3_addToByTwo_7 ca, k_X3_addToByTwo_10 ca, k_X3_addToByTwo_11 ca, k_X3_addToByTwo_13 ca, k_X3_addToByTwo_15 ca, k_X3_addToByTwo_17 ca, k_X3_addToByTwo_20 ca, k_X3_addToByTwo_21 ca, k_X3_addToByTwo_23 ca, k_X3_addToByTwo_24 ca, k_X3_addToByTwo_25 ca, k_X3_addToByTwo_28 ca, k_X3_addToByTwo_29 ca, k_X3_addToByTwo_30 ca, k_X3_addToByTwo_33 ca, k_X3_addToByTwo_34 ca, k_X3_addToByTwo_35 ca, k_X3_addToByTwo_37 ca, k_X3_addToByTwo_39 ca, k_X3_addToByTwo_42 ca, k_X3_addToByTwo_43 ca, k_X3_addToByTwo_46 ca, k_X3_addToByTwo_48 ca, k_X3_addToByTwo_49 ca, k_X3_addToByTwo_50 ca, k_X3_addToByTwo_51 ca, k_X3_addToByTwo_53 ca, k_X3_addToByTwo_54 ca, k_X3_addToByTwo_55 ca, k_X3_addToByTwo_56 ca, k_X3_addToByTwo_59 ca, k_X3_addToByTwo_62 ca, k_X3_addToByTwo_65 ca, k_X3_addToByTwo_68 ca, z_mul, eB, e0z, q, e0', d1, vm, xm, a_1]
            try clear hF hF0 F
            exact k0
      have k0 := inner 9 1 bo x5' (by omega) (by omega) hI
      rw [n1] at k0
      refine goN go (stp [13]) 160 _ _ _ _ _ _ (fun F hF hF0 => ?_)
      simp only [hF, hF0, ite_not, i_push, i_iload, i_lload, i_aload, i_istore, i_astore, i_lstore, i_iinc, i_bin, i_dv, i_un, i_lbin, i_lsh, i_i2l, i_l2i, i_lcmp, i_dup, i_dup2, i_pop, i_if, i_icmp, i_goto, swG, i_sw, i_getf, i_puti, i_putz, i_putr, i_ald, i_lald, i_aald, i_ast, i_last, i_aast, i_alen, i_new, i_newi, i_newl, i_newq, i_oinit, i_ret, i_zret, i_lret, i_vret, catS, tk, rpush, isO, i_m1, i_m2, i_acopy, i_callV, i_callS, KRet, lget, lput, lputL, lcl0, isL, lv0, List.map_cons, List.map_nil, List.length_cons, List.length_nil, List.cons_append, List.nil_append, Nat.reduceAdd, Nat.reduceSub, Nat.reduceLeDiff, List.replicate_succ, List.replicate_zero, List.getElem?_cons_succ, List.getElem?_cons_zero, List.set_cons_succ, List.set_cons_zero, true_and, and_true, if_true, if_false, ↓reduceIte, Nat.le_refl, Value.category, va_up_app, eq_self, stp, Nat.reduceBEq, Bool.or_false, Bool.false_or, Bool.true_or, Bool.or_true, or_true, true_or, bx_uu, implies_true, true_implies, not_true, not_false_eq_true, false_implies, and_self, Nat.reduceLT, Int32.reduceAdd, Int32.reduceSub, Int32.reduceMul, Int32.reduceLE, Int32.reduceLT, Int32.reduceToNatClampNeg, va_rf_some, Bool.false_eq_true, k_X3_addToByTwo_0 ca, k_X3_addToByTwo_1 ca, k_X3_addToByTwo_2 ca, k_X3_addToByTwo_3 ca, k_X3_addToByTwo_4 ca, k_X3_addToByTwo_7 ca, k_X3_addToByTwo_10 ca, k_X3_addToByTwo_11 ca, k_X3_addToByTwo_13 ca, k_X3_addToByTwo_15 ca, k_X3_addToByTwo_17 ca, k_X3_addToByTwo_20 ca, k_X3_addToByTwo_21 ca, k_X3_addToByTwo_23 ca, k_X3_addToByTwo_24 ca, k_X3_addToByTwo_25 ca, k_X3_addToByTwo_28 ca, k_X3_addToByTwo_29 ca, k_X3_addToByTwo_30 ca, k_X3_addToByTwo_33 ca, k_X3_addToByTwo_34 ca, k_X3_addToByTwo_35 ca, k_X3_addToByTwo_37 ca, k_X3_addToByTwo_39 ca, k_X3_addToByTwo_42 ca, k_X3_addToByTwo_43 ca, k_X3_addToByTwo_46 ca, k_X3_addToByTwo_48 ca, k_X3_addToByTwo_49 ca, k_X3_addToByTwo_50 ca, k_X3_addToByTwo_51 ca, k_X3_addToByTwo_53 ca, k_X3_addToByTwo_54 ca, k_X3_addToByTwo_55 ca, k_X3_addToByTwo_56 ca, k_X3_addToByTwo_59 ca, k_X3_addToByTwo_62 ca, k_X3_addToByTwo_65 ca, k_X3_addToByTwo_68 ca, g2, e0', d1]
      try clear hF hF0 F
      exact k0
  have k0 := key pc 0 bo0 none none (by omega) hI0
  rw [nI_0, up_id e1] at k0
  refine goN go (stp [2]) 160 _ _ _ _ _ _ (fun F hF hF0 => ?_)
  simp only [hF, hF0, ite_not, i_push, i_iload, i_lload, i_aload, i_istore, i_astore, i_lstore, i_iinc, i_bin, i_dv, i_un, i_lbin, i_lsh, i_i2l, i_l2i, i_lcmp, i_dup, i_dup2, i_pop, i_if, i_icmp, i_goto, swG, i_sw, i_getf, i_puti, i_putz, i_putr, i_ald, i_lald, i_aald, i_ast, i_last, i_aast, i_alen, i_new, i_newi, i_newl, i_newq, i_oinit, i_ret, i_zret, i_lret, i_vret, catS, tk, rpush, isO, i_m1, i_m2, i_acopy, i_callV, i_callS, KRet, lget, lput, lputL, lcl0, isL, lv0, List.map_cons, List.map_nil, List.length_cons, List.length_nil, List.cons_append, List.nil_append, Nat.reduceAdd, Nat.reduceSub, Nat.reduceLeDiff, List.replicate_succ, List.replicate_zero, List.getElem?_cons_succ, List.getElem?_cons_zero, List.set_cons_succ, List.set_cons_zero, true_and, and_true, if_true, if_false, ↓reduceIte, Nat.le_refl, Value.category, va_up_app, eq_self, stp, Nat.reduceBEq, Bool.or_false, Bool.false_or, Bool.true_or, Bool.or_true, or_true, true_or, bx_uu, implies_true, true_implies, not_true, not_false_eq_true, false_implies, and_self, Nat.reduceLT, Int32.reduceAdd, Int32.reduceSub, Int32.reduceMul, Int32.reduceLE, Int32.reduceLT, Int32.reduceToNatClampNeg, va_rf_some, Bool.false_eq_true, k_X3_addToByTwo_0 ca, k_X3_addToByTwo_1 ca, k_X3_addToByTwo_2 ca, k_X3_addToByTwo_3 ca, k_X3_addToByTwo_4 ca, k_X3_addToByTwo_7 ca, k_X3_addToByTwo_10 ca, k_X3_addToByTwo_11 ca, k_X3_addToByTwo_13 ca, k_X3_addToByTwo_15 ca, k_X3_addToByTwo_17 ca, k_X3_addToByTwo_20 ca, k_X3_addToByTwo_21 ca, k_X3_addToByTwo_23 ca, k_X3_addToByTwo_24 ca, k_X3_addToByTwo_25 ca, k_X3_addToByTwo_28 ca, k_X3_addToByTwo_29 ca, k_X3_addToByTwo_30 ca, k_X3_addToByTwo_33 ca, k_X3_addToByTwo_34 ca, k_X3_addToByTwo_35 ca, k_X3_addToByTwo_37 ca, k_X3_addToByTwo_39 ca, k_X3_addToByTwo_42 ca, k_X3_addToByTwo_43 ca, k_X3_addToByTwo_46 ca, k_X3_addToByTwo_48 ca, k_X3_addToByTwo_49 ca, k_X3_addToByTwo_50 ca, k_X3_addToByTwo_51 ca, k_X3_addToByTwo_53 ca, k_X3_addToByTwo_54 ca, k_X3_addToByTwo_55 ca, k_X3_addToByTwo_56 ca, k_X3_addToByTwo_59 ca, k_X3_addToByTwo_62 ca, k_X3_addToByTwo_65 ca, k_X3_addToByTwo_68 ca]
  try clear hF hF0 F
  exact k0
def sp_X3_fillByTwo (ca : Nat → ClassId) : SPEC := fun av h post => ∃ x5 nx tm pp pc ox tx Nf pr bo0, av = [.ref x5] ∧ h x5 = some (eSF nx tm pp (nI pc) ox tx) ∧ NumA ca h nx Nf ∧ Nm Nf ∧ PairsA ca h pp pc Nf pr ∧ OneA ca h ox Nf ∧ h tx = some (.inl (ca 0, 541, .inl bo0)) ∧ ¬ x5 = tx ∧ ¬ nx = tx ∧ ¬ pp = tx ∧ ¬ ox = tx ∧
  ∀ bo, (∀ z : Nat, z ≤ 540 → Lens Nf (bo z) 2 z) → post none (va_up h tx (some (.inl (ca 0, 541, .inl bo))))
def k_X3_fillByTwo (ca : Nat → ClassId) : Nat → IT := fun pc => lk pc [(0, i_aload 0 1),
  (1, i_getf 3 5 4),
  (4, i_push (.int 0) 5),
  (5, i_callS 2 0 0 0 0 (sp_J7_fill_53178 ca) 8),
  (8, i_push (.int 0) 9),
  (9, i_istore 1 10),
  (10, i_iload 1 11),
  (11, i_push (.int 270) 14),
  (14, i_icmp (fun x y => y < x) 43 17),
  (17, i_aload 0 18),
  (18, i_getf 3 4 21),
  (21, i_iload 1 22),
  (22, i_ald (ca 0) 23),
  (23, i_if (fun x => x = 0) 37 26),
  (26, i_aload 0 27),
  (27, i_iload 1 28),
  (28, i_aload 0 29),
  (29, i_getf 3 4 32),
  (32, i_iload 1 33),
  (33, i_ald (ca 0) 34),
  (34, i_callV 3 2 0 0 0 0 (sp_X3_addToByTwo ca) 37),
  (37, i_iinc 1 1 40),
  (40, i_goto 10),
  (43, i_vret)]
set_option maxRecDepth 20000 in
theorem t_X3_fillByTwo : Tb k_X3_fillByTwo yX3_fillByTwo cX3_fillByTwo 2 none 2 0 0 := by
  intro l D ca A p e s m args below meth c post X
  unfold k_X3_fillByTwo
  refine snd_cons (snd_aload_n X dX3_fillByTwo_0 rfl) ?_
  refine snd_cons (snd_getf X Fk3 5 (by decide) w_239 dX3_fillByTwo_1) ?_
  refine snd_cons (snd_iconst X dX3_fillByTwo_4 (by decide)) ?_
  refine snd_cons (snd_callJ X (ok_J7_fill_53178 l D ca) rfl rfl w_533 w_500 w_12 w_501 (by decide) (by decide) dX3_fillByTwo_5) ?_
  refine snd_cons (snd_iconst X dX3_fillByTwo_8 (by decide)) ?_
  refine snd_cons (snd_istore_n X dX3_fillByTwo_9 rfl (by decide)) ?_
  refine snd_cons (snd_iload_n X dX3_fillByTwo_10 rfl) ?_
  refine snd_cons (snd_sipush X dX3_fillByTwo_11 (by decide)) ?_
  refine snd_cons (snd_icmp_gt X dX3_fillByTwo_14 (by decide)) ?_
  refine snd_cons (snd_aload_n X dX3_fillByTwo_17 rfl) ?_
  refine snd_cons (snd_getf X Fk3 4 (by decide) w_238 dX3_fillByTwo_18) ?_
  refine snd_cons (snd_iload_n X dX3_fillByTwo_21 rfl) ?_
  refine snd_cons (snd_iaload X dX3_fillByTwo_22) ?_
  refine snd_cons (snd_if_eq X dX3_fillByTwo_23 (by decide)) ?_
  refine snd_cons (snd_aload_n X dX3_fillByTwo_26 rfl) ?_
  refine snd_cons (snd_iload_n X dX3_fillByTwo_27 rfl) ?_
  refine snd_cons (snd_aload_n X dX3_fillByTwo_28 rfl) ?_
  refine snd_cons (snd_getf X Fk3 4 (by decide) w_238 dX3_fillByTwo_29) ?_
  refine snd_cons (snd_iload_n X dX3_fillByTwo_32 rfl) ?_
  refine snd_cons (snd_iaload X dX3_fillByTwo_33) ?_
  refine snd_cons (snd_callV X Fk3 (ok_X3_addToByTwo l D ca) rfl rfl w_541 w_543 wp_9 w_8 w_544 (by decide) (by decide) dX3_fillByTwo_34) ?_
  refine snd_cons (snd_iinc X dX3_fillByTwo_37 (by decide) (by decide)) ?_
  refine snd_cons (snd_goto X dX3_fillByTwo_40 (by decide)) ?_
  refine snd_cons (snd_vret X dX3_fillByTwo_43) ?_
  exact snd_nil
theorem k_X3_fillByTwo_0 (ca : Nat → ClassId) : k_X3_fillByTwo ca 0 = i_aload 0 1 := rfl
theorem k_X3_fillByTwo_1 (ca : Nat → ClassId) : k_X3_fillByTwo ca 1 = i_getf 3 5 4 := rfl
theorem k_X3_fillByTwo_4 (ca : Nat → ClassId) : k_X3_fillByTwo ca 4 = i_push (.int 0) 5 := rfl
theorem k_X3_fillByTwo_5 (ca : Nat → ClassId) : k_X3_fillByTwo ca 5 = i_callS 2 0 0 0 0 (sp_J7_fill_53178 ca) 8 := rfl
theorem k_X3_fillByTwo_8 (ca : Nat → ClassId) : k_X3_fillByTwo ca 8 = i_push (.int 0) 9 := rfl
theorem k_X3_fillByTwo_9 (ca : Nat → ClassId) : k_X3_fillByTwo ca 9 = i_istore 1 10 := rfl
theorem k_X3_fillByTwo_10 (ca : Nat → ClassId) : k_X3_fillByTwo ca 10 = i_iload 1 11 := rfl
theorem k_X3_fillByTwo_11 (ca : Nat → ClassId) : k_X3_fillByTwo ca 11 = i_push (.int 270) 14 := rfl
theorem k_X3_fillByTwo_14 (ca : Nat → ClassId) : k_X3_fillByTwo ca 14 = i_icmp (fun x y => y < x) 43 17 := rfl
theorem k_X3_fillByTwo_17 (ca : Nat → ClassId) : k_X3_fillByTwo ca 17 = i_aload 0 18 := rfl
theorem k_X3_fillByTwo_18 (ca : Nat → ClassId) : k_X3_fillByTwo ca 18 = i_getf 3 4 21 := rfl
theorem k_X3_fillByTwo_21 (ca : Nat → ClassId) : k_X3_fillByTwo ca 21 = i_iload 1 22 := rfl
theorem k_X3_fillByTwo_22 (ca : Nat → ClassId) : k_X3_fillByTwo ca 22 = i_ald (ca 0) 23 := rfl
theorem k_X3_fillByTwo_23 (ca : Nat → ClassId) : k_X3_fillByTwo ca 23 = i_if (fun x => x = 0) 37 26 := rfl
theorem k_X3_fillByTwo_26 (ca : Nat → ClassId) : k_X3_fillByTwo ca 26 = i_aload 0 27 := rfl
theorem k_X3_fillByTwo_27 (ca : Nat → ClassId) : k_X3_fillByTwo ca 27 = i_iload 1 28 := rfl
theorem k_X3_fillByTwo_28 (ca : Nat → ClassId) : k_X3_fillByTwo ca 28 = i_aload 0 29 := rfl
theorem k_X3_fillByTwo_29 (ca : Nat → ClassId) : k_X3_fillByTwo ca 29 = i_getf 3 4 32 := rfl
theorem k_X3_fillByTwo_32 (ca : Nat → ClassId) : k_X3_fillByTwo ca 32 = i_iload 1 33 := rfl
theorem k_X3_fillByTwo_33 (ca : Nat → ClassId) : k_X3_fillByTwo ca 33 = i_ald (ca 0) 34 := rfl
theorem k_X3_fillByTwo_34 (ca : Nat → ClassId) : k_X3_fillByTwo ca 34 = i_callV 3 2 0 0 0 0 (sp_X3_addToByTwo ca) 37 := rfl
theorem k_X3_fillByTwo_37 (ca : Nat → ClassId) : k_X3_fillByTwo ca 37 = i_iinc 1 1 40 := rfl
theorem k_X3_fillByTwo_40 (ca : Nat → ClassId) : k_X3_fillByTwo ca 40 = i_goto 10 := rfl
theorem k_X3_fillByTwo_43 (ca : Nat → ClassId) : k_X3_fillByTwo ca 43 = i_vret := rfl
set_option maxHeartbeats 4000000 in
set_option maxRecDepth 20000 in
theorem ok_X3_fillByTwo (l : Launch) (D : va_G) (ca : Nat → ClassId) : OkAll l D ca yX3_fillByTwo cX3_fillByTwo 2 none 2 0 0 (sp_X3_fillByTwo ca) := by
  intro av h post hs
  obtain ⟨x5, nx, tm, pp, pc, ox, tx, Nf, pr, bo0, rfl, e0, ⟨nf, e2, e3⟩, hN, ⟨pf, e4, hp⟩, ⟨b1, e5, e6⟩, e1, d1, d2, d3, d4, hs⟩ := hs
  have e0' := e0
  unfold eSF at e0'
  have hpc := hp.1
  refine okM_of t_X3_fillByTwo (by decide +kernel) (c1_ref c1_nil) (Nat.le_of_ble_eq_true rfl) ?_
  intro K go
  have key : ∀ r B bo, B + r = 271 → Inv2 Nf pr pc bo B 0 1 → K 0 0 10 [some (.ref x5), some (.int (nI B))] [] (va_up h tx (some (.inl (ca 0, 541, .inl bo)))) := by
    intro r
    induction r with
    | zero =>
      intro B bo hB hI
      have hB : B = 271 := hB
      subst hB
      have e : nI 271 = 271 := rfl
      have k0 := hs bo (Inv2_z hN hp hI)
      refine goN go (stp []) 160 _ _ _ _ _ _ (fun F hF hF0 => ?_)
      simp only [hF, hF0, ite_not, i_push, i_iload, i_lload, i_aload, i_istore, i_astore, i_lstore, i_iinc, i_bin, i_dv, i_un, i_lbin, i_lsh, i_i2l, i_l2i, i_lcmp, i_dup, i_dup2, i_pop, i_if, i_icmp, i_goto, swG, i_sw, i_getf, i_puti, i_putz, i_putr, i_ald, i_lald, i_aald, i_ast, i_last, i_aast, i_alen, i_new, i_newi, i_newl, i_newq, i_oinit, i_ret, i_zret, i_lret, i_vret, catS, tk, rpush, isO, i_m1, i_m2, i_acopy, i_callV, i_callS, KRet, lget, lput, lputL, lcl0, isL, lv0, List.map_cons, List.map_nil, List.length_cons, List.length_nil, List.cons_append, List.nil_append, Nat.reduceAdd, Nat.reduceSub, Nat.reduceLeDiff, List.replicate_succ, List.replicate_zero, List.getElem?_cons_succ, List.getElem?_cons_zero, List.set_cons_succ, List.set_cons_zero, true_and, and_true, if_true, if_false, ↓reduceIte, Nat.le_refl, Value.category, va_up_app, eq_self, stp, Nat.reduceBEq, Bool.or_false, Bool.false_or, Bool.true_or, Bool.or_true, or_true, true_or, bx_uu, implies_true, true_implies, not_true, not_false_eq_true, false_implies, and_self, Nat.reduceLT, Int32.reduceAdd, Int32.reduceSub, Int32.reduceMul, Int32.reduceLE, Int32.reduceLT, Int32.reduceToNatClampNeg, va_rf_some, Bool.false_eq_true, k_X3_fillByTwo_0 ca, k_X3_fillByTwo_1 ca, k_X3_fillByTwo_4 ca, k_X3_fillByTwo_5 ca, k_X3_fillByTwo_8 ca, k_X3_fillByTwo_9 ca, k_X3_fillByTwo_10 ca, k_X3_fillByTwo_11 ca, k_X3_fillByTwo_14 ca, k_X3_fillByTwo_17 ca, k_X3_fillByTwo_18 ca, k_X3_fillByTwo_21 ca, k_X3_fillByTwo_22 ca, k_X3_fillByTwo_23 ca, k_X3_fillByTwo_26 ca, k_X3_fillByTwo_27 ca, k_X3_fillByTwo_28 ca, k_X3_fillByTwo_29 ca, k_X3_fillByTwo_32 ca, k_X3_fillByTwo_33 ca, k_X3_fillByTwo_34 ca, k_X3_fillByTwo_37 ca, k_X3_fillByTwo_40 ca, k_X3_fillByTwo_43 ca, e]
      try clear hF hF0 F
      exact k0
    | succ r ih =>
      intro B bo hB hI
      have g1 : ((270 : Int32) < nI B) = False := eq_false (nI_nlt (a := 270) (by omega) (by omega))
      have vi : vp_in (nI B) 271 := vp_in_nI (by omega) (by decide)
      have xi : (nI B).toNatClampNeg = B := nI_clamp (by omega)
      have hL := e6 B (by omega)
      have hnz := Lens_nz hN (by decide) hL
      by_cases q : b1 B = 0
      · have k0 := ih (B + 1) bo (by omega) (Inv2_e (hnz.mp q) hI)
        refine goN go (stp [10]) 160 _ _ _ _ _ _ (fun F hF hF0 => ?_)
        simp only [hF, hF0, ite_not, i_push, i_iload, i_lload, i_aload, i_istore, i_astore, i_lstore, i_iinc, i_bin, i_dv, i_un, i_lbin, i_lsh, i_i2l, i_l2i, i_lcmp, i_dup, i_dup2, i_pop, i_if, i_icmp, i_goto, swG, i_sw, i_getf, i_puti, i_putz, i_putr, i_ald, i_lald, i_aald, i_ast, i_last, i_aast, i_alen, i_new, i_newi, i_newl, i_newq, i_oinit, i_ret, i_zret, i_lret, i_vret, catS, tk, rpush, isO, i_m1, i_m2, i_acopy, i_callV, i_callS, KRet, lget, lput, lputL, lcl0, isL, lv0, List.map_cons, List.map_nil, List.length_cons, List.length_nil, List.cons_append, List.nil_append, Nat.reduceAdd, Nat.reduceSub, Nat.reduceLeDiff, List.replicate_succ, List.replicate_zero, List.getElem?_cons_succ, List.getElem?_cons_zero, List.set_cons_succ, List.set_cons_zero, true_and, and_true, if_true, if_false, ↓reduceIte, Nat.le_refl, Value.category, va_up_app, eq_self, stp, Nat.reduceBEq, Bool.or_false, Bool.false_or, Bool.true_or, Bool.or_true, or_true, true_or, bx_uu, implies_true, true_implies, not_true, not_false_eq_true, false_implies, and_self, Nat.reduceLT, Int32.reduceAdd, Int32.reduceSub, Int32.reduceMul, Int32.reduceLE, Int32.reduceLT, Int32.reduceToNatClampNeg, va_rf_some, Bool.false_eq_true, k_X3_fillByTwo_0 ca, k_X3_fillByTwo_1 ca, k_X3_fillByTwo_4 ca, k_X3_fillByTwo_5 ca, k_X3_fillByTwo_8 ca, k_X3_fillByTwo_9 ca, k_X3_fillByTwo_10 ca, k_X3_fillByTwo_11 ca, k_X3_fillByTwo_14 ca, k_X3_fillByTwo_17 ca, k_X3_fillByTwo_18 ca, k_X3_fillByTwo_21 ca, k_X3_fillByTwo_22 ca, k_X3_fillByTwo_23 ca, k_X3_fillByTwo_26 ca, k_X3_fillByTwo_27 ca, k_X3_fillByTwo_28 ca, k_X3_fillByTwo_29 ca, k_X3_fillByTwo_32 ca, k_X3_fillByTwo_33 ca, k_X3_fillByTwo_34 ca, k_X3_fillByTwo_37 ca, k_X3_fillByTwo_40 ca, k_X3_fillByTwo_43 ca, g1, e0', d1, d4, e5, vi, xi, q, a_1]
        try clear hF hF0 F
        exact k0
      · refine goN go (stp [37]) 160 _ _ _ _ _ _ (fun F hF hF0 => ?_)
        simp only [hF, hF0, ite_not, i_push, i_iload, i_lload, i_aload, i_istore, i_astore, i_lstore, i_iinc, i_bin, i_dv, i_un, i_lbin, i_lsh, i_i2l, i_l2i, i_lcmp, i_dup, i_dup2, i_pop, i_if, i_icmp, i_goto, swG, i_sw, i_getf, i_puti, i_putz, i_putr, i_ald, i_lald, i_aald, i_ast, i_last, i_aast, i_alen, i_new, i_newi, i_newl, i_newq, i_oinit, i_ret, i_zret, i_lret, i_vret, catS, tk, rpush, isO, i_m1, i_m2, i_acopy, i_callV, i_callS, KRet, lget, lput, lputL, lcl0, isL, lv0, List.map_cons, List.map_nil, List.length_cons, List.length_nil, List.cons_append, List.nil_append, Nat.reduceAdd, Nat.reduceSub, Nat.reduceLeDiff, List.replicate_succ, List.replicate_zero, List.getElem?_cons_succ, List.getElem?_cons_zero, List.set_cons_succ, List.set_cons_zero, true_and, and_true, if_true, if_false, ↓reduceIte, Nat.le_refl, Value.category, va_up_app, eq_self, stp, Nat.reduceBEq, Bool.or_false, Bool.false_or, Bool.true_or, Bool.or_true, or_true, true_or, bx_uu, implies_true, true_implies, not_true, not_false_eq_true, false_implies, and_self, Nat.reduceLT, Int32.reduceAdd, Int32.reduceSub, Int32.reduceMul, Int32.reduceLE, Int32.reduceLT, Int32.reduceToNatClampNeg, va_rf_some, Bool.false_eq_true, k_X3_fillByTwo_0 ca, k_X3_fillByTwo_1 ca, k_X3_fillByTwo_4 ca, k_X3_fillByTwo_5 ca, k_X3_fillByTwo_8 ca, k_X3_fillByTwo_9 ca, k_X3_fillByTwo_10 ca, k_X3_fillByTwo_11 ca, k_X3_fillByTwo_14 ca, k_X3_fillByTwo_17 ca, k_X3_fillByTwo_18 ca, k_X3_fillByTwo_21 ca, k_X3_fillByTwo_22 ca, k_X3_fillByTwo_23 ca, k_X3_fillByTwo_26 ca, k_X3_fillByTwo_27 ca, k_X3_fillByTwo_28 ca, k_X3_fillByTwo_29 ca, k_X3_fillByTwo_32 ca, k_X3_fillByTwo_33 ca, k_X3_fillByTwo_34 ca, k_X3_fillByTwo_37 ca, k_X3_fillByTwo_40 ca, k_X3_fillByTwo_43 ca, g1, e0', d1, d4, e5, vi, xi, q]
        try clear hF hF0 F
        refine ⟨x5, nx, tm, pp, pc, ox, tx, Nf, pr, bo, B, b1 B, by omega, rfl, (va_up_ne _ _ d1).trans e0, ⟨nf, (va_up_ne _ _ d2).trans e2, e3⟩, hN, ⟨pf, (va_up_ne _ _ d3).trans e4, hp⟩, va_up_self _ _ _, d1, d2, d3, hL, hI, fun bo' hI' => ?_⟩
        rw [bx_uu]
        have k0 := ih (B + 1) bo' (by omega) (Inv2_b hI')
        refine goN go (stp [10]) 160 _ _ _ _ _ _ (fun F hF hF0 => ?_)
        simp only [hF, hF0, ite_not, i_push, i_iload, i_lload, i_aload, i_istore, i_astore, i_lstore, i_iinc, i_bin, i_dv, i_un, i_lbin, i_lsh, i_i2l, i_l2i, i_lcmp, i_dup, i_dup2, i_pop, i_if, i_icmp, i_goto, swG, i_sw, i_getf, i_puti, i_putz, i_putr, i_ald, i_lald, i_aald, i_ast, i_last, i_aast, i_alen, i_new, i_newi, i_newl, i_newq, i_oinit, i_ret, i_zret, i_lret, i_vret, catS, tk, rpush, isO, i_m1, i_m2, i_acopy, i_callV, i_callS, KRet, lget, lput, lputL, lcl0, isL, lv0, List.map_cons, List.map_nil, List.length_cons, List.length_nil, List.cons_append, List.nil_append, Nat.reduceAdd, Nat.reduceSub, Nat.reduceLeDiff, List.replicate_succ, List.replicate_zero, List.getElem?_cons_succ, List.getElem?_cons_zero, List.set_cons_succ, List.set_cons_zero, true_and, and_true, if_true, if_false, ↓reduceIte, Nat.le_refl, Value.category, va_up_app, eq_self, stp, Nat.reduceBEq, Bool.or_false, Bool.false_or, Bool.true_or, Bool.or_true, or_true, true_or, bx_uu, implies_true, true_implies, not_true, not_false_eq_true, false_implies, and_self, Nat.reduceLT, Int32.reduceAdd, Int32.reduceSub, Int32.reduceMul, Int32.reduceLE, Int32.reduceLT, Int32.reduceToNatClampNeg, va_rf_some, Bool.false_eq_true, k_X3_fillByTwo_0 ca, k_X3_fillByTwo_1 ca, k_X3_fillByTwo_4 ca, k_X3_fillByTwo_5 ca, k_X3_fillByTwo_8 ca, k_X3_fillByTwo_9 ca, k_X3_fillByTwo_10 ca, k_X3_fillByTwo_11 ca, k_X3_fillByTwo_14 ca, k_X3_fillByTwo_17 ca, k_X3_fillByTwo_18 ca, k_X3_fillByTwo_21 ca, k_X3_fillByTwo_22 ca, k_X3_fillByTwo_23 ca, k_X3_fillByTwo_26 ca, k_X3_fillByTwo_27 ca, k_X3_fillByTwo_28 ca, k_X3_fillByTwo_29 ca, k_X3_fillByTwo_32 ca, k_X3_fillByTwo_33 ca, k_X3_fillByTwo_34 ca, k_X3_fillByTwo_37 ca, k_X3_fillByTwo_40 ca, k_X3_fillByTwo_43 ca, a_1]
        try clear hF hF0 F
        exact k0
  have k0 := key 271 0 (fil bo0 0 541) (by omega) (fun z T hz hT => ⟨fun w => absurd w (by rw [show fil bo0 0 541 z = 0 from flo_in (by omega), b_0]; decide), fun ⟨B', i', l', h1, h2, h3, h4, h5, _⟩ => by omega⟩)
  rw [nI_0] at k0
  have l541 : (541 < 2147483648) = True := eq_true (by decide)
  refine goN go (stp [10]) 160 _ _ _ _ _ _ (fun F hF hF0 => ?_)
  simp only [hF, hF0, ite_not, i_push, i_iload, i_lload, i_aload, i_istore, i_astore, i_lstore, i_iinc, i_bin, i_dv, i_un, i_lbin, i_lsh, i_i2l, i_l2i, i_lcmp, i_dup, i_dup2, i_pop, i_if, i_icmp, i_goto, swG, i_sw, i_getf, i_puti, i_putz, i_putr, i_ald, i_lald, i_aald, i_ast, i_last, i_aast, i_alen, i_new, i_newi, i_newl, i_newq, i_oinit, i_ret, i_zret, i_lret, i_vret, catS, tk, rpush, isO, i_m1, i_m2, i_acopy, i_callV, i_callS, KRet, lget, lput, lputL, lcl0, isL, lv0, List.map_cons, List.map_nil, List.length_cons, List.length_nil, List.cons_append, List.nil_append, Nat.reduceAdd, Nat.reduceSub, Nat.reduceLeDiff, List.replicate_succ, List.replicate_zero, List.getElem?_cons_succ, List.getElem?_cons_zero, List.set_cons_succ, List.set_cons_zero, true_and, and_true, if_true, if_false, ↓reduceIte, Nat.le_refl, Value.category, va_up_app, eq_self, stp, Nat.reduceBEq, Bool.or_false, Bool.false_or, Bool.true_or, Bool.or_true, or_true, true_or, bx_uu, implies_true, true_implies, not_true, not_false_eq_true, false_implies, and_self, Nat.reduceLT, Int32.reduceAdd, Int32.reduceSub, Int32.reduceMul, Int32.reduceLE, Int32.reduceLT, Int32.reduceToNatClampNeg, va_rf_some, Bool.false_eq_true, k_X3_fillByTwo_0 ca, k_X3_fillByTwo_1 ca, k_X3_fillByTwo_4 ca, k_X3_fillByTwo_5 ca, k_X3_fillByTwo_8 ca, k_X3_fillByTwo_9 ca, k_X3_fillByTwo_10 ca, k_X3_fillByTwo_11 ca, k_X3_fillByTwo_14 ca, k_X3_fillByTwo_17 ca, k_X3_fillByTwo_18 ca, k_X3_fillByTwo_21 ca, k_X3_fillByTwo_22 ca, k_X3_fillByTwo_23 ca, k_X3_fillByTwo_26 ca, k_X3_fillByTwo_27 ca, k_X3_fillByTwo_28 ca, k_X3_fillByTwo_29 ca, k_X3_fillByTwo_32 ca, k_X3_fillByTwo_33 ca, k_X3_fillByTwo_34 ca, k_X3_fillByTwo_37 ca, k_X3_fillByTwo_40 ca, k_X3_fillByTwo_43 ca, e0', e1, sp_J7_fill_53178, l541]
  try clear hF hF0 F
  exact k0
