/-! StackFinder: takeNumbers; SnapStacks: stack -/
def DS (x5 nx pp ox tx : Nat) : Prop := ¬ x5 = nx ∧ ¬ x5 = pp ∧ ¬ x5 = ox ∧ ¬ x5 = tx ∧ ¬ nx = pp ∧ ¬ nx = ox ∧ ¬ nx = tx ∧ ¬ pp = ox ∧ ¬ pp = tx ∧ ¬ ox = tx
def SFs (ca : Nat → ClassId) (h : PH) (x5 nx pp ox tx : Nat) : Prop := ∃ tm pc Nf pr, (∃ nf, h nx = some (.inl (ca 0, 6, .inl nf)) ∧ ∀ j, j < 6 → nf j = nI (Nf j)) ∧ (∃ pf, h pp = some (.inl (ca 0, 36, .inl pf))) ∧ (∃ bo, h ox = some (.inl (ca 0, 271, .inl bo))) ∧ (∃ b2, h tx = some (.inl (ca 0, 541, .inl b2))) ∧ h x5 = some (eSF nx tm pp (nI pc) ox tx) ∧ (tm = 0 ∨ (tm = 1 ∧ SFc ca h x5 nx tm pp pc ox tx Nf pr))
def SmS (x5 nx pp ox tx : Nat) (h h' : PH) : Prop := ∀ z : Nat, ¬ z = x5 → ¬ z = nx → ¬ z = pp → ¬ z = ox → ¬ z = tx → h' z = h z
theorem dz_cong {Nf Ng : Nat → Nat} (h : ∀ j, j < 6 → Nf j = Ng j) {p : Nat} (hp : p < 36) : dz Nf p = dz Ng p := by
  unfold dz
  rw [h (p / 6) (by omega), h (p % 6) (by omega)]
def sp_X3_takeNumbers (ca : Nat → ClassId) : SPEC := fun av h post => ∃ x5 nx pp ox tx nb g Ng, av = [.ref x5, .ref nb] ∧ DS x5 nx pp ox tx ∧ (¬ nb = x5 ∧ ¬ nb = nx ∧ ¬ nb = pp ∧ ¬ nb = ox ∧ ¬ nb = tx) ∧ SFs ca h x5 nx pp ox tx ∧ h nb = some (.inl (ca 0, 6, .inl g)) ∧ (∀ j, j < 6 → g j = nI (Ng j)) ∧ Nm Ng ∧
  ∀ h' pc Nf pr, (∀ j, j < 6 → Nf j = Ng j) → SFc ca h' x5 nx 1 pp pc ox tx Nf pr → SmS x5 nx pp ox tx h h' → post none h'
def k_X3_takeNumbers (ca : Nat → ClassId) : Nat → IT := fun pc => lk pc [(0, i_aload 0 1),
  (1, i_getf 3 1 4),
  (4, i_istore 2 5),
  (5, i_push (.int 0) 6),
  (6, i_istore 3 7),
  (7, i_iload 3 8),
  (8, i_push (.int 6) 10),
  (10, i_icmp (fun x y => y ≤ x) 50 13),
  (13, i_iload 2 14),
  (14, i_if (fun x => x = 0) 33 17),
  (17, i_aload 0 18),
  (18, i_getf 3 0 21),
  (21, i_iload 3 22),
  (22, i_ald (ca 0) 23),
  (23, i_aload 1 24),
  (24, i_iload 3 25),
  (25, i_ald (ca 0) 26),
  (26, i_icmp (fun x y => ¬ x = y) 33 29),
  (29, i_push (.int 1) 30),
  (30, i_goto 34),
  (33, i_push (.int 0) 34),
  (34, i_istore 2 35),
  (35, i_aload 0 36),
  (36, i_getf 3 0 39),
  (39, i_iload 3 40),
  (40, i_aload 1 41),
  (41, i_iload 3 42),
  (42, i_ald (ca 0) 43),
  (43, i_ast (fun x => x) (ca 0) 44),
  (44, i_iinc 3 1 47),
  (47, i_goto 7),
  (50, i_iload 2 51),
  (51, i_if (fun x => ¬ x = 0) 71 54),
  (54, i_aload 0 55),
  (55, i_callV 3 0 0 0 0 0 (sp_X3_collectPairs ca) 58),
  (58, i_aload 0 59),
  (59, i_callV 3 0 0 0 0 0 (sp_X3_fillByOne ca) 62),
  (62, i_aload 0 63),
  (63, i_callV 3 0 0 0 0 0 (sp_X3_fillByTwo ca) 66),
  (66, i_aload 0 67),
  (67, i_push (.int 1) 68),
  (68, i_putz 3 1 71),
  (71, i_vret)]
set_option maxRecDepth 20000 in
theorem t_X3_takeNumbers : Tb k_X3_takeNumbers yX3_takeNumbers cX3_takeNumbers 4 none 3 0 0 := by
  intro l D ca A p e s m args below meth c post X
  unfold k_X3_takeNumbers
  refine snd_cons (snd_aload_n X dX3_takeNumbers_0 rfl) ?_
  refine snd_cons (snd_getf X Fk3 1 (by decide) w_235 dX3_takeNumbers_1) ?_
  refine snd_cons (snd_istore_n X dX3_takeNumbers_4 rfl (by decide)) ?_
  refine snd_cons (snd_iconst X dX3_takeNumbers_5 (by decide)) ?_
  refine snd_cons (snd_istore_n X dX3_takeNumbers_6 rfl (by decide)) ?_
  refine snd_cons (snd_iload_n X dX3_takeNumbers_7 rfl) ?_
  refine snd_cons (snd_bipush X dX3_takeNumbers_8 (by decide)) ?_
  refine snd_cons (snd_icmp_ge X dX3_takeNumbers_10 (by decide)) ?_
  refine snd_cons (snd_iload_n X dX3_takeNumbers_13 rfl) ?_
  refine snd_cons (snd_if_eq X dX3_takeNumbers_14 (by decide)) ?_
  refine snd_cons (snd_aload_n X dX3_takeNumbers_17 rfl) ?_
  refine snd_cons (snd_getf X Fk3 0 (by decide) w_234 dX3_takeNumbers_18) ?_
  refine snd_cons (snd_iload_n X dX3_takeNumbers_21 rfl) ?_
  refine snd_cons (snd_iaload X dX3_takeNumbers_22) ?_
  refine snd_cons (snd_aload_n X dX3_takeNumbers_23 rfl) ?_
  refine snd_cons (snd_iload_n X dX3_takeNumbers_24 rfl) ?_
  refine snd_cons (snd_iaload X dX3_takeNumbers_25) ?_
  refine snd_cons (snd_icmp_ne X dX3_takeNumbers_26 (by decide)) ?_
  refine snd_cons (snd_iconst X dX3_takeNumbers_29 (by decide)) ?_
  refine snd_cons (snd_goto X dX3_takeNumbers_30 (by decide)) ?_
  refine snd_cons (snd_iconst X dX3_takeNumbers_33 (by decide)) ?_
  refine snd_cons (snd_istore_n X dX3_takeNumbers_34 rfl (by decide)) ?_
  refine snd_cons (snd_aload_n X dX3_takeNumbers_35 rfl) ?_
  refine snd_cons (snd_getf X Fk3 0 (by decide) w_234 dX3_takeNumbers_36) ?_
  refine snd_cons (snd_iload_n X dX3_takeNumbers_39 rfl) ?_
  refine snd_cons (snd_aload_n X dX3_takeNumbers_40 rfl) ?_
  refine snd_cons (snd_iload_n X dX3_takeNumbers_41 rfl) ?_
  refine snd_cons (snd_iaload X dX3_takeNumbers_42) ?_
  refine snd_cons (snd_iastore X dX3_takeNumbers_43) ?_
  refine snd_cons (snd_iinc X dX3_takeNumbers_44 (by decide) (by decide)) ?_
  refine snd_cons (snd_goto X dX3_takeNumbers_47 (by decide)) ?_
  refine snd_cons (snd_iload_n X dX3_takeNumbers_50 rfl) ?_
  refine snd_cons (snd_if_ne X dX3_takeNumbers_51 (by decide)) ?_
  refine snd_cons (snd_aload_n X dX3_takeNumbers_54 rfl) ?_
  refine snd_cons (snd_callV X Fk3 (ok_X3_collectPairs l D ca) rfl rfl w_521 w_523 wp_5 w_8 w_524 (by decide) (by decide) dX3_takeNumbers_55) ?_
  refine snd_cons (snd_aload_n X dX3_takeNumbers_58 rfl) ?_
  refine snd_cons (snd_callV X Fk3 (ok_X3_fillByOne l D ca) rfl rfl w_529 w_531 wp_7 w_8 w_532 (by decide) (by decide) dX3_takeNumbers_59) ?_
  refine snd_cons (snd_aload_n X dX3_takeNumbers_62 rfl) ?_
  refine snd_cons (snd_callV X Fk3 (ok_X3_fillByTwo l D ca) rfl rfl w_537 w_539 wp_8 w_8 w_540 (by decide) (by decide) dX3_takeNumbers_63) ?_
  refine snd_cons (snd_aload_n X dX3_takeNumbers_66 rfl) ?_
  refine snd_cons (snd_iconst X dX3_takeNumbers_67 (by decide)) ?_
  refine snd_cons (snd_putz X Fk3 1 (by decide) rfl rfl w_235 dX3_takeNumbers_68) ?_
  refine snd_cons (snd_vret X dX3_takeNumbers_71) ?_
  exact snd_nil
theorem k_X3_takeNumbers_0 (ca : Nat → ClassId) : k_X3_takeNumbers ca 0 = i_aload 0 1 := rfl
theorem k_X3_takeNumbers_1 (ca : Nat → ClassId) : k_X3_takeNumbers ca 1 = i_getf 3 1 4 := rfl
theorem k_X3_takeNumbers_4 (ca : Nat → ClassId) : k_X3_takeNumbers ca 4 = i_istore 2 5 := rfl
theorem k_X3_takeNumbers_5 (ca : Nat → ClassId) : k_X3_takeNumbers ca 5 = i_push (.int 0) 6 := rfl
theorem k_X3_takeNumbers_6 (ca : Nat → ClassId) : k_X3_takeNumbers ca 6 = i_istore 3 7 := rfl
theorem k_X3_takeNumbers_7 (ca : Nat → ClassId) : k_X3_takeNumbers ca 7 = i_iload 3 8 := rfl
theorem k_X3_takeNumbers_8 (ca : Nat → ClassId) : k_X3_takeNumbers ca 8 = i_push (.int 6) 10 := rfl
theorem k_X3_takeNumbers_10 (ca : Nat → ClassId) : k_X3_takeNumbers ca 10 = i_icmp (fun x y => y ≤ x) 50 13 := rfl
theorem k_X3_takeNumbers_13 (ca : Nat → ClassId) : k_X3_takeNumbers ca 13 = i_iload 2 14 := rfl
theorem k_X3_takeNumbers_14 (ca : Nat → ClassId) : k_X3_takeNumbers ca 14 = i_if (fun x => x = 0) 33 17 := rfl
theorem k_X3_takeNumbers_17 (ca : Nat → ClassId) : k_X3_takeNumbers ca 17 = i_aload 0 18 := rfl
theorem k_X3_takeNumbers_18 (ca : Nat → ClassId) : k_X3_takeNumbers ca 18 = i_getf 3 0 21 := rfl
theorem k_X3_takeNumbers_21 (ca : Nat → ClassId) : k_X3_takeNumbers ca 21 = i_iload 3 22 := rfl
theorem k_X3_takeNumbers_22 (ca : Nat → ClassId) : k_X3_takeNumbers ca 22 = i_ald (ca 0) 23 := rfl
theorem k_X3_takeNumbers_23 (ca : Nat → ClassId) : k_X3_takeNumbers ca 23 = i_aload 1 24 := rfl
theorem k_X3_takeNumbers_24 (ca : Nat → ClassId) : k_X3_takeNumbers ca 24 = i_iload 3 25 := rfl
theorem k_X3_takeNumbers_25 (ca : Nat → ClassId) : k_X3_takeNumbers ca 25 = i_ald (ca 0) 26 := rfl
theorem k_X3_takeNumbers_26 (ca : Nat → ClassId) : k_X3_takeNumbers ca 26 = i_icmp (fun x y => ¬ x = y) 33 29 := rfl
theorem k_X3_takeNumbers_29 (ca : Nat → ClassId) : k_X3_takeNumbers ca 29 = i_push (.int 1) 30 := rfl
theorem k_X3_takeNumbers_30 (ca : Nat → ClassId) : k_X3_takeNumbers ca 30 = i_goto 34 := rfl
theorem k_X3_takeNumbers_33 (ca : Nat → ClassId) : k_X3_takeNumbers ca 33 = i_push (.int 0) 34 := rfl
theorem k_X3_takeNumbers_34 (ca : Nat → ClassId) : k_X3_takeNumbers ca 34 = i_istore 2 35 := rfl
theorem k_X3_takeNumbers_35 (ca : Nat → ClassId) : k_X3_takeNumbers ca 35 = i_aload 0 36 := rfl
theorem k_X3_takeNumbers_36 (ca : Nat → ClassId) : k_X3_takeNumbers ca 36 = i_getf 3 0 39 := rfl
theorem k_X3_takeNumbers_39 (ca : Nat → ClassId) : k_X3_takeNumbers ca 39 = i_iload 3 40 := rfl
theorem k_X3_takeNumbers_40 (ca : Nat → ClassId) : k_X3_takeNumbers ca 40 = i_aload 1 41 := rfl
theorem k_X3_takeNumbers_41 (ca : Nat → ClassId) : k_X3_takeNumbers ca 41 = i_iload 3 42 := rfl
theorem k_X3_takeNumbers_42 (ca : Nat → ClassId) : k_X3_takeNumbers ca 42 = i_ald (ca 0) 43 := rfl
theorem k_X3_takeNumbers_43 (ca : Nat → ClassId) : k_X3_takeNumbers ca 43 = i_ast (fun x => x) (ca 0) 44 := rfl
theorem k_X3_takeNumbers_44 (ca : Nat → ClassId) : k_X3_takeNumbers ca 44 = i_iinc 3 1 47 := rfl
theorem k_X3_takeNumbers_47 (ca : Nat → ClassId) : k_X3_takeNumbers ca 47 = i_goto 7 := rfl
theorem k_X3_takeNumbers_50 (ca : Nat → ClassId) : k_X3_takeNumbers ca 50 = i_iload 2 51 := rfl
theorem k_X3_takeNumbers_51 (ca : Nat → ClassId) : k_X3_takeNumbers ca 51 = i_if (fun x => ¬ x = 0) 71 54 := rfl
theorem k_X3_takeNumbers_54 (ca : Nat → ClassId) : k_X3_takeNumbers ca 54 = i_aload 0 55 := rfl
theorem k_X3_takeNumbers_55 (ca : Nat → ClassId) : k_X3_takeNumbers ca 55 = i_callV 3 0 0 0 0 0 (sp_X3_collectPairs ca) 58 := rfl
theorem k_X3_takeNumbers_58 (ca : Nat → ClassId) : k_X3_takeNumbers ca 58 = i_aload 0 59 := rfl
theorem k_X3_takeNumbers_59 (ca : Nat → ClassId) : k_X3_takeNumbers ca 59 = i_callV 3 0 0 0 0 0 (sp_X3_fillByOne ca) 62 := rfl
theorem k_X3_takeNumbers_62 (ca : Nat → ClassId) : k_X3_takeNumbers ca 62 = i_aload 0 63 := rfl
theorem k_X3_takeNumbers_63 (ca : Nat → ClassId) : k_X3_takeNumbers ca 63 = i_callV 3 0 0 0 0 0 (sp_X3_fillByTwo ca) 66 := rfl
theorem k_X3_takeNumbers_66 (ca : Nat → ClassId) : k_X3_takeNumbers ca 66 = i_aload 0 67 := rfl
theorem k_X3_takeNumbers_67 (ca : Nat → ClassId) : k_X3_takeNumbers ca 67 = i_push (.int 1) 68 := rfl
theorem k_X3_takeNumbers_68 (ca : Nat → ClassId) : k_X3_takeNumbers ca 68 = i_putz 3 1 71 := rfl
theorem k_X3_takeNumbers_71 (ca : Nat → ClassId) : k_X3_takeNumbers ca 71 = i_vret := rfl
set_option maxHeartbeats 4000000 in
set_option maxRecDepth 20000 in
theorem ok_X3_takeNumbers (l : Launch) (D : va_G) (ca : Nat → ClassId) : OkAll l D ca yX3_takeNumbers cX3_takeNumbers 4 none 3 0 0 (sp_X3_takeNumbers ca) := by
  intro av h post hs
  obtain ⟨x5, nx, pp, ox, tx, nb, g, Ng, rfl, ⟨d1, d2, d3, d4, d5, d6, d7, d8, d9, d10⟩, ⟨c1, c2, c3, c4, c5⟩, ⟨tm, pc, Nf, pr, ⟨nf, e1, n1'⟩, ⟨pf, e2⟩, ⟨bo, e3⟩, ⟨b2, e4⟩, e0, htm⟩, eg, hg, hNg, hs⟩ := hs
  have e0' := e0
  unfold eSF at e0'
  have nxx : ¬ nx = x5 := fun z => d1 z.symm
  have ppx : ¬ pp = x5 := fun z => d2 z.symm
  have oxx : ¬ ox = x5 := fun z => d3 z.symm
  have txx : ¬ tx = x5 := fun z => d4 z.symm
  have ppn : ¬ pp = nx := fun z => d5 z.symm
  have oxn : ¬ ox = nx := fun z => d6 z.symm
  have txn : ¬ tx = nx := fun z => d7 z.symm
  have oxp : ¬ ox = pp := fun z => d8 z.symm
  have txp : ¬ tx = pp := fun z => d9 z.symm
  have txo : ¬ tx = ox := fun z => d10 z.symm
  refine okM_of t_X3_takeNumbers (by decide +kernel) (c1_ref (c1_ref c1_nil)) (Nat.le_of_ble_eq_true rfl) ?_
  intro K go
  have tables : ∀ f, (∀ j, j < 6 → f j = nI (Ng j)) → K 0 0 54 [some (.ref x5), some (.ref nb), some (.int 0), some (.int 6)] [] (va_up h nx (some (.inl (ca 0, 6, .inl f)))) := by
    intro f hf
    generalize hH : va_up h nx (some (.inl (ca 0, 6, .inl f))) = H
    have a0 : H x5 = some (eSF nx tm pp (nI pc) ox tx) := by rw [← hH]; exact (va_up_ne _ _ d1).trans e0
    have a1 : H nx = some (.inl (ca 0, 6, .inl f)) := by rw [← hH]; exact va_up_self _ _ _
    have a2 : H pp = some (.inl (ca 0, 36, .inl pf)) := by rw [← hH]; exact (va_up_ne _ _ ppn).trans e2
    have a3 : H ox = some (.inl (ca 0, 271, .inl bo)) := by rw [← hH]; exact (va_up_ne _ _ oxn).trans e3
    have a4 : H tx = some (.inl (ca 0, 541, .inl b2)) := by rw [← hH]; exact (va_up_ne _ _ txn).trans e4
    have aS : SmS x5 nx pp ox tx h H := fun z _ z2 _ _ _ => by rw [← hH]; exact va_up_ne _ _ z2
    have a0' := a0
    unfold eSF at a0'
    refine goN go (stp [58]) 160 _ _ _ _ _ _ (fun F hF hF0 => ?_)
    simp only [hF, hF0, ite_not, i_push, i_iload, i_lload, i_aload, i_istore, i_astore, i_lstore, i_iinc, i_bin, i_dv, i_un, i_lbin, i_lsh, i_i2l, i_l2i, i_lcmp, i_dup, i_dup2, i_pop, i_if, i_icmp, i_goto, swG, i_sw, i_getf, i_puti, i_putz, i_putr, i_ald, i_lald, i_aald, i_ast, i_last, i_aast, i_alen, i_new, i_newi, i_newl, i_newq, i_oinit, i_ret, i_zret, i_lret, i_vret, catS, tk, rpush, isO, i_m1, i_m2, i_acopy, i_callV, i_callS, KRet, lget, lput, lputL, lcl0, isL, lv0, List.map_cons, List.map_nil, List.length_cons, List.length_nil, List.cons_append, List.nil_append, Nat.reduceAdd, Nat.reduceSub, Nat.reduceLeDiff, List.replicate_succ, List.replicate_zero, List.getElem?_cons_succ, List.getElem?_cons_zero, List.set_cons_succ, List.set_cons_zero, true_and, and_true, if_true, if_false, ↓reduceIte, Nat.le_refl, Value.category, va_up_app, eq_self, stp, Nat.reduceBEq, Bool.or_false, Bool.false_or, Bool.true_or, Bool.or_true, or_true, true_or, bx_uu, implies_true, true_implies, not_true, not_false_eq_true, false_implies, and_self, Nat.reduceLT, Int32.reduceAdd, Int32.reduceSub, Int32.reduceMul, Int32.reduceLE, Int32.reduceLT, Int32.reduceToNatClampNeg, va_rf_some, Bool.false_eq_true, k_X3_takeNumbers_0 ca, k_X3_takeNumbers_1 ca, k_X3_takeNumbers_4 ca, k_X3_takeNumbers_5 ca, k_X3_takeNumbers_6 ca, k_X3_takeNumbers_7 ca, k_X3_takeNumbers_8 ca, k_X3_takeNumbers_10 ca, k_X3_takeNumbers_13 ca, k_X3_takeNumbers_14 ca, k_X3_takeNumbers_17 ca, k_X3_takeNumbers_18 ca, k_X3_takeNumbers_21 ca, k_X3_takeNumbers_22 ca, k_X3_takeNumbers_23 ca, k_X3_takeNumbers_24 ca, k_X3_takeNumbers_25 ca, k_X3_takeNumbers_26 ca, k_X3_takeNumbers_29 ca, k_X3_takeNumbers_30 ca, k_X3_takeNumbers_33 ca, k_X3_takeNumbers_34 ca, k_X3_takeNumbers_35 ca, k_X3_takeNumbers_36 ca, k_X3_takeNumbers_39 ca, k_X3_takeNumbers_40 ca, k_X3_takeNumbers_41 ca, k_X3_takeNumbers_42 ca, k_X3_takeNumbers_43 ca, k_X3_takeNumbers_44 ca, k_X3_takeNumbers_47 ca, k_X3_takeNumbers_50 ca, k_X3_takeNumbers_51 ca, k_X3_takeNumbers_54 ca, k_X3_takeNumbers_55 ca, k_X3_takeNumbers_58 ca, k_X3_takeNumbers_59 ca, k_X3_takeNumbers_62 ca, k_X3_takeNumbers_63 ca, k_X3_takeNumbers_66 ca, k_X3_takeNumbers_67 ca, k_X3_takeNumbers_68 ca, k_X3_takeNumbers_71 ca, a0']
    try clear hF hF0 F
    refine ⟨x5, nx, tm, pp, nI pc, ox, tx, Ng, pf, rfl, a0, ⟨f, a1, hf⟩, hNg, a2, d2, nxx, d5, fun pc1 pf1 pr1 hPO => ?_⟩
    generalize hG : va_up (va_up H pp (some (.inl (ca 0, 36, .inl pf1)))) x5 (some (eSF nx tm pp (nI pc1) ox tx)) = G
    have b0 : G x5 = some (eSF nx tm pp (nI pc1) ox tx) := by rw [← hG]; exact va_up_self _ _ _
    have b1 : G nx = some (.inl (ca 0, 6, .inl f)) := by rw [← hG]; exact (va_up_ne _ _ nxx).trans ((va_up_ne _ _ d5).trans a1)
    have b2' : G pp = some (.inl (ca 0, 36, .inl pf1)) := by rw [← hG]; exact (va_up_ne _ _ ppx).trans (va_up_self _ _ _)
    have b3 : G ox = some (.inl (ca 0, 271, .inl bo)) := by rw [← hG]; exact (va_up_ne _ _ oxx).trans ((va_up_ne _ _ oxp).trans a3)
    have b4 : G tx = some (.inl (ca 0, 541, .inl b2)) := by rw [← hG]; exact (va_up_ne _ _ txx).trans ((va_up_ne _ _ txp).trans a4)
    have bS : SmS x5 nx pp ox tx h G := fun z z1 z2 z3 z4 z5 => by rw [← hG]; exact (va_up_ne _ _ z1).trans ((va_up_ne _ _ z3).trans (aS z z1 z2 z3 z4 z5))
    have b0' := b0
    unfold eSF at b0'
    refine goN go (stp [62]) 160 _ _ _ _ _ _ (fun F hF hF0 => ?_)
    simp only [hF, hF0, ite_not, i_push, i_iload, i_lload, i_aload, i_istore, i_astore, i_lstore, i_iinc, i_bin, i_dv, i_un, i_lbin, i_lsh, i_i2l, i_l2i, i_lcmp, i_dup, i_dup2, i_pop, i_if, i_icmp, i_goto, swG, i_sw, i_getf, i_puti, i_putz, i_putr, i_ald, i_lald, i_aald, i_ast, i_last, i_aast, i_alen, i_new, i_newi, i_newl, i_newq, i_oinit, i_ret, i_zret, i_lret, i_vret, catS, tk, rpush, isO, i_m1, i_m2, i_acopy, i_callV, i_callS, KRet, lget, lput, lputL, lcl0, isL, lv0, List.map_cons, List.map_nil, List.length_cons, List.length_nil, List.cons_append, List.nil_append, Nat.reduceAdd, Nat.reduceSub, Nat.reduceLeDiff, List.replicate_succ, List.replicate_zero, List.getElem?_cons_succ, List.getElem?_cons_zero, List.set_cons_succ, List.set_cons_zero, true_and, and_true, if_true, if_false, ↓reduceIte, Nat.le_refl, Value.category, va_up_app, eq_self, stp, Nat.reduceBEq, Bool.or_false, Bool.false_or, Bool.true_or, Bool.or_true, or_true, true_or, bx_uu, implies_true, true_implies, not_true, not_false_eq_true, false_implies, and_self, Nat.reduceLT, Int32.reduceAdd, Int32.reduceSub, Int32.reduceMul, Int32.reduceLE, Int32.reduceLT, Int32.reduceToNatClampNeg, va_rf_some, Bool.false_eq_true, k_X3_takeNumbers_0 ca, k_X3_takeNumbers_1 ca, k_X3_takeNumbers_4 ca, k_X3_takeNumbers_5 ca, k_X3_takeNumbers_6 ca, k_X3_takeNumbers_7 ca, k_X3_takeNumbers_8 ca, k_X3_takeNumbers_10 ca, k_X3_takeNumbers_13 ca, k_X3_takeNumbers_14 ca, k_X3_takeNumbers_17 ca, k_X3_takeNumbers_18 ca, k_X3_takeNumbers_21 ca, k_X3_takeNumbers_22 ca, k_X3_takeNumbers_23 ca, k_X3_takeNumbers_24 ca, k_X3_takeNumbers_25 ca, k_X3_takeNumbers_26 ca, k_X3_takeNumbers_29 ca, k_X3_takeNumbers_30 ca, k_X3_takeNumbers_33 ca, k_X3_takeNumbers_34 ca, k_X3_takeNumbers_35 ca, k_X3_takeNumbers_36 ca, k_X3_takeNumbers_39 ca, k_X3_takeNumbers_40 ca, k_X3_takeNumbers_41 ca, k_X3_takeNumbers_42 ca, k_X3_takeNumbers_43 ca, k_X3_takeNumbers_44 ca, k_X3_takeNumbers_47 ca, k_X3_takeNumbers_50 ca, k_X3_takeNumbers_51 ca, k_X3_takeNumbers_54 ca, k_X3_takeNumbers_55 ca, k_X3_takeNumbers_58 ca, k_X3_takeNumbers_59 ca, k_X3_takeNumbers_62 ca, k_X3_takeNumbers_63 ca, k_X3_takeNumbers_66 ca, k_X3_takeNumbers_67 ca, k_X3_takeNumbers_68 ca, k_X3_takeNumbers_71 ca, b0']
    try clear hF hF0 F
    refine ⟨x5, nx, tm, pp, pc1, ox, tx, Ng, pr1, bo, rfl, b0, ⟨f, b1, hf⟩, hNg, ⟨pf1, b2', hPO⟩, b3, d3, d6, d8, fun bo1 hO => ?_⟩
    have x0' : va_up G ox (some (.inl (ca 0, 271, .inl bo1))) x5 = some (.inr (3, [.ref nx, .int tm, .ref pp, .int (nI pc1), .ref ox, .ref tx])) := (va_up_ne _ _ d3).trans b0'
    have hOA : OneA ca (va_up G ox (some (.inl (ca 0, 271, .inl bo1)))) ox Ng := ⟨bo1, va_up_self _ _ _, hO⟩
    refine goN go (stp [66]) 160 _ _ _ _ _ _ (fun F hF hF0 => ?_)
    simp only [hF, hF0, ite_not, i_push, i_iload, i_lload, i_aload, i_istore, i_astore, i_lstore, i_iinc, i_bin, i_dv, i_un, i_lbin, i_lsh, i_i2l, i_l2i, i_lcmp, i_dup, i_dup2, i_pop, i_if, i_icmp, i_goto, swG, i_sw, i_getf, i_puti, i_putz, i_putr, i_ald, i_lald, i_aald, i_ast, i_last, i_aast, i_alen, i_new, i_newi, i_newl, i_newq, i_oinit, i_ret, i_zret, i_lret, i_vret, catS, tk, rpush, isO, i_m1, i_m2, i_acopy, i_callV, i_callS, KRet, lget, lput, lputL, lcl0, isL, lv0, List.map_cons, List.map_nil, List.length_cons, List.length_nil, List.cons_append, List.nil_append, Nat.reduceAdd, Nat.reduceSub, Nat.reduceLeDiff, List.replicate_succ, List.replicate_zero, List.getElem?_cons_succ, List.getElem?_cons_zero, List.set_cons_succ, List.set_cons_zero, true_and, and_true, if_true, if_false, ↓reduceIte, Nat.le_refl, Value.category, va_up_app, eq_self, stp, Nat.reduceBEq, Bool.or_false, Bool.false_or, Bool.true_or, Bool.or_true, or_true, true_or, bx_uu, implies_true, true_implies, not_true, not_false_eq_true, false_implies, and_self, Nat.reduceLT, Int32.reduceAdd, Int32.reduceSub, Int32.reduceMul, Int32.reduceLE, Int32.reduceLT, Int32.reduceToNatClampNeg, va_rf_some, Bool.false_eq_true, k_X3_takeNumbers_0 ca, k_X3_takeNumbers_1 ca, k_X3_takeNumbers_4 ca, k_X3_takeNumbers_5 ca, k_X3_takeNumbers_6 ca, k_X3_takeNumbers_7 ca, k_X3_takeNumbers_8 ca, k_X3_takeNumbers_10 ca, k_X3_takeNumbers_13 ca, k_X3_takeNumbers_14 ca, k_X3_takeNumbers_17 ca, k_X3_takeNumbers_18 ca, k_X3_takeNumbers_21 ca, k_X3_takeNumbers_22 ca, k_X3_takeNumbers_23 ca, k_X3_takeNumbers_24 ca, k_X3_takeNumbers_25 ca, k_X3_takeNumbers_26 ca, k_X3_takeNumbers_29 ca, k_X3_takeNumbers_30 ca, k_X3_takeNumbers_33 ca, k_X3_takeNumbers_34 ca, k_X3_takeNumbers_35 ca, k_X3_takeNumbers_36 ca, k_X3_takeNumbers_39 ca, k_X3_takeNumbers_40 ca, k_X3_takeNumbers_41 ca, k_X3_takeNumbers_42 ca, k_X3_takeNumbers_43 ca, k_X3_takeNumbers_44 ca, k_X3_takeNumbers_47 ca, k_X3_takeNumbers_50 ca, k_X3_takeNumbers_51 ca, k_X3_takeNumbers_54 ca, k_X3_takeNumbers_55 ca, k_X3_takeNumbers_58 ca, k_X3_takeNumbers_59 ca, k_X3_takeNumbers_62 ca, k_X3_takeNumbers_63 ca, k_X3_takeNumbers_66 ca, k_X3_takeNumbers_67 ca, k_X3_takeNumbers_68 ca, k_X3_takeNumbers_71 ca, b0', d3]
    try clear hF hF0 F
    refine ⟨x5, nx, tm, pp, pc1, ox, tx, Ng, pr1, b2, rfl, x0', ⟨f, (va_up_ne _ _ d6).trans b1, hf⟩, hNg, ⟨pf1, (va_up_ne _ _ d8).trans b2', hPO⟩, hOA, (va_up_ne _ _ txo).trans b4, d4, d7, d9, d10, fun bt1 hT => ?_⟩
    have k0 := hs (va_up (va_up (va_up G ox (some (.inl (ca 0, 271, .inl bo1)))) tx (some (.inl (ca 0, 541, .inl bt1)))) x5 (some (eSF nx 1 pp (nI pc1) ox tx))) pc1 Ng pr1 (fun _ _ => rfl) ⟨va_up_self _ _ _, ⟨f, (va_up_ne _ _ nxx).trans ((va_up_ne _ _ d7).trans ((va_up_ne _ _ d6).trans b1)), hf⟩, ⟨pf1, (va_up_ne _ _ ppx).trans ((va_up_ne _ _ d9).trans ((va_up_ne _ _ d8).trans b2')), hPO⟩, ⟨bo1, (va_up_ne _ _ oxx).trans ((va_up_ne _ _ d10).trans (va_up_self _ _ _)), hO⟩, ⟨bt1, (va_up_ne _ _ txx).trans (va_up_self _ _ _), hT⟩, hNg⟩ (fun z z1 z2 z3 z4 z5 => (va_up_ne _ _ z1).trans ((va_up_ne _ _ z5).trans ((va_up_ne _ _ z4).trans (bS z z1 z2 z3 z4 z5))))
    unfold eSF at k0
    refine goN go (stp []) 160 _ _ _ _ _ _ (fun F hF hF0 => ?_)
    simp only [hF, hF0, ite_not, i_push, i_iload, i_lload, i_aload, i_istore, i_astore, i_lstore, i_iinc, i_bin, i_dv, i_un, i_lbin, i_lsh, i_i2l, i_l2i, i_lcmp, i_dup, i_dup2, i_pop, i_if, i_icmp, i_goto, swG, i_sw, i_getf, i_puti, i_putz, i_putr, i_ald, i_lald, i_aald, i_ast, i_last, i_aast, i_alen, i_new, i_newi, i_newl, i_newq, i_oinit, i_ret, i_zret, i_lret, i_vret, catS, tk, rpush, isO, i_m1, i_m2, i_acopy, i_callV, i_callS, KRet, lget, lput, lputL, lcl0, isL, lv0, List.map_cons, List.map_nil, List.length_cons, List.length_nil, List.cons_append, List.nil_append, Nat.reduceAdd, Nat.reduceSub, Nat.reduceLeDiff, List.replicate_succ, List.replicate_zero, List.getElem?_cons_succ, List.getElem?_cons_zero, List.set_cons_succ, List.set_cons_zero, true_and, and_true, if_true, if_false, ↓reduceIte, Nat.le_refl, Value.category, va_up_app, eq_self, stp, Nat.reduceBEq, Bool.or_false, Bool.false_or, Bool.true_or, Bool.or_true, or_true, true_or, bx_uu, implies_true, true_implies, not_true, not_false_eq_true, false_implies, and_self, Nat.reduceLT, Int32.reduceAdd, Int32.reduceSub, Int32.reduceMul, Int32.reduceLE, Int32.reduceLT, Int32.reduceToNatClampNeg, va_rf_some, Bool.false_eq_true, k_X3_takeNumbers_0 ca, k_X3_takeNumbers_1 ca, k_X3_takeNumbers_4 ca, k_X3_takeNumbers_5 ca, k_X3_takeNumbers_6 ca, k_X3_takeNumbers_7 ca, k_X3_takeNumbers_8 ca, k_X3_takeNumbers_10 ca, k_X3_takeNumbers_13 ca, k_X3_takeNumbers_14 ca, k_X3_takeNumbers_17 ca, k_X3_takeNumbers_18 ca, k_X3_takeNumbers_21 ca, k_X3_takeNumbers_22 ca, k_X3_takeNumbers_23 ca, k_X3_takeNumbers_24 ca, k_X3_takeNumbers_25 ca, k_X3_takeNumbers_26 ca, k_X3_takeNumbers_29 ca, k_X3_takeNumbers_30 ca, k_X3_takeNumbers_33 ca, k_X3_takeNumbers_34 ca, k_X3_takeNumbers_35 ca, k_X3_takeNumbers_36 ca, k_X3_takeNumbers_39 ca, k_X3_takeNumbers_40 ca, k_X3_takeNumbers_41 ca, k_X3_takeNumbers_42 ca, k_X3_takeNumbers_43 ca, k_X3_takeNumbers_44 ca, k_X3_takeNumbers_47 ca, k_X3_takeNumbers_50 ca, k_X3_takeNumbers_51 ca, k_X3_takeNumbers_54 ca, k_X3_takeNumbers_55 ca, k_X3_takeNumbers_58 ca, k_X3_takeNumbers_59 ca, k_X3_takeNumbers_62 ca, k_X3_takeNumbers_63 ca, k_X3_takeNumbers_66 ca, k_X3_takeNumbers_67 ca, k_X3_takeNumbers_68 ca, k_X3_takeNumbers_71 ca, b0', d3, d4]
    try clear hF hF0 F
    exact k0
  have same : tm = 1 → (∀ j, j < 6 → Nf j = Ng j) → ∀ f, (∀ j, j < 6 → f j = nI (Ng j)) → post none (va_up h nx (some (.inl (ca 0, 6, .inl f)))) := by
    intro h1 hsm f hf
    rcases htm with z | ⟨-, z0, -, ⟨pf2, z2, z3⟩, ⟨bo2, z4, z5⟩, ⟨bt2, z6, z7⟩, z8⟩
    · rw [z] at h1; exact absurd h1 (by decide)
    · rw [h1] at z0
      exact hs _ pc Nf pr hsm ⟨(va_up_ne _ _ d1).trans z0, ⟨f, va_up_self _ _ _, fun j hj => by rw [hf j hj, hsm j hj]⟩, ⟨pf2, (va_up_ne _ _ ppn).trans z2, z3⟩, ⟨bo2, (va_up_ne _ _ oxn).trans z4, z5⟩, ⟨bt2, (va_up_ne _ _ txn).trans z6, z7⟩, z8⟩ (fun z _ z2 _ _ _ => va_up_ne _ _ z2)
  have htm2 : tm = 0 ∨ tm = 1 := by
    rcases htm with z | z
    · exact Or.inl z
    · exact Or.inr z.1
  -- the copying loop: acc is 1 while all are the same
  have key : ∀ r j f (acc : Int32), j + r = 6 → (∀ i, i < j → f i = nI (Ng i)) → (∀ i, j ≤ i → i < 6 → f i = nf i) → (acc = 0 ∨ (acc = 1 ∧ tm = 1 ∧ ∀ i, i < j → nf i = g i)) → K 0 0 7 [some (.ref x5), some (.ref nb), some (.int acc), some (.int (nI j))] [] (va_up h nx (some (.inl (ca 0, 6, .inl f)))) := by
    intro r
    induction r with
    | zero =>
      intro j f acc hj h1 h2 h3
      have hj : j = 6 := hj
      subst hj
      have e : nI 6 = 6 := rfl
      rcases h3 with rfl | ⟨rfl, h4, h5⟩
      · have k0 := tables f h1
        refine goN go (stp [54]) 160 _ _ _ _ _ _ (fun F hF hF0 => ?_)
        simp only [hF, hF0, ite_not, i_push, i_iload, i_lload, i_aload, i_istore, i_astore, i_lstore, i_iinc, i_bin, i_dv, i_un, i_lbin, i_lsh, i_i2l, i_l2i, i_lcmp, i_dup, i_dup2, i_pop, i_if, i_icmp, i_goto, swG, i_sw, i_getf, i_puti, i_putz, i_putr, i_ald, i_lald, i_aald, i_ast, i_last, i_aast, i_alen, i_new, i_newi, i_newl, i_newq, i_oinit, i_ret, i_zret, i_lret, i_vret, catS, tk, rpush, isO, i_m1, i_m2, i_acopy, i_callV, i_callS, KRet, lget, lput, lputL, lcl0, isL, lv0, List.map_cons, List.map_nil, List.length_cons, List.length_nil, List.cons_append, List.nil_append, Nat.reduceAdd, Nat.reduceSub, Nat.reduceLeDiff, List.replicate_succ, List.replicate_zero, List.getElem?_cons_succ, List.getElem?_cons_zero, List.set_cons_succ, List.set_cons_zero, true_and, and_true, if_true, if_false, ↓reduceIte, Nat.le_refl, Value.category, va_up_app, eq_self, stp, Nat.reduceBEq, Bool.or_false, Bool.false_or, Bool.true_or, Bool.or_true, or_true, true_or, bx_uu, implies_true, true_implies, not_true, not_false_eq_true, false_implies, and_self, Nat.reduceLT, Int32.reduceAdd, Int32.reduceSub, Int32.reduceMul, Int32.reduceLE, Int32.reduceLT, Int32.reduceToNatClampNeg, va_rf_some, Bool.false_eq_true, k_X3_takeNumbers_0 ca, k_X3_takeNumbers_1 ca, k_X3_takeNumbers_4 ca, k_X3_takeNumbers_5 ca, k_X3_takeNumbers_6 ca, k_X3_takeNumbers_7 ca, k_X3_takeNumbers_8 ca, k_X3_takeNumbers_10 ca, k_X3_takeNumbers_13 ca, k_X3_takeNumbers_14 ca, k_X3_takeNumbers_17 ca, k_X3_takeNumbers_18 ca, k_X3_takeNumbers_21 ca, k_X3_takeNumbers_22 ca, k_X3_takeNumbers_23 ca, k_X3_takeNumbers_24 ca, k_X3_takeNumbers_25 ca, k_X3_takeNumbers_26 ca, k_X3_takeNumbers_29 ca, k_X3_takeNumbers_30 ca, k_X3_takeNumbers_33 ca, k_X3_takeNumbers_34 ca, k_X3_takeNumbers_35 ca, k_X3_takeNumbers_36 ca, k_X3_takeNumbers_39 ca, k_X3_takeNumbers_40 ca, k_X3_takeNumbers_41 ca, k_X3_takeNumbers_42 ca, k_X3_takeNumbers_43 ca, k_X3_takeNumbers_44 ca, k_X3_takeNumbers_47 ca, k_X3_takeNumbers_50 ca, k_X3_takeNumbers_51 ca, k_X3_takeNumbers_54 ca, k_X3_takeNumbers_55 ca, k_X3_takeNumbers_58 ca, k_X3_takeNumbers_59 ca, k_X3_takeNumbers_62 ca, k_X3_takeNumbers_63 ca, k_X3_takeNumbers_66 ca, k_X3_takeNumbers_67 ca, k_X3_takeNumbers_68 ca, k_X3_takeNumbers_71 ca, e]
        try clear hF hF0 F
        exact k0
      · have k0 := same h4 (fun i hi => by
          have e5 := h5 i hi
          rw [n1' i hi, hg i hi] at e5
          have hb := hNg i hi
          have hb2 : Nf i < 2 ^ 31 := by
            rcases htm with z | ⟨-, -, -, -, -, -, z8⟩
            · rw [z] at h4; exact absurd h4 (by decide)
            · have := z8 i hi; omega
          exact (nI_eq hb2 (by omega)).mp e5) f h1
        refine goN go (stp [54]) 160 _ _ _ _ _ _ (fun F hF hF0 => ?_)
        simp only [hF, hF0, ite_not, i_push, i_iload, i_lload, i_aload, i_istore, i_astore, i_lstore, i_iinc, i_bin, i_dv, i_un, i_lbin, i_lsh, i_i2l, i_l2i, i_lcmp, i_dup, i_dup2, i_pop, i_if, i_icmp, i_goto, swG, i_sw, i_getf, i_puti, i_putz, i_putr, i_ald, i_lald, i_aald, i_ast, i_last, i_aast, i_alen, i_new, i_newi, i_newl, i_newq, i_oinit, i_ret, i_zret, i_lret, i_vret, catS, tk, rpush, isO, i_m1, i_m2, i_acopy, i_callV, i_callS, KRet, lget, lput, lputL, lcl0, isL, lv0, List.map_cons, List.map_nil, List.length_cons, List.length_nil, List.cons_append, List.nil_append, Nat.reduceAdd, Nat.reduceSub, Nat.reduceLeDiff, List.replicate_succ, List.replicate_zero, List.getElem?_cons_succ, List.getElem?_cons_zero, List.set_cons_succ, List.set_cons_zero, true_and, and_true, if_true, if_false, ↓reduceIte, Nat.le_refl, Value.category, va_up_app, eq_self, stp, Nat.reduceBEq, Bool.or_false, Bool.false_or, Bool.true_or, Bool.or_true, or_true, true_or, bx_uu, implies_true, true_implies, not_true, not_false_eq_true, false_implies, and_self, Nat.reduceLT, Int32.reduceAdd, Int32.reduceSub, Int32.reduceMul, Int32.reduceLE, Int32.reduceLT, Int32.reduceToNatClampNeg, va_rf_some, Bool.false_eq_true, k_X3_takeNumbers_0 ca, k_X3_takeNumbers_1 ca, k_X3_takeNumbers_4 ca, k_X3_takeNumbers_5 ca, k_X3_takeNumbers_6 ca, k_X3_takeNumbers_7 ca, k_X3_takeNumbers_8 ca, k_X3_takeNumbers_10 ca, k_X3_takeNumbers_13 ca, k_X3_takeNumbers_14 ca, k_X3_takeNumbers_17 ca, k_X3_takeNumbers_18 ca, k_X3_takeNumbers_21 ca, k_X3_takeNumbers_22 ca, k_X3_takeNumbers_23 ca, k_X3_takeNumbers_24 ca, k_X3_takeNumbers_25 ca, k_X3_takeNumbers_26 ca, k_X3_takeNumbers_29 ca, k_X3_takeNumbers_30 ca, k_X3_takeNumbers_33 ca, k_X3_takeNumbers_34 ca, k_X3_takeNumbers_35 ca, k_X3_takeNumbers_36 ca, k_X3_takeNumbers_39 ca, k_X3_takeNumbers_40 ca, k_X3_takeNumbers_41 ca, k_X3_takeNumbers_42 ca, k_X3_takeNumbers_43 ca, k_X3_takeNumbers_44 ca, k_X3_takeNumbers_47 ca, k_X3_takeNumbers_50 ca, k_X3_takeNumbers_51 ca, k_X3_takeNumbers_54 ca, k_X3_takeNumbers_55 ca, k_X3_takeNumbers_58 ca, k_X3_takeNumbers_59 ca, k_X3_takeNumbers_62 ca, k_X3_takeNumbers_63 ca, k_X3_takeNumbers_66 ca, k_X3_takeNumbers_67 ca, k_X3_takeNumbers_68 ca, k_X3_takeNumbers_71 ca, e, one0]
        try clear hF hF0 F
        exact k0
    | succ r ih =>
      intro j f acc hj h1 h2 h3
      have g1 : ¬ 6 ≤ nI j := nI_ge (b := 6) (by omega) (by decide)
      have vj : vp_in (nI j) 6 := vp_in_nI (by omega) (by decide)
      have xj : (nI j).toNatClampNeg = j := nI_clamp (by omega)
      have ef := h2 j (Nat.le_refl _) (by omega)
      have next : ∀ acc', (acc' = 0 ∨ (acc' = 1 ∧ tm = 1 ∧ ∀ i, i < j + 1 → nf i = g i)) → K 0 0 7 [some (.ref x5), some (.ref nb), some (.int acc'), some (.int (nI (j + 1)))] [] (va_up h nx (some (.inl (ca 0, 6, .inl (upd f j (g j)))))) := fun acc' ha => ih (j + 1) (upd f j (g j)) acc' (by omega) (fun i hi => by
        rw [upd_app]
        by_cases z : i = j
        · rw [if_pos z, z]; exact hg j (by omega)
        · rw [if_neg z]; exact h1 i (by omega)) (fun i hi hi6 => by rw [upd_app, if_neg (by omega)]; exact h2 i (by omega) hi6) ha
      rcases h3 with rfl | ⟨rfl, h4, h5⟩
      · have k0 := next 0 (Or.inl rfl)
        refine goN go (stp [7]) 160 _ _ _ _ _ _ (fun F hF hF0 => ?_)
        simp only [hF, hF0, ite_not, i_push, i_iload, i_lload, i_aload, i_istore, i_astore, i_lstore, i_iinc, i_bin, i_dv, i_un, i_lbin, i_lsh, i_i2l, i_l2i, i_lcmp, i_dup, i_dup2, i_pop, i_if, i_icmp, i_goto, swG, i_sw, i_getf, i_puti, i_putz, i_putr, i_ald, i_lald, i_aald, i_ast, i_last, i_aast, i_alen, i_new, i_newi, i_newl, i_newq, i_oinit, i_ret, i_zret, i_lret, i_vret, catS, tk, rpush, isO, i_m1, i_m2, i_acopy, i_callV, i_callS, KRet, lget, lput, lputL, lcl0, isL, lv0, List.map_cons, List.map_nil, List.length_cons, List.length_nil, List.cons_append, List.nil_append, Nat.reduceAdd, Nat.reduceSub, Nat.reduceLeDiff, List.replicate_succ, List.replicate_zero, List.getElem?_cons_succ, List.getElem?_cons_zero, List.set_cons_succ, List.set_cons_zero, true_and, and_true, if_true, if_false, ↓reduceIte, Nat.le_refl, Value.category, va_up_app, eq_self, stp, Nat.reduceBEq, Bool.or_false, Bool.false_or, Bool.true_or, Bool.or_true, or_true, true_or, bx_uu, implies_true, true_implies, not_true, not_false_eq_true, false_implies, and_self, Nat.reduceLT, Int32.reduceAdd, Int32.reduceSub, Int32.reduceMul, Int32.reduceLE, Int32.reduceLT, Int32.reduceToNatClampNeg, va_rf_some, Bool.false_eq_true, k_X3_takeNumbers_0 ca, k_X3_takeNumbers_1 ca, k_X3_takeNumbers_4 ca, k_X3_takeNumbers_5 ca, k_X3_takeNumbers_6 ca, k_X3_takeNumbers_7 ca, k_X3_takeNumbers_8 ca, k_X3_takeNumbers_10 ca, k_X3_takeNumbers_13 ca, k_X3_takeNumbers_14 ca, k_X3_takeNumbers_17 ca, k_X3_takeNumbers_18 ca, k_X3_takeNumbers_21 ca, k_X3_takeNumbers_22 ca, k_X3_takeNumbers_23 ca, k_X3_takeNumbers_24 ca, k_X3_takeNumbers_25 ca, k_X3_takeNumbers_26 ca, k_X3_takeNumbers_29 ca, k_X3_takeNumbers_30 ca, k_X3_takeNumbers_33 ca, k_X3_takeNumbers_34 ca, k_X3_takeNumbers_35 ca, k_X3_takeNumbers_36 ca, k_X3_takeNumbers_39 ca, k_X3_takeNumbers_40 ca, k_X3_takeNumbers_41 ca, k_X3_takeNumbers_42 ca, k_X3_takeNumbers_43 ca, k_X3_takeNumbers_44 ca, k_X3_takeNumbers_47 ca, k_X3_takeNumbers_50 ca, k_X3_takeNumbers_51 ca, k_X3_takeNumbers_54 ca, k_X3_takeNumbers_55 ca, k_X3_takeNumbers_58 ca, k_X3_takeNumbers_59 ca, k_X3_takeNumbers_62 ca, k_X3_takeNumbers_63 ca, k_X3_takeNumbers_66 ca, k_X3_takeNumbers_67 ca, k_X3_takeNumbers_68 ca, k_X3_takeNumbers_71 ca, g1, e0', eg, d1, c2, vj, xj, a_1]
        try clear hF hF0 F
        exact k0
      · by_cases q : nf j = g j
        · have k0 := next 1 (Or.inr ⟨rfl, h4, fun i hi => by
            by_cases z : i = j
            · rw [z]; exact q
            · exact h5 i (by omega)⟩)
          refine goN go (stp [7]) 160 _ _ _ _ _ _ (fun F hF hF0 => ?_)
          simp only [hF, hF0, ite_not, i_push, i_iload, i_lload, i_aload, i_istore, i_astore, i_lstore, i_iinc, i_bin, i_dv, i_un, i_lbin, i_lsh, i_i2l, i_l2i, i_lcmp, i_dup, i_dup2, i_pop, i_if, i_icmp, i_goto, swG, i_sw, i_getf, i_puti, i_putz, i_putr, i_ald, i_lald, i_aald, i_ast, i_last, i_aast, i_alen, i_new, i_newi, i_newl, i_newq, i_oinit, i_ret, i_zret, i_lret, i_vret, catS, tk, rpush, isO, i_m1, i_m2, i_acopy, i_callV, i_callS, KRet, lget, lput, lputL, lcl0, isL, lv0, List.map_cons, List.map_nil, List.length_cons, List.length_nil, List.cons_append, List.nil_append, Nat.reduceAdd, Nat.reduceSub, Nat.reduceLeDiff, List.replicate_succ, List.replicate_zero, List.getElem?_cons_succ, List.getElem?_cons_zero, List.set_cons_succ, List.set_cons_zero, true_and, and_true, if_true, if_false, ↓reduceIte, Nat.le_refl, Value.category, va_up_app, eq_self, stp, Nat.reduceBEq, Bool.or_false, Bool.false_or, Bool.true_or, Bool.or_true, or_true, true_or, bx_uu, implies_true, true_implies, not_true, not_false_eq_true, false_implies, and_self, Nat.reduceLT, Int32.reduceAdd, Int32.reduceSub, Int32.reduceMul, Int32.reduceLE, Int32.reduceLT, Int32.reduceToNatClampNeg, va_rf_some, Bool.false_eq_true, k_X3_takeNumbers_0 ca, k_X3_takeNumbers_1 ca, k_X3_takeNumbers_4 ca, k_X3_takeNumbers_5 ca, k_X3_takeNumbers_6 ca, k_X3_takeNumbers_7 ca, k_X3_takeNumbers_8 ca, k_X3_takeNumbers_10 ca, k_X3_takeNumbers_13 ca, k_X3_takeNumbers_14 ca, k_X3_takeNumbers_17 ca, k_X3_takeNumbers_18 ca, k_X3_takeNumbers_21 ca, k_X3_takeNumbers_22 ca, k_X3_takeNumbers_23 ca, k_X3_takeNumbers_24 ca, k_X3_takeNumbers_25 ca, k_X3_takeNumbers_26 ca, k_X3_takeNumbers_29 ca, k_X3_takeNumbers_30 ca, k_X3_takeNumbers_33 ca, k_X3_takeNumbers_34 ca, k_X3_takeNumbers_35 ca, k_X3_takeNumbers_36 ca, k_X3_takeNumbers_39 ca, k_X3_takeNumbers_40 ca, k_X3_takeNumbers_41 ca, k_X3_takeNumbers_42 ca, k_X3_takeNumbers_43 ca, k_X3_takeNumbers_44 ca, k_X3_takeNumbers_47 ca, k_X3_takeNumbers_50 ca, k_X3_takeNumbers_51 ca, k_X3_takeNumbers_54 ca, k_X3_takeNumbers_55 ca, k_X3_takeNumbers_58 ca, k_X3_takeNumbers_59 ca, k_X3_takeNumbers_62 ca, k_X3_takeNumbers_63 ca, k_X3_takeNumbers_66 ca, k_X3_takeNumbers_67 ca, k_X3_takeNumbers_68 ca, k_X3_takeNumbers_71 ca, g1, e0', eg, d1, c2, vj, xj, a_1, ef, q, one0]
          try clear hF hF0 F
          exact k0
        · have k0 := next 0 (Or.inl rfl)
          refine goN go (stp [7]) 160 _ _ _ _ _ _ (fun F hF hF0 => ?_)
          simp only [hF, hF0, ite_not, i_push, i_iload, i_lload, i_aload, i_istore, i_astore, i_lstore, i_iinc, i_bin, i_dv, i_un, i_lbin, i_lsh, i_i2l, i_l2i, i_lcmp, i_dup, i_dup2, i_pop, i_if, i_icmp, i_goto, swG, i_sw, i_getf, i_puti, i_putz, i_putr, i_ald, i_lald, i_aald, i_ast, i_last, i_aast, i_alen, i_new, i_newi, i_newl, i_newq, i_oinit, i_ret, i_zret, i_lret, i_vret, catS, tk, rpush, isO, i_m1, i_m2, i_acopy, i_callV, i_callS, KRet, lget, lput, lputL, lcl0, isL, lv0, List.map_cons, List.map_nil, List.length_cons, List.length_nil, List.cons_append, List.nil_append, Nat.reduceAdd, Nat.reduceSub, Nat.reduceLeDiff, List.replicate_succ, List.replicate_zero, List.getElem?_cons_succ, List.getElem?_cons_zero, List.set_cons_succ, List.set_cons_zero, true_and, and_true, if_true, if_false, ↓reduceIte, Nat.le_refl, Value.category, va_up_app, eq_self, stp, Nat.reduceBEq, Bool.or_false, Bool.false_or, Bool.true_or, Bool.or_true, or_true, true_or, bx_uu, implies_true, true_implies, not_true, not_false_eq_true, false_implies, and_self, Nat.reduceLT, Int32.reduceAdd, Int32.reduceSub, Int32.reduceMul, Int32.reduceLE, Int32.reduceLT, Int32.reduceToNatClampNeg, va_rf_some, Bool.false_eq_true, k_X3_takeNumbers_0 ca, k_X3_takeNumbers_1 ca, k_X3_takeNumbers_4 ca, k_X3_takeNumbers_5 ca, k_X3_takeNumbers_6 ca, k_X3_takeNumbers_7 ca, k_X3_takeNumbers_8 ca, k_X3_takeNumbers_10 ca, k_X3_takeNumbers_13 ca, k_X3_takeNumbers_14 ca, k_X3_takeNumbers_17 ca, k_X3_takeNumbers_18 ca, k_X3_takeNumbers_21 ca, k_X3_takeNumbers_22 ca, k_X3_takeNumbers_23 ca, k_X3_takeNumbers_24 ca, k_X3_takeNumbers_25 ca, k_X3_takeNumbers_26 ca, k_X3_takeNumbers_29 ca, k_X3_takeNumbers_30 ca, k_X3_takeNumbers_33 ca, k_X3_takeNumbers_34 ca, k_X3_takeNumbers_35 ca, k_X3_takeNumbers_36 ca, k_X3_takeNumbers_39 ca, k_X3_takeNumbers_40 ca, k_X3_takeNumbers_41 ca, k_X3_takeNumbers_42 ca, k_X3_takeNumbers_43 ca, k_X3_takeNumbers_44 ca, k_X3_takeNumbers_47 ca, k_X3_takeNumbers_50 ca, k_X3_takeNumbers_51 ca, k_X3_takeNumbers_54 ca, k_X3_takeNumbers_55 ca, k_X3_takeNumbers_58 ca, k_X3_takeNumbers_59 ca, k_X3_takeNumbers_62 ca, k_X3_takeNumbers_63 ca, k_X3_takeNumbers_66 ca, k_X3_takeNumbers_67 ca, k_X3_takeNumbers_68 ca, k_X3_takeNumbers_71 ca, g1, e0', eg, d1, c2, vj, xj, a_1, ef, q, one0]
          try clear hF hF0 F
          exact k0
  have k0 := key 6 0 nf tm (by omega) (fun i hi => absurd hi (by omega)) (fun i _ _ => rfl) (by
    rcases htm2 with z | z
    · exact Or.inl z
    · exact Or.inr ⟨z, z, fun i hi => absurd hi (by omega)⟩)
  rw [up_id e1, nI_0] at k0
  refine goN go (stp [7]) 160 _ _ _ _ _ _ (fun F hF hF0 => ?_)
  simp only [hF, hF0, ite_not, i_push, i_iload, i_lload, i_aload, i_istore, i_astore, i_lstore, i_iinc, i_bin, i_dv, i_un, i_lbin, i_lsh, i_i2l, i_l2i, i_lcmp, i_dup, i_dup2, i_pop, i_if, i_icmp, i_goto, swG, i_sw, i_getf, i_puti, i_putz, i_putr, i_ald, i_lald, i_aald, i_ast, i_last, i_aast, i_alen, i_new, i_newi, i_newl, i_newq, i_oinit, i_ret, i_zret, i_lret, i_vret, catS, tk, rpush, isO, i_m1, i_m2, i_acopy, i_callV, i_callS, KRet, lget, lput, lputL, lcl0, isL, lv0, List.map_cons, List.map_nil, List.length_cons, List.length_nil, List.cons_append, List.nil_append, Nat.reduceAdd, Nat.reduceSub, Nat.reduceLeDiff, List.replicate_succ, List.replicate_zero, List.getElem?_cons_succ, List.getElem?_cons_zero, List.set_cons_succ, List.set_cons_zero, true_and, and_true, if_true, if_false, ↓reduceIte, Nat.le_refl, Value.category, va_up_app, eq_self, stp, Nat.reduceBEq, Bool.or_false, Bool.false_or, Bool.true_or, Bool.or_true, or_true, true_or, bx_uu, implies_true, true_implies, not_true, not_false_eq_true, false_implies, and_self, Nat.reduceLT, Int32.reduceAdd, Int32.reduceSub, Int32.reduceMul, Int32.reduceLE, Int32.reduceLT, Int32.reduceToNatClampNeg, va_rf_some, Bool.false_eq_true, k_X3_takeNumbers_0 ca, k_X3_takeNumbers_1 ca, k_X3_takeNumbers_4 ca, k_X3_takeNumbers_5 ca, k_X3_takeNumbers_6 ca, k_X3_takeNumbers_7 ca, k_X3_takeNumbers_8 ca, k_X3_takeNumbers_10 ca, k_X3_takeNumbers_13 ca, k_X3_takeNumbers_14 ca, k_X3_takeNumbers_17 ca, k_X3_takeNumbers_18 ca, k_X3_takeNumbers_21 ca, k_X3_takeNumbers_22 ca, k_X3_takeNumbers_23 ca, k_X3_takeNumbers_24 ca, k_X3_takeNumbers_25 ca, k_X3_takeNumbers_26 ca, k_X3_takeNumbers_29 ca, k_X3_takeNumbers_30 ca, k_X3_takeNumbers_33 ca, k_X3_takeNumbers_34 ca, k_X3_takeNumbers_35 ca, k_X3_takeNumbers_36 ca, k_X3_takeNumbers_39 ca, k_X3_takeNumbers_40 ca, k_X3_takeNumbers_41 ca, k_X3_takeNumbers_42 ca, k_X3_takeNumbers_43 ca, k_X3_takeNumbers_44 ca, k_X3_takeNumbers_47 ca, k_X3_takeNumbers_50 ca, k_X3_takeNumbers_51 ca, k_X3_takeNumbers_54 ca, k_X3_takeNumbers_55 ca, k_X3_takeNumbers_58 ca, k_X3_takeNumbers_59 ca, k_X3_takeNumbers_62 ca, k_X3_takeNumbers_63 ca, k_X3_takeNumbers_66 ca, k_X3_takeNumbers_67 ca, k_X3_takeNumbers_68 ca, k_X3_takeNumbers_71 ca, e0']
  try clear hF hF0 F
  exact k0
/-! a row of least parts is there -/
theorem RowZ_ex {Nf : Nat → Nat} : ∀ (P : Nat) (T b : Int), canZ Nf P T b → ∃ kk LT RS, RowZ Nf P T b kk LT RS
  | 0, T, b, _ => ⟨fun _ => 0, fun _ => T, fun _ => b, rfl, rfl, fun n hn => absurd hn (by omega)⟩
  | P + 1, T, b, ⟨l, p, h1, h2, h3, h4⟩ => by
    obtain ⟨k, hk, hmin⟩ := pk_least (fun k => k < 324 ∧ wayZ Nf P T b k) ⟨36 * (l - 1) + p, by omega, (wayZ_k h1 h3).mpr h4⟩
    obtain ⟨kk, LT, RS, r1, r2, r3⟩ := RowZ_ex P (T - (k / 36 + 1 : Nat)) (b - (k / 36 + 1 : Nat) * dz Nf (k % 36)) hk.2
    refine ⟨fun n => match n with | 0 => k | n + 1 => kk n, fun n => match n with | 0 => T | n + 1 => LT n, fun n => match n with | 0 => b | n + 1 => RS n, rfl, rfl, fun n hn => ?_⟩
    match n with
    | 0 => exact ⟨hk.1, hk.2, fun j hj w => hmin j hj ⟨Nat.lt_trans (show j < k from hj) hk.1, w⟩, r1, r2⟩
    | n + 1 =>
      obtain ⟨a1, a2, a3, a4, a5⟩ := r3 n (by omega)
      rw [show P + 1 - (n + 1) - 1 = P - n - 1 by omega]
      exact ⟨a1, a2, a3, a4, a5⟩
def StkZ (Nf : Nat → Nat) (P : Nat) (T b : Int) (kk : Nat → Nat) : Prop := P ≤ 3 ∧ canZ Nf P T b ∧ (∀ P' T', P' < P → ¬ canZ Nf P' T' b) ∧ (∀ T', T' < T → ¬ canZ Nf P T' b) ∧ ∃ LT RS, RowZ Nf P T b kk LT RS
theorem StkZ_ex {Nf : Nat → Nat} {P : Nat} {T b : Int} (hN : Nm Nf) (hP : P ≤ 3) (hc : canZ Nf P T b) (hm : ∀ P' T', P' < P → ¬ canZ Nf P' T' b) : ∃ T kk, StkZ Nf P T b kk := by
  have h0 := canZ_bd hN hc
  obtain ⟨t, h1, h2⟩ := pk_least (fun t => canZ Nf P (t : Int) b) ⟨T.toNat, by show canZ Nf P (T.toNat : Int) b; rw [show (T.toNat : Int) = T by omega]; exact hc⟩
  obtain ⟨kk, LT, RS, hr⟩ := RowZ_ex P t b h1
  refine ⟨t, kk, hP, h1, hm, fun T' hT' w => ?_, LT, RS, hr⟩
  have h3 := canZ_bd hN w
  refine h2 T'.toNat (by omega) ?_
  show canZ Nf P (T'.toNat : Int) b
  rw [show (T'.toNat : Int) = T' by omega]
  exact w
def sp_X7_stack (ca : Nat → ClassId) : SPEC := fun av h post => ∃ o b qh x3 x4 x5 lk s nx pp ox tx bb i w, av = [.ref o, .int bb, .int i, .int w] ∧ h o = some (.inr (7, [.ref (b 0), .ref qh, .ref x3, .ref x4, .ref x5, .int lk])) ∧ SAt ca h b s ∧ NumOk s ∧ DS x5 nx pp ox tx ∧ (¬ b 1 = x5 ∧ ¬ b 1 = nx ∧ ¬ b 1 = pp ∧ ¬ b 1 = ox ∧ ¬ b 1 = tx) ∧ (¬ o = x5 ∧ ¬ o = nx ∧ ¬ o = pp ∧ ¬ o = ox ∧ ¬ o = tx) ∧ SFs ca h x5 nx pp ox tx ∧
  (stOk bb i w = false → post (some (.int (-10000001))) h) ∧
  (stOk bb i w = true → ∀ Nf, Nm Nf → (∀ j, j < 6 → s j = nI (Nf j)) → (∀ P T, P ≤ 3 → ¬ canZ Nf P T bb.toInt) → ∀ h', SFs ca h' x5 nx pp ox tx → SmS x5 nx pp ox tx h h' → post (some (.int (-10000004))) h') ∧
  (stOk bb i w = true → ∀ Nf, Nm Nf → (∀ j, j < 6 → s j = nI (Nf j)) → ∀ P T kk, StkZ Nf P T bb.toInt kk → ∀ h', SFs ca h' x5 nx pp ox tx → SmS x5 nx pp ox tx h h' → post (some (.int (stA P kk i w))) h')
def k_X7_stack (ca : Nat → ClassId) : Nat → IT := fun pc => lk pc [(0, i_iload 1 1),
  (1, i_push (.int (-900)) 4),
  (4, i_push (.int 900) 7),
  (7, i_callS 3 0 0 0 0 (sp_X7_isWithin ca) 10),
  (10, i_if (fun x => x = 0) 36 13),
  (13, i_iload 2 14),
  (14, i_push (.int (-1)) 15),
  (15, i_icmp (fun x y => x < y) 36 18),
  (18, i_iload 3 19),
  (19, i_push (.int 0) 20),
  (20, i_push (.int 2) 21),
  (21, i_callS 3 0 0 0 0 (sp_X7_isWithin ca) 24),
  (24, i_if (fun x => x = 0) 36 27),
  (27, i_iload 2 28),
  (28, i_push (.int (-1)) 29),
  (29, i_icmp (fun x y => ¬ x = y) 39 32),
  (32, i_iload 3 33),
  (33, i_if (fun x => x = 0) 39 36),
  (36, i_push (.int (-10000001)) 38),
  (38, i_ret),
  (39, i_aload 0 40),
  (40, i_getf 7 4 43),
  (43, i_aload 0 44),
  (44, i_getf 7 0 47),
  (47, i_getf 4 0 50),
  (50, i_callV 3 1 0 0 0 0 (sp_X3_takeNumbers ca) 53),
  (53, i_aload 0 54),
  (54, i_getf 7 4 57),
  (57, i_iload 1 58),
  (58, i_callV 3 1 0 0 0 0 (sp_X3_fewestParts ca) 61),
  (61, i_istore 4 63),
  (63, i_iload 4 65),
  (65, i_if (fun x => x < 0) 74 68),
  (68, i_iload 2 69),
  (69, i_iload 4 71),
  (71, i_icmp (fun x y => x < y) 77 74),
  (74, i_push (.int (-10000004)) 76),
  (76, i_ret),
  (77, i_iload 2 78),
  (78, i_push (.int (-1)) 79),
  (79, i_icmp (fun x y => ¬ x = y) 87 82),
  (82, i_iload 4 84),
  (84, i_goto 99),
  (87, i_aload 0 88),
  (88, i_getf 7 4 91),
  (91, i_iload 4 93),
  (93, i_iload 1 94),
  (94, i_iload 2 95),
  (95, i_iload 3 96),
  (96, i_callV 3 4 0 0 0 0 (sp_X3_partOfLeastRow ca) 99),
  (99, i_ret)]
set_option maxRecDepth 20000 in
theorem t_X7_stack : Tb k_X7_stack yX7_stack cX7_stack 5 (some .int) 6 0 0 := by
  intro l D ca A p e s m args below meth c post X
  unfold k_X7_stack
  refine snd_cons (snd_iload_n X dX7_stack_0 rfl) ?_
  refine snd_cons (snd_sipush X dX7_stack_1 (by decide)) ?_
  refine snd_cons (snd_sipush X dX7_stack_4 (by decide)) ?_
  refine snd_cons (snd_callS X (ok_X7_isWithin l D ca) rfl rfl w_276 w_277 w_1 w_278 (by decide) (by decide) dX7_stack_7) ?_
  refine snd_cons (snd_if_eq X dX7_stack_10 (by decide)) ?_
  refine snd_cons (snd_iload_n X dX7_stack_13 rfl) ?_
  refine snd_cons (snd_iconst X dX7_stack_14 (by decide)) ?_
  refine snd_cons (snd_icmp_lt X dX7_stack_15 (by decide)) ?_
  refine snd_cons (snd_iload_n X dX7_stack_18 rfl) ?_
  refine snd_cons (snd_iconst X dX7_stack_19 (by decide)) ?_
  refine snd_cons (snd_iconst X dX7_stack_20 (by decide)) ?_
  refine snd_cons (snd_callS X (ok_X7_isWithin l D ca) rfl rfl w_276 w_277 w_1 w_278 (by decide) (by decide) dX7_stack_21) ?_
  refine snd_cons (snd_if_eq X dX7_stack_24 (by decide)) ?_
  refine snd_cons (snd_iload_n X dX7_stack_27 rfl) ?_
  refine snd_cons (snd_iconst X dX7_stack_28 (by decide)) ?_
  refine snd_cons (snd_icmp_ne X dX7_stack_29 (by decide)) ?_
  refine snd_cons (snd_iload_n X dX7_stack_32 rfl) ?_
  refine snd_cons (snd_if_eq X dX7_stack_33 (by decide)) ?_
  refine snd_cons (snd_ldc X w_279 dX7_stack_36) ?_
  refine snd_cons (snd_ret X dX7_stack_38) ?_
  refine snd_cons (snd_aload_n X dX7_stack_39 rfl) ?_
  refine snd_cons (snd_getf X Fk7 4 (by decide) w_257 dX7_stack_40) ?_
  refine snd_cons (snd_aload_n X dX7_stack_43 rfl) ?_
  refine snd_cons (snd_getf X Fk7 0 (by decide) w_253 dX7_stack_44) ?_
  refine snd_cons (snd_getf X Fk4 0 (by decide) w_124 dX7_stack_47) ?_
  refine snd_cons (snd_callV X Fk3 (ok_X3_takeNumbers l D ca) rfl rfl w_517 w_518 w_519 w_8 w_520 (by decide) (by decide) dX7_stack_50) ?_
  refine snd_cons (snd_aload_n X dX7_stack_53 rfl) ?_
  refine snd_cons (snd_getf X Fk7 4 (by decide) w_257 dX7_stack_54) ?_
  refine snd_cons (snd_iload_n X dX7_stack_57 rfl) ?_
  refine snd_cons (snd_callV X Fk3 (ok_X3_fewestParts l D ca) rfl rfl w_545 w_546 w_547 w_8 w_548 (by decide) (by decide) dX7_stack_58) ?_
  refine snd_cons (snd_istore X dX7_stack_61 (by decide)) ?_
  refine snd_cons (snd_iload X dX7_stack_63) ?_
  refine snd_cons (snd_if_lt X dX7_stack_65 (by decide)) ?_
  refine snd_cons (snd_iload_n X dX7_stack_68 rfl) ?_
  refine snd_cons (snd_iload X dX7_stack_69) ?_
  refine snd_cons (snd_icmp_lt X dX7_stack_71 (by decide)) ?_
  refine snd_cons (snd_ldc X w_451 dX7_stack_74) ?_
  refine snd_cons (snd_ret X dX7_stack_76) ?_
  refine snd_cons (snd_iload_n X dX7_stack_77 rfl) ?_
  refine snd_cons (snd_iconst X dX7_stack_78 (by decide)) ?_
  refine snd_cons (snd_icmp_ne X dX7_stack_79 (by decide)) ?_
  refine snd_cons (snd_iload X dX7_stack_82) ?_
  refine snd_cons (snd_goto X dX7_stack_84 (by decide)) ?_
  refine snd_cons (snd_aload_n X dX7_stack_87 rfl) ?_
  refine snd_cons (snd_getf X Fk7 4 (by decide) w_257 dX7_stack_88) ?_
  refine snd_cons (snd_iload X dX7_stack_91) ?_
  refine snd_cons (snd_iload_n X dX7_stack_93 rfl) ?_
  refine snd_cons (snd_iload_n X dX7_stack_94 rfl) ?_
  refine snd_cons (snd_iload_n X dX7_stack_95 rfl) ?_
  refine snd_cons (snd_callV X Fk3 (ok_X3_partOfLeastRow l D ca) rfl rfl w_565 w_566 w_567 w_8 w_568 (by decide) (by decide) dX7_stack_96) ?_
  refine snd_cons (snd_ret X dX7_stack_99) ?_
  exact snd_nil
theorem k_X7_stack_0 (ca : Nat → ClassId) : k_X7_stack ca 0 = i_iload 1 1 := rfl
theorem k_X7_stack_1 (ca : Nat → ClassId) : k_X7_stack ca 1 = i_push (.int (-900)) 4 := rfl
theorem k_X7_stack_4 (ca : Nat → ClassId) : k_X7_stack ca 4 = i_push (.int 900) 7 := rfl
theorem k_X7_stack_7 (ca : Nat → ClassId) : k_X7_stack ca 7 = i_callS 3 0 0 0 0 (sp_X7_isWithin ca) 10 := rfl
theorem k_X7_stack_10 (ca : Nat → ClassId) : k_X7_stack ca 10 = i_if (fun x => x = 0) 36 13 := rfl
theorem k_X7_stack_13 (ca : Nat → ClassId) : k_X7_stack ca 13 = i_iload 2 14 := rfl
theorem k_X7_stack_14 (ca : Nat → ClassId) : k_X7_stack ca 14 = i_push (.int (-1)) 15 := rfl
theorem k_X7_stack_15 (ca : Nat → ClassId) : k_X7_stack ca 15 = i_icmp (fun x y => x < y) 36 18 := rfl
theorem k_X7_stack_18 (ca : Nat → ClassId) : k_X7_stack ca 18 = i_iload 3 19 := rfl
theorem k_X7_stack_19 (ca : Nat → ClassId) : k_X7_stack ca 19 = i_push (.int 0) 20 := rfl
theorem k_X7_stack_20 (ca : Nat → ClassId) : k_X7_stack ca 20 = i_push (.int 2) 21 := rfl
theorem k_X7_stack_21 (ca : Nat → ClassId) : k_X7_stack ca 21 = i_callS 3 0 0 0 0 (sp_X7_isWithin ca) 24 := rfl
theorem k_X7_stack_24 (ca : Nat → ClassId) : k_X7_stack ca 24 = i_if (fun x => x = 0) 36 27 := rfl
theorem k_X7_stack_27 (ca : Nat → ClassId) : k_X7_stack ca 27 = i_iload 2 28 := rfl
theorem k_X7_stack_28 (ca : Nat → ClassId) : k_X7_stack ca 28 = i_push (.int (-1)) 29 := rfl
theorem k_X7_stack_29 (ca : Nat → ClassId) : k_X7_stack ca 29 = i_icmp (fun x y => ¬ x = y) 39 32 := rfl
theorem k_X7_stack_32 (ca : Nat → ClassId) : k_X7_stack ca 32 = i_iload 3 33 := rfl
theorem k_X7_stack_33 (ca : Nat → ClassId) : k_X7_stack ca 33 = i_if (fun x => x = 0) 39 36 := rfl
theorem k_X7_stack_36 (ca : Nat → ClassId) : k_X7_stack ca 36 = i_push (.int (-10000001)) 38 := rfl
theorem k_X7_stack_38 (ca : Nat → ClassId) : k_X7_stack ca 38 = i_ret := rfl
theorem k_X7_stack_39 (ca : Nat → ClassId) : k_X7_stack ca 39 = i_aload 0 40 := rfl
theorem k_X7_stack_40 (ca : Nat → ClassId) : k_X7_stack ca 40 = i_getf 7 4 43 := rfl
theorem k_X7_stack_43 (ca : Nat → ClassId) : k_X7_stack ca 43 = i_aload 0 44 := rfl
theorem k_X7_stack_44 (ca : Nat → ClassId) : k_X7_stack ca 44 = i_getf 7 0 47 := rfl
theorem k_X7_stack_47 (ca : Nat → ClassId) : k_X7_stack ca 47 = i_getf 4 0 50 := rfl
theorem k_X7_stack_50 (ca : Nat → ClassId) : k_X7_stack ca 50 = i_callV 3 1 0 0 0 0 (sp_X3_takeNumbers ca) 53 := rfl
theorem k_X7_stack_53 (ca : Nat → ClassId) : k_X7_stack ca 53 = i_aload 0 54 := rfl
theorem k_X7_stack_54 (ca : Nat → ClassId) : k_X7_stack ca 54 = i_getf 7 4 57 := rfl
theorem k_X7_stack_57 (ca : Nat → ClassId) : k_X7_stack ca 57 = i_iload 1 58 := rfl
theorem k_X7_stack_58 (ca : Nat → ClassId) : k_X7_stack ca 58 = i_callV 3 1 0 0 0 0 (sp_X3_fewestParts ca) 61 := rfl
theorem k_X7_stack_61 (ca : Nat → ClassId) : k_X7_stack ca 61 = i_istore 4 63 := rfl
theorem k_X7_stack_63 (ca : Nat → ClassId) : k_X7_stack ca 63 = i_iload 4 65 := rfl
theorem k_X7_stack_65 (ca : Nat → ClassId) : k_X7_stack ca 65 = i_if (fun x => x < 0) 74 68 := rfl
theorem k_X7_stack_68 (ca : Nat → ClassId) : k_X7_stack ca 68 = i_iload 2 69 := rfl
theorem k_X7_stack_69 (ca : Nat → ClassId) : k_X7_stack ca 69 = i_iload 4 71 := rfl
theorem k_X7_stack_71 (ca : Nat → ClassId) : k_X7_stack ca 71 = i_icmp (fun x y => x < y) 77 74 := rfl
theorem k_X7_stack_74 (ca : Nat → ClassId) : k_X7_stack ca 74 = i_push (.int (-10000004)) 76 := rfl
theorem k_X7_stack_76 (ca : Nat → ClassId) : k_X7_stack ca 76 = i_ret := rfl
theorem k_X7_stack_77 (ca : Nat → ClassId) : k_X7_stack ca 77 = i_iload 2 78 := rfl
theorem k_X7_stack_78 (ca : Nat → ClassId) : k_X7_stack ca 78 = i_push (.int (-1)) 79 := rfl
theorem k_X7_stack_79 (ca : Nat → ClassId) : k_X7_stack ca 79 = i_icmp (fun x y => ¬ x = y) 87 82 := rfl
theorem k_X7_stack_82 (ca : Nat → ClassId) : k_X7_stack ca 82 = i_iload 4 84 := rfl
theorem k_X7_stack_84 (ca : Nat → ClassId) : k_X7_stack ca 84 = i_goto 99 := rfl
theorem k_X7_stack_87 (ca : Nat → ClassId) : k_X7_stack ca 87 = i_aload 0 88 := rfl
theorem k_X7_stack_88 (ca : Nat → ClassId) : k_X7_stack ca 88 = i_getf 7 4 91 := rfl
theorem k_X7_stack_91 (ca : Nat → ClassId) : k_X7_stack ca 91 = i_iload 4 93 := rfl
theorem k_X7_stack_93 (ca : Nat → ClassId) : k_X7_stack ca 93 = i_iload 1 94 := rfl
theorem k_X7_stack_94 (ca : Nat → ClassId) : k_X7_stack ca 94 = i_iload 2 95 := rfl
theorem k_X7_stack_95 (ca : Nat → ClassId) : k_X7_stack ca 95 = i_iload 3 96 := rfl
theorem k_X7_stack_96 (ca : Nat → ClassId) : k_X7_stack ca 96 = i_callV 3 4 0 0 0 0 (sp_X3_partOfLeastRow ca) 99 := rfl
theorem k_X7_stack_99 (ca : Nat → ClassId) : k_X7_stack ca 99 = i_ret := rfl
set_option maxHeartbeats 4000000 in
set_option maxRecDepth 20000 in
theorem ok_X7_stack (l : Launch) (D : va_G) (ca : Nat → ClassId) : OkAll l D ca yX7_stack cX7_stack 5 (some .int) 6 0 0 (sp_X7_stack ca) := by
  intro av h post hs
  obtain ⟨o, b, qh, x3, x4, x5, lk, s, nx, pp, ox, tx, bb, i, w, rfl, c0, hS, hN, hDS, hb1, ho, hF, hA, hB, hC⟩ := hs
  obtain ⟨z0, -, -, ⟨f1, z1, y1⟩, -⟩ := hS.c
  obtain ⟨o1, o2, o3, o4, o5⟩ := ho
  have hF0 := hF
  obtain ⟨tm0, pc0, Nf0, pr0, -, -, -, -, e50, -⟩ := hF
  have e50' := e50
  unfold eSF at e50'
  -- the numbers as a function
  have hNe : ∃ Ng : Nat → Nat, Nm Ng ∧ ∀ j, j < 6 → s j = nI (Ng j) := by
    refine ⟨fun j => (s j).toNatClampNeg, fun j hj => ?_, fun j hj => ?_⟩
    · obtain ⟨N, h1, h2⟩ := hN j hj
      show (s j).toNatClampNeg ≤ 30
      rw [h2, nI_clamp (by omega)]; exact h1
    · obtain ⟨N, h1, h2⟩ := hN j hj
      show s j = nI (s j).toNatClampNeg
      rw [h2, nI_clamp (by omega)]
  obtain ⟨Ng, hNg, hsg⟩ := hNe
  refine okM_of t_X7_stack (by decide +kernel) (c1_ref (c1_int (c1_int (c1_int c1_nil)))) (Nat.le_of_ble_eq_true rfl) ?_
  intro K go
  have main : stOk bb i w = true → isIn bb (-900) 900 = true → isIn w 0 2 = true → ¬ i < -1 → K 0 0 39 [some (.ref o), some (.int bb), some (.int i), some (.int w), none] [] h := by
    intro hok hb9 hw2 hi1
    have hB := hB hok
    have hC := hC hok
    clear hA
    have hbr : -900 ≤ bb.toInt ∧ bb.toInt ≤ 900 := by
      unfold isIn at hb9
      simp only [Bool.and_eq_true, Bool.not_eq_true', decide_eq_false_iff_not, Int32.not_lt, Int32.le_iff_toInt_le] at hb9
      rw [show (-900 : Int32).toInt = -900 from rfl, show (900 : Int32).toInt = 900 from rfl] at hb9
      exact hb9
    have ebb := zI_of bb
    generalize hbz : bb.toInt = bz at *
    refine goN go (stp [53]) 160 _ _ _ _ _ _ (fun F hF hF0 => ?_)
    simp only [hF, hF0, ite_not, i_push, i_iload, i_lload, i_aload, i_istore, i_astore, i_lstore, i_iinc, i_bin, i_dv, i_un, i_lbin, i_lsh, i_i2l, i_l2i, i_lcmp, i_dup, i_dup2, i_pop, i_if, i_icmp, i_goto, swG, i_sw, i_getf, i_puti, i_putz, i_putr, i_ald, i_lald, i_aald, i_ast, i_last, i_aast, i_alen, i_new, i_newi, i_newl, i_newq, i_oinit, i_ret, i_zret, i_lret, i_vret, catS, tk, rpush, isO, i_m1, i_m2, i_acopy, i_callV, i_callS, KRet, lget, lput, lputL, lcl0, isL, lv0, List.map_cons, List.map_nil, List.length_cons, List.length_nil, List.cons_append, List.nil_append, Nat.reduceAdd, Nat.reduceSub, Nat.reduceLeDiff, List.replicate_succ, List.replicate_zero, List.getElem?_cons_succ, List.getElem?_cons_zero, List.set_cons_succ, List.set_cons_zero, true_and, and_true, if_true, if_false, ↓reduceIte, Nat.le_refl, Value.category, va_up_app, eq_self, stp, Nat.reduceBEq, Bool.or_false, Bool.false_or, Bool.true_or, Bool.or_true, or_true, true_or, bx_uu, implies_true, true_implies, not_true, not_false_eq_true, false_implies, and_self, Nat.reduceLT, Int32.reduceAdd, Int32.reduceSub, Int32.reduceMul, Int32.reduceLE, Int32.reduceLT, Int32.reduceToNatClampNeg, va_rf_some, Bool.false_eq_true, k_X7_stack_0 ca, k_X7_stack_1 ca, k_X7_stack_4 ca, k_X7_stack_7 ca, k_X7_stack_10 ca, k_X7_stack_13 ca, k_X7_stack_14 ca, k_X7_stack_15 ca, k_X7_stack_18 ca, k_X7_stack_19 ca, k_X7_stack_20 ca, k_X7_stack_21 ca, k_X7_stack_24 ca, k_X7_stack_27 ca, k_X7_stack_28 ca, k_X7_stack_29 ca, k_X7_stack_32 ca, k_X7_stack_33 ca, k_X7_stack_36 ca, k_X7_stack_38 ca, k_X7_stack_39 ca, k_X7_stack_40 ca, k_X7_stack_43 ca, k_X7_stack_44 ca, k_X7_stack_47 ca, k_X7_stack_50 ca, k_X7_stack_53 ca, k_X7_stack_54 ca, k_X7_stack_57 ca, k_X7_stack_58 ca, k_X7_stack_61 ca, k_X7_stack_63 ca, k_X7_stack_65 ca, k_X7_stack_68 ca, k_X7_stack_69 ca, k_X7_stack_71 ca, k_X7_stack_74 ca, k_X7_stack_76 ca, k_X7_stack_77 ca, k_X7_stack_78 ca, k_X7_stack_79 ca, k_X7_stack_82 ca, k_X7_stack_84 ca, k_X7_stack_87 ca, k_X7_stack_88 ca, k_X7_stack_91 ca, k_X7_stack_93 ca, k_X7_stack_94 ca, k_X7_stack_95 ca, k_X7_stack_96 ca, k_X7_stack_99 ca, c0, z0, e50']
    try clear hF hF0 F
    refine ⟨x5, nx, pp, ox, tx, b 1, f1, Ng, rfl, hDS, hb1, hF0, z1, fun j hj => (y1 j hj).trans (hsg j hj), hNg, fun h' pc Nf pr hNf hSF hm => ?_⟩
    have hNfm : Nm Nf := fun j hj => by rw [hNf j hj]; exact hNg j hj
    have hsf : ∀ j, j < 6 → s j = nI (Nf j) := fun j hj => by rw [hNf j hj]; exact hsg j hj
    have hSs : SFs ca h' x5 nx pp ox tx := by
      obtain ⟨q0, ⟨nf, q1, q2⟩, ⟨pf, q3, q4⟩, ⟨bo, q5, q6⟩, ⟨bt2, q7, q8⟩, q9⟩ := id hSF
      exact ⟨1, pc, Nf, pr, ⟨nf, q1, q2⟩, ⟨pf, q3⟩, ⟨bo, q5⟩, ⟨bt2, q7⟩, q0, Or.inr ⟨rfl, hSF⟩⟩
    have g0 := (hm o o1 o2 o3 o4 o5).trans c0
    have g5 := hSF.1
    unfold eSF at g5
    refine goN go (stp [61]) 160 _ _ _ _ _ _ (fun F hF hF0 => ?_)
    simp only [hF, hF0, ite_not, i_push, i_iload, i_lload, i_aload, i_istore, i_astore, i_lstore, i_iinc, i_bin, i_dv, i_un, i_lbin, i_lsh, i_i2l, i_l2i, i_lcmp, i_dup, i_dup2, i_pop, i_if, i_icmp, i_goto, swG, i_sw, i_getf, i_puti, i_putz, i_putr, i_ald, i_lald, i_aald, i_ast, i_last, i_aast, i_alen, i_new, i_newi, i_newl, i_newq, i_oinit, i_ret, i_zret, i_lret, i_vret, catS, tk, rpush, isO, i_m1, i_m2, i_acopy, i_callV, i_callS, KRet, lget, lput, lputL, lcl0, isL, lv0, List.map_cons, List.map_nil, List.length_cons, List.length_nil, List.cons_append, List.nil_append, Nat.reduceAdd, Nat.reduceSub, Nat.reduceLeDiff, List.replicate_succ, List.replicate_zero, List.getElem?_cons_succ, List.getElem?_cons_zero, List.set_cons_succ, List.set_cons_zero, true_and, and_true, if_true, if_false, ↓reduceIte, Nat.le_refl, Value.category, va_up_app, eq_self, stp, Nat.reduceBEq, Bool.or_false, Bool.false_or, Bool.true_or, Bool.or_true, or_true, true_or, bx_uu, implies_true, true_implies, not_true, not_false_eq_true, false_implies, and_self, Nat.reduceLT, Int32.reduceAdd, Int32.reduceSub, Int32.reduceMul, Int32.reduceLE, Int32.reduceLT, Int32.reduceToNatClampNeg, va_rf_some, Bool.false_eq_true, k_X7_stack_0 ca, k_X7_stack_1 ca, k_X7_stack_4 ca, k_X7_stack_7 ca, k_X7_stack_10 ca, k_X7_stack_13 ca, k_X7_stack_14 ca, k_X7_stack_15 ca, k_X7_stack_18 ca, k_X7_stack_19 ca, k_X7_stack_20 ca, k_X7_stack_21 ca, k_X7_stack_24 ca, k_X7_stack_27 ca, k_X7_stack_28 ca, k_X7_stack_29 ca, k_X7_stack_32 ca, k_X7_stack_33 ca, k_X7_stack_36 ca, k_X7_stack_38 ca, k_X7_stack_39 ca, k_X7_stack_40 ca, k_X7_stack_43 ca, k_X7_stack_44 ca, k_X7_stack_47 ca, k_X7_stack_50 ca, k_X7_stack_53 ca, k_X7_stack_54 ca, k_X7_stack_57 ca, k_X7_stack_58 ca, k_X7_stack_61 ca, k_X7_stack_63 ca, k_X7_stack_65 ca, k_X7_stack_68 ca, k_X7_stack_69 ca, k_X7_stack_71 ca, k_X7_stack_74 ca, k_X7_stack_76 ca, k_X7_stack_77 ca, k_X7_stack_78 ca, k_X7_stack_79 ca, k_X7_stack_82 ca, k_X7_stack_84 ca, k_X7_stack_87 ca, k_X7_stack_88 ca, k_X7_stack_91 ca, k_X7_stack_93 ca, k_X7_stack_94 ca, k_X7_stack_95 ca, k_X7_stack_96 ca, k_X7_stack_99 ca, g0, g5]
    try clear hF hF0 F
    refine ⟨x5, nx, 1, pp, pc, ox, tx, Nf, pr, bz, by omega, by omega, by rw [← ebb], hSF, fun hno => ?_, fun P T hP hc hmin => ?_⟩
    · have k0 := hB Nf hNfm hsf hno h' hSs hm
      refine goN go (stp []) 160 _ _ _ _ _ _ (fun F hF hF0 => ?_)
      simp only [hF, hF0, ite_not, i_push, i_iload, i_lload, i_aload, i_istore, i_astore, i_lstore, i_iinc, i_bin, i_dv, i_un, i_lbin, i_lsh, i_i2l, i_l2i, i_lcmp, i_dup, i_dup2, i_pop, i_if, i_icmp, i_goto, swG, i_sw, i_getf, i_puti, i_putz, i_putr, i_ald, i_lald, i_aald, i_ast, i_last, i_aast, i_alen, i_new, i_newi, i_newl, i_newq, i_oinit, i_ret, i_zret, i_lret, i_vret, catS, tk, rpush, isO, i_m1, i_m2, i_acopy, i_callV, i_callS, KRet, lget, lput, lputL, lcl0, isL, lv0, List.map_cons, List.map_nil, List.length_cons, List.length_nil, List.cons_append, List.nil_append, Nat.reduceAdd, Nat.reduceSub, Nat.reduceLeDiff, List.replicate_succ, List.replicate_zero, List.getElem?_cons_succ, List.getElem?_cons_zero, List.set_cons_succ, List.set_cons_zero, true_and, and_true, if_true, if_false, ↓reduceIte, Nat.le_refl, Value.category, va_up_app, eq_self, stp, Nat.reduceBEq, Bool.or_false, Bool.false_or, Bool.true_or, Bool.or_true, or_true, true_or, bx_uu, implies_true, true_implies, not_true, not_false_eq_true, false_implies, and_self, Nat.reduceLT, Int32.reduceAdd, Int32.reduceSub, Int32.reduceMul, Int32.reduceLE, Int32.reduceLT, Int32.reduceToNatClampNeg, va_rf_some, Bool.false_eq_true, k_X7_stack_0 ca, k_X7_stack_1 ca, k_X7_stack_4 ca, k_X7_stack_7 ca, k_X7_stack_10 ca, k_X7_stack_13 ca, k_X7_stack_14 ca, k_X7_stack_15 ca, k_X7_stack_18 ca, k_X7_stack_19 ca, k_X7_stack_20 ca, k_X7_stack_21 ca, k_X7_stack_24 ca, k_X7_stack_27 ca, k_X7_stack_28 ca, k_X7_stack_29 ca, k_X7_stack_32 ca, k_X7_stack_33 ca, k_X7_stack_36 ca, k_X7_stack_38 ca, k_X7_stack_39 ca, k_X7_stack_40 ca, k_X7_stack_43 ca, k_X7_stack_44 ca, k_X7_stack_47 ca, k_X7_stack_50 ca, k_X7_stack_53 ca, k_X7_stack_54 ca, k_X7_stack_57 ca, k_X7_stack_58 ca, k_X7_stack_61 ca, k_X7_stack_63 ca, k_X7_stack_65 ca, k_X7_stack_68 ca, k_X7_stack_69 ca, k_X7_stack_71 ca, k_X7_stack_74 ca, k_X7_stack_76 ca, k_X7_stack_77 ca, k_X7_stack_78 ca, k_X7_stack_79 ca, k_X7_stack_82 ca, k_X7_stack_84 ca, k_X7_stack_87 ca, k_X7_stack_88 ca, k_X7_stack_91 ca, k_X7_stack_93 ca, k_X7_stack_94 ca, k_X7_stack_95 ca, k_X7_stack_96 ca, k_X7_stack_99 ca]
      try clear hF hF0 F
      exact k0
    · obtain ⟨T2, kk, hst⟩ := StkZ_ex hNfm hP hc hmin
      have k0 := hC Nf hNfm hsf P T2 kk hst h' hSs hm
      obtain ⟨-, s2, -, s4, LT, RS, s5⟩ := hst
      have gP : (nI P < 0) = False := eq_false (nI_pos (by omega))
      unfold stA at k0
      by_cases q1 : i < nI P
      · rw [if_pos q1] at k0
        by_cases q2 : i = -1
        · rw [if_pos (by rw [q2]; decide)] at k0
          rw [q2] at q1 ⊢
          refine goN go (stp []) 160 _ _ _ _ _ _ (fun F hF hF0 => ?_)
          simp only [hF, hF0, ite_not, i_push, i_iload, i_lload, i_aload, i_istore, i_astore, i_lstore, i_iinc, i_bin, i_dv, i_un, i_lbin, i_lsh, i_i2l, i_l2i, i_lcmp, i_dup, i_dup2, i_pop, i_if, i_icmp, i_goto, swG, i_sw, i_getf, i_puti, i_putz, i_putr, i_ald, i_lald, i_aald, i_ast, i_last, i_aast, i_alen, i_new, i_newi, i_newl, i_newq, i_oinit, i_ret, i_zret, i_lret, i_vret, catS, tk, rpush, isO, i_m1, i_m2, i_acopy, i_callV, i_callS, KRet, lget, lput, lputL, lcl0, isL, lv0, List.map_cons, List.map_nil, List.length_cons, List.length_nil, List.cons_append, List.nil_append, Nat.reduceAdd, Nat.reduceSub, Nat.reduceLeDiff, List.replicate_succ, List.replicate_zero, List.getElem?_cons_succ, List.getElem?_cons_zero, List.set_cons_succ, List.set_cons_zero, true_and, and_true, if_true, if_false, ↓reduceIte, Nat.le_refl, Value.category, va_up_app, eq_self, stp, Nat.reduceBEq, Bool.or_false, Bool.false_or, Bool.true_or, Bool.or_true, or_true, true_or, bx_uu, implies_true, true_implies, not_true, not_false_eq_true, false_implies, and_self, Nat.reduceLT, Int32.reduceAdd, Int32.reduceSub, Int32.reduceMul, Int32.reduceLE, Int32.reduceLT, Int32.reduceToNatClampNeg, va_rf_some, Bool.false_eq_true, k_X7_stack_0 ca, k_X7_stack_1 ca, k_X7_stack_4 ca, k_X7_stack_7 ca, k_X7_stack_10 ca, k_X7_stack_13 ca, k_X7_stack_14 ca, k_X7_stack_15 ca, k_X7_stack_18 ca, k_X7_stack_19 ca, k_X7_stack_20 ca, k_X7_stack_21 ca, k_X7_stack_24 ca, k_X7_stack_27 ca, k_X7_stack_28 ca, k_X7_stack_29 ca, k_X7_stack_32 ca, k_X7_stack_33 ca, k_X7_stack_36 ca, k_X7_stack_38 ca, k_X7_stack_39 ca, k_X7_stack_40 ca, k_X7_stack_43 ca, k_X7_stack_44 ca, k_X7_stack_47 ca, k_X7_stack_50 ca, k_X7_stack_53 ca, k_X7_stack_54 ca, k_X7_stack_57 ca, k_X7_stack_58 ca, k_X7_stack_61 ca, k_X7_stack_63 ca, k_X7_stack_65 ca, k_X7_stack_68 ca, k_X7_stack_69 ca, k_X7_stack_71 ca, k_X7_stack_74 ca, k_X7_stack_76 ca, k_X7_stack_77 ca, k_X7_stack_78 ca, k_X7_stack_79 ca, k_X7_stack_82 ca, k_X7_stack_84 ca, k_X7_stack_87 ca, k_X7_stack_88 ca, k_X7_stack_91 ca, k_X7_stack_93 ca, k_X7_stack_94 ca, k_X7_stack_95 ca, k_X7_stack_96 ca, k_X7_stack_99 ca, gP, q1]
          try clear hF hF0 F
          exact k0
        · have q3 : ¬ i < 0 := fun z => by
            rw [Int32.lt_iff_toInt_lt] at z hi1
            rw [show (-1 : Int32).toInt = -1 from rfl] at hi1
            rw [show (0 : Int32).toInt = 0 from rfl] at z
            exact q2 (Int32.toInt_inj.mp (by rw [show (-1 : Int32).toInt = -1 from rfl]; omega))
          rw [if_neg q3] at k0
          obtain ⟨J, hJ, rfl, eJ⟩ := tnI q3
          obtain ⟨W, hW, rfl⟩ := isIn0 (B := 2) rfl hw2
          have xw : (nI W).toNatClampNeg = W := nI_clamp (by omega)
          rw [eJ, xw] at k0
          have hJP : J < P := (nI_ltI hJ (by omega)).mp q1
          refine goN go (stp [99]) 160 _ _ _ _ _ _ (fun F hF hF0 => ?_)
          simp only [hF, hF0, ite_not, i_push, i_iload, i_lload, i_aload, i_istore, i_astore, i_lstore, i_iinc, i_bin, i_dv, i_un, i_lbin, i_lsh, i_i2l, i_l2i, i_lcmp, i_dup, i_dup2, i_pop, i_if, i_icmp, i_goto, swG, i_sw, i_getf, i_puti, i_putz, i_putr, i_ald, i_lald, i_aald, i_ast, i_last, i_aast, i_alen, i_new, i_newi, i_newl, i_newq, i_oinit, i_ret, i_zret, i_lret, i_vret, catS, tk, rpush, isO, i_m1, i_m2, i_acopy, i_callV, i_callS, KRet, lget, lput, lputL, lcl0, isL, lv0, List.map_cons, List.map_nil, List.length_cons, List.length_nil, List.cons_append, List.nil_append, Nat.reduceAdd, Nat.reduceSub, Nat.reduceLeDiff, List.replicate_succ, List.replicate_zero, List.getElem?_cons_succ, List.getElem?_cons_zero, List.set_cons_succ, List.set_cons_zero, true_and, and_true, if_true, if_false, ↓reduceIte, Nat.le_refl, Value.category, va_up_app, eq_self, stp, Nat.reduceBEq, Bool.or_false, Bool.false_or, Bool.true_or, Bool.or_true, or_true, true_or, bx_uu, implies_true, true_implies, not_true, not_false_eq_true, false_implies, and_self, Nat.reduceLT, Int32.reduceAdd, Int32.reduceSub, Int32.reduceMul, Int32.reduceLE, Int32.reduceLT, Int32.reduceToNatClampNeg, va_rf_some, Bool.false_eq_true, k_X7_stack_0 ca, k_X7_stack_1 ca, k_X7_stack_4 ca, k_X7_stack_7 ca, k_X7_stack_10 ca, k_X7_stack_13 ca, k_X7_stack_14 ca, k_X7_stack_15 ca, k_X7_stack_18 ca, k_X7_stack_19 ca, k_X7_stack_20 ca, k_X7_stack_21 ca, k_X7_stack_24 ca, k_X7_stack_27 ca, k_X7_stack_28 ca, k_X7_stack_29 ca, k_X7_stack_32 ca, k_X7_stack_33 ca, k_X7_stack_36 ca, k_X7_stack_38 ca, k_X7_stack_39 ca, k_X7_stack_40 ca, k_X7_stack_43 ca, k_X7_stack_44 ca, k_X7_stack_47 ca, k_X7_stack_50 ca, k_X7_stack_53 ca, k_X7_stack_54 ca, k_X7_stack_57 ca, k_X7_stack_58 ca, k_X7_stack_61 ca, k_X7_stack_63 ca, k_X7_stack_65 ca, k_X7_stack_68 ca, k_X7_stack_69 ca, k_X7_stack_71 ca, k_X7_stack_74 ca, k_X7_stack_76 ca, k_X7_stack_77 ca, k_X7_stack_78 ca, k_X7_stack_79 ca, k_X7_stack_82 ca, k_X7_stack_84 ca, k_X7_stack_87 ca, k_X7_stack_88 ca, k_X7_stack_91 ca, k_X7_stack_93 ca, k_X7_stack_94 ca, k_X7_stack_95 ca, k_X7_stack_96 ca, k_X7_stack_99 ca, gP, q1, q2, g0, g5]
          try clear hF hF0 F
          refine ⟨x5, nx, 1, pp, pc, ox, tx, Nf, pr, P, T2, bz, J, W, kk, LT, RS, hP, by omega, by omega, hJP, hW, by rw [← ebb], hSF, s2, s4, s5, ?_⟩
          refine goN go (stp []) 160 _ _ _ _ _ _ (fun F hF hF0 => ?_)
          simp only [hF, hF0, ite_not, i_push, i_iload, i_lload, i_aload, i_istore, i_astore, i_lstore, i_iinc, i_bin, i_dv, i_un, i_lbin, i_lsh, i_i2l, i_l2i, i_lcmp, i_dup, i_dup2, i_pop, i_if, i_icmp, i_goto, swG, i_sw, i_getf, i_puti, i_putz, i_putr, i_ald, i_lald, i_aald, i_ast, i_last, i_aast, i_alen, i_new, i_newi, i_newl, i_newq, i_oinit, i_ret, i_zret, i_lret, i_vret, catS, tk, rpush, isO, i_m1, i_m2, i_acopy, i_callV, i_callS, KRet, lget, lput, lputL, lcl0, isL, lv0, List.map_cons, List.map_nil, List.length_cons, List.length_nil, List.cons_append, List.nil_append, Nat.reduceAdd, Nat.reduceSub, Nat.reduceLeDiff, List.replicate_succ, List.replicate_zero, List.getElem?_cons_succ, List.getElem?_cons_zero, List.set_cons_succ, List.set_cons_zero, true_and, and_true, if_true, if_false, ↓reduceIte, Nat.le_refl, Value.category, va_up_app, eq_self, stp, Nat.reduceBEq, Bool.or_false, Bool.false_or, Bool.true_or, Bool.or_true, or_true, true_or, bx_uu, implies_true, true_implies, not_true, not_false_eq_true, false_implies, and_self, Nat.reduceLT, Int32.reduceAdd, Int32.reduceSub, Int32.reduceMul, Int32.reduceLE, Int32.reduceLT, Int32.reduceToNatClampNeg, va_rf_some, Bool.false_eq_true, k_X7_stack_0 ca, k_X7_stack_1 ca, k_X7_stack_4 ca, k_X7_stack_7 ca, k_X7_stack_10 ca, k_X7_stack_13 ca, k_X7_stack_14 ca, k_X7_stack_15 ca, k_X7_stack_18 ca, k_X7_stack_19 ca, k_X7_stack_20 ca, k_X7_stack_21 ca, k_X7_stack_24 ca, k_X7_stack_27 ca, k_X7_stack_28 ca, k_X7_stack_29 ca, k_X7_stack_32 ca, k_X7_stack_33 ca, k_X7_stack_36 ca, k_X7_stack_38 ca, k_X7_stack_39 ca, k_X7_stack_40 ca, k_X7_stack_43 ca, k_X7_stack_44 ca, k_X7_stack_47 ca, k_X7_stack_50 ca, k_X7_stack_53 ca, k_X7_stack_54 ca, k_X7_stack_57 ca, k_X7_stack_58 ca, k_X7_stack_61 ca, k_X7_stack_63 ca, k_X7_stack_65 ca, k_X7_stack_68 ca, k_X7_stack_69 ca, k_X7_stack_71 ca, k_X7_stack_74 ca, k_X7_stack_76 ca, k_X7_stack_77 ca, k_X7_stack_78 ca, k_X7_stack_79 ca, k_X7_stack_82 ca, k_X7_stack_84 ca, k_X7_stack_87 ca, k_X7_stack_88 ca, k_X7_stack_91 ca, k_X7_stack_93 ca, k_X7_stack_94 ca, k_X7_stack_95 ca, k_X7_stack_96 ca, k_X7_stack_99 ca]
          try clear hF hF0 F
          exact k0
      · rw [if_neg q1] at k0
        refine goN go (stp []) 160 _ _ _ _ _ _ (fun F hF hF0 => ?_)
        simp only [hF, hF0, ite_not, i_push, i_iload, i_lload, i_aload, i_istore, i_astore, i_lstore, i_iinc, i_bin, i_dv, i_un, i_lbin, i_lsh, i_i2l, i_l2i, i_lcmp, i_dup, i_dup2, i_pop, i_if, i_icmp, i_goto, swG, i_sw, i_getf, i_puti, i_putz, i_putr, i_ald, i_lald, i_aald, i_ast, i_last, i_aast, i_alen, i_new, i_newi, i_newl, i_newq, i_oinit, i_ret, i_zret, i_lret, i_vret, catS, tk, rpush, isO, i_m1, i_m2, i_acopy, i_callV, i_callS, KRet, lget, lput, lputL, lcl0, isL, lv0, List.map_cons, List.map_nil, List.length_cons, List.length_nil, List.cons_append, List.nil_append, Nat.reduceAdd, Nat.reduceSub, Nat.reduceLeDiff, List.replicate_succ, List.replicate_zero, List.getElem?_cons_succ, List.getElem?_cons_zero, List.set_cons_succ, List.set_cons_zero, true_and, and_true, if_true, if_false, ↓reduceIte, Nat.le_refl, Value.category, va_up_app, eq_self, stp, Nat.reduceBEq, Bool.or_false, Bool.false_or, Bool.true_or, Bool.or_true, or_true, true_or, bx_uu, implies_true, true_implies, not_true, not_false_eq_true, false_implies, and_self, Nat.reduceLT, Int32.reduceAdd, Int32.reduceSub, Int32.reduceMul, Int32.reduceLE, Int32.reduceLT, Int32.reduceToNatClampNeg, va_rf_some, Bool.false_eq_true, k_X7_stack_0 ca, k_X7_stack_1 ca, k_X7_stack_4 ca, k_X7_stack_7 ca, k_X7_stack_10 ca, k_X7_stack_13 ca, k_X7_stack_14 ca, k_X7_stack_15 ca, k_X7_stack_18 ca, k_X7_stack_19 ca, k_X7_stack_20 ca, k_X7_stack_21 ca, k_X7_stack_24 ca, k_X7_stack_27 ca, k_X7_stack_28 ca, k_X7_stack_29 ca, k_X7_stack_32 ca, k_X7_stack_33 ca, k_X7_stack_36 ca, k_X7_stack_38 ca, k_X7_stack_39 ca, k_X7_stack_40 ca, k_X7_stack_43 ca, k_X7_stack_44 ca, k_X7_stack_47 ca, k_X7_stack_50 ca, k_X7_stack_53 ca, k_X7_stack_54 ca, k_X7_stack_57 ca, k_X7_stack_58 ca, k_X7_stack_61 ca, k_X7_stack_63 ca, k_X7_stack_65 ca, k_X7_stack_68 ca, k_X7_stack_69 ca, k_X7_stack_71 ca, k_X7_stack_74 ca, k_X7_stack_76 ca, k_X7_stack_77 ca, k_X7_stack_78 ca, k_X7_stack_79 ca, k_X7_stack_82 ca, k_X7_stack_84 ca, k_X7_stack_87 ca, k_X7_stack_88 ca, k_X7_stack_91 ca, k_X7_stack_93 ca, k_X7_stack_94 ca, k_X7_stack_95 ca, k_X7_stack_96 ca, k_X7_stack_99 ca, gP, q1]
        try clear hF hF0 F
        exact k0
  unfold stOk at main hA
  cases q1 : isIn bb (-900) 900 with
  | false =>
    have k0 := hA (by rw [q1]; rfl)
    refine goN go (stp [39]) 160 _ _ _ _ _ _ (fun F hF hF0 => ?_)
    simp only [hF, hF0, ite_not, i_push, i_iload, i_lload, i_aload, i_istore, i_astore, i_lstore, i_iinc, i_bin, i_dv, i_un, i_lbin, i_lsh, i_i2l, i_l2i, i_lcmp, i_dup, i_dup2, i_pop, i_if, i_icmp, i_goto, swG, i_sw, i_getf, i_puti, i_putz, i_putr, i_ald, i_lald, i_aald, i_ast, i_last, i_aast, i_alen, i_new, i_newi, i_newl, i_newq, i_oinit, i_ret, i_zret, i_lret, i_vret, catS, tk, rpush, isO, i_m1, i_m2, i_acopy, i_callV, i_callS, KRet, lget, lput, lputL, lcl0, isL, lv0, List.map_cons, List.map_nil, List.length_cons, List.length_nil, List.cons_append, List.nil_append, Nat.reduceAdd, Nat.reduceSub, Nat.reduceLeDiff, List.replicate_succ, List.replicate_zero, List.getElem?_cons_succ, List.getElem?_cons_zero, List.set_cons_succ, List.set_cons_zero, true_and, and_true, if_true, if_false, ↓reduceIte, Nat.le_refl, Value.category, va_up_app, eq_self, stp, Nat.reduceBEq, Bool.or_false, Bool.false_or, Bool.true_or, Bool.or_true, or_true, true_or, bx_uu, implies_true, true_implies, not_true, not_false_eq_true, false_implies, and_self, Nat.reduceLT, Int32.reduceAdd, Int32.reduceSub, Int32.reduceMul, Int32.reduceLE, Int32.reduceLT, Int32.reduceToNatClampNeg, va_rf_some, Bool.false_eq_true, k_X7_stack_0 ca, k_X7_stack_1 ca, k_X7_stack_4 ca, k_X7_stack_7 ca, k_X7_stack_10 ca, k_X7_stack_13 ca, k_X7_stack_14 ca, k_X7_stack_15 ca, k_X7_stack_18 ca, k_X7_stack_19 ca, k_X7_stack_20 ca, k_X7_stack_21 ca, k_X7_stack_24 ca, k_X7_stack_27 ca, k_X7_stack_28 ca, k_X7_stack_29 ca, k_X7_stack_32 ca, k_X7_stack_33 ca, k_X7_stack_36 ca, k_X7_stack_38 ca, k_X7_stack_39 ca, k_X7_stack_40 ca, k_X7_stack_43 ca, k_X7_stack_44 ca, k_X7_stack_47 ca, k_X7_stack_50 ca, k_X7_stack_53 ca, k_X7_stack_54 ca, k_X7_stack_57 ca, k_X7_stack_58 ca, k_X7_stack_61 ca, k_X7_stack_63 ca, k_X7_stack_65 ca, k_X7_stack_68 ca, k_X7_stack_69 ca, k_X7_stack_71 ca, k_X7_stack_74 ca, k_X7_stack_76 ca, k_X7_stack_77 ca, k_X7_stack_78 ca, k_X7_stack_79 ca, k_X7_stack_82 ca, k_X7_stack_84 ca, k_X7_stack_87 ca, k_X7_stack_88 ca, k_X7_stack_91 ca, k_X7_stack_93 ca, k_X7_stack_94 ca, k_X7_stack_95 ca, k_X7_stack_96 ca, k_X7_stack_99 ca, sp_X7_isWithin, q1, b2i_f]
    try clear hF hF0 F
    exact k0
  | true =>
    rw [q1, Bool.true_and] at main hA
    by_cases q2 : i < -1
    · have k0 := hA (by rw [decide_eq_true q2]; rfl)
      refine goN go (stp [39]) 160 _ _ _ _ _ _ (fun F hF hF0 => ?_)
      simp only [hF, hF0, ite_not, i_push, i_iload, i_lload, i_aload, i_istore, i_astore, i_lstore, i_iinc, i_bin, i_dv, i_un, i_lbin, i_lsh, i_i2l, i_l2i, i_lcmp, i_dup, i_dup2, i_pop, i_if, i_icmp, i_goto, swG, i_sw, i_getf, i_puti, i_putz, i_putr, i_ald, i_lald, i_aald, i_ast, i_last, i_aast, i_alen, i_new, i_newi, i_newl, i_newq, i_oinit, i_ret, i_zret, i_lret, i_vret, catS, tk, rpush, isO, i_m1, i_m2, i_acopy, i_callV, i_callS, KRet, lget, lput, lputL, lcl0, isL, lv0, List.map_cons, List.map_nil, List.length_cons, List.length_nil, List.cons_append, List.nil_append, Nat.reduceAdd, Nat.reduceSub, Nat.reduceLeDiff, List.replicate_succ, List.replicate_zero, List.getElem?_cons_succ, List.getElem?_cons_zero, List.set_cons_succ, List.set_cons_zero, true_and, and_true, if_true, if_false, ↓reduceIte, Nat.le_refl, Value.category, va_up_app, eq_self, stp, Nat.reduceBEq, Bool.or_false, Bool.false_or, Bool.true_or, Bool.or_true, or_true, true_or, bx_uu, implies_true, true_implies, not_true, not_false_eq_true, false_implies, and_self, Nat.reduceLT, Int32.reduceAdd, Int32.reduceSub, Int32.reduceMul, Int32.reduceLE, Int32.reduceLT, Int32.reduceToNatClampNeg, va_rf_some, Bool.false_eq_true, k_X7_stack_0 ca, k_X7_stack_1 ca, k_X7_stack_4 ca, k_X7_stack_7 ca, k_X7_stack_10 ca, k_X7_stack_13 ca, k_X7_stack_14 ca, k_X7_stack_15 ca, k_X7_stack_18 ca, k_X7_stack_19 ca, k_X7_stack_20 ca, k_X7_stack_21 ca, k_X7_stack_24 ca, k_X7_stack_27 ca, k_X7_stack_28 ca, k_X7_stack_29 ca, k_X7_stack_32 ca, k_X7_stack_33 ca, k_X7_stack_36 ca, k_X7_stack_38 ca, k_X7_stack_39 ca, k_X7_stack_40 ca, k_X7_stack_43 ca, k_X7_stack_44 ca, k_X7_stack_47 ca, k_X7_stack_50 ca, k_X7_stack_53 ca, k_X7_stack_54 ca, k_X7_stack_57 ca, k_X7_stack_58 ca, k_X7_stack_61 ca, k_X7_stack_63 ca, k_X7_stack_65 ca, k_X7_stack_68 ca, k_X7_stack_69 ca, k_X7_stack_71 ca, k_X7_stack_74 ca, k_X7_stack_76 ca, k_X7_stack_77 ca, k_X7_stack_78 ca, k_X7_stack_79 ca, k_X7_stack_82 ca, k_X7_stack_84 ca, k_X7_stack_87 ca, k_X7_stack_88 ca, k_X7_stack_91 ca, k_X7_stack_93 ca, k_X7_stack_94 ca, k_X7_stack_95 ca, k_X7_stack_96 ca, k_X7_stack_99 ca, sp_X7_isWithin, q1, b2i_t, one0, q2]
      try clear hF hF0 F
      exact k0
    · rw [decide_eq_false q2, Bool.not_false, Bool.true_and] at main hA
      cases q3 : isIn w 0 2 with
      | false =>
        have k0 := hA (by rw [q3]; rfl)
        refine goN go (stp [39]) 160 _ _ _ _ _ _ (fun F hF hF0 => ?_)
        simp only [hF, hF0, ite_not, i_push, i_iload, i_lload, i_aload, i_istore, i_astore, i_lstore, i_iinc, i_bin, i_dv, i_un, i_lbin, i_lsh, i_i2l, i_l2i, i_lcmp, i_dup, i_dup2, i_pop, i_if, i_icmp, i_goto, swG, i_sw, i_getf, i_puti, i_putz, i_putr, i_ald, i_lald, i_aald, i_ast, i_last, i_aast, i_alen, i_new, i_newi, i_newl, i_newq, i_oinit, i_ret, i_zret, i_lret, i_vret, catS, tk, rpush, isO, i_m1, i_m2, i_acopy, i_callV, i_callS, KRet, lget, lput, lputL, lcl0, isL, lv0, List.map_cons, List.map_nil, List.length_cons, List.length_nil, List.cons_append, List.nil_append, Nat.reduceAdd, Nat.reduceSub, Nat.reduceLeDiff, List.replicate_succ, List.replicate_zero, List.getElem?_cons_succ, List.getElem?_cons_zero, List.set_cons_succ, List.set_cons_zero, true_and, and_true, if_true, if_false, ↓reduceIte, Nat.le_refl, Value.category, va_up_app, eq_self, stp, Nat.reduceBEq, Bool.or_false, Bool.false_or, Bool.true_or, Bool.or_true, or_true, true_or, bx_uu, implies_true, true_implies, not_true, not_false_eq_true, false_implies, and_self, Nat.reduceLT, Int32.reduceAdd, Int32.reduceSub, Int32.reduceMul, Int32.reduceLE, Int32.reduceLT, Int32.reduceToNatClampNeg, va_rf_some, Bool.false_eq_true, k_X7_stack_0 ca, k_X7_stack_1 ca, k_X7_stack_4 ca, k_X7_stack_7 ca, k_X7_stack_10 ca, k_X7_stack_13 ca, k_X7_stack_14 ca, k_X7_stack_15 ca, k_X7_stack_18 ca, k_X7_stack_19 ca, k_X7_stack_20 ca, k_X7_stack_21 ca, k_X7_stack_24 ca, k_X7_stack_27 ca, k_X7_stack_28 ca, k_X7_stack_29 ca, k_X7_stack_32 ca, k_X7_stack_33 ca, k_X7_stack_36 ca, k_X7_stack_38 ca, k_X7_stack_39 ca, k_X7_stack_40 ca, k_X7_stack_43 ca, k_X7_stack_44 ca, k_X7_stack_47 ca, k_X7_stack_50 ca, k_X7_stack_53 ca, k_X7_stack_54 ca, k_X7_stack_57 ca, k_X7_stack_58 ca, k_X7_stack_61 ca, k_X7_stack_63 ca, k_X7_stack_65 ca, k_X7_stack_68 ca, k_X7_stack_69 ca, k_X7_stack_71 ca, k_X7_stack_74 ca, k_X7_stack_76 ca, k_X7_stack_77 ca, k_X7_stack_78 ca, k_X7_stack_79 ca, k_X7_stack_82 ca, k_X7_stack_84 ca, k_X7_stack_87 ca, k_X7_stack_88 ca, k_X7_stack_91 ca, k_X7_stack_93 ca, k_X7_stack_94 ca, k_X7_stack_95 ca, k_X7_stack_96 ca, k_X7_stack_99 ca, sp_X7_isWithin, q1, b2i_t, b2i_f, one0, q2, q3]
        try clear hF hF0 F
        exact k0
      | true =>
        rw [q3, Bool.true_and] at main hA
        by_cases q4 : i = -1
        · rw [decide_eq_true q4, Bool.true_and] at main hA
          by_cases q5 : w = 0
          · have k0 := main (by rw [q5]; rfl) rfl rfl q2
            rw [q4] at k0 q2
            rw [q5] at k0 q3
            refine goN go (stp [39]) 160 _ _ _ _ _ _ (fun F hF hF0 => ?_)
            simp only [hF, hF0, ite_not, i_push, i_iload, i_lload, i_aload, i_istore, i_astore, i_lstore, i_iinc, i_bin, i_dv, i_un, i_lbin, i_lsh, i_i2l, i_l2i, i_lcmp, i_dup, i_dup2, i_pop, i_if, i_icmp, i_goto, swG, i_sw, i_getf, i_puti, i_putz, i_putr, i_ald, i_lald, i_aald, i_ast, i_last, i_aast, i_alen, i_new, i_newi, i_newl, i_newq, i_oinit, i_ret, i_zret, i_lret, i_vret, catS, tk, rpush, isO, i_m1, i_m2, i_acopy, i_callV, i_callS, KRet, lget, lput, lputL, lcl0, isL, lv0, List.map_cons, List.map_nil, List.length_cons, List.length_nil, List.cons_append, List.nil_append, Nat.reduceAdd, Nat.reduceSub, Nat.reduceLeDiff, List.replicate_succ, List.replicate_zero, List.getElem?_cons_succ, List.getElem?_cons_zero, List.set_cons_succ, List.set_cons_zero, true_and, and_true, if_true, if_false, ↓reduceIte, Nat.le_refl, Value.category, va_up_app, eq_self, stp, Nat.reduceBEq, Bool.or_false, Bool.false_or, Bool.true_or, Bool.or_true, or_true, true_or, bx_uu, implies_true, true_implies, not_true, not_false_eq_true, false_implies, and_self, Nat.reduceLT, Int32.reduceAdd, Int32.reduceSub, Int32.reduceMul, Int32.reduceLE, Int32.reduceLT, Int32.reduceToNatClampNeg, va_rf_some, Bool.false_eq_true, k_X7_stack_0 ca, k_X7_stack_1 ca, k_X7_stack_4 ca, k_X7_stack_7 ca, k_X7_stack_10 ca, k_X7_stack_13 ca, k_X7_stack_14 ca, k_X7_stack_15 ca, k_X7_stack_18 ca, k_X7_stack_19 ca, k_X7_stack_20 ca, k_X7_stack_21 ca, k_X7_stack_24 ca, k_X7_stack_27 ca, k_X7_stack_28 ca, k_X7_stack_29 ca, k_X7_stack_32 ca, k_X7_stack_33 ca, k_X7_stack_36 ca, k_X7_stack_38 ca, k_X7_stack_39 ca, k_X7_stack_40 ca, k_X7_stack_43 ca, k_X7_stack_44 ca, k_X7_stack_47 ca, k_X7_stack_50 ca, k_X7_stack_53 ca, k_X7_stack_54 ca, k_X7_stack_57 ca, k_X7_stack_58 ca, k_X7_stack_61 ca, k_X7_stack_63 ca, k_X7_stack_65 ca, k_X7_stack_68 ca, k_X7_stack_69 ca, k_X7_stack_71 ca, k_X7_stack_74 ca, k_X7_stack_76 ca, k_X7_stack_77 ca, k_X7_stack_78 ca, k_X7_stack_79 ca, k_X7_stack_82 ca, k_X7_stack_84 ca, k_X7_stack_87 ca, k_X7_stack_88 ca, k_X7_stack_91 ca, k_X7_stack_93 ca, k_X7_stack_94 ca, k_X7_stack_95 ca, k_X7_stack_96 ca, k_X7_stack_99 ca, sp_X7_isWithin, q1, b2i_t, one0, q2, q3, q4, q5]
            try clear hF hF0 F
            exact k0
          · have q6 : 0 < w := by
              have := isIn_lo q3
              rw [Int32.le_iff_toInt_le] at this
              rw [Int32.lt_iff_toInt_lt]
              rw [show (0 : Int32).toInt = 0 from rfl] at *
              rcases Int.lt_or_eq_of_le this with z | z
              · exact z
              · exact absurd (Int32.toInt_inj.mp (by rw [show (0 : Int32).toInt = 0 from rfl]; exact z.symm)) q5
            have k0 := hA (by rw [decide_eq_true q6]; rfl)
            refine goN go (stp [39]) 160 _ _ _ _ _ _ (fun F hF hF0 => ?_)
            simp only [hF, hF0, ite_not, i_push, i_iload, i_lload, i_aload, i_istore, i_astore, i_lstore, i_iinc, i_bin, i_dv, i_un, i_lbin, i_lsh, i_i2l, i_l2i, i_lcmp, i_dup, i_dup2, i_pop, i_if, i_icmp, i_goto, swG, i_sw, i_getf, i_puti, i_putz, i_putr, i_ald, i_lald, i_aald, i_ast, i_last, i_aast, i_alen, i_new, i_newi, i_newl, i_newq, i_oinit, i_ret, i_zret, i_lret, i_vret, catS, tk, rpush, isO, i_m1, i_m2, i_acopy, i_callV, i_callS, KRet, lget, lput, lputL, lcl0, isL, lv0, List.map_cons, List.map_nil, List.length_cons, List.length_nil, List.cons_append, List.nil_append, Nat.reduceAdd, Nat.reduceSub, Nat.reduceLeDiff, List.replicate_succ, List.replicate_zero, List.getElem?_cons_succ, List.getElem?_cons_zero, List.set_cons_succ, List.set_cons_zero, true_and, and_true, if_true, if_false, ↓reduceIte, Nat.le_refl, Value.category, va_up_app, eq_self, stp, Nat.reduceBEq, Bool.or_false, Bool.false_or, Bool.true_or, Bool.or_true, or_true, true_or, bx_uu, implies_true, true_implies, not_true, not_false_eq_true, false_implies, and_self, Nat.reduceLT, Int32.reduceAdd, Int32.reduceSub, Int32.reduceMul, Int32.reduceLE, Int32.reduceLT, Int32.reduceToNatClampNeg, va_rf_some, Bool.false_eq_true, k_X7_stack_0 ca, k_X7_stack_1 ca, k_X7_stack_4 ca, k_X7_stack_7 ca, k_X7_stack_10 ca, k_X7_stack_13 ca, k_X7_stack_14 ca, k_X7_stack_15 ca, k_X7_stack_18 ca, k_X7_stack_19 ca, k_X7_stack_20 ca, k_X7_stack_21 ca, k_X7_stack_24 ca, k_X7_stack_27 ca, k_X7_stack_28 ca, k_X7_stack_29 ca, k_X7_stack_32 ca, k_X7_stack_33 ca, k_X7_stack_36 ca, k_X7_stack_38 ca, k_X7_stack_39 ca, k_X7_stack_40 ca, k_X7_stack_43 ca, k_X7_stack_44 ca, k_X7_stack_47 ca, k_X7_stack_50 ca, k_X7_stack_53 ca, k_X7_stack_54 ca, k_X7_stack_57 ca, k_X7_stack_58 ca, k_X7_stack_61 ca, k_X7_stack_63 ca, k_X7_stack_65 ca, k_X7_stack_68 ca, k_X7_stack_69 ca, k_X7_stack_71 ca, k_X7_stack_74 ca, k_X7_stack_76 ca, k_X7_stack_77 ca, k_X7_stack_78 ca, k_X7_stack_79 ca, k_X7_stack_82 ca, k_X7_stack_84 ca, k_X7_stack_87 ca, k_X7_stack_88 ca, k_X7_stack_91 ca, k_X7_stack_93 ca, k_X7_stack_94 ca, k_X7_stack_95 ca, k_X7_stack_96 ca, k_X7_stack_99 ca, sp_X7_isWithin, q1, b2i_t, one0, q2, q3, q4, q5]
            try clear hF hF0 F
            exact k0
        · rw [decide_eq_false q4, Bool.false_and, Bool.not_false] at main
          have k0 := main rfl rfl rfl q2
          refine goN go (stp [39]) 160 _ _ _ _ _ _ (fun F hF hF0 => ?_)
          simp only [hF, hF0, ite_not, i_push, i_iload, i_lload, i_aload, i_istore, i_astore, i_lstore, i_iinc, i_bin, i_dv, i_un, i_lbin, i_lsh, i_i2l, i_l2i, i_lcmp, i_dup, i_dup2, i_pop, i_if, i_icmp, i_goto, swG, i_sw, i_getf, i_puti, i_putz, i_putr, i_ald, i_lald, i_aald, i_ast, i_last, i_aast, i_alen, i_new, i_newi, i_newl, i_newq, i_oinit, i_ret, i_zret, i_lret, i_vret, catS, tk, rpush, isO, i_m1, i_m2, i_acopy, i_callV, i_callS, KRet, lget, lput, lputL, lcl0, isL, lv0, List.map_cons, List.map_nil, List.length_cons, List.length_nil, List.cons_append, List.nil_append, Nat.reduceAdd, Nat.reduceSub, Nat.reduceLeDiff, List.replicate_succ, List.replicate_zero, List.getElem?_cons_succ, List.getElem?_cons_zero, List.set_cons_succ, List.set_cons_zero, true_and, and_true, if_true, if_false, ↓reduceIte, Nat.le_refl, Value.category, va_up_app, eq_self, stp, Nat.reduceBEq, Bool.or_false, Bool.false_or, Bool.true_or, Bool.or_true, or_true, true_or, bx_uu, implies_true, true_implies, not_true, not_false_eq_true, false_implies, and_self, Nat.reduceLT, Int32.reduceAdd, Int32.reduceSub, Int32.reduceMul, Int32.reduceLE, Int32.reduceLT, Int32.reduceToNatClampNeg, va_rf_some, Bool.false_eq_true, k_X7_stack_0 ca, k_X7_stack_1 ca, k_X7_stack_4 ca, k_X7_stack_7 ca, k_X7_stack_10 ca, k_X7_stack_13 ca, k_X7_stack_14 ca, k_X7_stack_15 ca, k_X7_stack_18 ca, k_X7_stack_19 ca, k_X7_stack_20 ca, k_X7_stack_21 ca, k_X7_stack_24 ca, k_X7_stack_27 ca, k_X7_stack_28 ca, k_X7_stack_29 ca, k_X7_stack_32 ca, k_X7_stack_33 ca, k_X7_stack_36 ca, k_X7_stack_38 ca, k_X7_stack_39 ca, k_X7_stack_40 ca, k_X7_stack_43 ca, k_X7_stack_44 ca, k_X7_stack_47 ca, k_X7_stack_50 ca, k_X7_stack_53 ca, k_X7_stack_54 ca, k_X7_stack_57 ca, k_X7_stack_58 ca, k_X7_stack_61 ca, k_X7_stack_63 ca, k_X7_stack_65 ca, k_X7_stack_68 ca, k_X7_stack_69 ca, k_X7_stack_71 ca, k_X7_stack_74 ca, k_X7_stack_76 ca, k_X7_stack_77 ca, k_X7_stack_78 ca, k_X7_stack_79 ca, k_X7_stack_82 ca, k_X7_stack_84 ca, k_X7_stack_87 ca, k_X7_stack_88 ca, k_X7_stack_91 ca, k_X7_stack_93 ca, k_X7_stack_94 ca, k_X7_stack_95 ca, k_X7_stack_96 ca, k_X7_stack_99 ca, sp_X7_isWithin, q1, b2i_t, one0, q2, q3, q4]
          try clear hF hF0 F
          exact k0
