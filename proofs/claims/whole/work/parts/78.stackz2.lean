/-! StackFinder: lengthsByThree, lengthsFor, fewestParts, leastLength -/
theorem b_ext {x y : Int32} (h : ∀ i, i < 32 → bt x i = bt y i) : x = y := Int32.toBitVec_inj.mp (BitVec.eq_of_getLsbD_eq (fun i hi => h i hi))
theorem b_1 : ∀ i, i < 32 → bt 1 i = decide (i = 0) := by decide +kernel
theorem z_mul (l : Nat) (z : Int) : nI l * zI z = zI (l * z) := by rw [zI_n, zI_mul]
def SFc (ca : Nat → ClassId) (h : PH) (x5 nx : Nat) (tm : Int32) (pp pc ox tx : Nat) (Nf pr : Nat → Nat) : Prop := h x5 = some (eSF nx tm pp (nI pc) ox tx) ∧ NumA ca h nx Nf ∧ PairsA ca h pp pc Nf pr ∧ OneA ca h ox Nf ∧ TwoA ca h tx Nf ∧ Nm Nf
def Acc3 (Nf pr : Nat → Nat) (pc : Nat) (b : Int) (acc : Int32) (l i : Nat) : Prop := ∀ T : Nat, T < 32 → (bt acc T = true ↔ ∃ l' i' : Nat, 1 ≤ l' ∧ l' ≤ 9 ∧ i' < pc ∧ (l' < l ∨ (l' = l ∧ i' < i)) ∧ canZ Nf 2 ((T : Int) - l') (b - l' * dz Nf (pr i')))
theorem Acc3_s {Nf pr : Nat → Nat} {pc : Nat} {b : Int} {acc L : Int32} {l i : Nat} (hN : Nm Nf) (hl : 1 ≤ l ∧ l ≤ 9) (hi : i < pc) (h : Acc3 Nf pr pc b acc l i) (hL : Lens Nf L 2 (b - l * dz Nf (pr i))) : Acc3 Nf pr pc b (acc ||| (L <<< (nI l &&& 31))) l (i + 1) := by
  intro T hT
  rw [b_or, b_shl l (by omega) L hT, Bool.or_eq_true, h T hT, Bool.and_eq_true, decide_eq_true_eq]
  constructor
  · rintro (⟨l', i', h1, h2, h3, h4, h5⟩ | ⟨h1, h2⟩)
    · exact ⟨l', i', h1, h2, h3, by omega, h5⟩
    · refine ⟨l, i, hl.1, hl.2, hi, Or.inr ⟨rfl, by omega⟩, ?_⟩
      have := (hL (T - l) (by omega)).mp h2
      rw [show ((T - l : Nat) : Int) = (T : Int) - l by omega] at this
      exact this
  · rintro ⟨l', i', h1, h2, h3, h4, h5⟩
    by_cases q : l' = l ∧ i' = i
    · obtain ⟨rfl, rfl⟩ := q
      have hb := canZ_bd hN h5
      refine Or.inr ⟨by omega, (hL (T - l') (by omega)).mpr ?_⟩
      rw [show ((T - l' : Nat) : Int) = (T : Int) - l' by omega]
      exact h5
    · exact Or.inl ⟨l', i', h1, h2, h3, by omega, h5⟩
theorem Acc3_n {Nf pr : Nat → Nat} {pc : Nat} {b : Int} {acc : Int32} {l : Nat} (h : Acc3 Nf pr pc b acc l pc) : Acc3 Nf pr pc b acc (l + 1) 0 := by
  intro T hT
  rw [h T hT]
  constructor
  · rintro ⟨l', i', h1, h2, h3, h4, h5⟩
    exact ⟨l', i', h1, h2, h3, by omega, h5⟩
  · rintro ⟨l', i', h1, h2, h3, h4, h5⟩
    exact ⟨l', i', h1, h2, h3, by omega, h5⟩
theorem Acc3_z {Nf pr : Nat → Nat} {pf : Nat → Int32} {pc : Nat} {b : Int} {acc : Int32} (hp : PO Nf pf pc pr) (h : Acc3 Nf pr pc b acc 10 0) : Lens Nf acc 3 b := by
  intro T hT
  rw [h T hT]
  constructor
  · rintro ⟨l', i', h1, h2, h3, h4, h5⟩
    exact ⟨l', pr i', h1, h2, (hp.2.1 i' h3).2, h5⟩
  · rintro ⟨l', p, h1, h2, h3, h5⟩
    obtain ⟨i, hi, e, -⟩ := hp.2.2.2 p h3
    refine ⟨l', i, h1, h2, hi, by omega, ?_⟩
    rw [e]
    exact h5
def sp_X3_lengthsByThree (ca : Nat → ClassId) : SPEC := fun av h post => ∃ x5 nx tm pp pc ox tx Nf pr b, -50000 ≤ b ∧ b ≤ 50000 ∧ av = [.ref x5, .int (zI b)] ∧ SFc ca h x5 nx tm pp pc ox tx Nf pr ∧ ∀ L, Lens Nf L 3 b → post (some (.int L)) h
def k_X3_lengthsByThree (ca : Nat → ClassId) : Nat → IT := fun pc => lk pc [(0, i_push (.int 0) 1),
  (1, i_istore 2 2),
  (2, i_push (.int 1) 3),
  (3, i_istore 3 4),
  (4, i_iload 3 5),
  (5, i_push (.int 9) 7),
  (7, i_icmp (fun x y => y < x) 58 10),
  (10, i_push (.int 0) 11),
  (11, i_istore 4 13),
  (13, i_iload 4 15),
  (15, i_aload 0 16),
  (16, i_getf 3 3 19),
  (19, i_icmp (fun x y => y ≤ x) 52 22),
  (22, i_iload 2 23),
  (23, i_aload 0 24),
  (24, i_iload 1 25),
  (25, i_iload 3 26),
  (26, i_aload 0 27),
  (27, i_aload 0 28),
  (28, i_getf 3 2 31),
  (31, i_iload 4 33),
  (33, i_ald (ca 0) 34),
  (34, i_callV 3 1 0 0 0 0 (sp_X3_difference ca) 37),
  (37, i_bin (fun x y => x * y) 38),
  (38, i_bin (fun x y => x - y) 39),
  (39, i_callV 3 1 0 0 0 0 (sp_X3_lengthsByTwo ca) 42),
  (42, i_iload 3 43),
  (43, i_bin (fun x y => x <<< (y &&& 31)) 44),
  (44, i_bin (fun x y => x ||| y) 45),
  (45, i_istore 2 46),
  (46, i_iinc 4 1 49),
  (49, i_goto 13),
  (52, i_iinc 3 1 55),
  (55, i_goto 4),
  (58, i_iload 2 59),
  (59, i_ret)]
set_option maxRecDepth 20000 in
theorem t_X3_lengthsByThree : Tb k_X3_lengthsByThree yX3_lengthsByThree cX3_lengthsByThree 5 (some .int) 2 0 0 := by
  intro l D ca A p e s m args below meth c post X
  unfold k_X3_lengthsByThree
  refine snd_cons (snd_iconst X dX3_lengthsByThree_0 (by decide)) ?_
  refine snd_cons (snd_istore_n X dX3_lengthsByThree_1 rfl (by decide)) ?_
  refine snd_cons (snd_iconst X dX3_lengthsByThree_2 (by decide)) ?_
  refine snd_cons (snd_istore_n X dX3_lengthsByThree_3 rfl (by decide)) ?_
  refine snd_cons (snd_iload_n X dX3_lengthsByThree_4 rfl) ?_
  refine snd_cons (snd_bipush X dX3_lengthsByThree_5 (by decide)) ?_
  refine snd_cons (snd_icmp_gt X dX3_lengthsByThree_7 (by decide)) ?_
  refine snd_cons (snd_iconst X dX3_lengthsByThree_10 (by decide)) ?_
  refine snd_cons (snd_istore X dX3_lengthsByThree_11 (by decide)) ?_
  refine snd_cons (snd_iload X dX3_lengthsByThree_13) ?_
  refine snd_cons (snd_aload_n X dX3_lengthsByThree_15 rfl) ?_
  refine snd_cons (snd_getf X Fk3 3 (by decide) w_237 dX3_lengthsByThree_16) ?_
  refine snd_cons (snd_icmp_ge X dX3_lengthsByThree_19 (by decide)) ?_
  refine snd_cons (snd_iload_n X dX3_lengthsByThree_22 rfl) ?_
  refine snd_cons (snd_aload_n X dX3_lengthsByThree_23 rfl) ?_
  refine snd_cons (snd_iload_n X dX3_lengthsByThree_24 rfl) ?_
  refine snd_cons (snd_iload_n X dX3_lengthsByThree_25 rfl) ?_
  refine snd_cons (snd_aload_n X dX3_lengthsByThree_26 rfl) ?_
  refine snd_cons (snd_aload_n X dX3_lengthsByThree_27 rfl) ?_
  refine snd_cons (snd_getf X Fk3 2 (by decide) w_236 dX3_lengthsByThree_28) ?_
  refine snd_cons (snd_iload X dX3_lengthsByThree_31) ?_
  refine snd_cons (snd_iaload X dX3_lengthsByThree_33) ?_
  refine snd_cons (snd_callV X Fk3 (ok_X3_difference l D ca) rfl rfl w_525 w_527 wp_6 w_8 w_528 (by decide) (by decide) dX3_lengthsByThree_34) ?_
  refine snd_cons (snd_imul X dX3_lengthsByThree_37) ?_
  refine snd_cons (snd_isub X dX3_lengthsByThree_38) ?_
  refine snd_cons (snd_callV X Fk3 (ok_X3_lengthsByTwo l D ca) rfl rfl w_557 w_559 wp_12 w_8 w_560 (by decide) (by decide) dX3_lengthsByThree_39) ?_
  refine snd_cons (snd_iload_n X dX3_lengthsByThree_42 rfl) ?_
  refine snd_cons (snd_ishl X dX3_lengthsByThree_43) ?_
  refine snd_cons (snd_ior X dX3_lengthsByThree_44) ?_
  refine snd_cons (snd_istore_n X dX3_lengthsByThree_45 rfl (by decide)) ?_
  refine snd_cons (snd_iinc X dX3_lengthsByThree_46 (by decide) (by decide)) ?_
  refine snd_cons (snd_goto X dX3_lengthsByThree_49 (by decide)) ?_
  refine snd_cons (snd_iinc X dX3_lengthsByThree_52 (by decide) (by decide)) ?_
  refine snd_cons (snd_goto X dX3_lengthsByThree_55 (by decide)) ?_
  refine snd_cons (snd_iload_n X dX3_lengthsByThree_58 rfl) ?_
  refine snd_cons (snd_ret X dX3_lengthsByThree_59) ?_
  exact snd_nil
theorem k_X3_lengthsByThree_0 (ca : Nat → ClassId) : k_X3_lengthsByThree ca 0 = i_push (.int 0) 1 := rfl
theorem k_X3_lengthsByThree_1 (ca : Nat → ClassId) : k_X3_lengthsByThree ca 1 = i_istore 2 2 := rfl
theorem k_X3_lengthsByThree_2 (ca : Nat → ClassId) : k_X3_lengthsByThree ca 2 = i_push (.int 1) 3 := rfl
theorem k_X3_lengthsByThree_3 (ca : Nat → ClassId) : k_X3_lengthsByThree ca 3 = i_istore 3 4 := rfl
theorem k_X3_lengthsByThree_4 (ca : Nat → ClassId) : k_X3_lengthsByThree ca 4 = i_iload 3 5 := rfl
theorem k_X3_lengthsByThree_5 (ca : Nat → ClassId) : k_X3_lengthsByThree ca 5 = i_push (.int 9) 7 := rfl
theorem k_X3_lengthsByThree_7 (ca : Nat → ClassId) : k_X3_lengthsByThree ca 7 = i_icmp (fun x y => y < x) 58 10 := rfl
theorem k_X3_lengthsByThree_10 (ca : Nat → ClassId) : k_X3_lengthsByThree ca 10 = i_push (.int 0) 11 := rfl
theorem k_X3_lengthsByThree_11 (ca : Nat → ClassId) : k_X3_lengthsByThree ca 11 = i_istore 4 13 := rfl
theorem k_X3_lengthsByThree_13 (ca : Nat → ClassId) : k_X3_lengthsByThree ca 13 = i_iload 4 15 := rfl
theorem k_X3_lengthsByThree_15 (ca : Nat → ClassId) : k_X3_lengthsByThree ca 15 = i_aload 0 16 := rfl
theorem k_X3_lengthsByThree_16 (ca : Nat → ClassId) : k_X3_lengthsByThree ca 16 = i_getf 3 3 19 := rfl
theorem k_X3_lengthsByThree_19 (ca : Nat → ClassId) : k_X3_lengthsByThree ca 19 = i_icmp (fun x y => y ≤ x) 52 22 := rfl
theorem k_X3_lengthsByThree_22 (ca : Nat → ClassId) : k_X3_lengthsByThree ca 22 = i_iload 2 23 := rfl
theorem k_X3_lengthsByThree_23 (ca : Nat → ClassId) : k_X3_lengthsByThree ca 23 = i_aload 0 24 := rfl
theorem k_X3_lengthsByThree_24 (ca : Nat → ClassId) : k_X3_lengthsByThree ca 24 = i_iload 1 25 := rfl
theorem k_X3_lengthsByThree_25 (ca : Nat → ClassId) : k_X3_lengthsByThree ca 25 = i_iload 3 26 := rfl
theorem k_X3_lengthsByThree_26 (ca : Nat → ClassId) : k_X3_lengthsByThree ca 26 = i_aload 0 27 := rfl
theorem k_X3_lengthsByThree_27 (ca : Nat → ClassId) : k_X3_lengthsByThree ca 27 = i_aload 0 28 := rfl
theorem k_X3_lengthsByThree_28 (ca : Nat → ClassId) : k_X3_lengthsByThree ca 28 = i_getf 3 2 31 := rfl
theorem k_X3_lengthsByThree_31 (ca : Nat → ClassId) : k_X3_lengthsByThree ca 31 = i_iload 4 33 := rfl
theorem k_X3_lengthsByThree_33 (ca : Nat → ClassId) : k_X3_lengthsByThree ca 33 = i_ald (ca 0) 34 := rfl
theorem k_X3_lengthsByThree_34 (ca : Nat → ClassId) : k_X3_lengthsByThree ca 34 = i_callV 3 1 0 0 0 0 (sp_X3_difference ca) 37 := rfl
theorem k_X3_lengthsByThree_37 (ca : Nat → ClassId) : k_X3_lengthsByThree ca 37 = i_bin (fun x y => x * y) 38 := rfl
theorem k_X3_lengthsByThree_38 (ca : Nat → ClassId) : k_X3_lengthsByThree ca 38 = i_bin (fun x y => x - y) 39 := rfl
theorem k_X3_lengthsByThree_39 (ca : Nat → ClassId) : k_X3_lengthsByThree ca 39 = i_callV 3 1 0 0 0 0 (sp_X3_lengthsByTwo ca) 42 := rfl
theorem k_X3_lengthsByThree_42 (ca : Nat → ClassId) : k_X3_lengthsByThree ca 42 = i_iload 3 43 := rfl
theorem k_X3_lengthsByThree_43 (ca : Nat → ClassId) : k_X3_lengthsByThree ca 43 = i_bin (fun x y => x <<< (y &&& 31)) 44 := rfl
theorem k_X3_lengthsByThree_44 (ca : Nat → ClassId) : k_X3_lengthsByThree ca 44 = i_bin (fun x y => x ||| y) 45 := rfl
theorem k_X3_lengthsByThree_45 (ca : Nat → ClassId) : k_X3_lengthsByThree ca 45 = i_istore 2 46 := rfl
theorem k_X3_lengthsByThree_46 (ca : Nat → ClassId) : k_X3_lengthsByThree ca 46 = i_iinc 4 1 49 := rfl
theorem k_X3_lengthsByThree_49 (ca : Nat → ClassId) : k_X3_lengthsByThree ca 49 = i_goto 13 := rfl
theorem k_X3_lengthsByThree_52 (ca : Nat → ClassId) : k_X3_lengthsByThree ca 52 = i_iinc 3 1 55 := rfl
theorem k_X3_lengthsByThree_55 (ca : Nat → ClassId) : k_X3_lengthsByThree ca 55 = i_goto 4 := rfl
theorem k_X3_lengthsByThree_58 (ca : Nat → ClassId) : k_X3_lengthsByThree ca 58 = i_iload 2 59 := rfl
theorem k_X3_lengthsByThree_59 (ca : Nat → ClassId) : k_X3_lengthsByThree ca 59 = i_ret := rfl
set_option maxHeartbeats 4000000 in
set_option maxRecDepth 20000 in
theorem ok_X3_lengthsByThree (l : Launch) (D : va_G) (ca : Nat → ClassId) : OkAll l D ca yX3_lengthsByThree cX3_lengthsByThree 5 (some .int) 2 0 0 (sp_X3_lengthsByThree ca) := by
  intro av h post hs
  obtain ⟨x5, nx, tm, pp, pc, ox, tx, Nf, pr, b, hb1, hb2, rfl, ⟨e0, hNu, ⟨pf, e1, hp⟩, hO, hT, hN⟩, hs⟩ := hs
  have e0' := e0
  unfold eSF at e0'
  have hp36 := hp.1
  refine okM_of t_X3_lengthsByThree (by decide +kernel) (c1_ref (c1_int c1_nil)) (Nat.le_of_ble_eq_true rfl) ?_
  intro K go
  have key : ∀ r l acc x4, l + r = 10 → 1 ≤ l → Acc3 Nf pr pc b acc l 0 → K 0 0 4 [some (.ref x5), some (.int (zI b)), some (.int acc), some (.int (nI l)), x4] [] h := by
    intro r
    induction r with
    | zero =>
      intro l acc x4 hl _ hA
      have hl : l = 10 := hl
      subst hl
      have e : nI 10 = 10 := rfl
      have k0 := hs acc (Acc3_z hp hA)
      refine goN go (stp []) 160 _ _ _ _ _ _ (fun F hF hF0 => ?_)
      simp only [hF, hF0, ite_not, i_push, i_iload, i_lload, i_aload, i_istore, i_astore, i_lstore, i_iinc, i_bin, i_dv, i_un, i_lbin, i_lsh, i_i2l, i_l2i, i_lcmp, i_dup, i_dup2, i_pop, i_if, i_icmp, i_goto, swG, i_sw, i_getf, i_puti, i_putz, i_putr, i_ald, i_lald, i_aald, i_ast, i_last, i_aast, i_alen, i_new, i_newi, i_newl, i_newq, i_oinit, i_ret, i_zret, i_lret, i_vret, catS, tk, rpush, isO, i_m1, i_m2, i_acopy, i_callV, i_callS, KRet, lget, lput, lputL, lcl0, isL, lv0, List.map_cons, List.map_nil, List.length_cons, List.length_nil, List.cons_append, List.nil_append, Nat.reduceAdd, Nat.reduceSub, Nat.reduceLeDiff, List.replicate_succ, List.replicate_zero, List.getElem?_cons_succ, List.getElem?_cons_zero, List.set_cons_succ, List.set_cons_zero, true_and, and_true, if_true, if_false, ↓reduceIte, Nat.le_refl, Value.category, va_up_app, eq_self, stp, Nat.reduceBEq, Bool.or_false, Bool.false_or, Bool.true_or, Bool.or_true, or_true, true_or, bx_uu, implies_true, true_implies, not_true, not_false_eq_true, false_implies, and_self, Nat.reduceLT, Int32.reduceAdd, Int32.reduceSub, Int32.reduceMul, Int32.reduceLE, Int32.reduceLT, Int32.reduceToNatClampNeg, va_rf_some, Bool.false_eq_true, k_X3_lengthsByThree_0 ca, k_X3_lengthsByThree_1 ca, k_X3_lengthsByThree_2 ca, k_X3_lengthsByThree_3 ca, k_X3_lengthsByThree_4 ca, k_X3_lengthsByThree_5 ca, k_X3_lengthsByThree_7 ca, k_X3_lengthsByThree_10 ca, k_X3_lengthsByThree_11 ca, k_X3_lengthsByThree_13 ca, k_X3_lengthsByThree_15 ca, k_X3_lengthsByThree_16 ca, k_X3_lengthsByThree_19 ca, k_X3_lengthsByThree_22 ca, k_X3_lengthsByThree_23 ca, k_X3_lengthsByThree_24 ca, k_X3_lengthsByThree_25 ca, k_X3_lengthsByThree_26 ca, k_X3_lengthsByThree_27 ca, k_X3_lengthsByThree_28 ca, k_X3_lengthsByThree_31 ca, k_X3_lengthsByThree_33 ca, k_X3_lengthsByThree_34 ca, k_X3_lengthsByThree_37 ca, k_X3_lengthsByThree_38 ca, k_X3_lengthsByThree_39 ca, k_X3_lengthsByThree_42 ca, k_X3_lengthsByThree_43 ca, k_X3_lengthsByThree_44 ca, k_X3_lengthsByThree_45 ca, k_X3_lengthsByThree_46 ca, k_X3_lengthsByThree_49 ca, k_X3_lengthsByThree_52 ca, k_X3_lengthsByThree_55 ca, k_X3_lengthsByThree_58 ca, k_X3_lengthsByThree_59 ca, e]
      try clear hF hF0 F
      exact k0
    | succ r ih =>
      intro l acc x4 hl h1l hA
      have g1 : ((9 : Int32) < nI l) = False := eq_false (nI_nlt (a := 9) (by omega) (by omega))
      have inner : ∀ r2 i acc, i + r2 = pc → Acc3 Nf pr pc b acc l i → K 0 0 13 [some (.ref x5), some (.int (zI b)), some (.int acc), some (.int (nI l)), some (.int (nI i))] [] h := by
        intro r2
        induction r2 with
        | zero =>
          intro i acc hi hA
          have hi : i = pc := hi
          subst hi
          have k0 := ih (l + 1) acc (some (.int (nI i))) (by omega) (by omega) (Acc3_n hA)
          refine goN go (stp [4]) 160 _ _ _ _ _ _ (fun F hF hF0 => ?_)
          simp only [hF, hF0, ite_not, i_push, i_iload, i_lload, i_aload, i_istore, i_astore, i_lstore, i_iinc, i_bin, i_dv, i_un, i_lbin, i_lsh, i_i2l, i_l2i, i_lcmp, i_dup, i_dup2, i_pop, i_if, i_icmp, i_goto, swG, i_sw, i_getf, i_puti, i_putz, i_putr, i_ald, i_lald, i_aald, i_ast, i_last, i_aast, i_alen, i_new, i_newi, i_newl, i_newq, i_oinit, i_ret, i_zret, i_lret, i_vret, catS, tk, rpush, isO, i_m1, i_m2, i_acopy, i_callV, i_callS, KRet, lget, lput, lputL, lcl0, isL, lv0, List.map_cons, List.map_nil, List.length_cons, List.length_nil, List.cons_append, List.nil_append, Nat.reduceAdd, Nat.reduceSub, Nat.reduceLeDiff, List.replicate_succ, List.replicate_zero, List.getElem?_cons_succ, List.getElem?_cons_zero, List.set_cons_succ, List.set_cons_zero, true_and, and_true, if_true, if_false, ↓reduceIte, Nat.le_refl, Value.category, va_up_app, eq_self, stp, Nat.reduceBEq, Bool.or_false, Bool.false_or, Bool.true_or, Bool.or_true, or_true, true_or, bx_uu, implies_true, true_implies, not_true, not_false_eq_true, false_implies, and_self, Nat.reduceLT, Int32.reduceAdd, Int32.reduceSub, Int32.reduceMul, Int32.reduceLE, Int32.reduceLT, Int32.reduceToNatClampNeg, va_rf_some, Bool.false_eq_true, k_X3_lengthsByThree_0 ca, k_X3_lengthsByThree_1 ca, k_X3_lengthsByThree_2 ca, k_X3_lengthsByThree_3 ca, k_X3_lengthsByThree_4 ca, k_X3_lengthsByThree_5 ca, k_X3_lengthsByThree_7 ca, k_X3_lengthsByThree_10 ca, k_X3_lengthsByThree_11 ca, k_X3_lengthsByThree_13 ca, k_X3_lengthsByThree_15 ca, k_X3_lengthsByThree_16 ca, k_X3_lengthsByThree_19 ca, k_X3_lengthsByThree_22 ca, k_X3_lengthsByThree_23 ca, k_X3_lengthsByThree_24 ca, k_X3_lengthsByThree_25 ca, k_X3_lengthsByThree_26 ca, k_X3_lengthsByThree_27 ca, k_X3_lengthsByThree_28 ca, k_X3_lengthsByThree_31 ca, k_X3_lengthsByThree_33 ca, k_X3_lengthsByThree_34 ca, k_X3_lengthsByThree_37 ca, k_X3_lengthsByThree_38 ca, k_X3_lengthsByThree_39 ca, k_X3_lengthsByThree_42 ca, k_X3_lengthsByThree_43 ca, k_X3_lengthsByThree_44 ca, k_X3_lengthsByThree_45 ca, k_X3_lengthsByThree_46 ca, k_X3_lengthsByThree_49 ca, k_X3_lengthsByThree_52 ca, k_X3_lengthsByThree_55 ca, k_X3_lengthsByThree_58 ca, k_X3_lengthsByThree_59 ca, e0', Int32.le_refl, a_1]
          try clear hF hF0 F
          exact k0
        | succ r2 ih2 =>
          intro i acc hi hA
          have g2 : ¬ nI pc ≤ nI i := nI_ge (by omega) (by omega)
          have vi : vp_in (nI i) 36 := vp_in_nI (by omega) (by decide)
          have xi : (nI i).toNatClampNeg = i := nI_clamp (by omega)
          obtain ⟨y1, y2⟩ := hp.2.1 i (by omega)
          have hbd := ld_bd (l := l) (by omega) (dz_bd hN y2)
          refine goN go (stp [37]) 160 _ _ _ _ _ _ (fun F hF hF0 => ?_)
          simp only [hF, hF0, ite_not, i_push, i_iload, i_lload, i_aload, i_istore, i_astore, i_lstore, i_iinc, i_bin, i_dv, i_un, i_lbin, i_lsh, i_i2l, i_l2i, i_lcmp, i_dup, i_dup2, i_pop, i_if, i_icmp, i_goto, swG, i_sw, i_getf, i_puti, i_putz, i_putr, i_ald, i_lald, i_aald, i_ast, i_last, i_aast, i_alen, i_new, i_newi, i_newl, i_newq, i_oinit, i_ret, i_zret, i_lret, i_vret, catS, tk, rpush, isO, i_m1, i_m2, i_acopy, i_callV, i_callS, KRet, lget, lput, lputL, lcl0, isL, lv0, List.map_cons, List.map_nil, List.length_cons, List.length_nil, List.cons_append, List.nil_append, Nat.reduceAdd, Nat.reduceSub, Nat.reduceLeDiff, List.replicate_succ, List.replicate_zero, List.getElem?_cons_succ, List.getElem?_cons_zero, List.set_cons_succ, List.set_cons_zero, true_and, and_true, if_true, if_false, ↓reduceIte, Nat.le_refl, Value.category, va_up_app, eq_self, stp, Nat.reduceBEq, Bool.or_false, Bool.false_or, Bool.true_or, Bool.or_true, or_true, true_or, bx_uu, implies_true, true_implies, not_true, not_false_eq_true, false_implies, and_self, Nat.reduceLT, Int32.reduceAdd, Int32.reduceSub, Int32.reduceMul, Int32.reduceLE, Int32.reduceLT, Int32.reduceToNatClampNeg, va_rf_some, Bool.false_eq_true, k_X3_lengthsByThree_0 ca, k_X3_lengthsByThree_1 ca, k_X3_lengthsByThree_2 ca, k_X3_lengthsByThree_3 ca, k_X3_lengthsByThree_4 ca, k_X3_lengthsByThree_5 ca, k_X3_lengthsByThree_7 ca, k_X3_lengthsByThree_10 ca, k_X3_lengthsByThree_11 ca, k_X3_lengthsByThree_13 ca, k_X3_lengthsByThree_15 ca, k_X3_lengthsByThree_16 ca, k_X3_lengthsByThree_19 ca, k_X3_lengthsByThree_22 ca, k_X3_lengthsByThree_23 ca, k_X3_lengthsByThree_24 ca, k_X3_lengthsByThree_25 ca, k_X3_lengthsByThree_26 ca, k_X3_lengthsByThree_27 ca, k_X3_lengthsByThree_28 ca, k_X3_lengthsByThree_31 ca, k_X3_lengthsByThree_33 ca, k_X3_lengthsByThree_34 ca, k_X3_lengthsByThree_37 ca, k_X3_lengthsByThree_38 ca, k_X3_lengthsByThree_39 ca, k_X3_lengthsByThree_42 ca, k_X3_lengthsByThree_43 ca, k_X3_lengthsByThree_44 ca, k_X3_lengthsByThree_45 ca, k_X3_lengthsByThree_46 ca, k_X3_lengthsByThree_49 ca, k_X3_lengthsByThree_52 ca, k_X3_lengthsByThree_55 ca, k_X3_lengthsByThree_58 ca, k_X3_lengthsByThree_59 ca, e0', e1, g2, vi, xi, y1]
          try clear hF hF0 F
          refine ⟨x5, nx, tm, pp, nI pc, ox, tx, Nf, pr i, y2, rfl, e0, hNu, ?_⟩
          refine goN go (stp [42]) 160 _ _ _ _ _ _ (fun F hF hF0 => ?_)
          simp only [hF, hF0, ite_not, i_push, i_iload, i_lload, i_aload, i_istore, i_astore, i_lstore, i_iinc, i_bin, i_dv, i_un, i_lbin, i_lsh, i_i2l, i_l2i, i_lcmp, i_dup, i_dup2, i_pop, i_if, i_icmp, i_goto, swG, i_sw, i_getf, i_puti, i_putz, i_putr, i_ald, i_lald, i_aald, i_ast, i_last, i_aast, i_alen, i_new, i_newi, i_newl, i_newq, i_oinit, i_ret, i_zret, i_lret, i_vret, catS, tk, rpush, isO, i_m1, i_m2, i_acopy, i_callV, i_callS, KRet, lget, lput, lputL, lcl0, isL, lv0, List.map_cons, List.map_nil, List.length_cons, List.length_nil, List.cons_append, List.nil_append, Nat.reduceAdd, Nat.reduceSub, Nat.reduceLeDiff, List.replicate_succ, List.replicate_zero, List.getElem?_cons_succ, List.getElem?_cons_zero, List.set_cons_succ, List.set_cons_zero, true_and, and_true, if_true, if_false, ↓reduceIte, Nat.le_refl, Value.category, va_up_app, eq_self, stp, Nat.reduceBEq, Bool.or_false, Bool.false_or, Bool.true_or, Bool.or_true, or_true, true_or, bx_uu, implies_true, true_implies, not_true, not_false_eq_true, false_implies, and_self, Nat.reduceLT, Int32.reduceAdd, Int32.reduceSub, Int32.reduceMul, Int32.reduceLE, Int32.reduceLT, Int32.reduceToNatClampNeg, va_rf_some, Bool.false_eq_true, k_X3_lengthsByThree_0 ca, k_X3_lengthsByThree_1 ca, k_X3_lengthsByThree_2 ca, k_X3_lengthsByThree_3 ca, k_X3_lengthsByThree_4 ca, k_X3_lengthsByThree_5 ca, k_X3_lengthsByThree_7 ca, k_X3_lengthsByThree_10 ca, k_X3_lengthsByThree_11 ca, k_X3_lengthsByThree_13 ca, k_X3_lengthsByThree_15 ca, k_X3_lengthsByThree_16 ca, k_X3_lengthsByThree_19 ca, k_X3_lengthsByThree_22 ca, k_X3_lengthsByThree_23 ca, k_X3_lengthsByThree_24 ca, k_X3_lengthsByThree_25 ca, k_X3_lengthsByThree_26 ca, k_X3_lengthsByThree_27 ca, k_X3_lengthsByThree_28 ca, k_X3_lengthsByThree_31 ca, k_X3_lengthsByThree_33 ca, k_X3_lengthsByThree_34 ca, k_X3_lengthsByThree_37 ca, k_X3_lengthsByThree_38 ca, k_X3_lengthsByThree_39 ca, k_X3_lengthsByThree_42 ca, k_X3_lengthsByThree_43 ca, k_X3_lengthsByThree_44 ca, k_X3_lengthsByThree_45 ca, k_X3_lengthsByThree_46 ca, k_X3_lengthsByThree_49 ca, k_X3_lengthsByThree_52 ca, k_X3_lengthsByThree_55 ca, k_X3_lengthsByThree_58 ca, k_X3_lengthsByThree_59 ca, e0', z_mul, zI_sub]
          try clear hF hF0 F
          refine ⟨x5, nx, tm, pp, nI pc, ox, tx, Nf, _, by omega, by omega, rfl, e0, hN, hT, fun L hL => ?_⟩
          have k0 := ih2 (i + 1) _ (by omega) (Acc3_s hN ⟨h1l, by omega⟩ (by omega) hA hL)
          refine goN go (stp [13]) 160 _ _ _ _ _ _ (fun F hF hF0 => ?_)
          simp only [hF, hF0, ite_not, i_push, i_iload, i_lload, i_aload, i_istore, i_astore, i_lstore, i_iinc, i_bin, i_dv, i_un, i_lbin, i_lsh, i_i2l, i_l2i, i_lcmp, i_dup, i_dup2, i_pop, i_if, i_icmp, i_goto, swG, i_sw, i_getf, i_puti, i_putz, i_putr, i_ald, i_lald, i_aald, i_ast, i_last, i_aast, i_alen, i_new, i_newi, i_newl, i_newq, i_oinit, i_ret, i_zret, i_lret, i_vret, catS, tk, rpush, isO, i_m1, i_m2, i_acopy, i_callV, i_callS, KRet, lget, lput, lputL, lcl0, isL, lv0, List.map_cons, List.map_nil, List.length_cons, List.length_nil, List.cons_append, List.nil_append, Nat.reduceAdd, Nat.reduceSub, Nat.reduceLeDiff, List.replicate_succ, List.replicate_zero, List.getElem?_cons_succ, List.getElem?_cons_zero, List.set_cons_succ, List.set_cons_zero, true_and, and_true, if_true, if_false, ↓reduceIte, Nat.le_refl, Value.category, va_up_app, eq_self, stp, Nat.reduceBEq, Bool.or_false, Bool.false_or, Bool.true_or, Bool.or_true, or_true, true_or, bx_uu, implies_true, true_implies, not_true, not_false_eq_true, false_implies, and_self, Nat.reduceLT, Int32.reduceAdd, Int32.reduceSub, Int32.reduceMul, Int32.reduceLE, Int32.reduceLT, Int32.reduceToNatClampNeg, va_rf_some, Bool.false_eq_true, k_X3_lengthsByThree_0 ca, k_X3_lengthsByThree_1 ca, k_X3_lengthsByThree_2 ca, k_X3_lengthsByThree_3 ca, k_X3_lengthsByThree_4 ca, k_X3_lengthsByThree_5 ca, k_X3_lengthsByThree_7 ca, k_X3_lengthsByThree_10 ca, k_X3_lengthsByThree_11 ca, k_X3_lengthsByThree_13 ca, k_X3_lengthsByThree_15 ca, k_X3_lengthsByThree_16 ca, k_X3_lengthsByThree_19 ca, k_X3_lengthsByThree_22 ca, k_X3_lengthsByThree_23 ca, k_X3_lengthsByThree_24 ca, k_X3_lengthsByThree_25 ca, k_X3_lengthsByThree_26 ca, k_X3_lengthsByThree_27 ca, k_X3_lengthsByThree_28 ca, k_X3_lengthsByThree_31 ca, k_X3_lengthsByThree_33 ca, k_X3_lengthsByThree_34 ca, k_X3_lengthsByThree_37 ca, k_X3_lengthsByThree_38 ca, k_X3_lengthsByThree_39 ca, k_X3_lengthsByThree_42 ca, k_X3_lengthsByThree_43 ca, k_X3_lengthsByThree_44 ca, k_X3_lengthsByThree_45 ca, k_X3_lengthsByThree_46 ca, k_X3_lengthsByThree_49 ca, k_X3_lengthsByThree_52 ca, k_X3_lengthsByThree_55 ca, k_X3_lengthsByThree_58 ca, k_X3_lengthsByThree_59 ca, a_1]
          try clear hF hF0 F
          exact k0
      have k0 := inner pc 0 acc (by omega) hA
      rw [nI_0] at k0
      refine goN go (stp [13]) 160 _ _ _ _ _ _ (fun F hF hF0 => ?_)
      simp only [hF, hF0, ite_not, i_push, i_iload, i_lload, i_aload, i_istore, i_astore, i_lstore, i_iinc, i_bin, i_dv, i_un, i_lbin, i_lsh, i_i2l, i_l2i, i_lcmp, i_dup, i_dup2, i_pop, i_if, i_icmp, i_goto, swG, i_sw, i_getf, i_puti, i_putz, i_putr, i_ald, i_lald, i_aald, i_ast, i_last, i_aast, i_alen, i_new, i_newi, i_newl, i_newq, i_oinit, i_ret, i_zret, i_lret, i_vret, catS, tk, rpush, isO, i_m1, i_m2, i_acopy, i_callV, i_callS, KRet, lget, lput, lputL, lcl0, isL, lv0, List.map_cons, List.map_nil, List.length_cons, List.length_nil, List.cons_append, List.nil_append, Nat.reduceAdd, Nat.reduceSub, Nat.reduceLeDiff, List.replicate_succ, List.replicate_zero, List.getElem?_cons_succ, List.getElem?_cons_zero, List.set_cons_succ, List.set_cons_zero, true_and, and_true, if_true, if_false, ↓reduceIte, Nat.le_refl, Value.category, va_up_app, eq_self, stp, Nat.reduceBEq, Bool.or_false, Bool.false_or, Bool.true_or, Bool.or_true, or_true, true_or, bx_uu, implies_true, true_implies, not_true, not_false_eq_true, false_implies, and_self, Nat.reduceLT, Int32.reduceAdd, Int32.reduceSub, Int32.reduceMul, Int32.reduceLE, Int32.reduceLT, Int32.reduceToNatClampNeg, va_rf_some, Bool.false_eq_true, k_X3_lengthsByThree_0 ca, k_X3_lengthsByThree_1 ca, k_X3_lengthsByThree_2 ca, k_X3_lengthsByThree_3 ca, k_X3_lengthsByThree_4 ca, k_X3_lengthsByThree_5 ca, k_X3_lengthsByThree_7 ca, k_X3_lengthsByThree_10 ca, k_X3_lengthsByThree_11 ca, k_X3_lengthsByThree_13 ca, k_X3_lengthsByThree_15 ca, k_X3_lengthsByThree_16 ca, k_X3_lengthsByThree_19 ca, k_X3_lengthsByThree_22 ca, k_X3_lengthsByThree_23 ca, k_X3_lengthsByThree_24 ca, k_X3_lengthsByThree_25 ca, k_X3_lengthsByThree_26 ca, k_X3_lengthsByThree_27 ca, k_X3_lengthsByThree_28 ca, k_X3_lengthsByThree_31 ca, k_X3_lengthsByThree_33 ca, k_X3_lengthsByThree_34 ca, k_X3_lengthsByThree_37 ca, k_X3_lengthsByThree_38 ca, k_X3_lengthsByThree_39 ca, k_X3_lengthsByThree_42 ca, k_X3_lengthsByThree_43 ca, k_X3_lengthsByThree_44 ca, k_X3_lengthsByThree_45 ca, k_X3_lengthsByThree_46 ca, k_X3_lengthsByThree_49 ca, k_X3_lengthsByThree_52 ca, k_X3_lengthsByThree_55 ca, k_X3_lengthsByThree_58 ca, k_X3_lengthsByThree_59 ca, g1]
      try clear hF hF0 F
      exact k0
  have k0 := key 9 1 0 none (by omega) (by omega) (fun T hT => ⟨fun z => absurd z (by rw [b_0]; decide), fun ⟨l', i', h1, h2, h3, h4, h5⟩ => by omega⟩)
  rw [n1] at k0
  refine goN go (stp [4]) 160 _ _ _ _ _ _ (fun F hF hF0 => ?_)
  simp only [hF, hF0, ite_not, i_push, i_iload, i_lload, i_aload, i_istore, i_astore, i_lstore, i_iinc, i_bin, i_dv, i_un, i_lbin, i_lsh, i_i2l, i_l2i, i_lcmp, i_dup, i_dup2, i_pop, i_if, i_icmp, i_goto, swG, i_sw, i_getf, i_puti, i_putz, i_putr, i_ald, i_lald, i_aald, i_ast, i_last, i_aast, i_alen, i_new, i_newi, i_newl, i_newq, i_oinit, i_ret, i_zret, i_lret, i_vret, catS, tk, rpush, isO, i_m1, i_m2, i_acopy, i_callV, i_callS, KRet, lget, lput, lputL, lcl0, isL, lv0, List.map_cons, List.map_nil, List.length_cons, List.length_nil, List.cons_append, List.nil_append, Nat.reduceAdd, Nat.reduceSub, Nat.reduceLeDiff, List.replicate_succ, List.replicate_zero, List.getElem?_cons_succ, List.getElem?_cons_zero, List.set_cons_succ, List.set_cons_zero, true_and, and_true, if_true, if_false, ↓reduceIte, Nat.le_refl, Value.category, va_up_app, eq_self, stp, Nat.reduceBEq, Bool.or_false, Bool.false_or, Bool.true_or, Bool.or_true, or_true, true_or, bx_uu, implies_true, true_implies, not_true, not_false_eq_true, false_implies, and_self, Nat.reduceLT, Int32.reduceAdd, Int32.reduceSub, Int32.reduceMul, Int32.reduceLE, Int32.reduceLT, Int32.reduceToNatClampNeg, va_rf_some, Bool.false_eq_true, k_X3_lengthsByThree_0 ca, k_X3_lengthsByThree_1 ca, k_X3_lengthsByThree_2 ca, k_X3_lengthsByThree_3 ca, k_X3_lengthsByThree_4 ca, k_X3_lengthsByThree_5 ca, k_X3_lengthsByThree_7 ca, k_X3_lengthsByThree_10 ca, k_X3_lengthsByThree_11 ca, k_X3_lengthsByThree_13 ca, k_X3_lengthsByThree_15 ca, k_X3_lengthsByThree_16 ca, k_X3_lengthsByThree_19 ca, k_X3_lengthsByThree_22 ca, k_X3_lengthsByThree_23 ca, k_X3_lengthsByThree_24 ca, k_X3_lengthsByThree_25 ca, k_X3_lengthsByThree_26 ca, k_X3_lengthsByThree_27 ca, k_X3_lengthsByThree_28 ca, k_X3_lengthsByThree_31 ca, k_X3_lengthsByThree_33 ca, k_X3_lengthsByThree_34 ca, k_X3_lengthsByThree_37 ca, k_X3_lengthsByThree_38 ca, k_X3_lengthsByThree_39 ca, k_X3_lengthsByThree_42 ca, k_X3_lengthsByThree_43 ca, k_X3_lengthsByThree_44 ca, k_X3_lengthsByThree_45 ca, k_X3_lengthsByThree_46 ca, k_X3_lengthsByThree_49 ca, k_X3_lengthsByThree_52 ca, k_X3_lengthsByThree_55 ca, k_X3_lengthsByThree_58 ca, k_X3_lengthsByThree_59 ca]
  try clear hF hF0 F
  exact k0
def sp_X3_lengthsFor (ca : Nat → ClassId) : SPEC := fun av h post => ∃ x5 nx tm pp pc ox tx Nf pr P b, P ≤ 3 ∧ -50000 ≤ b ∧ b ≤ 50000 ∧ av = [.ref x5, .int (nI P), .int (zI b)] ∧ SFc ca h x5 nx tm pp pc ox tx Nf pr ∧ ∀ L, Lens Nf L P b → post (some (.int L)) h
def k_X3_lengthsFor (ca : Nat → ClassId) : Nat → IT := fun pc => lk pc [(0, i_iload 1 1),
  (1, i_sw [(0, 28), (1, 38), (2, 44)] 50),
  (28, i_iload 2 29),
  (29, i_if (fun x => ¬ x = 0) 36 32),
  (32, i_push (.int 1) 33),
  (33, i_goto 37),
  (36, i_push (.int 0) 37),
  (37, i_ret),
  (38, i_aload 0 39),
  (39, i_iload 2 40),
  (40, i_callV 3 1 0 0 0 0 (sp_X3_lengthsByOne ca) 43),
  (43, i_ret),
  (44, i_aload 0 45),
  (45, i_iload 2 46),
  (46, i_callV 3 1 0 0 0 0 (sp_X3_lengthsByTwo ca) 49),
  (49, i_ret),
  (50, i_aload 0 51),
  (51, i_iload 2 52),
  (52, i_callV 3 1 0 0 0 0 (sp_X3_lengthsByThree ca) 55),
  (55, i_ret)]
set_option maxRecDepth 20000 in
theorem t_X3_lengthsFor : Tb k_X3_lengthsFor yX3_lengthsFor cX3_lengthsFor 3 (some .int) 3 0 0 := by
  intro l D ca A p e s m args below meth c post X
  unfold k_X3_lengthsFor
  refine snd_cons (snd_iload_n X dX3_lengthsFor_0 rfl) ?_
  refine snd_cons (snd_table X dX3_lengthsFor_1 (by decide) (by decide) (by decide)) ?_
  refine snd_cons (snd_iload_n X dX3_lengthsFor_28 rfl) ?_
  refine snd_cons (snd_if_ne X dX3_lengthsFor_29 (by decide)) ?_
  refine snd_cons (snd_iconst X dX3_lengthsFor_32 (by decide)) ?_
  refine snd_cons (snd_goto X dX3_lengthsFor_33 (by decide)) ?_
  refine snd_cons (snd_iconst X dX3_lengthsFor_36 (by decide)) ?_
  refine snd_cons (snd_ret X dX3_lengthsFor_37) ?_
  refine snd_cons (snd_aload_n X dX3_lengthsFor_38 rfl) ?_
  refine snd_cons (snd_iload_n X dX3_lengthsFor_39 rfl) ?_
  refine snd_cons (snd_callV X Fk3 (ok_X3_lengthsByOne l D ca) rfl rfl w_553 w_555 wp_11 w_8 w_556 (by decide) (by decide) dX3_lengthsFor_40) ?_
  refine snd_cons (snd_ret X dX3_lengthsFor_43) ?_
  refine snd_cons (snd_aload_n X dX3_lengthsFor_44 rfl) ?_
  refine snd_cons (snd_iload_n X dX3_lengthsFor_45 rfl) ?_
  refine snd_cons (snd_callV X Fk3 (ok_X3_lengthsByTwo l D ca) rfl rfl w_557 w_559 wp_12 w_8 w_560 (by decide) (by decide) dX3_lengthsFor_46) ?_
  refine snd_cons (snd_ret X dX3_lengthsFor_49) ?_
  refine snd_cons (snd_aload_n X dX3_lengthsFor_50 rfl) ?_
  refine snd_cons (snd_iload_n X dX3_lengthsFor_51 rfl) ?_
  refine snd_cons (snd_callV X Fk3 (ok_X3_lengthsByThree l D ca) rfl rfl w_561 w_563 wp_13 w_8 w_564 (by decide) (by decide) dX3_lengthsFor_52) ?_
  refine snd_cons (snd_ret X dX3_lengthsFor_55) ?_
  exact snd_nil
theorem k_X3_lengthsFor_0 (ca : Nat → ClassId) : k_X3_lengthsFor ca 0 = i_iload 1 1 := rfl
theorem k_X3_lengthsFor_1 (ca : Nat → ClassId) : k_X3_lengthsFor ca 1 = i_sw [(0, 28), (1, 38), (2, 44)] 50 := rfl
theorem k_X3_lengthsFor_28 (ca : Nat → ClassId) : k_X3_lengthsFor ca 28 = i_iload 2 29 := rfl
theorem k_X3_lengthsFor_29 (ca : Nat → ClassId) : k_X3_lengthsFor ca 29 = i_if (fun x => ¬ x = 0) 36 32 := rfl
theorem k_X3_lengthsFor_32 (ca : Nat → ClassId) : k_X3_lengthsFor ca 32 = i_push (.int 1) 33 := rfl
theorem k_X3_lengthsFor_33 (ca : Nat → ClassId) : k_X3_lengthsFor ca 33 = i_goto 37 := rfl
theorem k_X3_lengthsFor_36 (ca : Nat → ClassId) : k_X3_lengthsFor ca 36 = i_push (.int 0) 37 := rfl
theorem k_X3_lengthsFor_37 (ca : Nat → ClassId) : k_X3_lengthsFor ca 37 = i_ret := rfl
theorem k_X3_lengthsFor_38 (ca : Nat → ClassId) : k_X3_lengthsFor ca 38 = i_aload 0 39 := rfl
theorem k_X3_lengthsFor_39 (ca : Nat → ClassId) : k_X3_lengthsFor ca 39 = i_iload 2 40 := rfl
theorem k_X3_lengthsFor_40 (ca : Nat → ClassId) : k_X3_lengthsFor ca 40 = i_callV 3 1 0 0 0 0 (sp_X3_lengthsByOne ca) 43 := rfl
theorem k_X3_lengthsFor_43 (ca : Nat → ClassId) : k_X3_lengthsFor ca 43 = i_ret := rfl
theorem k_X3_lengthsFor_44 (ca : Nat → ClassId) : k_X3_lengthsFor ca 44 = i_aload 0 45 := rfl
theorem k_X3_lengthsFor_45 (ca : Nat → ClassId) : k_X3_lengthsFor ca 45 = i_iload 2 46 := rfl
theorem k_X3_lengthsFor_46 (ca : Nat → ClassId) : k_X3_lengthsFor ca 46 = i_callV 3 1 0 0 0 0 (sp_X3_lengthsByTwo ca) 49 := rfl
theorem k_X3_lengthsFor_49 (ca : Nat → ClassId) : k_X3_lengthsFor ca 49 = i_ret := rfl
theorem k_X3_lengthsFor_50 (ca : Nat → ClassId) : k_X3_lengthsFor ca 50 = i_aload 0 51 := rfl
theorem k_X3_lengthsFor_51 (ca : Nat → ClassId) : k_X3_lengthsFor ca 51 = i_iload 2 52 := rfl
theorem k_X3_lengthsFor_52 (ca : Nat → ClassId) : k_X3_lengthsFor ca 52 = i_callV 3 1 0 0 0 0 (sp_X3_lengthsByThree ca) 55 := rfl
theorem k_X3_lengthsFor_55 (ca : Nat → ClassId) : k_X3_lengthsFor ca 55 = i_ret := rfl
set_option maxHeartbeats 4000000 in
set_option maxRecDepth 20000 in
theorem ok_X3_lengthsFor (l : Launch) (D : va_G) (ca : Nat → ClassId) : OkAll l D ca yX3_lengthsFor cX3_lengthsFor 3 (some .int) 3 0 0 (sp_X3_lengthsFor ca) := by
  intro av h post hs
  obtain ⟨x5, nx, tm, pp, pc, ox, tx, Nf, pr, P, b, hP, hb1, hb2, rfl, hF, hs⟩ := hs
  obtain ⟨e0, hNu, hPr, hO, hT, hN⟩ := id hF
  have e0' := e0
  unfold eSF at e0'
  have eb : (zI b = 0) = (b = 0) := zI_eq (y := 0) (by omega) (by omega)
  refine okM_of t_X3_lengthsFor (by decide +kernel) (c1_ref (c1_int (c1_int c1_nil))) (Nat.le_of_ble_eq_true rfl) ?_
  intro K go
  have hP4 : P = 0 ∨ P = 1 ∨ P = 2 ∨ P = 3 := by omega
  rcases hP4 with rfl | rfl | rfl | rfl
  · rw [nI_0]
    by_cases q : b = 0
    · have k0 := hs 1 (fun T hT => by
        rw [b_1 T hT, decide_eq_true_eq]
        exact ⟨fun z => ⟨by omega, q⟩, fun z => by have := z.1; omega⟩)
      refine goN go (stp []) 160 _ _ _ _ _ _ (fun F hF hF0 => ?_)
      simp only [hF, hF0, ite_not, i_push, i_iload, i_lload, i_aload, i_istore, i_astore, i_lstore, i_iinc, i_bin, i_dv, i_un, i_lbin, i_lsh, i_i2l, i_l2i, i_lcmp, i_dup, i_dup2, i_pop, i_if, i_icmp, i_goto, swG, i_sw, i_getf, i_puti, i_putz, i_putr, i_ald, i_lald, i_aald, i_ast, i_last, i_aast, i_alen, i_new, i_newi, i_newl, i_newq, i_oinit, i_ret, i_zret, i_lret, i_vret, catS, tk, rpush, isO, i_m1, i_m2, i_acopy, i_callV, i_callS, KRet, lget, lput, lputL, lcl0, isL, lv0, List.map_cons, List.map_nil, List.length_cons, List.length_nil, List.cons_append, List.nil_append, Nat.reduceAdd, Nat.reduceSub, Nat.reduceLeDiff, List.replicate_succ, List.replicate_zero, List.getElem?_cons_succ, List.getElem?_cons_zero, List.set_cons_succ, List.set_cons_zero, true_and, and_true, if_true, if_false, ↓reduceIte, Nat.le_refl, Value.category, va_up_app, eq_self, stp, Nat.reduceBEq, Bool.or_false, Bool.false_or, Bool.true_or, Bool.or_true, or_true, true_or, bx_uu, implies_true, true_implies, not_true, not_false_eq_true, false_implies, and_self, Nat.reduceLT, Int32.reduceAdd, Int32.reduceSub, Int32.reduceMul, Int32.reduceLE, Int32.reduceLT, Int32.reduceToNatClampNeg, va_rf_some, Bool.false_eq_true, k_X3_lengthsFor_0 ca, k_X3_lengthsFor_1 ca, k_X3_lengthsFor_28 ca, k_X3_lengthsFor_29 ca, k_X3_lengthsFor_32 ca, k_X3_lengthsFor_33 ca, k_X3_lengthsFor_36 ca, k_X3_lengthsFor_37 ca, k_X3_lengthsFor_38 ca, k_X3_lengthsFor_39 ca, k_X3_lengthsFor_40 ca, k_X3_lengthsFor_43 ca, k_X3_lengthsFor_44 ca, k_X3_lengthsFor_45 ca, k_X3_lengthsFor_46 ca, k_X3_lengthsFor_49 ca, k_X3_lengthsFor_50 ca, k_X3_lengthsFor_51 ca, k_X3_lengthsFor_52 ca, k_X3_lengthsFor_55 ca, eb, q]
      try clear hF hF0 F
      exact k0
    · have k0 := hs 0 (Lens_0 (fun T hT => q hT.2))
      refine goN go (stp []) 160 _ _ _ _ _ _ (fun F hF hF0 => ?_)
      simp only [hF, hF0, ite_not, i_push, i_iload, i_lload, i_aload, i_istore, i_astore, i_lstore, i_iinc, i_bin, i_dv, i_un, i_lbin, i_lsh, i_i2l, i_l2i, i_lcmp, i_dup, i_dup2, i_pop, i_if, i_icmp, i_goto, swG, i_sw, i_getf, i_puti, i_putz, i_putr, i_ald, i_lald, i_aald, i_ast, i_last, i_aast, i_alen, i_new, i_newi, i_newl, i_newq, i_oinit, i_ret, i_zret, i_lret, i_vret, catS, tk, rpush, isO, i_m1, i_m2, i_acopy, i_callV, i_callS, KRet, lget, lput, lputL, lcl0, isL, lv0, List.map_cons, List.map_nil, List.length_cons, List.length_nil, List.cons_append, List.nil_append, Nat.reduceAdd, Nat.reduceSub, Nat.reduceLeDiff, List.replicate_succ, List.replicate_zero, List.getElem?_cons_succ, List.getElem?_cons_zero, List.set_cons_succ, List.set_cons_zero, true_and, and_true, if_true, if_false, ↓reduceIte, Nat.le_refl, Value.category, va_up_app, eq_self, stp, Nat.reduceBEq, Bool.or_false, Bool.false_or, Bool.true_or, Bool.or_true, or_true, true_or, bx_uu, implies_true, true_implies, not_true, not_false_eq_true, false_implies, and_self, Nat.reduceLT, Int32.reduceAdd, Int32.reduceSub, Int32.reduceMul, Int32.reduceLE, Int32.reduceLT, Int32.reduceToNatClampNeg, va_rf_some, Bool.false_eq_true, k_X3_lengthsFor_0 ca, k_X3_lengthsFor_1 ca, k_X3_lengthsFor_28 ca, k_X3_lengthsFor_29 ca, k_X3_lengthsFor_32 ca, k_X3_lengthsFor_33 ca, k_X3_lengthsFor_36 ca, k_X3_lengthsFor_37 ca, k_X3_lengthsFor_38 ca, k_X3_lengthsFor_39 ca, k_X3_lengthsFor_40 ca, k_X3_lengthsFor_43 ca, k_X3_lengthsFor_44 ca, k_X3_lengthsFor_45 ca, k_X3_lengthsFor_46 ca, k_X3_lengthsFor_49 ca, k_X3_lengthsFor_50 ca, k_X3_lengthsFor_51 ca, k_X3_lengthsFor_52 ca, k_X3_lengthsFor_55 ca, eb, q]
      try clear hF hF0 F
      exact k0
  · rw [n1]
    refine goN go (stp [43]) 160 _ _ _ _ _ _ (fun F hF hF0 => ?_)
    simp only [hF, hF0, ite_not, i_push, i_iload, i_lload, i_aload, i_istore, i_astore, i_lstore, i_iinc, i_bin, i_dv, i_un, i_lbin, i_lsh, i_i2l, i_l2i, i_lcmp, i_dup, i_dup2, i_pop, i_if, i_icmp, i_goto, swG, i_sw, i_getf, i_puti, i_putz, i_putr, i_ald, i_lald, i_aald, i_ast, i_last, i_aast, i_alen, i_new, i_newi, i_newl, i_newq, i_oinit, i_ret, i_zret, i_lret, i_vret, catS, tk, rpush, isO, i_m1, i_m2, i_acopy, i_callV, i_callS, KRet, lget, lput, lputL, lcl0, isL, lv0, List.map_cons, List.map_nil, List.length_cons, List.length_nil, List.cons_append, List.nil_append, Nat.reduceAdd, Nat.reduceSub, Nat.reduceLeDiff, List.replicate_succ, List.replicate_zero, List.getElem?_cons_succ, List.getElem?_cons_zero, List.set_cons_succ, List.set_cons_zero, true_and, and_true, if_true, if_false, ↓reduceIte, Nat.le_refl, Value.category, va_up_app, eq_self, stp, Nat.reduceBEq, Bool.or_false, Bool.false_or, Bool.true_or, Bool.or_true, or_true, true_or, bx_uu, implies_true, true_implies, not_true, not_false_eq_true, false_implies, and_self, Nat.reduceLT, Int32.reduceAdd, Int32.reduceSub, Int32.reduceMul, Int32.reduceLE, Int32.reduceLT, Int32.reduceToNatClampNeg, va_rf_some, Bool.false_eq_true, k_X3_lengthsFor_0 ca, k_X3_lengthsFor_1 ca, k_X3_lengthsFor_28 ca, k_X3_lengthsFor_29 ca, k_X3_lengthsFor_32 ca, k_X3_lengthsFor_33 ca, k_X3_lengthsFor_36 ca, k_X3_lengthsFor_37 ca, k_X3_lengthsFor_38 ca, k_X3_lengthsFor_39 ca, k_X3_lengthsFor_40 ca, k_X3_lengthsFor_43 ca, k_X3_lengthsFor_44 ca, k_X3_lengthsFor_45 ca, k_X3_lengthsFor_46 ca, k_X3_lengthsFor_49 ca, k_X3_lengthsFor_50 ca, k_X3_lengthsFor_51 ca, k_X3_lengthsFor_52 ca, k_X3_lengthsFor_55 ca, e0']
    try clear hF hF0 F
    refine ⟨x5, nx, tm, pp, nI pc, ox, tx, Nf, b, by omega, by omega, rfl, e0, hN, hO, fun L hL => ?_⟩
    have k0 := hs L hL
    refine goN go (stp []) 160 _ _ _ _ _ _ (fun F hF hF0 => ?_)
    simp only [hF, hF0, ite_not, i_push, i_iload, i_lload, i_aload, i_istore, i_astore, i_lstore, i_iinc, i_bin, i_dv, i_un, i_lbin, i_lsh, i_i2l, i_l2i, i_lcmp, i_dup, i_dup2, i_pop, i_if, i_icmp, i_goto, swG, i_sw, i_getf, i_puti, i_putz, i_putr, i_ald, i_lald, i_aald, i_ast, i_last, i_aast, i_alen, i_new, i_newi, i_newl, i_newq, i_oinit, i_ret, i_zret, i_lret, i_vret, catS, tk, rpush, isO, i_m1, i_m2, i_acopy, i_callV, i_callS, KRet, lget, lput, lputL, lcl0, isL, lv0, List.map_cons, List.map_nil, List.length_cons, List.length_nil, List.cons_append, List.nil_append, Nat.reduceAdd, Nat.reduceSub, Nat.reduceLeDiff, List.replicate_succ, List.replicate_zero, List.getElem?_cons_succ, List.getElem?_cons_zero, List.set_cons_succ, List.set_cons_zero, true_and, and_true, if_true, if_false, ↓reduceIte, Nat.le_refl, Value.category, va_up_app, eq_self, stp, Nat.reduceBEq, Bool.or_false, Bool.false_or, Bool.true_or, Bool.or_true, or_true, true_or, bx_uu, implies_true, true_implies, not_true, not_false_eq_true, false_implies, and_self, Nat.reduceLT, Int32.reduceAdd, Int32.reduceSub, Int32.reduceMul, Int32.reduceLE, Int32.reduceLT, Int32.reduceToNatClampNeg, va_rf_some, Bool.false_eq_true, k_X3_lengthsFor_0 ca, k_X3_lengthsFor_1 ca, k_X3_lengthsFor_28 ca, k_X3_lengthsFor_29 ca, k_X3_lengthsFor_32 ca, k_X3_lengthsFor_33 ca, k_X3_lengthsFor_36 ca, k_X3_lengthsFor_37 ca, k_X3_lengthsFor_38 ca, k_X3_lengthsFor_39 ca, k_X3_lengthsFor_40 ca, k_X3_lengthsFor_43 ca, k_X3_lengthsFor_44 ca, k_X3_lengthsFor_45 ca, k_X3_lengthsFor_46 ca, k_X3_lengthsFor_49 ca, k_X3_lengthsFor_50 ca, k_X3_lengthsFor_51 ca, k_X3_lengthsFor_52 ca, k_X3_lengthsFor_55 ca]
    try clear hF hF0 F
    exact k0
  · rw [n2]
    refine goN go (stp [49]) 160 _ _ _ _ _ _ (fun F hF hF0 => ?_)
    simp only [hF, hF0, ite_not, i_push, i_iload, i_lload, i_aload, i_istore, i_astore, i_lstore, i_iinc, i_bin, i_dv, i_un, i_lbin, i_lsh, i_i2l, i_l2i, i_lcmp, i_dup, i_dup2, i_pop, i_if, i_icmp, i_goto, swG, i_sw, i_getf, i_puti, i_putz, i_putr, i_ald, i_lald, i_aald, i_ast, i_last, i_aast, i_alen, i_new, i_newi, i_newl, i_newq, i_oinit, i_ret, i_zret, i_lret, i_vret, catS, tk, rpush, isO, i_m1, i_m2, i_acopy, i_callV, i_callS, KRet, lget, lput, lputL, lcl0, isL, lv0, List.map_cons, List.map_nil, List.length_cons, List.length_nil, List.cons_append, List.nil_append, Nat.reduceAdd, Nat.reduceSub, Nat.reduceLeDiff, List.replicate_succ, List.replicate_zero, List.getElem?_cons_succ, List.getElem?_cons_zero, List.set_cons_succ, List.set_cons_zero, true_and, and_true, if_true, if_false, ↓reduceIte, Nat.le_refl, Value.category, va_up_app, eq_self, stp, Nat.reduceBEq, Bool.or_false, Bool.false_or, Bool.true_or, Bool.or_true, or_true, true_or, bx_uu, implies_true, true_implies, not_true, not_false_eq_true, false_implies, and_self, Nat.reduceLT, Int32.reduceAdd, Int32.reduceSub, Int32.reduceMul, Int32.reduceLE, Int32.reduceLT, Int32.reduceToNatClampNeg, va_rf_some, Bool.false_eq_true, k_X3_lengthsFor_0 ca, k_X3_lengthsFor_1 ca, k_X3_lengthsFor_28 ca, k_X3_lengthsFor_29 ca, k_X3_lengthsFor_32 ca, k_X3_lengthsFor_33 ca, k_X3_lengthsFor_36 ca, k_X3_lengthsFor_37 ca, k_X3_lengthsFor_38 ca, k_X3_lengthsFor_39 ca, k_X3_lengthsFor_40 ca, k_X3_lengthsFor_43 ca, k_X3_lengthsFor_44 ca, k_X3_lengthsFor_45 ca, k_X3_lengthsFor_46 ca, k_X3_lengthsFor_49 ca, k_X3_lengthsFor_50 ca, k_X3_lengthsFor_51 ca, k_X3_lengthsFor_52 ca, k_X3_lengthsFor_55 ca, e0']
    try clear hF hF0 F
    refine ⟨x5, nx, tm, pp, nI pc, ox, tx, Nf, b, by omega, by omega, rfl, e0, hN, hT, fun L hL => ?_⟩
    have k0 := hs L hL
    refine goN go (stp []) 160 _ _ _ _ _ _ (fun F hF hF0 => ?_)
    simp only [hF, hF0, ite_not, i_push, i_iload, i_lload, i_aload, i_istore, i_astore, i_lstore, i_iinc, i_bin, i_dv, i_un, i_lbin, i_lsh, i_i2l, i_l2i, i_lcmp, i_dup, i_dup2, i_pop, i_if, i_icmp, i_goto, swG, i_sw, i_getf, i_puti, i_putz, i_putr, i_ald, i_lald, i_aald, i_ast, i_last, i_aast, i_alen, i_new, i_newi, i_newl, i_newq, i_oinit, i_ret, i_zret, i_lret, i_vret, catS, tk, rpush, isO, i_m1, i_m2, i_acopy, i_callV, i_callS, KRet, lget, lput, lputL, lcl0, isL, lv0, List.map_cons, List.map_nil, List.length_cons, List.length_nil, List.cons_append, List.nil_append, Nat.reduceAdd, Nat.reduceSub, Nat.reduceLeDiff, List.replicate_succ, List.replicate_zero, List.getElem?_cons_succ, List.getElem?_cons_zero, List.set_cons_succ, List.set_cons_zero, true_and, and_true, if_true, if_false, ↓reduceIte, Nat.le_refl, Value.category, va_up_app, eq_self, stp, Nat.reduceBEq, Bool.or_false, Bool.false_or, Bool.true_or, Bool.or_true, or_true, true_or, bx_uu, implies_true, true_implies, not_true, not_false_eq_true, false_implies, and_self, Nat.reduceLT, Int32.reduceAdd, Int32.reduceSub, Int32.reduceMul, Int32.reduceLE, Int32.reduceLT, Int32.reduceToNatClampNeg, va_rf_some, Bool.false_eq_true, k_X3_lengthsFor_0 ca, k_X3_lengthsFor_1 ca, k_X3_lengthsFor_28 ca, k_X3_lengthsFor_29 ca, k_X3_lengthsFor_32 ca, k_X3_lengthsFor_33 ca, k_X3_lengthsFor_36 ca, k_X3_lengthsFor_37 ca, k_X3_lengthsFor_38 ca, k_X3_lengthsFor_39 ca, k_X3_lengthsFor_40 ca, k_X3_lengthsFor_43 ca, k_X3_lengthsFor_44 ca, k_X3_lengthsFor_45 ca, k_X3_lengthsFor_46 ca, k_X3_lengthsFor_49 ca, k_X3_lengthsFor_50 ca, k_X3_lengthsFor_51 ca, k_X3_lengthsFor_52 ca, k_X3_lengthsFor_55 ca]
    try clear hF hF0 F
    exact k0
  · rw [show nI 3 = (3 : Int32) from rfl]
    refine goN go (stp [55]) 160 _ _ _ _ _ _ (fun F hF hF0 => ?_)
    simp only [hF, hF0, ite_not, i_push, i_iload, i_lload, i_aload, i_istore, i_astore, i_lstore, i_iinc, i_bin, i_dv, i_un, i_lbin, i_lsh, i_i2l, i_l2i, i_lcmp, i_dup, i_dup2, i_pop, i_if, i_icmp, i_goto, swG, i_sw, i_getf, i_puti, i_putz, i_putr, i_ald, i_lald, i_aald, i_ast, i_last, i_aast, i_alen, i_new, i_newi, i_newl, i_newq, i_oinit, i_ret, i_zret, i_lret, i_vret, catS, tk, rpush, isO, i_m1, i_m2, i_acopy, i_callV, i_callS, KRet, lget, lput, lputL, lcl0, isL, lv0, List.map_cons, List.map_nil, List.length_cons, List.length_nil, List.cons_append, List.nil_append, Nat.reduceAdd, Nat.reduceSub, Nat.reduceLeDiff, List.replicate_succ, List.replicate_zero, List.getElem?_cons_succ, List.getElem?_cons_zero, List.set_cons_succ, List.set_cons_zero, true_and, and_true, if_true, if_false, ↓reduceIte, Nat.le_refl, Value.category, va_up_app, eq_self, stp, Nat.reduceBEq, Bool.or_false, Bool.false_or, Bool.true_or, Bool.or_true, or_true, true_or, bx_uu, implies_true, true_implies, not_true, not_false_eq_true, false_implies, and_self, Nat.reduceLT, Int32.reduceAdd, Int32.reduceSub, Int32.reduceMul, Int32.reduceLE, Int32.reduceLT, Int32.reduceToNatClampNeg, va_rf_some, Bool.false_eq_true, k_X3_lengthsFor_0 ca, k_X3_lengthsFor_1 ca, k_X3_lengthsFor_28 ca, k_X3_lengthsFor_29 ca, k_X3_lengthsFor_32 ca, k_X3_lengthsFor_33 ca, k_X3_lengthsFor_36 ca, k_X3_lengthsFor_37 ca, k_X3_lengthsFor_38 ca, k_X3_lengthsFor_39 ca, k_X3_lengthsFor_40 ca, k_X3_lengthsFor_43 ca, k_X3_lengthsFor_44 ca, k_X3_lengthsFor_45 ca, k_X3_lengthsFor_46 ca, k_X3_lengthsFor_49 ca, k_X3_lengthsFor_50 ca, k_X3_lengthsFor_51 ca, k_X3_lengthsFor_52 ca, k_X3_lengthsFor_55 ca, e0']
    try clear hF hF0 F
    refine ⟨x5, nx, tm, pp, pc, ox, tx, Nf, pr, b, by omega, by omega, rfl, hF, fun L hL => ?_⟩
    have k0 := hs L hL
    refine goN go (stp []) 160 _ _ _ _ _ _ (fun F hF hF0 => ?_)
    simp only [hF, hF0, ite_not, i_push, i_iload, i_lload, i_aload, i_istore, i_astore, i_lstore, i_iinc, i_bin, i_dv, i_un, i_lbin, i_lsh, i_i2l, i_l2i, i_lcmp, i_dup, i_dup2, i_pop, i_if, i_icmp, i_goto, swG, i_sw, i_getf, i_puti, i_putz, i_putr, i_ald, i_lald, i_aald, i_ast, i_last, i_aast, i_alen, i_new, i_newi, i_newl, i_newq, i_oinit, i_ret, i_zret, i_lret, i_vret, catS, tk, rpush, isO, i_m1, i_m2, i_acopy, i_callV, i_callS, KRet, lget, lput, lputL, lcl0, isL, lv0, List.map_cons, List.map_nil, List.length_cons, List.length_nil, List.cons_append, List.nil_append, Nat.reduceAdd, Nat.reduceSub, Nat.reduceLeDiff, List.replicate_succ, List.replicate_zero, List.getElem?_cons_succ, List.getElem?_cons_zero, List.set_cons_succ, List.set_cons_zero, true_and, and_true, if_true, if_false, ↓reduceIte, Nat.le_refl, Value.category, va_up_app, eq_self, stp, Nat.reduceBEq, Bool.or_false, Bool.false_or, Bool.true_or, Bool.or_true, or_true, true_or, bx_uu, implies_true, true_implies, not_true, not_false_eq_true, false_implies, and_self, Nat.reduceLT, Int32.reduceAdd, Int32.reduceSub, Int32.reduceMul, Int32.reduceLE, Int32.reduceLT, Int32.reduceToNatClampNeg, va_rf_some, Bool.false_eq_true, k_X3_lengthsFor_0 ca, k_X3_lengthsFor_1 ca, k_X3_lengthsFor_28 ca, k_X3_lengthsFor_29 ca, k_X3_lengthsFor_32 ca, k_X3_lengthsFor_33 ca, k_X3_lengthsFor_36 ca, k_X3_lengthsFor_37 ca, k_X3_lengthsFor_38 ca, k_X3_lengthsFor_39 ca, k_X3_lengthsFor_40 ca, k_X3_lengthsFor_43 ca, k_X3_lengthsFor_44 ca, k_X3_lengthsFor_45 ca, k_X3_lengthsFor_46 ca, k_X3_lengthsFor_49 ca, k_X3_lengthsFor_50 ca, k_X3_lengthsFor_51 ca, k_X3_lengthsFor_52 ca, k_X3_lengthsFor_55 ca]
    try clear hF hF0 F
    exact k0
theorem Lens_nz {Nf : Nat → Nat} {L : Int32} {P : Nat} {b : Int} (hN : Nm Nf) (hP : P ≤ 3) (h : Lens Nf L P b) : L = 0 ↔ ∀ T : Int, ¬ canZ Nf P T b := by
  constructor
  · intro z T hT
    have hb := canZ_bd hN hT
    have := (h T.toNat (by omega)).mpr (by rw [show (T.toNat : Int) = T by omega]; exact hT)
    rw [z, b_0] at this
    cases this
  · intro z
    refine b_ext fun i hi => ?_
    rw [b_0]
    cases q : bt L i with
    | false => rfl
    | true => exact absurd ((h i hi).mp q) (z i)
def sp_X3_fewestParts (ca : Nat → ClassId) : SPEC := fun av h post => ∃ x5 nx tm pp pc ox tx Nf pr b, -50000 ≤ b ∧ b ≤ 50000 ∧ av = [.ref x5, .int (zI b)] ∧ SFc ca h x5 nx tm pp pc ox tx Nf pr ∧ ((∀ P T, P ≤ 3 → ¬ canZ Nf P T b) → post (some (.int (-1))) h) ∧ (∀ P T, P ≤ 3 → canZ Nf P T b → (∀ P' T', P' < P → ¬ canZ Nf P' T' b) → post (some (.int (nI P))) h)
def k_X3_fewestParts (ca : Nat → ClassId) : Nat → IT := fun pc => lk pc [(0, i_push (.int 0) 1),
  (1, i_istore 2 2),
  (2, i_iload 2 3),
  (3, i_push (.int 3) 4),
  (4, i_icmp (fun x y => y < x) 24 7),
  (7, i_aload 0 8),
  (8, i_iload 2 9),
  (9, i_iload 1 10),
  (10, i_callV 3 2 0 0 0 0 (sp_X3_lengthsFor ca) 13),
  (13, i_if (fun x => x = 0) 18 16),
  (16, i_iload 2 17),
  (17, i_ret),
  (18, i_iinc 2 1 21),
  (21, i_goto 2),
  (24, i_push (.int (-1)) 25),
  (25, i_ret)]
set_option maxRecDepth 20000 in
theorem t_X3_fewestParts : Tb k_X3_fewestParts yX3_fewestParts cX3_fewestParts 3 (some .int) 4 0 0 := by
  intro l D ca A p e s m args below meth c post X
  unfold k_X3_fewestParts
  refine snd_cons (snd_iconst X dX3_fewestParts_0 (by decide)) ?_
  refine snd_cons (snd_istore_n X dX3_fewestParts_1 rfl (by decide)) ?_
  refine snd_cons (snd_iload_n X dX3_fewestParts_2 rfl) ?_
  refine snd_cons (snd_iconst X dX3_fewestParts_3 (by decide)) ?_
  refine snd_cons (snd_icmp_gt X dX3_fewestParts_4 (by decide)) ?_
  refine snd_cons (snd_aload_n X dX3_fewestParts_7 rfl) ?_
  refine snd_cons (snd_iload_n X dX3_fewestParts_8 rfl) ?_
  refine snd_cons (snd_iload_n X dX3_fewestParts_9 rfl) ?_
  refine snd_cons (snd_callV X Fk3 (ok_X3_lengthsFor l D ca) rfl rfl w_549 w_551 wp_10 w_8 w_552 (by decide) (by decide) dX3_fewestParts_10) ?_
  refine snd_cons (snd_if_eq X dX3_fewestParts_13 (by decide)) ?_
  refine snd_cons (snd_iload_n X dX3_fewestParts_16 rfl) ?_
  refine snd_cons (snd_ret X dX3_fewestParts_17) ?_
  refine snd_cons (snd_iinc X dX3_fewestParts_18 (by decide) (by decide)) ?_
  refine snd_cons (snd_goto X dX3_fewestParts_21 (by decide)) ?_
  refine snd_cons (snd_iconst X dX3_fewestParts_24 (by decide)) ?_
  refine snd_cons (snd_ret X dX3_fewestParts_25) ?_
  exact snd_nil
theorem k_X3_fewestParts_0 (ca : Nat → ClassId) : k_X3_fewestParts ca 0 = i_push (.int 0) 1 := rfl
theorem k_X3_fewestParts_1 (ca : Nat → ClassId) : k_X3_fewestParts ca 1 = i_istore 2 2 := rfl
theorem k_X3_fewestParts_2 (ca : Nat → ClassId) : k_X3_fewestParts ca 2 = i_iload 2 3 := rfl
theorem k_X3_fewestParts_3 (ca : Nat → ClassId) : k_X3_fewestParts ca 3 = i_push (.int 3) 4 := rfl
theorem k_X3_fewestParts_4 (ca : Nat → ClassId) : k_X3_fewestParts ca 4 = i_icmp (fun x y => y < x) 24 7 := rfl
theorem k_X3_fewestParts_7 (ca : Nat → ClassId) : k_X3_fewestParts ca 7 = i_aload 0 8 := rfl
theorem k_X3_fewestParts_8 (ca : Nat → ClassId) : k_X3_fewestParts ca 8 = i_iload 2 9 := rfl
theorem k_X3_fewestParts_9 (ca : Nat → ClassId) : k_X3_fewestParts ca 9 = i_iload 1 10 := rfl
theorem k_X3_fewestParts_10 (ca : Nat → ClassId) : k_X3_fewestParts ca 10 = i_callV 3 2 0 0 0 0 (sp_X3_lengthsFor ca) 13 := rfl
theorem k_X3_fewestParts_13 (ca : Nat → ClassId) : k_X3_fewestParts ca 13 = i_if (fun x => x = 0) 18 16 := rfl
theorem k_X3_fewestParts_16 (ca : Nat → ClassId) : k_X3_fewestParts ca 16 = i_iload 2 17 := rfl
theorem k_X3_fewestParts_17 (ca : Nat → ClassId) : k_X3_fewestParts ca 17 = i_ret := rfl
theorem k_X3_fewestParts_18 (ca : Nat → ClassId) : k_X3_fewestParts ca 18 = i_iinc 2 1 21 := rfl
theorem k_X3_fewestParts_21 (ca : Nat → ClassId) : k_X3_fewestParts ca 21 = i_goto 2 := rfl
theorem k_X3_fewestParts_24 (ca : Nat → ClassId) : k_X3_fewestParts ca 24 = i_push (.int (-1)) 25 := rfl
theorem k_X3_fewestParts_25 (ca : Nat → ClassId) : k_X3_fewestParts ca 25 = i_ret := rfl
set_option maxHeartbeats 4000000 in
set_option maxRecDepth 20000 in
theorem ok_X3_fewestParts (l : Launch) (D : va_G) (ca : Nat → ClassId) : OkAll l D ca yX3_fewestParts cX3_fewestParts 3 (some .int) 4 0 0 (sp_X3_fewestParts ca) := by
  intro av h post hs
  obtain ⟨x5, nx, tm, pp, pc, ox, tx, Nf, pr, b, hb1, hb2, rfl, hF, hA, hB⟩ := hs
  obtain ⟨e0, hNu, hPr, hO, hT, hN⟩ := id hF
  have e0' := e0
  unfold eSF at e0'
  refine okM_of t_X3_fewestParts (by decide +kernel) (c1_ref (c1_int c1_nil)) (Nat.le_of_ble_eq_true rfl) ?_
  intro K go
  have key : ∀ r P, P + r = 4 → (∀ P' T', P' < P → ¬ canZ Nf P' T' b) → K 0 0 2 [some (.ref x5), some (.int (zI b)), some (.int (nI P))] [] h := by
    intro r
    induction r with
    | zero =>
      intro P hP hno
      have hP : P = 4 := hP
      subst hP
      have e : nI 4 = 4 := rfl
      have k0 := hA (fun P T hP => hno P T (by omega))
      refine goN go (stp []) 160 _ _ _ _ _ _ (fun F hF hF0 => ?_)
      simp only [hF, hF0, ite_not, i_push, i_iload, i_lload, i_aload, i_istore, i_astore, i_lstore, i_iinc, i_bin, i_dv, i_un, i_lbin, i_lsh, i_i2l, i_l2i, i_lcmp, i_dup, i_dup2, i_pop, i_if, i_icmp, i_goto, swG, i_sw, i_getf, i_puti, i_putz, i_putr, i_ald, i_lald, i_aald, i_ast, i_last, i_aast, i_alen, i_new, i_newi, i_newl, i_newq, i_oinit, i_ret, i_zret, i_lret, i_vret, catS, tk, rpush, isO, i_m1, i_m2, i_acopy, i_callV, i_callS, KRet, lget, lput, lputL, lcl0, isL, lv0, List.map_cons, List.map_nil, List.length_cons, List.length_nil, List.cons_append, List.nil_append, Nat.reduceAdd, Nat.reduceSub, Nat.reduceLeDiff, List.replicate_succ, List.replicate_zero, List.getElem?_cons_succ, List.getElem?_cons_zero, List.set_cons_succ, List.set_cons_zero, true_and, and_true, if_true, if_false, ↓reduceIte, Nat.le_refl, Value.category, va_up_app, eq_self, stp, Nat.reduceBEq, Bool.or_false, Bool.false_or, Bool.true_or, Bool.or_true, or_true, true_or, bx_uu, implies_true, true_implies, not_true, not_false_eq_true, false_implies, and_self, Nat.reduceLT, Int32.reduceAdd, Int32.reduceSub, Int32.reduceMul, Int32.reduceLE, Int32.reduceLT, Int32.reduceToNatClampNeg, va_rf_some, Bool.false_eq_true, k_X3_fewestParts_0 ca, k_X3_fewestParts_1 ca, k_X3_fewestParts_2 ca, k_X3_fewestParts_3 ca, k_X3_fewestParts_4 ca, k_X3_fewestParts_7 ca, k_X3_fewestParts_8 ca, k_X3_fewestParts_9 ca, k_X3_fewestParts_10 ca, k_X3_fewestParts_13 ca, k_X3_fewestParts_16 ca, k_X3_fewestParts_17 ca, k_X3_fewestParts_18 ca, k_X3_fewestParts_21 ca, k_X3_fewestParts_24 ca, k_X3_fewestParts_25 ca, e]
      try clear hF hF0 F
      exact k0
    | succ r ih =>
      intro P hP hno
      have g1 : ((3 : Int32) < nI P) = False := eq_false (nI_nlt (a := 3) (by omega) (by omega))
      refine goN go (stp [13]) 160 _ _ _ _ _ _ (fun F hF hF0 => ?_)
      simp only [hF, hF0, ite_not, i_push, i_iload, i_lload, i_aload, i_istore, i_astore, i_lstore, i_iinc, i_bin, i_dv, i_un, i_lbin, i_lsh, i_i2l, i_l2i, i_lcmp, i_dup, i_dup2, i_pop, i_if, i_icmp, i_goto, swG, i_sw, i_getf, i_puti, i_putz, i_putr, i_ald, i_lald, i_aald, i_ast, i_last, i_aast, i_alen, i_new, i_newi, i_newl, i_newq, i_oinit, i_ret, i_zret, i_lret, i_vret, catS, tk, rpush, isO, i_m1, i_m2, i_acopy, i_callV, i_callS, KRet, lget, lput, lputL, lcl0, isL, lv0, List.map_cons, List.map_nil, List.length_cons, List.length_nil, List.cons_append, List.nil_append, Nat.reduceAdd, Nat.reduceSub, Nat.reduceLeDiff, List.replicate_succ, List.replicate_zero, List.getElem?_cons_succ, List.getElem?_cons_zero, List.set_cons_succ, List.set_cons_zero, true_and, and_true, if_true, if_false, ↓reduceIte, Nat.le_refl, Value.category, va_up_app, eq_self, stp, Nat.reduceBEq, Bool.or_false, Bool.false_or, Bool.true_or, Bool.or_true, or_true, true_or, bx_uu, implies_true, true_implies, not_true, not_false_eq_true, false_implies, and_self, Nat.reduceLT, Int32.reduceAdd, Int32.reduceSub, Int32.reduceMul, Int32.reduceLE, Int32.reduceLT, Int32.reduceToNatClampNeg, va_rf_some, Bool.false_eq_true, k_X3_fewestParts_0 ca, k_X3_fewestParts_1 ca, k_X3_fewestParts_2 ca, k_X3_fewestParts_3 ca, k_X3_fewestParts_4 ca, k_X3_fewestParts_7 ca, k_X3_fewestParts_8 ca, k_X3_fewestParts_9 ca, k_X3_fewestParts_10 ca, k_X3_fewestParts_13 ca, k_X3_fewestParts_16 ca, k_X3_fewestParts_17 ca, k_X3_fewestParts_18 ca, k_X3_fewestParts_21 ca, k_X3_fewestParts_24 ca, k_X3_fewestParts_25 ca, g1, e0']
      try clear hF hF0 F
      refine ⟨x5, nx, tm, pp, pc, ox, tx, Nf, pr, P, b, by omega, hb1, hb2, rfl, hF, fun L hL => ?_⟩
      have hnz := Lens_nz hN (by omega) hL
      by_cases q : L = 0
      · have k0 := ih (P + 1) (by omega) (fun P' T' hP' => by
          by_cases z : P' = P
          · rw [z]; exact hnz.mp q T'
          · exact hno P' T' (by omega))
        refine goN go (stp [2]) 160 _ _ _ _ _ _ (fun F hF hF0 => ?_)
        simp only [hF, hF0, ite_not, i_push, i_iload, i_lload, i_aload, i_istore, i_astore, i_lstore, i_iinc, i_bin, i_dv, i_un, i_lbin, i_lsh, i_i2l, i_l2i, i_lcmp, i_dup, i_dup2, i_pop, i_if, i_icmp, i_goto, swG, i_sw, i_getf, i_puti, i_putz, i_putr, i_ald, i_lald, i_aald, i_ast, i_last, i_aast, i_alen, i_new, i_newi, i_newl, i_newq, i_oinit, i_ret, i_zret, i_lret, i_vret, catS, tk, rpush, isO, i_m1, i_m2, i_acopy, i_callV, i_callS, KRet, lget, lput, lputL, lcl0, isL, lv0, List.map_cons, List.map_nil, List.length_cons, List.length_nil, List.cons_append, List.nil_append, Nat.reduceAdd, Nat.reduceSub, Nat.reduceLeDiff, List.replicate_succ, List.replicate_zero, List.getElem?_cons_succ, List.getElem?_cons_zero, List.set_cons_succ, List.set_cons_zero, true_and, and_true, if_true, if_false, ↓reduceIte, Nat.le_refl, Value.category, va_up_app, eq_self, stp, Nat.reduceBEq, Bool.or_false, Bool.false_or, Bool.true_or, Bool.or_true, or_true, true_or, bx_uu, implies_true, true_implies, not_true, not_false_eq_true, false_implies, and_self, Nat.reduceLT, Int32.reduceAdd, Int32.reduceSub, Int32.reduceMul, Int32.reduceLE, Int32.reduceLT, Int32.reduceToNatClampNeg, va_rf_some, Bool.false_eq_true, k_X3_fewestParts_0 ca, k_X3_fewestParts_1 ca, k_X3_fewestParts_2 ca, k_X3_fewestParts_3 ca, k_X3_fewestParts_4 ca, k_X3_fewestParts_7 ca, k_X3_fewestParts_8 ca, k_X3_fewestParts_9 ca, k_X3_fewestParts_10 ca, k_X3_fewestParts_13 ca, k_X3_fewestParts_16 ca, k_X3_fewestParts_17 ca, k_X3_fewestParts_18 ca, k_X3_fewestParts_21 ca, k_X3_fewestParts_24 ca, k_X3_fewestParts_25 ca, q, a_1]
        try clear hF hF0 F
        exact k0
      · obtain ⟨T, hT⟩ := Classical.not_forall.mp (fun z => q (hnz.mpr z))
        have k0 := hB P T (by omega) (Classical.not_not.mp hT) hno
        refine goN go (stp []) 160 _ _ _ _ _ _ (fun F hF hF0 => ?_)
        simp only [hF, hF0, ite_not, i_push, i_iload, i_lload, i_aload, i_istore, i_astore, i_lstore, i_iinc, i_bin, i_dv, i_un, i_lbin, i_lsh, i_i2l, i_l2i, i_lcmp, i_dup, i_dup2, i_pop, i_if, i_icmp, i_goto, swG, i_sw, i_getf, i_puti, i_putz, i_putr, i_ald, i_lald, i_aald, i_ast, i_last, i_aast, i_alen, i_new, i_newi, i_newl, i_newq, i_oinit, i_ret, i_zret, i_lret, i_vret, catS, tk, rpush, isO, i_m1, i_m2, i_acopy, i_callV, i_callS, KRet, lget, lput, lputL, lcl0, isL, lv0, List.map_cons, List.map_nil, List.length_cons, List.length_nil, List.cons_append, List.nil_append, Nat.reduceAdd, Nat.reduceSub, Nat.reduceLeDiff, List.replicate_succ, List.replicate_zero, List.getElem?_cons_succ, List.getElem?_cons_zero, List.set_cons_succ, List.set_cons_zero, true_and, and_true, if_true, if_false, ↓reduceIte, Nat.le_refl, Value.category, va_up_app, eq_self, stp, Nat.reduceBEq, Bool.or_false, Bool.false_or, Bool.true_or, Bool.or_true, or_true, true_or, bx_uu, implies_true, true_implies, not_true, not_false_eq_true, false_implies, and_self, Nat.reduceLT, Int32.reduceAdd, Int32.reduceSub, Int32.reduceMul, Int32.reduceLE, Int32.reduceLT, Int32.reduceToNatClampNeg, va_rf_some, Bool.false_eq_true, k_X3_fewestParts_0 ca, k_X3_fewestParts_1 ca, k_X3_fewestParts_2 ca, k_X3_fewestParts_3 ca, k_X3_fewestParts_4 ca, k_X3_fewestParts_7 ca, k_X3_fewestParts_8 ca, k_X3_fewestParts_9 ca, k_X3_fewestParts_10 ca, k_X3_fewestParts_13 ca, k_X3_fewestParts_16 ca, k_X3_fewestParts_17 ca, k_X3_fewestParts_18 ca, k_X3_fewestParts_21 ca, k_X3_fewestParts_24 ca, k_X3_fewestParts_25 ca, q]
        try clear hF hF0 F
        exact k0
  have k0 := key 4 0 (by omega) (fun P' T' h => absurd h (by omega))
  rw [nI_0] at k0
  refine goN go (stp [2]) 160 _ _ _ _ _ _ (fun F hF hF0 => ?_)
  simp only [hF, hF0, ite_not, i_push, i_iload, i_lload, i_aload, i_istore, i_astore, i_lstore, i_iinc, i_bin, i_dv, i_un, i_lbin, i_lsh, i_i2l, i_l2i, i_lcmp, i_dup, i_dup2, i_pop, i_if, i_icmp, i_goto, swG, i_sw, i_getf, i_puti, i_putz, i_putr, i_ald, i_lald, i_aald, i_ast, i_last, i_aast, i_alen, i_new, i_newi, i_newl, i_newq, i_oinit, i_ret, i_zret, i_lret, i_vret, catS, tk, rpush, isO, i_m1, i_m2, i_acopy, i_callV, i_callS, KRet, lget, lput, lputL, lcl0, isL, lv0, List.map_cons, List.map_nil, List.length_cons, List.length_nil, List.cons_append, List.nil_append, Nat.reduceAdd, Nat.reduceSub, Nat.reduceLeDiff, List.replicate_succ, List.replicate_zero, List.getElem?_cons_succ, List.getElem?_cons_zero, List.set_cons_succ, List.set_cons_zero, true_and, and_true, if_true, if_false, ↓reduceIte, Nat.le_refl, Value.category, va_up_app, eq_self, stp, Nat.reduceBEq, Bool.or_false, Bool.false_or, Bool.true_or, Bool.or_true, or_true, true_or, bx_uu, implies_true, true_implies, not_true, not_false_eq_true, false_implies, and_self, Nat.reduceLT, Int32.reduceAdd, Int32.reduceSub, Int32.reduceMul, Int32.reduceLE, Int32.reduceLT, Int32.reduceToNatClampNeg, va_rf_some, Bool.false_eq_true, k_X3_fewestParts_0 ca, k_X3_fewestParts_1 ca, k_X3_fewestParts_2 ca, k_X3_fewestParts_3 ca, k_X3_fewestParts_4 ca, k_X3_fewestParts_7 ca, k_X3_fewestParts_8 ca, k_X3_fewestParts_9 ca, k_X3_fewestParts_10 ca, k_X3_fewestParts_13 ca, k_X3_fewestParts_16 ca, k_X3_fewestParts_17 ca, k_X3_fewestParts_18 ca, k_X3_fewestParts_21 ca, k_X3_fewestParts_24 ca, k_X3_fewestParts_25 ca]
  try clear hF hF0 F
  exact k0
theorem and1 (x : Int32) : (x &&& 1 = 0) = (bt x 0 = false) := propext ⟨fun h => by
    have := congrArg (fun y => bt y 0) h
    simp only [b_and, b_0, b_1 0 (by decide), decide_true, Bool.and_true] at this
    exact this, fun h => b_ext fun i hi => by
    rw [b_and, b_0, b_1 i hi]
    by_cases q : i = 0
    · rw [q, h]; rfl
    · rw [decide_eq_false q, Bool.and_false]⟩
theorem sh1 (L : Int32) (l : Nat) (hl : l < 31) : ((L >>> (nI l &&& 31)) &&& 1 = 0) = (bt L l = false) := by
  rw [and1, b_sshr l (by omega) L (by decide), if_pos (by omega), Nat.add_zero]
def sp_X3_leastLength (_ : Nat → ClassId) : SPEC := fun av h post => ∃ L M, av = [.int L] ∧ M ≤ 27 ∧ (∀ T, T < M → bt L T = false) ∧ (M = 27 ∨ bt L M = true) ∧ post (some (.int (nI M))) h
def k_X3_leastLength (ca : Nat → ClassId) : Nat → IT := fun pc => lk pc [(0, i_push (.int 0) 1),
  (1, i_istore 1 2),
  (2, i_iload 1 3),
  (3, i_push (.int 27) 5),
  (5, i_icmp (fun x y => y ≤ x) 22 8),
  (8, i_iload 0 9),
  (9, i_iload 1 10),
  (10, i_bin (fun x y => x >>> (y &&& 31)) 11),
  (11, i_push (.int 1) 12),
  (12, i_bin (fun x y => x &&& y) 13),
  (13, i_if (fun x => ¬ x = 0) 22 16),
  (16, i_iinc 1 1 19),
  (19, i_goto 2),
  (22, i_iload 1 23),
  (23, i_ret)]
set_option maxRecDepth 20000 in
theorem t_X3_leastLength : Tb k_X3_leastLength yX3_leastLength cX3_leastLength 2 (some .int) 0 0 0 := by
  intro l D ca A p e s m args below meth c post X
  unfold k_X3_leastLength
  refine snd_cons (snd_iconst X dX3_leastLength_0 (by decide)) ?_
  refine snd_cons (snd_istore_n X dX3_leastLength_1 rfl (by decide)) ?_
  refine snd_cons (snd_iload_n X dX3_leastLength_2 rfl) ?_
  refine snd_cons (snd_bipush X dX3_leastLength_3 (by decide)) ?_
  refine snd_cons (snd_icmp_ge X dX3_leastLength_5 (by decide)) ?_
  refine snd_cons (snd_iload_n X dX3_leastLength_8 rfl) ?_
  refine snd_cons (snd_iload_n X dX3_leastLength_9 rfl) ?_
  refine snd_cons (snd_ishr X dX3_leastLength_10) ?_
  refine snd_cons (snd_iconst X dX3_leastLength_11 (by decide)) ?_
  refine snd_cons (snd_iand X dX3_leastLength_12) ?_
  refine snd_cons (snd_if_ne X dX3_leastLength_13 (by decide)) ?_
  refine snd_cons (snd_iinc X dX3_leastLength_16 (by decide) (by decide)) ?_
  refine snd_cons (snd_goto X dX3_leastLength_19 (by decide)) ?_
  refine snd_cons (snd_iload_n X dX3_leastLength_22 rfl) ?_
  refine snd_cons (snd_ret X dX3_leastLength_23) ?_
  exact snd_nil
theorem k_X3_leastLength_0 (ca : Nat → ClassId) : k_X3_leastLength ca 0 = i_push (.int 0) 1 := rfl
theorem k_X3_leastLength_1 (ca : Nat → ClassId) : k_X3_leastLength ca 1 = i_istore 1 2 := rfl
theorem k_X3_leastLength_2 (ca : Nat → ClassId) : k_X3_leastLength ca 2 = i_iload 1 3 := rfl
theorem k_X3_leastLength_3 (ca : Nat → ClassId) : k_X3_leastLength ca 3 = i_push (.int 27) 5 := rfl
theorem k_X3_leastLength_5 (ca : Nat → ClassId) : k_X3_leastLength ca 5 = i_icmp (fun x y => y ≤ x) 22 8 := rfl
theorem k_X3_leastLength_8 (ca : Nat → ClassId) : k_X3_leastLength ca 8 = i_iload 0 9 := rfl
theorem k_X3_leastLength_9 (ca : Nat → ClassId) : k_X3_leastLength ca 9 = i_iload 1 10 := rfl
theorem k_X3_leastLength_10 (ca : Nat → ClassId) : k_X3_leastLength ca 10 = i_bin (fun x y => x >>> (y &&& 31)) 11 := rfl
theorem k_X3_leastLength_11 (ca : Nat → ClassId) : k_X3_leastLength ca 11 = i_push (.int 1) 12 := rfl
theorem k_X3_leastLength_12 (ca : Nat → ClassId) : k_X3_leastLength ca 12 = i_bin (fun x y => x &&& y) 13 := rfl
theorem k_X3_leastLength_13 (ca : Nat → ClassId) : k_X3_leastLength ca 13 = i_if (fun x => ¬ x = 0) 22 16 := rfl
theorem k_X3_leastLength_16 (ca : Nat → ClassId) : k_X3_leastLength ca 16 = i_iinc 1 1 19 := rfl
theorem k_X3_leastLength_19 (ca : Nat → ClassId) : k_X3_leastLength ca 19 = i_goto 2 := rfl
theorem k_X3_leastLength_22 (ca : Nat → ClassId) : k_X3_leastLength ca 22 = i_iload 1 23 := rfl
theorem k_X3_leastLength_23 (ca : Nat → ClassId) : k_X3_leastLength ca 23 = i_ret := rfl
set_option maxHeartbeats 4000000 in
set_option maxRecDepth 20000 in
theorem ok_X3_leastLength (l : Launch) (D : va_G) (ca : Nat → ClassId) : OkAll l D ca yX3_leastLength cX3_leastLength 2 (some .int) 0 0 0 (sp_X3_leastLength ca) := by
  intro av h post hs
  obtain ⟨L, M, rfl, hM, h1, h2, hs⟩ := hs
  refine okM_of t_X3_leastLength (by decide +kernel) (c1_int c1_nil) (Nat.le_of_ble_eq_true rfl) ?_
  intro K go
  have key : ∀ r l, l + r = M → K 0 0 2 [some (.int L), some (.int (nI l))] [] h := by
    intro r
    induction r with
    | zero =>
      intro l hl
      have hl : l = M := hl
      subst hl
      by_cases q : l = 27
      · have g1 : ((27 : Int32) ≤ nI l) = True := eq_true (by rw [q]; decide)
        refine goN go (stp []) 160 _ _ _ _ _ _ (fun F hF hF0 => ?_)
        simp only [hF, hF0, ite_not, i_push, i_iload, i_lload, i_aload, i_istore, i_astore, i_lstore, i_iinc, i_bin, i_dv, i_un, i_lbin, i_lsh, i_i2l, i_l2i, i_lcmp, i_dup, i_dup2, i_pop, i_if, i_icmp, i_goto, swG, i_sw, i_getf, i_puti, i_putz, i_putr, i_ald, i_lald, i_aald, i_ast, i_last, i_aast, i_alen, i_new, i_newi, i_newl, i_newq, i_oinit, i_ret, i_zret, i_lret, i_vret, catS, tk, rpush, isO, i_m1, i_m2, i_acopy, i_callV, i_callS, KRet, lget, lput, lputL, lcl0, isL, lv0, List.map_cons, List.map_nil, List.length_cons, List.length_nil, List.cons_append, List.nil_append, Nat.reduceAdd, Nat.reduceSub, Nat.reduceLeDiff, List.replicate_succ, List.replicate_zero, List.getElem?_cons_succ, List.getElem?_cons_zero, List.set_cons_succ, List.set_cons_zero, true_and, and_true, if_true, if_false, ↓reduceIte, Nat.le_refl, Value.category, va_up_app, eq_self, stp, Nat.reduceBEq, Bool.or_false, Bool.false_or, Bool.true_or, Bool.or_true, or_true, true_or, bx_uu, implies_true, true_implies, not_true, not_false_eq_true, false_implies, and_self, Nat.reduceLT, Int32.reduceAdd, Int32.reduceSub, Int32.reduceMul, Int32.reduceLE, Int32.reduceLT, Int32.reduceToNatClampNeg, va_rf_some, Bool.false_eq_true, k_X3_leastLength_0 ca, k_X3_leastLength_1 ca, k_X3_leastLength_2 ca, k_X3_leastLength_3 ca, k_X3_leastLength_5 ca, k_X3_leastLength_8 ca, k_X3_leastLength_9 ca, k_X3_leastLength_10 ca, k_X3_leastLength_11 ca, k_X3_leastLength_12 ca, k_X3_leastLength_13 ca, k_X3_leastLength_16 ca, k_X3_leastLength_19 ca, k_X3_leastLength_22 ca, k_X3_leastLength_23 ca, g1]
        try clear hF hF0 F
        exact hs
      · have g1 : ((27 : Int32) ≤ nI l) = False := eq_false (nI_ge (b := 27) (by omega) (by decide))
        have g2 : ((L >>> (nI l &&& 31)) &&& 1 = 0) = False := eq_false (by rw [sh1 L l (by omega)]; rcases h2 with z | z; exact absurd z q; rw [z]; decide)
        refine goN go (stp []) 160 _ _ _ _ _ _ (fun F hF hF0 => ?_)
        simp only [hF, hF0, ite_not, i_push, i_iload, i_lload, i_aload, i_istore, i_astore, i_lstore, i_iinc, i_bin, i_dv, i_un, i_lbin, i_lsh, i_i2l, i_l2i, i_lcmp, i_dup, i_dup2, i_pop, i_if, i_icmp, i_goto, swG, i_sw, i_getf, i_puti, i_putz, i_putr, i_ald, i_lald, i_aald, i_ast, i_last, i_aast, i_alen, i_new, i_newi, i_newl, i_newq, i_oinit, i_ret, i_zret, i_lret, i_vret, catS, tk, rpush, isO, i_m1, i_m2, i_acopy, i_callV, i_callS, KRet, lget, lput, lputL, lcl0, isL, lv0, List.map_cons, List.map_nil, List.length_cons, List.length_nil, List.cons_append, List.nil_append, Nat.reduceAdd, Nat.reduceSub, Nat.reduceLeDiff, List.replicate_succ, List.replicate_zero, List.getElem?_cons_succ, List.getElem?_cons_zero, List.set_cons_succ, List.set_cons_zero, true_and, and_true, if_true, if_false, ↓reduceIte, Nat.le_refl, Value.category, va_up_app, eq_self, stp, Nat.reduceBEq, Bool.or_false, Bool.false_or, Bool.true_or, Bool.or_true, or_true, true_or, bx_uu, implies_true, true_implies, not_true, not_false_eq_true, false_implies, and_self, Nat.reduceLT, Int32.reduceAdd, Int32.reduceSub, Int32.reduceMul, Int32.reduceLE, Int32.reduceLT, Int32.reduceToNatClampNeg, va_rf_some, Bool.false_eq_true, k_X3_leastLength_0 ca, k_X3_leastLength_1 ca, k_X3_leastLength_2 ca, k_X3_leastLength_3 ca, k_X3_leastLength_5 ca, k_X3_leastLength_8 ca, k_X3_leastLength_9 ca, k_X3_leastLength_10 ca, k_X3_leastLength_11 ca, k_X3_leastLength_12 ca, k_X3_leastLength_13 ca, k_X3_leastLength_16 ca, k_X3_leastLength_19 ca, k_X3_leastLength_22 ca, k_X3_leastLength_23 ca, g1, g2]
        try clear hF hF0 F
        exact hs
    | succ r ih =>
      intro l hl
      have g1 : ((27 : Int32) ≤ nI l) = False := eq_false (nI_ge (b := 27) (by omega) (by decide))
      have g2 : ((L >>> (nI l &&& 31)) &&& 1 = 0) = True := eq_true (by rw [sh1 L l (by omega)]; exact h1 l (by omega))
      have k0 := ih (l + 1) (by omega)
      refine goN go (stp [2]) 160 _ _ _ _ _ _ (fun F hF hF0 => ?_)
      simp only [hF, hF0, ite_not, i_push, i_iload, i_lload, i_aload, i_istore, i_astore, i_lstore, i_iinc, i_bin, i_dv, i_un, i_lbin, i_lsh, i_i2l, i_l2i, i_lcmp, i_dup, i_dup2, i_pop, i_if, i_icmp, i_goto, swG, i_sw, i_getf, i_puti, i_putz, i_putr, i_ald, i_lald, i_aald, i_ast, i_last, i_aast, i_alen, i_new, i_newi, i_newl, i_newq, i_oinit, i_ret, i_zret, i_lret, i_vret, catS, tk, rpush, isO, i_m1, i_m2, i_acopy, i_callV, i_callS, KRet, lget, lput, lputL, lcl0, isL, lv0, List.map_cons, List.map_nil, List.length_cons, List.length_nil, List.cons_append, List.nil_append, Nat.reduceAdd, Nat.reduceSub, Nat.reduceLeDiff, List.replicate_succ, List.replicate_zero, List.getElem?_cons_succ, List.getElem?_cons_zero, List.set_cons_succ, List.set_cons_zero, true_and, and_true, if_true, if_false, ↓reduceIte, Nat.le_refl, Value.category, va_up_app, eq_self, stp, Nat.reduceBEq, Bool.or_false, Bool.false_or, Bool.true_or, Bool.or_true, or_true, true_or, bx_uu, implies_true, true_implies, not_true, not_false_eq_true, false_implies, and_self, Nat.reduceLT, Int32.reduceAdd, Int32.reduceSub, Int32.reduceMul, Int32.reduceLE, Int32.reduceLT, Int32.reduceToNatClampNeg, va_rf_some, Bool.false_eq_true, k_X3_leastLength_0 ca, k_X3_leastLength_1 ca, k_X3_leastLength_2 ca, k_X3_leastLength_3 ca, k_X3_leastLength_5 ca, k_X3_leastLength_8 ca, k_X3_leastLength_9 ca, k_X3_leastLength_10 ca, k_X3_leastLength_11 ca, k_X3_leastLength_12 ca, k_X3_leastLength_13 ca, k_X3_leastLength_16 ca, k_X3_leastLength_19 ca, k_X3_leastLength_22 ca, k_X3_leastLength_23 ca, g1, g2, a_1]
      try clear hF hF0 F
      exact k0
  have k0 := key M 0 (by omega)
  rw [nI_0] at k0
  refine goN go (stp [2]) 160 _ _ _ _ _ _ (fun F hF hF0 => ?_)
  simp only [hF, hF0, ite_not, i_push, i_iload, i_lload, i_aload, i_istore, i_astore, i_lstore, i_iinc, i_bin, i_dv, i_un, i_lbin, i_lsh, i_i2l, i_l2i, i_lcmp, i_dup, i_dup2, i_pop, i_if, i_icmp, i_goto, swG, i_sw, i_getf, i_puti, i_putz, i_putr, i_ald, i_lald, i_aald, i_ast, i_last, i_aast, i_alen, i_new, i_newi, i_newl, i_newq, i_oinit, i_ret, i_zret, i_lret, i_vret, catS, tk, rpush, isO, i_m1, i_m2, i_acopy, i_callV, i_callS, KRet, lget, lput, lputL, lcl0, isL, lv0, List.map_cons, List.map_nil, List.length_cons, List.length_nil, List.cons_append, List.nil_append, Nat.reduceAdd, Nat.reduceSub, Nat.reduceLeDiff, List.replicate_succ, List.replicate_zero, List.getElem?_cons_succ, List.getElem?_cons_zero, List.set_cons_succ, List.set_cons_zero, true_and, and_true, if_true, if_false, ↓reduceIte, Nat.le_refl, Value.category, va_up_app, eq_self, stp, Nat.reduceBEq, Bool.or_false, Bool.false_or, Bool.true_or, Bool.or_true, or_true, true_or, bx_uu, implies_true, true_implies, not_true, not_false_eq_true, false_implies, and_self, Nat.reduceLT, Int32.reduceAdd, Int32.reduceSub, Int32.reduceMul, Int32.reduceLE, Int32.reduceLT, Int32.reduceToNatClampNeg, va_rf_some, Bool.false_eq_true, k_X3_leastLength_0 ca, k_X3_leastLength_1 ca, k_X3_leastLength_2 ca, k_X3_leastLength_3 ca, k_X3_leastLength_5 ca, k_X3_leastLength_8 ca, k_X3_leastLength_9 ca, k_X3_leastLength_10 ca, k_X3_leastLength_11 ca, k_X3_leastLength_12 ca, k_X3_leastLength_13 ca, k_X3_leastLength_16 ca, k_X3_leastLength_19 ca, k_X3_leastLength_22 ca, k_X3_leastLength_23 ca]
  try clear hF hF0 F
  exact k0
