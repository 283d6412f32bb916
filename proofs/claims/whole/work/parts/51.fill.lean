/-! Arrays.fill -/
def fil (f : Nat → Int32) (x : Int32) (n : Nat) : Nat → Int32 := flo (fun _ => x) f n
def sp_J7_fill_53178 (ca : Nat → ClassId) : SPEC := fun av h post => match av with
  | [.ref a, .int x] => (match h a with
    | some (.inl (c0, n, .inl f)) => c0 = ca 0 ∧ n < 2147483648 ∧ post none (va_up h a (some (.inl (ca 0, n, .inl (fil f x n)))))
    | _ => False)
  | _ => False
def k_J7_fill_53178 (ca : Nat → ClassId) : Nat → IT := fun pc => lk pc [(0, i_push (.int 0) 1),
  (1, i_istore 2 2),
  (2, i_aload 0 3),
  (3, i_alen (ca 0) 4),
  (4, i_istore 3 5),
  (5, i_iload 2 6),
  (6, i_iload 3 7),
  (7, i_icmp (fun x y => y ≤ x) 20 10),
  (10, i_aload 0 11),
  (11, i_iload 2 12),
  (12, i_iload 1 13),
  (13, i_ast (fun x => x) (ca 0) 14),
  (14, i_iinc 2 1 17),
  (17, i_goto 5),
  (20, i_vret)]
set_option maxRecDepth 20000 in
theorem t_J7_fill_53178 : Tb k_J7_fill_53178 yJ7_fill_53178 cJ7_fill_53178 4 none 0 0 0 := by
  intro l D ca A p e s m args below meth c post X
  unfold k_J7_fill_53178
  refine snd_cons (snd_iconst X dJ7_fill_53178_0 (by decide)) ?_
  refine snd_cons (snd_istore_n X dJ7_fill_53178_1 rfl (by decide)) ?_
  refine snd_cons (snd_aload_n X dJ7_fill_53178_2 rfl) ?_
  refine snd_cons (snd_alen X dJ7_fill_53178_3) ?_
  refine snd_cons (snd_istore_n X dJ7_fill_53178_4 rfl (by decide)) ?_
  refine snd_cons (snd_iload_n X dJ7_fill_53178_5 rfl) ?_
  refine snd_cons (snd_iload_n X dJ7_fill_53178_6 rfl) ?_
  refine snd_cons (snd_icmp_ge X dJ7_fill_53178_7 (by decide)) ?_
  refine snd_cons (snd_aload_n X dJ7_fill_53178_10 rfl) ?_
  refine snd_cons (snd_iload_n X dJ7_fill_53178_11 rfl) ?_
  refine snd_cons (snd_iload_n X dJ7_fill_53178_12 rfl) ?_
  refine snd_cons (snd_iastore X dJ7_fill_53178_13) ?_
  refine snd_cons (snd_iinc X dJ7_fill_53178_14 (by decide) (by decide)) ?_
  refine snd_cons (snd_goto X dJ7_fill_53178_17 (by decide)) ?_
  refine snd_cons (snd_vret X dJ7_fill_53178_20) ?_
  exact snd_nil
theorem k_J7_fill_53178_0 (ca : Nat → ClassId) : k_J7_fill_53178 ca 0 = i_push (.int 0) 1 := rfl
theorem k_J7_fill_53178_1 (ca : Nat → ClassId) : k_J7_fill_53178 ca 1 = i_istore 2 2 := rfl
theorem k_J7_fill_53178_2 (ca : Nat → ClassId) : k_J7_fill_53178 ca 2 = i_aload 0 3 := rfl
theorem k_J7_fill_53178_3 (ca : Nat → ClassId) : k_J7_fill_53178 ca 3 = i_alen (ca 0) 4 := rfl
theorem k_J7_fill_53178_4 (ca : Nat → ClassId) : k_J7_fill_53178 ca 4 = i_istore 3 5 := rfl
theorem k_J7_fill_53178_5 (ca : Nat → ClassId) : k_J7_fill_53178 ca 5 = i_iload 2 6 := rfl
theorem k_J7_fill_53178_6 (ca : Nat → ClassId) : k_J7_fill_53178 ca 6 = i_iload 3 7 := rfl
theorem k_J7_fill_53178_7 (ca : Nat → ClassId) : k_J7_fill_53178 ca 7 = i_icmp (fun x y => y ≤ x) 20 10 := rfl
theorem k_J7_fill_53178_10 (ca : Nat → ClassId) : k_J7_fill_53178 ca 10 = i_aload 0 11 := rfl
theorem k_J7_fill_53178_11 (ca : Nat → ClassId) : k_J7_fill_53178 ca 11 = i_iload 2 12 := rfl
theorem k_J7_fill_53178_12 (ca : Nat → ClassId) : k_J7_fill_53178 ca 12 = i_iload 1 13 := rfl
theorem k_J7_fill_53178_13 (ca : Nat → ClassId) : k_J7_fill_53178 ca 13 = i_ast (fun x => x) (ca 0) 14 := rfl
theorem k_J7_fill_53178_14 (ca : Nat → ClassId) : k_J7_fill_53178 ca 14 = i_iinc 2 1 17 := rfl
theorem k_J7_fill_53178_17 (ca : Nat → ClassId) : k_J7_fill_53178 ca 17 = i_goto 5 := rfl
theorem k_J7_fill_53178_20 (ca : Nat → ClassId) : k_J7_fill_53178 ca 20 = i_vret := rfl
set_option maxHeartbeats 4000000 in
set_option maxRecDepth 20000 in
theorem ok_J7_fill_53178 (l : Launch) (D : va_G) (ca : Nat → ClassId) : OkAll l D ca yJ7_fill_53178 cJ7_fill_53178 4 none 0 0 0 (sp_J7_fill_53178 ca) := by
  intro av h post hs
  unfold sp_J7_fill_53178 at hs
  split at hs
  · split at hs
    · rename_i a x _ c0 n f ha
      obtain ⟨rfl, hn, hs⟩ := hs
      refine okM_of t_J7_fill_53178 (by decide +kernel) (c1_ref (c1_int c1_nil)) (Nat.le_of_ble_eq_true rfl) ?_
      intro K go
      have key : ∀ r i, i + r = n → K 0 0 5 [some (.ref a), some (.int x), some (.int (nI i)), some (.int (nI n))] [] (va_up h a (some (.inl (ca 0, n, .inl (fil f x i))))) := by
        intro r
        induction r with
        | zero =>
          intro i hi
          have hi : i = n := hi
          subst hi
          refine go (stp [5]) 6 _ _ _ _ _ _ ?_
          simp only [wpS, ite_not, i_push, i_iload, i_lload, i_aload, i_istore, i_astore, i_lstore, i_iinc, i_bin, i_dv, i_un, i_lbin, i_lsh, i_i2l, i_l2i, i_lcmp, i_dup, i_dup2, i_pop, i_if, i_icmp, i_goto, swG, i_sw, i_getf, i_puti, i_putz, i_putr, i_ald, i_lald, i_aald, i_ast, i_last, i_aast, i_alen, i_new, i_newi, i_newl, i_newq, i_oinit, i_ret, i_zret, i_lret, i_vret, catS, tk, rpush, isO, i_m1, i_m2, i_acopy, i_callV, i_callS, KRet, lget, lput, lputL, lcl0, isL, lv0, List.map_cons, List.map_nil, List.length_cons, List.length_nil, List.cons_append, List.nil_append, Nat.reduceAdd, Nat.reduceSub, Nat.reduceLeDiff, List.replicate_succ, List.replicate_zero, List.getElem?_cons_succ, List.getElem?_cons_zero, List.set_cons_succ, List.set_cons_zero, true_and, and_true, if_true, if_false, reduceIte, Nat.le_refl, Value.category, va_up_app, eq_self, stp, Nat.reduceBEq, Bool.or_false, Bool.false_or, Bool.true_or, Bool.or_true, or_true, true_or, bx_uu, implies_true, true_implies, not_true, not_false_eq_true, false_implies, and_self, Nat.reduceLT, Int32.reduceAdd, Int32.reduceSub, Int32.reduceMul, Int32.reduceLE, Int32.reduceLT, Int32.reduceToNatClampNeg, va_rf_some, Bool.false_eq_true, k_J7_fill_53178_0 ca, k_J7_fill_53178_1 ca, k_J7_fill_53178_2 ca, k_J7_fill_53178_3 ca, k_J7_fill_53178_4 ca, k_J7_fill_53178_5 ca, k_J7_fill_53178_6 ca, k_J7_fill_53178_7 ca, k_J7_fill_53178_10 ca, k_J7_fill_53178_11 ca, k_J7_fill_53178_12 ca, k_J7_fill_53178_13 ca, k_J7_fill_53178_14 ca, k_J7_fill_53178_17 ca, k_J7_fill_53178_20 ca, Int32.le_refl]
          exact hs
        | succ r ih =>
          intro i hi
          have g1 : ¬ nI n ≤ nI i := nI_ge (by omega) (by omega)
          have z0 : vp_in (nI i) n := vp_in_nI (by omega) (by omega)
          have z1 : (nI i).toNatClampNeg = i := nI_clamp (by omega)
          have e : upd (fil f x i) i x = fil f x (i + 1) := flo_s (f := fun _ => x)
          refine go (stp [5]) 12 _ _ _ _ _ _ ?_
          simp only [wpS, ite_not, i_push, i_iload, i_lload, i_aload, i_istore, i_astore, i_lstore, i_iinc, i_bin, i_dv, i_un, i_lbin, i_lsh, i_i2l, i_l2i, i_lcmp, i_dup, i_dup2, i_pop, i_if, i_icmp, i_goto, swG, i_sw, i_getf, i_puti, i_putz, i_putr, i_ald, i_lald, i_aald, i_ast, i_last, i_aast, i_alen, i_new, i_newi, i_newl, i_newq, i_oinit, i_ret, i_zret, i_lret, i_vret, catS, tk, rpush, isO, i_m1, i_m2, i_acopy, i_callV, i_callS, KRet, lget, lput, lputL, lcl0, isL, lv0, List.map_cons, List.map_nil, List.length_cons, List.length_nil, List.cons_append, List.nil_append, Nat.reduceAdd, Nat.reduceSub, Nat.reduceLeDiff, List.replicate_succ, List.replicate_zero, List.getElem?_cons_succ, List.getElem?_cons_zero, List.set_cons_succ, List.set_cons_zero, true_and, and_true, if_true, if_false, reduceIte, Nat.le_refl, Value.category, va_up_app, eq_self, stp, Nat.reduceBEq, Bool.or_false, Bool.false_or, Bool.true_or, Bool.or_true, or_true, true_or, bx_uu, implies_true, true_implies, not_true, not_false_eq_true, false_implies, and_self, Nat.reduceLT, Int32.reduceAdd, Int32.reduceSub, Int32.reduceMul, Int32.reduceLE, Int32.reduceLT, Int32.reduceToNatClampNeg, va_rf_some, Bool.false_eq_true, k_J7_fill_53178_0 ca, k_J7_fill_53178_1 ca, k_J7_fill_53178_2 ca, k_J7_fill_53178_3 ca, k_J7_fill_53178_4 ca, k_J7_fill_53178_5 ca, k_J7_fill_53178_6 ca, k_J7_fill_53178_7 ca, k_J7_fill_53178_10 ca, k_J7_fill_53178_11 ca, k_J7_fill_53178_12 ca, k_J7_fill_53178_13 ca, k_J7_fill_53178_14 ca, k_J7_fill_53178_17 ca, k_J7_fill_53178_20 ca, g1, z0, z1, a_1, e]
          exact ih (i + 1) (by omega)
      have k0 := key n 0 (by omega)
      have e0 : fil f x 0 = f := flo_0
      rw [e0, up_id ha, nI_0] at k0
      have en : Int32.ofNat n = nI n := rfl
      refine go (stp [5]) 8 _ _ _ _ _ _ ?_
      simp only [wpS, ite_not, i_push, i_iload, i_lload, i_aload, i_istore, i_astore, i_lstore, i_iinc, i_bin, i_dv, i_un, i_lbin, i_lsh, i_i2l, i_l2i, i_lcmp, i_dup, i_dup2, i_pop, i_if, i_icmp, i_goto, swG, i_sw, i_getf, i_puti, i_putz, i_putr, i_ald, i_lald, i_aald, i_ast, i_last, i_aast, i_alen, i_new, i_newi, i_newl, i_newq, i_oinit, i_ret, i_zret, i_lret, i_vret, catS, tk, rpush, isO, i_m1, i_m2, i_acopy, i_callV, i_callS, KRet, lget, lput, lputL, lcl0, isL, lv0, List.map_cons, List.map_nil, List.length_cons, List.length_nil, List.cons_append, List.nil_append, Nat.reduceAdd, Nat.reduceSub, Nat.reduceLeDiff, List.replicate_succ, List.replicate_zero, List.getElem?_cons_succ, List.getElem?_cons_zero, List.set_cons_succ, List.set_cons_zero, true_and, and_true, if_true, if_false, reduceIte, Nat.le_refl, Value.category, va_up_app, eq_self, stp, Nat.reduceBEq, Bool.or_false, Bool.false_or, Bool.true_or, Bool.or_true, or_true, true_or, bx_uu, implies_true, true_implies, not_true, not_false_eq_true, false_implies, and_self, Nat.reduceLT, Int32.reduceAdd, Int32.reduceSub, Int32.reduceMul, Int32.reduceLE, Int32.reduceLT, Int32.reduceToNatClampNeg, va_rf_some, Bool.false_eq_true, k_J7_fill_53178_0 ca, k_J7_fill_53178_1 ca, k_J7_fill_53178_2 ca, k_J7_fill_53178_3 ca, k_J7_fill_53178_4 ca, k_J7_fill_53178_5 ca, k_J7_fill_53178_6 ca, k_J7_fill_53178_7 ca, k_J7_fill_53178_10 ca, k_J7_fill_53178_11 ca, k_J7_fill_53178_12 ca, k_J7_fill_53178_13 ca, k_J7_fill_53178_14 ca, k_J7_fill_53178_17 ca, k_J7_fill_53178_20 ca, ha, en]
      exact k0
    · exact hs.elim
  · exact hs.elim
