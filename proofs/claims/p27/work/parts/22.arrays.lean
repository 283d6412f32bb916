/-! Strip: methods over its rows of parts -/
theorem vpl {i : Int32} {n : Nat} (h : ¬ (i < 0 ∨ n ≤ i.toNatClampNeg)) : vp_in i n := h
def sumF (f : Nat → Int32) : Nat → Int32
  | 0 => 0
  | k + 1 => sumF f k + f k
def rateP (fl fu fw fn : Nat → Int32) (i : Nat) : Int32 := fl i * (fn (fu i).toNatClampNeg - fn (fw i).toNatClampNeg)
def rateF (fl fu fw fn : Nat → Int32) : Nat → Int32 := sumF (rateP fl fu fw fn)
theorem tnI {x : Int32} (h : ¬ x < 0) : ∃ N, N < 2 ^ 31 ∧ x = nI N ∧ x.toNatClampNeg = N := by
  obtain ⟨j, h1, h2⟩ := nI_of h
  exact ⟨j, h1, h2, by rw [h2]; exact nI_clamp h1⟩
def sp_X5_wholeLength (ca : Nat → ClassId) : SPEC := fun av h post => match av with
  | [.ref a] => (match h a with
    | some (.inr (5, [.ref l, .ref u, .ref w, .int n, .int lo, .int hi, .int la, .int pu, .int sn, .int ki, .int si])) => (match h l with
      | some (.inl (c', m, .inl f)) => c' = ca 0 ∧ m < 2147483648 ∧ ¬ n < 0 ∧ n.toNatClampNeg ≤ m ∧ post (some (.int (sumF f n.toNatClampNeg))) h
      | _ => False)
    | _ => False)
  | _ => False
def k_X5_wholeLength (ca : Nat → ClassId) : Nat → IT := fun pc => lk pc [(0, i_push (.int 0) 1),
  (1, i_istore 1 2),
  (2, i_push (.int 0) 3),
  (3, i_istore 2 4),
  (4, i_iload 2 5),
  (5, i_aload 0 6),
  (6, i_getf 5 3 9),
  (9, i_icmp (fun x y => y ≤ x) 27 12),
  (12, i_iload 1 13),
  (13, i_aload 0 14),
  (14, i_getf 5 0 17),
  (17, i_iload 2 18),
  (18, i_ald (ca 0) 19),
  (19, i_bin (fun x y => x + y) 20),
  (20, i_istore 1 21),
  (21, i_iinc 2 1 24),
  (24, i_goto 4),
  (27, i_iload 1 28),
  (28, i_ret)]
set_option maxRecDepth 20000 in
theorem t_X5_wholeLength : Tb k_X5_wholeLength yX5_wholeLength cX5_wholeLength 3 (some .int) 0 0 0 := by
  intro l D ca A p e s m args below meth c post X
  unfold k_X5_wholeLength
  refine snd_cons (snd_iconst X dX5_wholeLength_0 (by decide)) ?_
  refine snd_cons (snd_istore_n X dX5_wholeLength_1 rfl (by decide)) ?_
  refine snd_cons (snd_iconst X dX5_wholeLength_2 (by decide)) ?_
  refine snd_cons (snd_istore_n X dX5_wholeLength_3 rfl (by decide)) ?_
  refine snd_cons (snd_iload_n X dX5_wholeLength_4 rfl) ?_
  refine snd_cons (snd_aload_n X dX5_wholeLength_5 rfl) ?_
  refine snd_cons (snd_getf X Fk5 3 (by decide) w_41 dX5_wholeLength_6) ?_
  refine snd_cons (snd_icmp_ge X dX5_wholeLength_9 (by decide)) ?_
  refine snd_cons (snd_iload_n X dX5_wholeLength_12 rfl) ?_
  refine snd_cons (snd_aload_n X dX5_wholeLength_13 rfl) ?_
  refine snd_cons (snd_getf X Fk5 0 (by decide) w_35 dX5_wholeLength_14) ?_
  refine snd_cons (snd_iload_n X dX5_wholeLength_17 rfl) ?_
  refine snd_cons (snd_iaload X dX5_wholeLength_18) ?_
  refine snd_cons (snd_iadd X dX5_wholeLength_19) ?_
  refine snd_cons (snd_istore_n X dX5_wholeLength_20 rfl (by decide)) ?_
  refine snd_cons (snd_iinc X dX5_wholeLength_21 (by decide) (by decide)) ?_
  refine snd_cons (snd_goto X dX5_wholeLength_24 (by decide)) ?_
  refine snd_cons (snd_iload_n X dX5_wholeLength_27 rfl) ?_
  refine snd_cons (snd_ret X dX5_wholeLength_28) ?_
  exact snd_nil
theorem k_X5_wholeLength_0 (ca : Nat → ClassId) : k_X5_wholeLength ca 0 = i_push (.int 0) 1 := rfl
theorem k_X5_wholeLength_1 (ca : Nat → ClassId) : k_X5_wholeLength ca 1 = i_istore 1 2 := rfl
theorem k_X5_wholeLength_2 (ca : Nat → ClassId) : k_X5_wholeLength ca 2 = i_push (.int 0) 3 := rfl
theorem k_X5_wholeLength_3 (ca : Nat → ClassId) : k_X5_wholeLength ca 3 = i_istore 2 4 := rfl
theorem k_X5_wholeLength_4 (ca : Nat → ClassId) : k_X5_wholeLength ca 4 = i_iload 2 5 := rfl
theorem k_X5_wholeLength_5 (ca : Nat → ClassId) : k_X5_wholeLength ca 5 = i_aload 0 6 := rfl
theorem k_X5_wholeLength_6 (ca : Nat → ClassId) : k_X5_wholeLength ca 6 = i_getf 5 3 9 := rfl
theorem k_X5_wholeLength_9 (ca : Nat → ClassId) : k_X5_wholeLength ca 9 = i_icmp (fun x y => y ≤ x) 27 12 := rfl
theorem k_X5_wholeLength_12 (ca : Nat → ClassId) : k_X5_wholeLength ca 12 = i_iload 1 13 := rfl
theorem k_X5_wholeLength_13 (ca : Nat → ClassId) : k_X5_wholeLength ca 13 = i_aload 0 14 := rfl
theorem k_X5_wholeLength_14 (ca : Nat → ClassId) : k_X5_wholeLength ca 14 = i_getf 5 0 17 := rfl
theorem k_X5_wholeLength_17 (ca : Nat → ClassId) : k_X5_wholeLength ca 17 = i_iload 2 18 := rfl
theorem k_X5_wholeLength_18 (ca : Nat → ClassId) : k_X5_wholeLength ca 18 = i_ald (ca 0) 19 := rfl
theorem k_X5_wholeLength_19 (ca : Nat → ClassId) : k_X5_wholeLength ca 19 = i_bin (fun x y => x + y) 20 := rfl
theorem k_X5_wholeLength_20 (ca : Nat → ClassId) : k_X5_wholeLength ca 20 = i_istore 1 21 := rfl
theorem k_X5_wholeLength_21 (ca : Nat → ClassId) : k_X5_wholeLength ca 21 = i_iinc 2 1 24 := rfl
theorem k_X5_wholeLength_24 (ca : Nat → ClassId) : k_X5_wholeLength ca 24 = i_goto 4 := rfl
theorem k_X5_wholeLength_27 (ca : Nat → ClassId) : k_X5_wholeLength ca 27 = i_iload 1 28 := rfl
theorem k_X5_wholeLength_28 (ca : Nat → ClassId) : k_X5_wholeLength ca 28 = i_ret := rfl
set_option maxHeartbeats 4000000 in
set_option maxRecDepth 20000 in
theorem ok_X5_wholeLength (l : Launch) (D : va_G) (ca : Nat → ClassId) : OkAll l D ca yX5_wholeLength cX5_wholeLength 3 (some .int) 0 0 0 (sp_X5_wholeLength ca) := by
  intro av h post hs
  unfold sp_X5_wholeLength at hs
  split at hs
  · split at hs
    · rename_i a _ l u w n lo hi la pu sn ki si ha
      split at hs
      · rename_i c' m f hl
        obtain ⟨hc, hm, hn, hle, hs⟩ := hs
        subst hc
        obtain ⟨N, hN, e1, e2⟩ := tnI hn
        rw [e2] at hs hle
        subst e1
        refine okM_of t_X5_wholeLength (by decide +kernel) (c1_ref c1_nil) (Nat.le_of_ble_eq_true rfl) ?_
        intro K go
        have key : ∀ r k, k + r = N → K 0 0 4 [some (.ref a), some (.int (sumF f k)), some (.int (nI k))] [] h := by
          intro r
          induction r with
          | zero =>
            intro k hk
            have hk : k = N := hk
            subst hk
            refine go (stp [4]) 40 _ _ _ _ _ _ ?_
            simp only [wpS, ite_not, i_push, i_iload, i_lload, i_aload, i_istore, i_astore, i_lstore, i_iinc, i_bin, i_dv, i_un, i_lbin, i_lsh, i_i2l, i_l2i, i_lcmp, i_dup, i_dup2, i_pop, i_if, i_icmp, i_goto, swG, i_sw, i_getf, i_puti, i_putz, i_putr, i_ald, i_lald, i_aald, i_ast, i_last, i_aast, i_alen, i_new, i_newi, i_newl, i_newq, i_oinit, i_ret, i_zret, i_lret, i_vret, catS, tk, rpush, isO, i_m1, i_m2, i_acopy, i_callV, i_callS, KRet, lget, lput, lputL, lcl0, isL, lv0, List.map_cons, List.map_nil, List.length_cons, List.length_nil, List.cons_append, List.nil_append, Nat.reduceAdd, Nat.reduceSub, Nat.reduceLeDiff, List.replicate_succ, List.replicate_zero, List.getElem?_cons_succ, List.getElem?_cons_zero, List.set_cons_succ, List.set_cons_zero, true_and, and_true, if_true, if_false, reduceIte, Nat.le_refl, Value.category, va_up_app, eq_self, stp, Nat.reduceBEq, Bool.or_false, Bool.false_or, Bool.true_or, Bool.or_true, or_true, true_or, bx_uu, implies_true, true_implies, not_true, not_false_eq_true, false_implies, and_self, Nat.reduceLT, Int32.reduceAdd, Int32.reduceSub, Int32.reduceMul, Int32.reduceLE, Int32.reduceLT, Int32.reduceToNatClampNeg, va_rf_some, Bool.false_eq_true, k_X5_wholeLength_0 ca, k_X5_wholeLength_1 ca, k_X5_wholeLength_2 ca, k_X5_wholeLength_3 ca, k_X5_wholeLength_4 ca, k_X5_wholeLength_5 ca, k_X5_wholeLength_6 ca, k_X5_wholeLength_9 ca, k_X5_wholeLength_12 ca, k_X5_wholeLength_13 ca, k_X5_wholeLength_14 ca, k_X5_wholeLength_17 ca, k_X5_wholeLength_18 ca, k_X5_wholeLength_19 ca, k_X5_wholeLength_20 ca, k_X5_wholeLength_21 ca, k_X5_wholeLength_24 ca, k_X5_wholeLength_27 ca, k_X5_wholeLength_28 ca, ha, hl, Int32.le_refl]
            exact hs
          | succ r ih =>
            intro k hk
            have h1 : ¬ nI N ≤ nI k := nI_ge (by omega) hN
            have h2 : vp_in (nI k) m := vp_in_nI (by omega) (by omega)
            have h3 : (nI k).toNatClampNeg = k := nI_clamp (by omega)
            have h4 : nI k + 1 = nI (k + 1) := nI_1 k
            refine go (stp [4]) 40 _ _ _ _ _ _ ?_
            simp only [wpS, ite_not, i_push, i_iload, i_lload, i_aload, i_istore, i_astore, i_lstore, i_iinc, i_bin, i_dv, i_un, i_lbin, i_lsh, i_i2l, i_l2i, i_lcmp, i_dup, i_dup2, i_pop, i_if, i_icmp, i_goto, swG, i_sw, i_getf, i_puti, i_putz, i_putr, i_ald, i_lald, i_aald, i_ast, i_last, i_aast, i_alen, i_new, i_newi, i_newl, i_newq, i_oinit, i_ret, i_zret, i_lret, i_vret, catS, tk, rpush, isO, i_m1, i_m2, i_acopy, i_callV, i_callS, KRet, lget, lput, lputL, lcl0, isL, lv0, List.map_cons, List.map_nil, List.length_cons, List.length_nil, List.cons_append, List.nil_append, Nat.reduceAdd, Nat.reduceSub, Nat.reduceLeDiff, List.replicate_succ, List.replicate_zero, List.getElem?_cons_succ, List.getElem?_cons_zero, List.set_cons_succ, List.set_cons_zero, true_and, and_true, if_true, if_false, reduceIte, Nat.le_refl, Value.category, va_up_app, eq_self, stp, Nat.reduceBEq, Bool.or_false, Bool.false_or, Bool.true_or, Bool.or_true, or_true, true_or, bx_uu, implies_true, true_implies, not_true, not_false_eq_true, false_implies, and_self, Nat.reduceLT, Int32.reduceAdd, Int32.reduceSub, Int32.reduceMul, Int32.reduceLE, Int32.reduceLT, Int32.reduceToNatClampNeg, va_rf_some, Bool.false_eq_true, k_X5_wholeLength_0 ca, k_X5_wholeLength_1 ca, k_X5_wholeLength_2 ca, k_X5_wholeLength_3 ca, k_X5_wholeLength_4 ca, k_X5_wholeLength_5 ca, k_X5_wholeLength_6 ca, k_X5_wholeLength_9 ca, k_X5_wholeLength_12 ca, k_X5_wholeLength_13 ca, k_X5_wholeLength_14 ca, k_X5_wholeLength_17 ca, k_X5_wholeLength_18 ca, k_X5_wholeLength_19 ca, k_X5_wholeLength_20 ca, k_X5_wholeLength_21 ca, k_X5_wholeLength_24 ca, k_X5_wholeLength_27 ca, k_X5_wholeLength_28 ca, ha, hl, h1, h2, h3, h4]
            exact ih (k + 1) (by omega)
        refine go (stp [4]) 40 _ _ _ _ _ _ ?_
        simp only [wpS, ite_not, i_push, i_iload, i_lload, i_aload, i_istore, i_astore, i_lstore, i_iinc, i_bin, i_dv, i_un, i_lbin, i_lsh, i_i2l, i_l2i, i_lcmp, i_dup, i_dup2, i_pop, i_if, i_icmp, i_goto, swG, i_sw, i_getf, i_puti, i_putz, i_putr, i_ald, i_lald, i_aald, i_ast, i_last, i_aast, i_alen, i_new, i_newi, i_newl, i_newq, i_oinit, i_ret, i_zret, i_lret, i_vret, catS, tk, rpush, isO, i_m1, i_m2, i_acopy, i_callV, i_callS, KRet, lget, lput, lputL, lcl0, isL, lv0, List.map_cons, List.map_nil, List.length_cons, List.length_nil, List.cons_append, List.nil_append, Nat.reduceAdd, Nat.reduceSub, Nat.reduceLeDiff, List.replicate_succ, List.replicate_zero, List.getElem?_cons_succ, List.getElem?_cons_zero, List.set_cons_succ, List.set_cons_zero, true_and, and_true, if_true, if_false, reduceIte, Nat.le_refl, Value.category, va_up_app, eq_self, stp, Nat.reduceBEq, Bool.or_false, Bool.false_or, Bool.true_or, Bool.or_true, or_true, true_or, bx_uu, implies_true, true_implies, not_true, not_false_eq_true, false_implies, and_self, Nat.reduceLT, Int32.reduceAdd, Int32.reduceSub, Int32.reduceMul, Int32.reduceLE, Int32.reduceLT, Int32.reduceToNatClampNeg, va_rf_some, Bool.false_eq_true, k_X5_wholeLength_0 ca, k_X5_wholeLength_1 ca, k_X5_wholeLength_2 ca, k_X5_wholeLength_3 ca, k_X5_wholeLength_4 ca, k_X5_wholeLength_5 ca, k_X5_wholeLength_6 ca, k_X5_wholeLength_9 ca, k_X5_wholeLength_12 ca, k_X5_wholeLength_13 ca, k_X5_wholeLength_14 ca, k_X5_wholeLength_17 ca, k_X5_wholeLength_18 ca, k_X5_wholeLength_19 ca, k_X5_wholeLength_20 ca, k_X5_wholeLength_21 ca, k_X5_wholeLength_24 ca, k_X5_wholeLength_27 ca, k_X5_wholeLength_28 ca]
        exact key N 0 (by omega)
      · exact hs.elim
    · exact hs.elim
  · exact hs.elim
def sp_X5_partRate (ca : Nat → ClassId) : SPEC := fun av h post => match av with
  | [.ref a, .int i, .ref b] => (match h a with
    | some (.inr (5, [.ref l, .ref u, .ref w, .int n, .int lo, .int hi, .int la, .int pu, .int sn, .int ki, .int si])) => (match h l with
      | some (.inl (c1, m1, .inl fl)) => (match h u with
        | some (.inl (c2, m2, .inl fu)) => (match h w with
          | some (.inl (c3, m3, .inl fw)) => (match h b with
            | some (.inl (c4, m4, .inl fn)) => c1 = ca 0 ∧ c2 = ca 0 ∧ c3 = ca 0 ∧ c4 = ca 0 ∧ vp_in i m1 ∧ vp_in i m2 ∧ vp_in i m3 ∧ vp_in (fu i.toNatClampNeg) m4 ∧ vp_in (fw i.toNatClampNeg) m4 ∧ post (some (.int (rateP fl fu fw fn i.toNatClampNeg))) h
            | _ => False)
          | _ => False)
        | _ => False)
      | _ => False)
    | _ => False)
  | _ => False
def k_X5_partRate (ca : Nat → ClassId) : Nat → IT := fun pc => lk pc [(0, i_aload 0 1),
  (1, i_getf 5 0 4),
  (4, i_iload 1 5),
  (5, i_ald (ca 0) 6),
  (6, i_aload 2 7),
  (7, i_aload 0 8),
  (8, i_getf 5 1 11),
  (11, i_iload 1 12),
  (12, i_ald (ca 0) 13),
  (13, i_ald (ca 0) 14),
  (14, i_aload 2 15),
  (15, i_aload 0 16),
  (16, i_getf 5 2 19),
  (19, i_iload 1 20),
  (20, i_ald (ca 0) 21),
  (21, i_ald (ca 0) 22),
  (22, i_bin (fun x y => x - y) 23),
  (23, i_bin (fun x y => x * y) 24),
  (24, i_ret)]
set_option maxRecDepth 20000 in
theorem t_X5_partRate : Tb k_X5_partRate yX5_partRate cX5_partRate 3 (some .int) 0 0 0 := by
  intro l D ca A p e s m args below meth c post X
  unfold k_X5_partRate
  refine snd_cons (snd_aload_n X dX5_partRate_0 rfl) ?_
  refine snd_cons (snd_getf X Fk5 0 (by decide) w_35 dX5_partRate_1) ?_
  refine snd_cons (snd_iload_n X dX5_partRate_4 rfl) ?_
  refine snd_cons (snd_iaload X dX5_partRate_5) ?_
  refine snd_cons (snd_aload_n X dX5_partRate_6 rfl) ?_
  refine snd_cons (snd_aload_n X dX5_partRate_7 rfl) ?_
  refine snd_cons (snd_getf X Fk5 1 (by decide) w_37 dX5_partRate_8) ?_
  refine snd_cons (snd_iload_n X dX5_partRate_11 rfl) ?_
  refine snd_cons (snd_iaload X dX5_partRate_12) ?_
  refine snd_cons (snd_iaload X dX5_partRate_13) ?_
  refine snd_cons (snd_aload_n X dX5_partRate_14 rfl) ?_
  refine snd_cons (snd_aload_n X dX5_partRate_15 rfl) ?_
  refine snd_cons (snd_getf X Fk5 2 (by decide) w_39 dX5_partRate_16) ?_
  refine snd_cons (snd_iload_n X dX5_partRate_19 rfl) ?_
  refine snd_cons (snd_iaload X dX5_partRate_20) ?_
  refine snd_cons (snd_iaload X dX5_partRate_21) ?_
  refine snd_cons (snd_isub X dX5_partRate_22) ?_
  refine snd_cons (snd_imul X dX5_partRate_23) ?_
  refine snd_cons (snd_ret X dX5_partRate_24) ?_
  exact snd_nil
theorem k_X5_partRate_0 (ca : Nat → ClassId) : k_X5_partRate ca 0 = i_aload 0 1 := rfl
theorem k_X5_partRate_1 (ca : Nat → ClassId) : k_X5_partRate ca 1 = i_getf 5 0 4 := rfl
theorem k_X5_partRate_4 (ca : Nat → ClassId) : k_X5_partRate ca 4 = i_iload 1 5 := rfl
theorem k_X5_partRate_5 (ca : Nat → ClassId) : k_X5_partRate ca 5 = i_ald (ca 0) 6 := rfl
theorem k_X5_partRate_6 (ca : Nat → ClassId) : k_X5_partRate ca 6 = i_aload 2 7 := rfl
theorem k_X5_partRate_7 (ca : Nat → ClassId) : k_X5_partRate ca 7 = i_aload 0 8 := rfl
theorem k_X5_partRate_8 (ca : Nat → ClassId) : k_X5_partRate ca 8 = i_getf 5 1 11 := rfl
theorem k_X5_partRate_11 (ca : Nat → ClassId) : k_X5_partRate ca 11 = i_iload 1 12 := rfl
theorem k_X5_partRate_12 (ca : Nat → ClassId) : k_X5_partRate ca 12 = i_ald (ca 0) 13 := rfl
theorem k_X5_partRate_13 (ca : Nat → ClassId) : k_X5_partRate ca 13 = i_ald (ca 0) 14 := rfl
theorem k_X5_partRate_14 (ca : Nat → ClassId) : k_X5_partRate ca 14 = i_aload 2 15 := rfl
theorem k_X5_partRate_15 (ca : Nat → ClassId) : k_X5_partRate ca 15 = i_aload 0 16 := rfl
theorem k_X5_partRate_16 (ca : Nat → ClassId) : k_X5_partRate ca 16 = i_getf 5 2 19 := rfl
theorem k_X5_partRate_19 (ca : Nat → ClassId) : k_X5_partRate ca 19 = i_iload 1 20 := rfl
theorem k_X5_partRate_20 (ca : Nat → ClassId) : k_X5_partRate ca 20 = i_ald (ca 0) 21 := rfl
theorem k_X5_partRate_21 (ca : Nat → ClassId) : k_X5_partRate ca 21 = i_ald (ca 0) 22 := rfl
theorem k_X5_partRate_22 (ca : Nat → ClassId) : k_X5_partRate ca 22 = i_bin (fun x y => x - y) 23 := rfl
theorem k_X5_partRate_23 (ca : Nat → ClassId) : k_X5_partRate ca 23 = i_bin (fun x y => x * y) 24 := rfl
theorem k_X5_partRate_24 (ca : Nat → ClassId) : k_X5_partRate ca 24 = i_ret := rfl
set_option maxHeartbeats 4000000 in
set_option maxRecDepth 20000 in
theorem ok_X5_partRate (l : Launch) (D : va_G) (ca : Nat → ClassId) : OkAll l D ca yX5_partRate cX5_partRate 3 (some .int) 0 0 0 (sp_X5_partRate ca) := by
  intro av h post hs
  unfold sp_X5_partRate at hs
  split at hs
  · split at hs
    · rename_i ha
      split at hs
      · rename_i h1
        split at hs
        · rename_i h2
          split at hs
          · rename_i h3
            split at hs
            · rename_i h4
              obtain ⟨rfl, hc2, hc3, hc4, v1, v2, v3, v4, v5, hs⟩ := hs
              subst hc2; subst hc3; subst hc4
              refine okM_of t_X5_partRate (by decide +kernel) (c1_ref (c1_int (c1_ref c1_nil))) (Nat.le_of_ble_eq_true rfl) ?_
              intro K go
              refine go (stp []) 40 _ _ _ _ _ _ ?_
              simp only [wpS, ite_not, i_push, i_iload, i_lload, i_aload, i_istore, i_astore, i_lstore, i_iinc, i_bin, i_dv, i_un, i_lbin, i_lsh, i_i2l, i_l2i, i_lcmp, i_dup, i_dup2, i_pop, i_if, i_icmp, i_goto, swG, i_sw, i_getf, i_puti, i_putz, i_putr, i_ald, i_lald, i_aald, i_ast, i_last, i_aast, i_alen, i_new, i_newi, i_newl, i_newq, i_oinit, i_ret, i_zret, i_lret, i_vret, catS, tk, rpush, isO, i_m1, i_m2, i_acopy, i_callV, i_callS, KRet, lget, lput, lputL, lcl0, isL, lv0, List.map_cons, List.map_nil, List.length_cons, List.length_nil, List.cons_append, List.nil_append, Nat.reduceAdd, Nat.reduceSub, Nat.reduceLeDiff, List.replicate_succ, List.replicate_zero, List.getElem?_cons_succ, List.getElem?_cons_zero, List.set_cons_succ, List.set_cons_zero, true_and, and_true, if_true, if_false, reduceIte, Nat.le_refl, Value.category, va_up_app, eq_self, stp, Nat.reduceBEq, Bool.or_false, Bool.false_or, Bool.true_or, Bool.or_true, or_true, true_or, bx_uu, implies_true, true_implies, not_true, not_false_eq_true, false_implies, and_self, Nat.reduceLT, Int32.reduceAdd, Int32.reduceSub, Int32.reduceMul, Int32.reduceLE, Int32.reduceLT, Int32.reduceToNatClampNeg, va_rf_some, Bool.false_eq_true, k_X5_partRate_0 ca, k_X5_partRate_1 ca, k_X5_partRate_4 ca, k_X5_partRate_5 ca, k_X5_partRate_6 ca, k_X5_partRate_7 ca, k_X5_partRate_8 ca, k_X5_partRate_11 ca, k_X5_partRate_12 ca, k_X5_partRate_13 ca, k_X5_partRate_14 ca, k_X5_partRate_15 ca, k_X5_partRate_16 ca, k_X5_partRate_19 ca, k_X5_partRate_20 ca, k_X5_partRate_21 ca, k_X5_partRate_22 ca, k_X5_partRate_23 ca, k_X5_partRate_24 ca, ha, h1, h2, h3, h4, v1, v2, v3, v4, v5]
              exact hs
            · exact hs.elim
          · exact hs.elim
        · exact hs.elim
      · exact hs.elim
    · exact hs.elim
  · exact hs.elim
def sp_X5_rate (ca : Nat → ClassId) : SPEC := fun av h post => match av with
  | [.ref a, .ref b] => (match h a with
    | some (.inr (5, [.ref l, .ref u, .ref w, .int n, .int lo, .int hi, .int la, .int pu, .int sn, .int ki, .int si])) => (match h l with
      | some (.inl (c1, m1, .inl fl)) => (match h u with
        | some (.inl (c2, m2, .inl fu)) => (match h w with
          | some (.inl (c3, m3, .inl fw)) => (match h b with
            | some (.inl (c4, m4, .inl fn)) => c1 = ca 0 ∧ c2 = ca 0 ∧ c3 = ca 0 ∧ c4 = ca 0 ∧ ¬ n < 0 ∧ n.toNatClampNeg ≤ 8 ∧ m1 = 8 ∧ m2 = 8 ∧ m3 = 8 ∧ (∀ i, i < n.toNatClampNeg → vp_in (fu i) m4 ∧ vp_in (fw i) m4) ∧ post (some (.int (rateF fl fu fw fn n.toNatClampNeg))) h
            | _ => False)
          | _ => False)
        | _ => False)
      | _ => False)
    | _ => False)
  | _ => False
def k_X5_rate (ca : Nat → ClassId) : Nat → IT := fun pc => lk pc [(0, i_push (.int 0) 1),
  (1, i_istore 2 2),
  (2, i_push (.int 0) 3),
  (3, i_istore 3 4),
  (4, i_iload 3 5),
  (5, i_aload 0 6),
  (6, i_getf 5 3 9),
  (9, i_icmp (fun x y => y ≤ x) 27 12),
  (12, i_iload 2 13),
  (13, i_aload 0 14),
  (14, i_iload 3 15),
  (15, i_aload 1 16),
  (16, i_callV 5 2 0 0 0 0 (sp_X5_partRate ca) 19),
  (19, i_bin (fun x y => x + y) 20),
  (20, i_istore 2 21),
  (21, i_iinc 3 1 24),
  (24, i_goto 4),
  (27, i_iload 2 28),
  (28, i_ret)]
set_option maxRecDepth 20000 in
theorem t_X5_rate : Tb k_X5_rate yX5_rate cX5_rate 4 (some .int) 1 0 0 := by
  intro l D ca A p e s m args below meth c post X
  unfold k_X5_rate
  refine snd_cons (snd_iconst X dX5_rate_0 (by decide)) ?_
  refine snd_cons (snd_istore_n X dX5_rate_1 rfl (by decide)) ?_
  refine snd_cons (snd_iconst X dX5_rate_2 (by decide)) ?_
  refine snd_cons (snd_istore_n X dX5_rate_3 rfl (by decide)) ?_
  refine snd_cons (snd_iload_n X dX5_rate_4 rfl) ?_
  refine snd_cons (snd_aload_n X dX5_rate_5 rfl) ?_
  refine snd_cons (snd_getf X Fk5 3 (by decide) w_41 dX5_rate_6) ?_
  refine snd_cons (snd_icmp_ge X dX5_rate_9 (by decide)) ?_
  refine snd_cons (snd_iload_n X dX5_rate_12 rfl) ?_
  refine snd_cons (snd_aload_n X dX5_rate_13 rfl) ?_
  refine snd_cons (snd_iload_n X dX5_rate_14 rfl) ?_
  refine snd_cons (snd_aload_n X dX5_rate_15 rfl) ?_
  refine snd_cons (snd_callV X Fk5 (ok_X5_partRate l D ca) rfl rfl w_338 w_339 w_340 w_3 w_341 (by decide) (by decide) dX5_rate_16) ?_
  refine snd_cons (snd_iadd X dX5_rate_19) ?_
  refine snd_cons (snd_istore_n X dX5_rate_20 rfl (by decide)) ?_
  refine snd_cons (snd_iinc X dX5_rate_21 (by decide) (by decide)) ?_
  refine snd_cons (snd_goto X dX5_rate_24 (by decide)) ?_
  refine snd_cons (snd_iload_n X dX5_rate_27 rfl) ?_
  refine snd_cons (snd_ret X dX5_rate_28) ?_
  exact snd_nil
theorem k_X5_rate_0 (ca : Nat → ClassId) : k_X5_rate ca 0 = i_push (.int 0) 1 := rfl
theorem k_X5_rate_1 (ca : Nat → ClassId) : k_X5_rate ca 1 = i_istore 2 2 := rfl
theorem k_X5_rate_2 (ca : Nat → ClassId) : k_X5_rate ca 2 = i_push (.int 0) 3 := rfl
theorem k_X5_rate_3 (ca : Nat → ClassId) : k_X5_rate ca 3 = i_istore 3 4 := rfl
theorem k_X5_rate_4 (ca : Nat → ClassId) : k_X5_rate ca 4 = i_iload 3 5 := rfl
theorem k_X5_rate_5 (ca : Nat → ClassId) : k_X5_rate ca 5 = i_aload 0 6 := rfl
theorem k_X5_rate_6 (ca : Nat → ClassId) : k_X5_rate ca 6 = i_getf 5 3 9 := rfl
theorem k_X5_rate_9 (ca : Nat → ClassId) : k_X5_rate ca 9 = i_icmp (fun x y => y ≤ x) 27 12 := rfl
theorem k_X5_rate_12 (ca : Nat → ClassId) : k_X5_rate ca 12 = i_iload 2 13 := rfl
theorem k_X5_rate_13 (ca : Nat → ClassId) : k_X5_rate ca 13 = i_aload 0 14 := rfl
theorem k_X5_rate_14 (ca : Nat → ClassId) : k_X5_rate ca 14 = i_iload 3 15 := rfl
theorem k_X5_rate_15 (ca : Nat → ClassId) : k_X5_rate ca 15 = i_aload 1 16 := rfl
theorem k_X5_rate_16 (ca : Nat → ClassId) : k_X5_rate ca 16 = i_callV 5 2 0 0 0 0 (sp_X5_partRate ca) 19 := rfl
theorem k_X5_rate_19 (ca : Nat → ClassId) : k_X5_rate ca 19 = i_bin (fun x y => x + y) 20 := rfl
theorem k_X5_rate_20 (ca : Nat → ClassId) : k_X5_rate ca 20 = i_istore 2 21 := rfl
theorem k_X5_rate_21 (ca : Nat → ClassId) : k_X5_rate ca 21 = i_iinc 3 1 24 := rfl
theorem k_X5_rate_24 (ca : Nat → ClassId) : k_X5_rate ca 24 = i_goto 4 := rfl
theorem k_X5_rate_27 (ca : Nat → ClassId) : k_X5_rate ca 27 = i_iload 2 28 := rfl
theorem k_X5_rate_28 (ca : Nat → ClassId) : k_X5_rate ca 28 = i_ret := rfl
set_option maxHeartbeats 4000000 in
set_option maxRecDepth 20000 in
theorem ok_X5_rate (l : Launch) (D : va_G) (ca : Nat → ClassId) : OkAll l D ca yX5_rate cX5_rate 4 (some .int) 1 0 0 (sp_X5_rate ca) := by
  intro av h post hs
  unfold sp_X5_rate at hs
  split at hs
  · split at hs
    · rename_i a b _ l u w n lo hi la pu sn ki si ha
      split at hs
      · rename_i c1 m1 fl hl
        split at hs
        · rename_i c2 m2 fu hu
          split at hs
          · rename_i c3 m3 fw hw
            split at hs
            · rename_i c4 m4 fn hb
              obtain ⟨rfl, hc2, hc3, hc4, hn, hle, rfl, rfl, rfl, hv, hs⟩ := hs
              subst hc2; subst hc3; subst hc4
              obtain ⟨N, hN, e1, e2⟩ := tnI hn
              rw [e2] at hs hle hv
              subst e1
              refine okM_of t_X5_rate (by decide +kernel) (c1_ref (c1_ref c1_nil)) (Nat.le_of_ble_eq_true rfl) ?_
              intro K go
              have key : ∀ r k, k + r = N → K 0 0 4 [some (.ref a), some (.ref b), some (.int (rateF fl fu fw fn k)), some (.int (nI k))] [] h := by
                intro r
                induction r with
                | zero =>
                  intro k hk
                  have hk : k = N := hk
                  subst hk
                  refine go (stp [4]) 40 _ _ _ _ _ _ ?_
                  simp only [wpS, ite_not, i_push, i_iload, i_lload, i_aload, i_istore, i_astore, i_lstore, i_iinc, i_bin, i_dv, i_un, i_lbin, i_lsh, i_i2l, i_l2i, i_lcmp, i_dup, i_dup2, i_pop, i_if, i_icmp, i_goto, swG, i_sw, i_getf, i_puti, i_putz, i_putr, i_ald, i_lald, i_aald, i_ast, i_last, i_aast, i_alen, i_new, i_newi, i_newl, i_newq, i_oinit, i_ret, i_zret, i_lret, i_vret, catS, tk, rpush, isO, i_m1, i_m2, i_acopy, i_callV, i_callS, KRet, lget, lput, lputL, lcl0, isL, lv0, List.map_cons, List.map_nil, List.length_cons, List.length_nil, List.cons_append, List.nil_append, Nat.reduceAdd, Nat.reduceSub, Nat.reduceLeDiff, List.replicate_succ, List.replicate_zero, List.getElem?_cons_succ, List.getElem?_cons_zero, List.set_cons_succ, List.set_cons_zero, true_and, and_true, if_true, if_false, reduceIte, Nat.le_refl, Value.category, va_up_app, eq_self, stp, Nat.reduceBEq, Bool.or_false, Bool.false_or, Bool.true_or, Bool.or_true, or_true, true_or, bx_uu, implies_true, true_implies, not_true, not_false_eq_true, false_implies, and_self, Nat.reduceLT, Int32.reduceAdd, Int32.reduceSub, Int32.reduceMul, Int32.reduceLE, Int32.reduceLT, Int32.reduceToNatClampNeg, va_rf_some, Bool.false_eq_true, k_X5_rate_0 ca, k_X5_rate_1 ca, k_X5_rate_2 ca, k_X5_rate_3 ca, k_X5_rate_4 ca, k_X5_rate_5 ca, k_X5_rate_6 ca, k_X5_rate_9 ca, k_X5_rate_12 ca, k_X5_rate_13 ca, k_X5_rate_14 ca, k_X5_rate_15 ca, k_X5_rate_16 ca, k_X5_rate_19 ca, k_X5_rate_20 ca, k_X5_rate_21 ca, k_X5_rate_24 ca, k_X5_rate_27 ca, k_X5_rate_28 ca, ha, Int32.le_refl]
                  exact hs
                | succ r ih =>
                  intro k hk
                  have h1 : ¬ nI N ≤ nI k := nI_ge (by omega) hN
                  have h2 : vp_in (nI k) 8 := vp_in_nI (by omega) (by omega)
                  have h3 : (nI k).toNatClampNeg = k := nI_clamp (by omega)
                  have h4 : nI k + 1 = nI (k + 1) := nI_1 k
                  have h5 := (hv k (by omega)).1
                  have h6 := (hv k (by omega)).2
                  refine go (stp [4]) 40 _ _ _ _ _ _ ?_
                  simp only [wpS, ite_not, i_push, i_iload, i_lload, i_aload, i_istore, i_astore, i_lstore, i_iinc, i_bin, i_dv, i_un, i_lbin, i_lsh, i_i2l, i_l2i, i_lcmp, i_dup, i_dup2, i_pop, i_if, i_icmp, i_goto, swG, i_sw, i_getf, i_puti, i_putz, i_putr, i_ald, i_lald, i_aald, i_ast, i_last, i_aast, i_alen, i_new, i_newi, i_newl, i_newq, i_oinit, i_ret, i_zret, i_lret, i_vret, catS, tk, rpush, isO, i_m1, i_m2, i_acopy, i_callV, i_callS, KRet, lget, lput, lputL, lcl0, isL, lv0, List.map_cons, List.map_nil, List.length_cons, List.length_nil, List.cons_append, List.nil_append, Nat.reduceAdd, Nat.reduceSub, Nat.reduceLeDiff, List.replicate_succ, List.replicate_zero, List.getElem?_cons_succ, List.getElem?_cons_zero, List.set_cons_succ, List.set_cons_zero, true_and, and_true, if_true, if_false, reduceIte, Nat.le_refl, Value.category, va_up_app, eq_self, stp, Nat.reduceBEq, Bool.or_false, Bool.false_or, Bool.true_or, Bool.or_true, or_true, true_or, bx_uu, implies_true, true_implies, not_true, not_false_eq_true, false_implies, and_self, Nat.reduceLT, Int32.reduceAdd, Int32.reduceSub, Int32.reduceMul, Int32.reduceLE, Int32.reduceLT, Int32.reduceToNatClampNeg, va_rf_some, Bool.false_eq_true, k_X5_rate_0 ca, k_X5_rate_1 ca, k_X5_rate_2 ca, k_X5_rate_3 ca, k_X5_rate_4 ca, k_X5_rate_5 ca, k_X5_rate_6 ca, k_X5_rate_9 ca, k_X5_rate_12 ca, k_X5_rate_13 ca, k_X5_rate_14 ca, k_X5_rate_15 ca, k_X5_rate_16 ca, k_X5_rate_19 ca, k_X5_rate_20 ca, k_X5_rate_21 ca, k_X5_rate_24 ca, k_X5_rate_27 ca, k_X5_rate_28 ca, ha, hl, hu, hw, hb, h1, h2, h3, h4, h5, h6, sp_X5_partRate]
                  exact ih (k + 1) (by omega)
              refine go (stp [4]) 40 _ _ _ _ _ _ ?_
              simp only [wpS, ite_not, i_push, i_iload, i_lload, i_aload, i_istore, i_astore, i_lstore, i_iinc, i_bin, i_dv, i_un, i_lbin, i_lsh, i_i2l, i_l2i, i_lcmp, i_dup, i_dup2, i_pop, i_if, i_icmp, i_goto, swG, i_sw, i_getf, i_puti, i_putz, i_putr, i_ald, i_lald, i_aald, i_ast, i_last, i_aast, i_alen, i_new, i_newi, i_newl, i_newq, i_oinit, i_ret, i_zret, i_lret, i_vret, catS, tk, rpush, isO, i_m1, i_m2, i_acopy, i_callV, i_callS, KRet, lget, lput, lputL, lcl0, isL, lv0, List.map_cons, List.map_nil, List.length_cons, List.length_nil, List.cons_append, List.nil_append, Nat.reduceAdd, Nat.reduceSub, Nat.reduceLeDiff, List.replicate_succ, List.replicate_zero, List.getElem?_cons_succ, List.getElem?_cons_zero, List.set_cons_succ, List.set_cons_zero, true_and, and_true, if_true, if_false, reduceIte, Nat.le_refl, Value.category, va_up_app, eq_self, stp, Nat.reduceBEq, Bool.or_false, Bool.false_or, Bool.true_or, Bool.or_true, or_true, true_or, bx_uu, implies_true, true_implies, not_true, not_false_eq_true, false_implies, and_self, Nat.reduceLT, Int32.reduceAdd, Int32.reduceSub, Int32.reduceMul, Int32.reduceLE, Int32.reduceLT, Int32.reduceToNatClampNeg, va_rf_some, Bool.false_eq_true, k_X5_rate_0 ca, k_X5_rate_1 ca, k_X5_rate_2 ca, k_X5_rate_3 ca, k_X5_rate_4 ca, k_X5_rate_5 ca, k_X5_rate_6 ca, k_X5_rate_9 ca, k_X5_rate_12 ca, k_X5_rate_13 ca, k_X5_rate_14 ca, k_X5_rate_15 ca, k_X5_rate_16 ca, k_X5_rate_19 ca, k_X5_rate_20 ca, k_X5_rate_21 ca, k_X5_rate_24 ca, k_X5_rate_27 ca, k_X5_rate_28 ca]
              exact key N 0 (by omega)
            · exact hs.elim
          · exact hs.elim
        · exact hs.elim
      · exact hs.elim
    · exact hs.elim
  · exact hs.elim
def sp_X5_addPart (ca : Nat → ClassId) : SPEC := fun av h post => match av with
  | [.ref a, .int x, .int y, .int z] => (match h a with
    | some (.inr (5, [.ref l, .ref u, .ref w, .int n, .int lo, .int hi, .int la, .int pu, .int sn, .int ki, .int si])) => (match h l with
      | some (.inl (c1, m1, .inl fl)) => (match h u with
        | some (.inl (c2, m2, .inl fu)) => (match h w with
          | some (.inl (c3, m3, .inl fw)) => c1 = ca 0 ∧ c2 = ca 0 ∧ c3 = ca 0 ∧ m1 = 8 ∧ m2 = 8 ∧ m3 = 8 ∧ ¬ n < 0 ∧ n < 8 ∧ ¬ l = u ∧ ¬ l = w ∧ ¬ u = w ∧ ¬ l = a ∧ ¬ u = a ∧ ¬ w = a ∧
            post none (va_up (va_up (va_up (va_up h l (some (.inl (ca 0, 8, .inl (upd fl n.toNatClampNeg x))))) u (some (.inl (ca 0, 8, .inl (upd fu n.toNatClampNeg y))))) w (some (.inl (ca 0, 8, .inl (upd fw n.toNatClampNeg z))))) a (some (.inr (5, [.ref l, .ref u, .ref w, .int (n + 1), .int lo, .int hi, .int la, .int pu, .int sn, .int ki, .int si]))))
          | _ => False)
        | _ => False)
      | _ => False)
    | _ => False)
  | _ => False
theorem lt8_in {n : Int32} (h : ¬ n < 0) (h8 : n < 8) : vp_in n 8 := by
  obtain ⟨N, hN, e1, e2⟩ := tnI h
  rw [e1] at h8 ⊢
  exact vp_in_nI ((nI_ltI (b := 8) hN (by decide)).mp h8) (by decide)
def k_X5_addPart (ca : Nat → ClassId) : Nat → IT := fun pc => lk pc [(0, i_aload 0 1),
  (1, i_getf 5 3 4),
  (4, i_push (.int 8) 6),
  (6, i_icmp (fun x y => y ≤ x) 49 9),
  (9, i_aload 0 10),
  (10, i_getf 5 0 13),
  (13, i_aload 0 14),
  (14, i_getf 5 3 17),
  (17, i_iload 1 18),
  (18, i_ast (fun x => x) (ca 0) 19),
  (19, i_aload 0 20),
  (20, i_getf 5 1 23),
  (23, i_aload 0 24),
  (24, i_getf 5 3 27),
  (27, i_iload 2 28),
  (28, i_ast (fun x => x) (ca 0) 29),
  (29, i_aload 0 30),
  (30, i_getf 5 2 33),
  (33, i_aload 0 34),
  (34, i_getf 5 3 37),
  (37, i_iload 3 38),
  (38, i_ast (fun x => x) (ca 0) 39),
  (39, i_aload 0 40),
  (40, i_dup 41),
  (41, i_getf 5 3 44),
  (44, i_push (.int 1) 45),
  (45, i_bin (fun x y => x + y) 46),
  (46, i_puti 5 3 49),
  (49, i_vret)]
set_option maxRecDepth 20000 in
theorem t_X5_addPart : Tb k_X5_addPart yX5_addPart cX5_addPart 4 none 0 0 0 := by
  intro l D ca A p e s m args below meth c post X
  unfold k_X5_addPart
  refine snd_cons (snd_aload_n X dX5_addPart_0 rfl) ?_
  refine snd_cons (snd_getf X Fk5 3 (by decide) w_41 dX5_addPart_1) ?_
  refine snd_cons (snd_bipush X dX5_addPart_4 (by decide)) ?_
  refine snd_cons (snd_icmp_ge X dX5_addPart_6 (by decide)) ?_
  refine snd_cons (snd_aload_n X dX5_addPart_9 rfl) ?_
  refine snd_cons (snd_getf X Fk5 0 (by decide) w_35 dX5_addPart_10) ?_
  refine snd_cons (snd_aload_n X dX5_addPart_13 rfl) ?_
  refine snd_cons (snd_getf X Fk5 3 (by decide) w_41 dX5_addPart_14) ?_
  refine snd_cons (snd_iload_n X dX5_addPart_17 rfl) ?_
  refine snd_cons (snd_iastore X dX5_addPart_18) ?_
  refine snd_cons (snd_aload_n X dX5_addPart_19 rfl) ?_
  refine snd_cons (snd_getf X Fk5 1 (by decide) w_37 dX5_addPart_20) ?_
  refine snd_cons (snd_aload_n X dX5_addPart_23 rfl) ?_
  refine snd_cons (snd_getf X Fk5 3 (by decide) w_41 dX5_addPart_24) ?_
  refine snd_cons (snd_iload_n X dX5_addPart_27 rfl) ?_
  refine snd_cons (snd_iastore X dX5_addPart_28) ?_
  refine snd_cons (snd_aload_n X dX5_addPart_29 rfl) ?_
  refine snd_cons (snd_getf X Fk5 2 (by decide) w_39 dX5_addPart_30) ?_
  refine snd_cons (snd_aload_n X dX5_addPart_33 rfl) ?_
  refine snd_cons (snd_getf X Fk5 3 (by decide) w_41 dX5_addPart_34) ?_
  refine snd_cons (snd_iload_n X dX5_addPart_37 rfl) ?_
  refine snd_cons (snd_iastore X dX5_addPart_38) ?_
  refine snd_cons (snd_aload_n X dX5_addPart_39 rfl) ?_
  refine snd_cons (snd_dup X dX5_addPart_40) ?_
  refine snd_cons (snd_getf X Fk5 3 (by decide) w_41 dX5_addPart_41) ?_
  refine snd_cons (snd_iconst X dX5_addPart_44 (by decide)) ?_
  refine snd_cons (snd_iadd X dX5_addPart_45) ?_
  refine snd_cons (snd_puti X Fk5 3 (by decide) rfl rfl w_41 dX5_addPart_46) ?_
  refine snd_cons (snd_vret X dX5_addPart_49) ?_
  exact snd_nil
theorem k_X5_addPart_0 (ca : Nat → ClassId) : k_X5_addPart ca 0 = i_aload 0 1 := rfl
theorem k_X5_addPart_1 (ca : Nat → ClassId) : k_X5_addPart ca 1 = i_getf 5 3 4 := rfl
theorem k_X5_addPart_4 (ca : Nat → ClassId) : k_X5_addPart ca 4 = i_push (.int 8) 6 := rfl
theorem k_X5_addPart_6 (ca : Nat → ClassId) : k_X5_addPart ca 6 = i_icmp (fun x y => y ≤ x) 49 9 := rfl
theorem k_X5_addPart_9 (ca : Nat → ClassId) : k_X5_addPart ca 9 = i_aload 0 10 := rfl
theorem k_X5_addPart_10 (ca : Nat → ClassId) : k_X5_addPart ca 10 = i_getf 5 0 13 := rfl
theorem k_X5_addPart_13 (ca : Nat → ClassId) : k_X5_addPart ca 13 = i_aload 0 14 := rfl
theorem k_X5_addPart_14 (ca : Nat → ClassId) : k_X5_addPart ca 14 = i_getf 5 3 17 := rfl
theorem k_X5_addPart_17 (ca : Nat → ClassId) : k_X5_addPart ca 17 = i_iload 1 18 := rfl
theorem k_X5_addPart_18 (ca : Nat → ClassId) : k_X5_addPart ca 18 = i_ast (fun x => x) (ca 0) 19 := rfl
theorem k_X5_addPart_19 (ca : Nat → ClassId) : k_X5_addPart ca 19 = i_aload 0 20 := rfl
theorem k_X5_addPart_20 (ca : Nat → ClassId) : k_X5_addPart ca 20 = i_getf 5 1 23 := rfl
theorem k_X5_addPart_23 (ca : Nat → ClassId) : k_X5_addPart ca 23 = i_aload 0 24 := rfl
theorem k_X5_addPart_24 (ca : Nat → ClassId) : k_X5_addPart ca 24 = i_getf 5 3 27 := rfl
theorem k_X5_addPart_27 (ca : Nat → ClassId) : k_X5_addPart ca 27 = i_iload 2 28 := rfl
theorem k_X5_addPart_28 (ca : Nat → ClassId) : k_X5_addPart ca 28 = i_ast (fun x => x) (ca 0) 29 := rfl
theorem k_X5_addPart_29 (ca : Nat → ClassId) : k_X5_addPart ca 29 = i_aload 0 30 := rfl
theorem k_X5_addPart_30 (ca : Nat → ClassId) : k_X5_addPart ca 30 = i_getf 5 2 33 := rfl
theorem k_X5_addPart_33 (ca : Nat → ClassId) : k_X5_addPart ca 33 = i_aload 0 34 := rfl
theorem k_X5_addPart_34 (ca : Nat → ClassId) : k_X5_addPart ca 34 = i_getf 5 3 37 := rfl
theorem k_X5_addPart_37 (ca : Nat → ClassId) : k_X5_addPart ca 37 = i_iload 3 38 := rfl
theorem k_X5_addPart_38 (ca : Nat → ClassId) : k_X5_addPart ca 38 = i_ast (fun x => x) (ca 0) 39 := rfl
theorem k_X5_addPart_39 (ca : Nat → ClassId) : k_X5_addPart ca 39 = i_aload 0 40 := rfl
theorem k_X5_addPart_40 (ca : Nat → ClassId) : k_X5_addPart ca 40 = i_dup 41 := rfl
theorem k_X5_addPart_41 (ca : Nat → ClassId) : k_X5_addPart ca 41 = i_getf 5 3 44 := rfl
theorem k_X5_addPart_44 (ca : Nat → ClassId) : k_X5_addPart ca 44 = i_push (.int 1) 45 := rfl
theorem k_X5_addPart_45 (ca : Nat → ClassId) : k_X5_addPart ca 45 = i_bin (fun x y => x + y) 46 := rfl
theorem k_X5_addPart_46 (ca : Nat → ClassId) : k_X5_addPart ca 46 = i_puti 5 3 49 := rfl
theorem k_X5_addPart_49 (ca : Nat → ClassId) : k_X5_addPart ca 49 = i_vret := rfl
set_option maxHeartbeats 4000000 in
set_option maxRecDepth 20000 in
theorem ok_X5_addPart (l : Launch) (D : va_G) (ca : Nat → ClassId) : OkAll l D ca yX5_addPart cX5_addPart 4 none 0 0 0 (sp_X5_addPart ca) := by
  intro av h post hs
  unfold sp_X5_addPart at hs
  split at hs
  · split at hs
    · rename_i a x y z _ l u w n lo hi la pu sn ki si ha
      split at hs
      · rename_i c1 m1 fl hl
        split at hs
        · rename_i c2 m2 fu hu
          split at hs
          · rename_i c3 m3 fw hw
            obtain ⟨rfl, hc2, hc3, rfl, rfl, rfl, hn, h8, d1, d2, d3, d4, d5, d6, hs⟩ := hs
            subst hc2; subst hc3
            have hv := lt8_in hn h8
            have h9 : ¬ 8 ≤ n := Int32.not_le.mpr h8
            have d1' := Ne.symm d1
            have d2' := Ne.symm d2
            have d3' := Ne.symm d3
            have d4' := Ne.symm d4
            have d5' := Ne.symm d5
            have d6' := Ne.symm d6
            refine okM_of t_X5_addPart (by decide +kernel) (c1_ref (c1_int (c1_int (c1_int c1_nil)))) (Nat.le_of_ble_eq_true rfl) ?_
            intro K go
            refine go (stp []) 60 _ _ _ _ _ _ ?_
            simp only [wpS, ite_not, i_push, i_iload, i_lload, i_aload, i_istore, i_astore, i_lstore, i_iinc, i_bin, i_dv, i_un, i_lbin, i_lsh, i_i2l, i_l2i, i_lcmp, i_dup, i_dup2, i_pop, i_if, i_icmp, i_goto, swG, i_sw, i_getf, i_puti, i_putz, i_putr, i_ald, i_lald, i_aald, i_ast, i_last, i_aast, i_alen, i_new, i_newi, i_newl, i_newq, i_oinit, i_ret, i_zret, i_lret, i_vret, catS, tk, rpush, isO, i_m1, i_m2, i_acopy, i_callV, i_callS, KRet, lget, lput, lputL, lcl0, isL, lv0, List.map_cons, List.map_nil, List.length_cons, List.length_nil, List.cons_append, List.nil_append, Nat.reduceAdd, Nat.reduceSub, Nat.reduceLeDiff, List.replicate_succ, List.replicate_zero, List.getElem?_cons_succ, List.getElem?_cons_zero, List.set_cons_succ, List.set_cons_zero, true_and, and_true, if_true, if_false, reduceIte, Nat.le_refl, Value.category, va_up_app, eq_self, stp, Nat.reduceBEq, Bool.or_false, Bool.false_or, Bool.true_or, Bool.or_true, or_true, true_or, bx_uu, implies_true, true_implies, not_true, not_false_eq_true, false_implies, and_self, Nat.reduceLT, Int32.reduceAdd, Int32.reduceSub, Int32.reduceMul, Int32.reduceLE, Int32.reduceLT, Int32.reduceToNatClampNeg, va_rf_some, Bool.false_eq_true, k_X5_addPart_0 ca, k_X5_addPart_1 ca, k_X5_addPart_4 ca, k_X5_addPart_6 ca, k_X5_addPart_9 ca, k_X5_addPart_10 ca, k_X5_addPart_13 ca, k_X5_addPart_14 ca, k_X5_addPart_17 ca, k_X5_addPart_18 ca, k_X5_addPart_19 ca, k_X5_addPart_20 ca, k_X5_addPart_23 ca, k_X5_addPart_24 ca, k_X5_addPart_27 ca, k_X5_addPart_28 ca, k_X5_addPart_29 ca, k_X5_addPart_30 ca, k_X5_addPart_33 ca, k_X5_addPart_34 ca, k_X5_addPart_37 ca, k_X5_addPart_38 ca, k_X5_addPart_39 ca, k_X5_addPart_40 ca, k_X5_addPart_41 ca, k_X5_addPart_44 ca, k_X5_addPart_45 ca, k_X5_addPart_46 ca, k_X5_addPart_49 ca, ha, hl, hu, hw, hv, h9, d1, d2, d3, d4, d5, d6, d1', d2', d3', d4', d5', d6']
            exact hs
          · exact hs.elim
        · exact hs.elim
      · exact hs.elim
    · exact hs.elim
  · exact hs.elim

