/-! Text -/
def XAt (ca : Nat → ClassId) (h : PH) (qt qc : Nat) (n : Nat) (f : Nat → Int32) : Prop := h qt = some (.inr (6, [.ref qc, .int (nI n)])) ∧ h qc = some (.inl (ca 3, 60, .inl f)) ∧ n ≤ 60
theorem rem4 {n : Nat} (h : n < 2 ^ 31) : nI n - nI n / 4 * 4 = nI (n % 4) := by rw [← n4]; exact pk_rem h (by decide) (by decide)
theorem nIe {a b : Nat} (ha : a < 2 ^ 31) (hb : b < 2 ^ 31) : (nI a = nI b) = (a = b) := propext (nI_eq ha hb)
def canF (f : Nat → Int32) (n : Nat) : Bool := if n % 4 = 0 then isIn (f n) 49 57 else if n % 4 = 3 then decide (f n = 44) else isIn (f n) 97 102
def sp_X6_canStandAt (ca : Nat → ClassId) : SPEC := fun av h post => ∃ qt qc n f k, av = [.ref qt, .int (nI k)] ∧ XAt ca h qt qc n f ∧ k < 60 ∧ post (some (.int (b2i (canF f k)))) h
def k_X6_canStandAt (ca : Nat → ClassId) : Nat → IT := fun pc => lk pc [(0, i_aload 0 1),
  (1, i_getf 6 0 4),
  (4, i_iload 1 5),
  (5, i_ald (ca 3) 6),
  (6, i_istore 2 7),
  (7, i_iload 1 8),
  (8, i_push (.int 4) 9),
  (9, i_dv (fun x y => x - x / y * y) 10),
  (10, i_sw [(0, 36), (3, 45)] 57),
  (36, i_iload 2 37),
  (37, i_push (.int 49) 39),
  (39, i_push (.int 57) 41),
  (41, i_callS 3 0 0 0 0 (sp_X7_isWithin ca) 44),
  (44, i_zret),
  (45, i_iload 2 46),
  (46, i_push (.int 44) 48),
  (48, i_icmp (fun x y => ¬ x = y) 55 51),
  (51, i_push (.int 1) 52),
  (52, i_goto 56),
  (55, i_push (.int 0) 56),
  (56, i_zret),
  (57, i_iload 2 58),
  (58, i_push (.int 97) 60),
  (60, i_push (.int 102) 62),
  (62, i_callS 3 0 0 0 0 (sp_X7_isWithin ca) 65),
  (65, i_zret)]
set_option maxRecDepth 20000 in
theorem t_X6_canStandAt : Tb k_X6_canStandAt yX6_canStandAt cX6_canStandAt 3 (some .boolean) 1 0 0 := by
  intro l D ca A p e s m args below meth c post X
  unfold k_X6_canStandAt
  refine snd_cons (snd_aload_n X dX6_canStandAt_0 rfl) ?_
  refine snd_cons (snd_getf X Fk6 0 (by decide) w_180 dX6_canStandAt_1) ?_
  refine snd_cons (snd_iload_n X dX6_canStandAt_4 rfl) ?_
  refine snd_cons (snd_caload X dX6_canStandAt_5) ?_
  refine snd_cons (snd_istore_n X dX6_canStandAt_6 rfl (by decide)) ?_
  refine snd_cons (snd_iload_n X dX6_canStandAt_7 rfl) ?_
  refine snd_cons (snd_iconst X dX6_canStandAt_8 (by decide)) ?_
  refine snd_cons (snd_irem X dX6_canStandAt_9) ?_
  refine snd_cons (snd_lookup X dX6_canStandAt_10 (by decide) (by decide) (by decide)) ?_
  refine snd_cons (snd_iload_n X dX6_canStandAt_36 rfl) ?_
  refine snd_cons (snd_bipush X dX6_canStandAt_37 (by decide)) ?_
  refine snd_cons (snd_bipush X dX6_canStandAt_39 (by decide)) ?_
  refine snd_cons (snd_callSN X (ok_X7_isWithin l D ca) rfl rfl (fun h => h.2.2.1) w_282 w_1 w_283 (by decide) (by decide) dX6_canStandAt_41) ?_
  refine snd_cons (snd_zret X dX6_canStandAt_44) ?_
  refine snd_cons (snd_iload_n X dX6_canStandAt_45 rfl) ?_
  refine snd_cons (snd_bipush X dX6_canStandAt_46 (by decide)) ?_
  refine snd_cons (snd_icmp_ne X dX6_canStandAt_48 (by decide)) ?_
  refine snd_cons (snd_iconst X dX6_canStandAt_51 (by decide)) ?_
  refine snd_cons (snd_goto X dX6_canStandAt_52 (by decide)) ?_
  refine snd_cons (snd_iconst X dX6_canStandAt_55 (by decide)) ?_
  refine snd_cons (snd_zret X dX6_canStandAt_56) ?_
  refine snd_cons (snd_iload_n X dX6_canStandAt_57 rfl) ?_
  refine snd_cons (snd_bipush X dX6_canStandAt_58 (by decide)) ?_
  refine snd_cons (snd_bipush X dX6_canStandAt_60 (by decide)) ?_
  refine snd_cons (snd_callSN X (ok_X7_isWithin l D ca) rfl rfl (fun h => h.2.2.1) w_282 w_1 w_283 (by decide) (by decide) dX6_canStandAt_62) ?_
  refine snd_cons (snd_zret X dX6_canStandAt_65) ?_
  exact snd_nil
theorem k_X6_canStandAt_0 (ca : Nat → ClassId) : k_X6_canStandAt ca 0 = i_aload 0 1 := rfl
theorem k_X6_canStandAt_1 (ca : Nat → ClassId) : k_X6_canStandAt ca 1 = i_getf 6 0 4 := rfl
theorem k_X6_canStandAt_4 (ca : Nat → ClassId) : k_X6_canStandAt ca 4 = i_iload 1 5 := rfl
theorem k_X6_canStandAt_5 (ca : Nat → ClassId) : k_X6_canStandAt ca 5 = i_ald (ca 3) 6 := rfl
theorem k_X6_canStandAt_6 (ca : Nat → ClassId) : k_X6_canStandAt ca 6 = i_istore 2 7 := rfl
theorem k_X6_canStandAt_7 (ca : Nat → ClassId) : k_X6_canStandAt ca 7 = i_iload 1 8 := rfl
theorem k_X6_canStandAt_8 (ca : Nat → ClassId) : k_X6_canStandAt ca 8 = i_push (.int 4) 9 := rfl
theorem k_X6_canStandAt_9 (ca : Nat → ClassId) : k_X6_canStandAt ca 9 = i_dv (fun x y => x - x / y * y) 10 := rfl
theorem k_X6_canStandAt_10 (ca : Nat → ClassId) : k_X6_canStandAt ca 10 = i_sw [(0, 36), (3, 45)] 57 := rfl
theorem k_X6_canStandAt_36 (ca : Nat → ClassId) : k_X6_canStandAt ca 36 = i_iload 2 37 := rfl
theorem k_X6_canStandAt_37 (ca : Nat → ClassId) : k_X6_canStandAt ca 37 = i_push (.int 49) 39 := rfl
theorem k_X6_canStandAt_39 (ca : Nat → ClassId) : k_X6_canStandAt ca 39 = i_push (.int 57) 41 := rfl
theorem k_X6_canStandAt_41 (ca : Nat → ClassId) : k_X6_canStandAt ca 41 = i_callS 3 0 0 0 0 (sp_X7_isWithin ca) 44 := rfl
theorem k_X6_canStandAt_44 (ca : Nat → ClassId) : k_X6_canStandAt ca 44 = i_zret := rfl
theorem k_X6_canStandAt_45 (ca : Nat → ClassId) : k_X6_canStandAt ca 45 = i_iload 2 46 := rfl
theorem k_X6_canStandAt_46 (ca : Nat → ClassId) : k_X6_canStandAt ca 46 = i_push (.int 44) 48 := rfl
theorem k_X6_canStandAt_48 (ca : Nat → ClassId) : k_X6_canStandAt ca 48 = i_icmp (fun x y => ¬ x = y) 55 51 := rfl
theorem k_X6_canStandAt_51 (ca : Nat → ClassId) : k_X6_canStandAt ca 51 = i_push (.int 1) 52 := rfl
theorem k_X6_canStandAt_52 (ca : Nat → ClassId) : k_X6_canStandAt ca 52 = i_goto 56 := rfl
theorem k_X6_canStandAt_55 (ca : Nat → ClassId) : k_X6_canStandAt ca 55 = i_push (.int 0) 56 := rfl
theorem k_X6_canStandAt_56 (ca : Nat → ClassId) : k_X6_canStandAt ca 56 = i_zret := rfl
theorem k_X6_canStandAt_57 (ca : Nat → ClassId) : k_X6_canStandAt ca 57 = i_iload 2 58 := rfl
theorem k_X6_canStandAt_58 (ca : Nat → ClassId) : k_X6_canStandAt ca 58 = i_push (.int 97) 60 := rfl
theorem k_X6_canStandAt_60 (ca : Nat → ClassId) : k_X6_canStandAt ca 60 = i_push (.int 102) 62 := rfl
theorem k_X6_canStandAt_62 (ca : Nat → ClassId) : k_X6_canStandAt ca 62 = i_callS 3 0 0 0 0 (sp_X7_isWithin ca) 65 := rfl
theorem k_X6_canStandAt_65 (ca : Nat → ClassId) : k_X6_canStandAt ca 65 = i_zret := rfl
set_option maxHeartbeats 4000000 in
set_option maxRecDepth 20000 in
theorem ok_X6_canStandAt (l : Launch) (D : va_G) (ca : Nat → ClassId) : OkAll l D ca yX6_canStandAt cX6_canStandAt 3 (some .boolean) 1 0 0 (sp_X6_canStandAt ca) := by
  intro av h post hs
  obtain ⟨qt, qc, n, f, k, rfl, ⟨h0, h1, hn⟩, hk, hs⟩ := hs
  have hv : vp_in (nI k) 60 := vp_in_nI hk (by decide)
  have ht : (nI k).toNatClampNeg = k := nI_clamp (by omega)
  have hr := rem4 (n := k) (by omega)
  have h40 : ¬ (4 : Int32) = 0 := by decide
  have e0 : (nI (k % 4) = 0) = (k % 4 = 0) := nIe (b := 0) (by omega) (by decide)
  have e3 : (nI (k % 4) = 3) = (k % 4 = 3) := nIe (b := 3) (by omega) (by decide)
  refine okM_of t_X6_canStandAt (by decide +kernel) (c1_ref (c1_int c1_nil)) (Nat.le_of_ble_eq_true rfl) ?_
  intro K go
  refine go (stp []) 20 _ _ _ _ _ _ ?_
  simp only [wpS, ite_not, i_push, i_iload, i_lload, i_aload, i_istore, i_astore, i_lstore, i_iinc, i_bin, i_dv, i_un, i_lbin, i_lsh, i_i2l, i_l2i, i_lcmp, i_dup, i_dup2, i_pop, i_if, i_icmp, i_goto, swG, i_sw, i_getf, i_puti, i_putz, i_putr, i_ald, i_lald, i_aald, i_ast, i_last, i_aast, i_alen, i_new, i_newi, i_newl, i_newq, i_oinit, i_ret, i_zret, i_lret, i_vret, catS, tk, rpush, isO, i_m1, i_m2, i_acopy, i_callV, i_callS, KRet, lget, lput, lputL, lcl0, isL, lv0, List.map_cons, List.map_nil, List.length_cons, List.length_nil, List.cons_append, List.nil_append, Nat.reduceAdd, Nat.reduceSub, Nat.reduceLeDiff, List.replicate_succ, List.replicate_zero, List.getElem?_cons_succ, List.getElem?_cons_zero, List.set_cons_succ, List.set_cons_zero, true_and, and_true, if_true, if_false, reduceIte, Nat.le_refl, Value.category, va_up_app, eq_self, stp, Nat.reduceBEq, Bool.or_false, Bool.false_or, Bool.true_or, Bool.or_true, or_true, true_or, bx_uu, implies_true, true_implies, not_true, not_false_eq_true, false_implies, and_self, Nat.reduceLT, Int32.reduceAdd, Int32.reduceSub, Int32.reduceMul, Int32.reduceLE, Int32.reduceLT, Int32.reduceToNatClampNeg, va_rf_some, Bool.false_eq_true, k_X6_canStandAt_0 ca, k_X6_canStandAt_1 ca, k_X6_canStandAt_4 ca, k_X6_canStandAt_5 ca, k_X6_canStandAt_6 ca, k_X6_canStandAt_7 ca, k_X6_canStandAt_8 ca, k_X6_canStandAt_9 ca, k_X6_canStandAt_10 ca, k_X6_canStandAt_36 ca, k_X6_canStandAt_37 ca, k_X6_canStandAt_39 ca, k_X6_canStandAt_41 ca, k_X6_canStandAt_44 ca, k_X6_canStandAt_45 ca, k_X6_canStandAt_46 ca, k_X6_canStandAt_48 ca, k_X6_canStandAt_51 ca, k_X6_canStandAt_52 ca, k_X6_canStandAt_55 ca, k_X6_canStandAt_56 ca, k_X6_canStandAt_57 ca, k_X6_canStandAt_58 ca, k_X6_canStandAt_60 ca, k_X6_canStandAt_62 ca, k_X6_canStandAt_65 ca, h0, h1, hv, ht, hr, h40, e0, e3, sp_X7_isWithin, b2i_01]
  unfold canF at hs
  refine ifp (fun z => ?_) (fun z => ?_)
  · rw [if_pos z] at hs
    exact hs
  · rw [if_neg z] at hs
    refine ifp (fun z2 => ?_) (fun z2 => ?_)
    · rw [if_pos z2] at hs
      refine ifp (fun z3 => ?_) (fun z3 => ?_)
      · rw [decide_eq_false z3] at hs
        exact hs
      · rw [decide_eq_true (Classical.not_not.mp z3)] at hs
        exact hs
    · rw [if_neg z2] at hs
      exact hs
def fpG (f : Nat → Int32) : Nat → Nat → Option Nat
  | 0, _ => none
  | r + 1, i => if canF f i = true then fpG f r (i + 1) else some i
def placeF (f : Nat → Int32) (n : Nat) : Int32 := match fpG f (if n < 32 then n else 32) 0 with
  | some i => nI i
  | none => if 32 < n then 32 else if n = 0 then -1 else if n % 4 = 3 then -1 else nI n
def sp_X6_faultyPlace (ca : Nat → ClassId) : SPEC := fun av h post => ∃ qt qc n f, av = [.ref qt] ∧ XAt ca h qt qc n f ∧ post (some (.int (placeF f n))) h
def k_X6_faultyPlace (ca : Nat → ClassId) : Nat → IT := fun pc => lk pc [(0, i_aload 0 1),
  (1, i_getf 6 1 4),
  (4, i_push (.int 32) 6),
  (6, i_m2 (fun x y => if y < x then y else x) 0 0 9),
  (9, i_istore 1 10),
  (10, i_push (.int 0) 11),
  (11, i_istore 2 12),
  (12, i_iload 2 13),
  (13, i_iload 1 14),
  (14, i_icmp (fun x y => y ≤ x) 33 17),
  (17, i_aload 0 18),
  (18, i_iload 2 19),
  (19, i_callV 6 1 0 0 0 0 (sp_X6_canStandAt ca) 22),
  (22, i_if (fun x => ¬ x = 0) 27 25),
  (25, i_iload 2 26),
  (26, i_ret),
  (27, i_iinc 2 1 30),
  (30, i_goto 12),
  (33, i_aload 0 34),
  (34, i_getf 6 1 37),
  (37, i_push (.int 32) 39),
  (39, i_icmp (fun x y => x ≤ y) 45 42),
  (42, i_push (.int 32) 44),
  (44, i_ret),
  (45, i_aload 0 46),
  (46, i_getf 6 1 49),
  (49, i_if (fun x => x = 0) 62 52),
  (52, i_aload 0 53),
  (53, i_getf 6 1 56),
  (56, i_push (.int 4) 57),
  (57, i_dv (fun x y => x - x / y * y) 58),
  (58, i_push (.int 3) 59),
  (59, i_icmp (fun x y => ¬ x = y) 66 62),
  (62, i_push (.int (-1)) 63),
  (63, i_goto 70),
  (66, i_aload 0 67),
  (67, i_getf 6 1 70),
  (70, i_ret)]
set_option maxRecDepth 20000 in
theorem t_X6_faultyPlace : Tb k_X6_faultyPlace yX6_faultyPlace cX6_faultyPlace 3 (some .int) 2 0 0 := by
  intro l D ca A p e s m args below meth c post X
  unfold k_X6_faultyPlace
  refine snd_cons (snd_aload_n X dX6_faultyPlace_0 rfl) ?_
  refine snd_cons (snd_getf X Fk6 1 (by decide) w_181 dX6_faultyPlace_1) ?_
  refine snd_cons (snd_bipush X dX6_faultyPlace_4 (by decide)) ?_
  refine snd_cons (snd_mmin X rfl rfl w_567 w_388 w_9 w_389 (by decide) (by decide) dX6_faultyPlace_6) ?_
  refine snd_cons (snd_istore_n X dX6_faultyPlace_9 rfl (by decide)) ?_
  refine snd_cons (snd_iconst X dX6_faultyPlace_10 (by decide)) ?_
  refine snd_cons (snd_istore_n X dX6_faultyPlace_11 rfl (by decide)) ?_
  refine snd_cons (snd_iload_n X dX6_faultyPlace_12 rfl) ?_
  refine snd_cons (snd_iload_n X dX6_faultyPlace_13 rfl) ?_
  refine snd_cons (snd_icmp_ge X dX6_faultyPlace_14 (by decide)) ?_
  refine snd_cons (snd_aload_n X dX6_faultyPlace_17 rfl) ?_
  refine snd_cons (snd_iload_n X dX6_faultyPlace_18 rfl) ?_
  refine snd_cons (snd_callV X Fk6 (ok_X6_canStandAt l D ca) rfl rfl w_568 w_570 wp_5 w_6 w_571 (by decide) (by decide) dX6_faultyPlace_19) ?_
  refine snd_cons (snd_if_ne X dX6_faultyPlace_22 (by decide)) ?_
  refine snd_cons (snd_iload_n X dX6_faultyPlace_25 rfl) ?_
  refine snd_cons (snd_ret X dX6_faultyPlace_26) ?_
  refine snd_cons (snd_iinc X dX6_faultyPlace_27 (by decide) (by decide)) ?_
  refine snd_cons (snd_goto X dX6_faultyPlace_30 (by decide)) ?_
  refine snd_cons (snd_aload_n X dX6_faultyPlace_33 rfl) ?_
  refine snd_cons (snd_getf X Fk6 1 (by decide) w_181 dX6_faultyPlace_34) ?_
  refine snd_cons (snd_bipush X dX6_faultyPlace_37 (by decide)) ?_
  refine snd_cons (snd_icmp_le X dX6_faultyPlace_39 (by decide)) ?_
  refine snd_cons (snd_bipush X dX6_faultyPlace_42 (by decide)) ?_
  refine snd_cons (snd_ret X dX6_faultyPlace_44) ?_
  refine snd_cons (snd_aload_n X dX6_faultyPlace_45 rfl) ?_
  refine snd_cons (snd_getf X Fk6 1 (by decide) w_181 dX6_faultyPlace_46) ?_
  refine snd_cons (snd_if_eq X dX6_faultyPlace_49 (by decide)) ?_
  refine snd_cons (snd_aload_n X dX6_faultyPlace_52 rfl) ?_
  refine snd_cons (snd_getf X Fk6 1 (by decide) w_181 dX6_faultyPlace_53) ?_
  refine snd_cons (snd_iconst X dX6_faultyPlace_56 (by decide)) ?_
  refine snd_cons (snd_irem X dX6_faultyPlace_57) ?_
  refine snd_cons (snd_iconst X dX6_faultyPlace_58 (by decide)) ?_
  refine snd_cons (snd_icmp_ne X dX6_faultyPlace_59 (by decide)) ?_
  refine snd_cons (snd_iconst X dX6_faultyPlace_62 (by decide)) ?_
  refine snd_cons (snd_goto X dX6_faultyPlace_63 (by decide)) ?_
  refine snd_cons (snd_aload_n X dX6_faultyPlace_66 rfl) ?_
  refine snd_cons (snd_getf X Fk6 1 (by decide) w_181 dX6_faultyPlace_67) ?_
  refine snd_cons (snd_ret X dX6_faultyPlace_70) ?_
  exact snd_nil
theorem k_X6_faultyPlace_0 (ca : Nat → ClassId) : k_X6_faultyPlace ca 0 = i_aload 0 1 := rfl
theorem k_X6_faultyPlace_1 (ca : Nat → ClassId) : k_X6_faultyPlace ca 1 = i_getf 6 1 4 := rfl
theorem k_X6_faultyPlace_4 (ca : Nat → ClassId) : k_X6_faultyPlace ca 4 = i_push (.int 32) 6 := rfl
theorem k_X6_faultyPlace_6 (ca : Nat → ClassId) : k_X6_faultyPlace ca 6 = i_m2 (fun x y => if y < x then y else x) 0 0 9 := rfl
theorem k_X6_faultyPlace_9 (ca : Nat → ClassId) : k_X6_faultyPlace ca 9 = i_istore 1 10 := rfl
theorem k_X6_faultyPlace_10 (ca : Nat → ClassId) : k_X6_faultyPlace ca 10 = i_push (.int 0) 11 := rfl
theorem k_X6_faultyPlace_11 (ca : Nat → ClassId) : k_X6_faultyPlace ca 11 = i_istore 2 12 := rfl
theorem k_X6_faultyPlace_12 (ca : Nat → ClassId) : k_X6_faultyPlace ca 12 = i_iload 2 13 := rfl
theorem k_X6_faultyPlace_13 (ca : Nat → ClassId) : k_X6_faultyPlace ca 13 = i_iload 1 14 := rfl
theorem k_X6_faultyPlace_14 (ca : Nat → ClassId) : k_X6_faultyPlace ca 14 = i_icmp (fun x y => y ≤ x) 33 17 := rfl
theorem k_X6_faultyPlace_17 (ca : Nat → ClassId) : k_X6_faultyPlace ca 17 = i_aload 0 18 := rfl
theorem k_X6_faultyPlace_18 (ca : Nat → ClassId) : k_X6_faultyPlace ca 18 = i_iload 2 19 := rfl
theorem k_X6_faultyPlace_19 (ca : Nat → ClassId) : k_X6_faultyPlace ca 19 = i_callV 6 1 0 0 0 0 (sp_X6_canStandAt ca) 22 := rfl
theorem k_X6_faultyPlace_22 (ca : Nat → ClassId) : k_X6_faultyPlace ca 22 = i_if (fun x => ¬ x = 0) 27 25 := rfl
theorem k_X6_faultyPlace_25 (ca : Nat → ClassId) : k_X6_faultyPlace ca 25 = i_iload 2 26 := rfl
theorem k_X6_faultyPlace_26 (ca : Nat → ClassId) : k_X6_faultyPlace ca 26 = i_ret := rfl
theorem k_X6_faultyPlace_27 (ca : Nat → ClassId) : k_X6_faultyPlace ca 27 = i_iinc 2 1 30 := rfl
theorem k_X6_faultyPlace_30 (ca : Nat → ClassId) : k_X6_faultyPlace ca 30 = i_goto 12 := rfl
theorem k_X6_faultyPlace_33 (ca : Nat → ClassId) : k_X6_faultyPlace ca 33 = i_aload 0 34 := rfl
theorem k_X6_faultyPlace_34 (ca : Nat → ClassId) : k_X6_faultyPlace ca 34 = i_getf 6 1 37 := rfl
theorem k_X6_faultyPlace_37 (ca : Nat → ClassId) : k_X6_faultyPlace ca 37 = i_push (.int 32) 39 := rfl
theorem k_X6_faultyPlace_39 (ca : Nat → ClassId) : k_X6_faultyPlace ca 39 = i_icmp (fun x y => x ≤ y) 45 42 := rfl
theorem k_X6_faultyPlace_42 (ca : Nat → ClassId) : k_X6_faultyPlace ca 42 = i_push (.int 32) 44 := rfl
theorem k_X6_faultyPlace_44 (ca : Nat → ClassId) : k_X6_faultyPlace ca 44 = i_ret := rfl
theorem k_X6_faultyPlace_45 (ca : Nat → ClassId) : k_X6_faultyPlace ca 45 = i_aload 0 46 := rfl
theorem k_X6_faultyPlace_46 (ca : Nat → ClassId) : k_X6_faultyPlace ca 46 = i_getf 6 1 49 := rfl
theorem k_X6_faultyPlace_49 (ca : Nat → ClassId) : k_X6_faultyPlace ca 49 = i_if (fun x => x = 0) 62 52 := rfl
theorem k_X6_faultyPlace_52 (ca : Nat → ClassId) : k_X6_faultyPlace ca 52 = i_aload 0 53 := rfl
theorem k_X6_faultyPlace_53 (ca : Nat → ClassId) : k_X6_faultyPlace ca 53 = i_getf 6 1 56 := rfl
theorem k_X6_faultyPlace_56 (ca : Nat → ClassId) : k_X6_faultyPlace ca 56 = i_push (.int 4) 57 := rfl
theorem k_X6_faultyPlace_57 (ca : Nat → ClassId) : k_X6_faultyPlace ca 57 = i_dv (fun x y => x - x / y * y) 58 := rfl
theorem k_X6_faultyPlace_58 (ca : Nat → ClassId) : k_X6_faultyPlace ca 58 = i_push (.int 3) 59 := rfl
theorem k_X6_faultyPlace_59 (ca : Nat → ClassId) : k_X6_faultyPlace ca 59 = i_icmp (fun x y => ¬ x = y) 66 62 := rfl
theorem k_X6_faultyPlace_62 (ca : Nat → ClassId) : k_X6_faultyPlace ca 62 = i_push (.int (-1)) 63 := rfl
theorem k_X6_faultyPlace_63 (ca : Nat → ClassId) : k_X6_faultyPlace ca 63 = i_goto 70 := rfl
theorem k_X6_faultyPlace_66 (ca : Nat → ClassId) : k_X6_faultyPlace ca 66 = i_aload 0 67 := rfl
theorem k_X6_faultyPlace_67 (ca : Nat → ClassId) : k_X6_faultyPlace ca 67 = i_getf 6 1 70 := rfl
theorem k_X6_faultyPlace_70 (ca : Nat → ClassId) : k_X6_faultyPlace ca 70 = i_ret := rfl
set_option maxHeartbeats 4000000 in
set_option maxRecDepth 20000 in
theorem ok_X6_faultyPlace (l : Launch) (D : va_G) (ca : Nat → ClassId) : OkAll l D ca yX6_faultyPlace cX6_faultyPlace 3 (some .int) 2 0 0 (sp_X6_faultyPlace ca) := by
  intro av h post hs
  obtain ⟨qt, qc, n, f, rfl, ⟨h0, h1, hn⟩, hs⟩ := hs
  have hX : XAt ca h qt qc n f := ⟨h0, h1, hn⟩
  have hr := rem4 (n := n) (by omega)
  have h40 : ¬ (4 : Int32) = 0 := by decide
  have e0 : (nI n = 0) = (n = 0) := nIe (b := 0) (by omega) (by decide)
  have e3 : (nI (n % 4) = 3) = (n % 4 = 3) := nIe (b := 3) (by omega) (by decide)
  have e32 : (nI n ≤ 32) = (n ≤ 32) := propext (nI_leI (b := 32) (by omega) (by decide))
  have m32 : (if (32 : Int32) < nI n then (32 : Int32) else nI n) = nI (if n < 32 then n else 32) := by
    have l32 : (32 : Int32) = nI 32 := rfl
    rw [l32]
    by_cases q : n < 32
    · rw [if_pos q, if_neg (fun z => absurd ((nI_ltI (a := 32) (by decide) (by omega)).mp z) (by omega))]
    · rw [if_neg q]
      by_cases q2 : n = 32
      · subst q2; rfl
      · rw [if_pos ((nI_ltI (a := 32) (by decide) (by omega)).mpr (by omega))]
  refine okM_of t_X6_faultyPlace (by decide +kernel) (c1_ref c1_nil) (Nat.le_of_ble_eq_true rfl) ?_
  intro K go
  generalize hE : (if n < 32 then n else 32) = E at *
  have hE32 : E ≤ 32 := by rw [← hE]; split <;> omega
  have hEn : E ≤ n := by rw [← hE]; split <;> omega
  unfold placeF at hs
  rw [hE] at hs
  have fin : (fpG f E 0 = none) → K 0 0 33 [some (.ref qt), some (.int (nI E)), some (.int (nI E))] [] h := by
    intro hq
    rw [hq] at hs
    simp only at hs
    refine go (stp []) 25 _ _ _ _ _ _ ?_
    simp only [wpS, ite_not, i_push, i_iload, i_lload, i_aload, i_istore, i_astore, i_lstore, i_iinc, i_bin, i_dv, i_un, i_lbin, i_lsh, i_i2l, i_l2i, i_lcmp, i_dup, i_dup2, i_pop, i_if, i_icmp, i_goto, swG, i_sw, i_getf, i_puti, i_putz, i_putr, i_ald, i_lald, i_aald, i_ast, i_last, i_aast, i_alen, i_new, i_newi, i_newl, i_newq, i_oinit, i_ret, i_zret, i_lret, i_vret, catS, tk, rpush, isO, i_m1, i_m2, i_acopy, i_callV, i_callS, KRet, lget, lput, lputL, lcl0, isL, lv0, List.map_cons, List.map_nil, List.length_cons, List.length_nil, List.cons_append, List.nil_append, Nat.reduceAdd, Nat.reduceSub, Nat.reduceLeDiff, List.replicate_succ, List.replicate_zero, List.getElem?_cons_succ, List.getElem?_cons_zero, List.set_cons_succ, List.set_cons_zero, true_and, and_true, if_true, if_false, reduceIte, Nat.le_refl, Value.category, va_up_app, eq_self, stp, Nat.reduceBEq, Bool.or_false, Bool.false_or, Bool.true_or, Bool.or_true, or_true, true_or, bx_uu, implies_true, true_implies, not_true, not_false_eq_true, false_implies, and_self, Nat.reduceLT, Int32.reduceAdd, Int32.reduceSub, Int32.reduceMul, Int32.reduceLE, Int32.reduceLT, Int32.reduceToNatClampNeg, va_rf_some, Bool.false_eq_true, k_X6_faultyPlace_0 ca, k_X6_faultyPlace_1 ca, k_X6_faultyPlace_4 ca, k_X6_faultyPlace_6 ca, k_X6_faultyPlace_9 ca, k_X6_faultyPlace_10 ca, k_X6_faultyPlace_11 ca, k_X6_faultyPlace_12 ca, k_X6_faultyPlace_13 ca, k_X6_faultyPlace_14 ca, k_X6_faultyPlace_17 ca, k_X6_faultyPlace_18 ca, k_X6_faultyPlace_19 ca, k_X6_faultyPlace_22 ca, k_X6_faultyPlace_25 ca, k_X6_faultyPlace_26 ca, k_X6_faultyPlace_27 ca, k_X6_faultyPlace_30 ca, k_X6_faultyPlace_33 ca, k_X6_faultyPlace_34 ca, k_X6_faultyPlace_37 ca, k_X6_faultyPlace_39 ca, k_X6_faultyPlace_42 ca, k_X6_faultyPlace_44 ca, k_X6_faultyPlace_45 ca, k_X6_faultyPlace_46 ca, k_X6_faultyPlace_49 ca, k_X6_faultyPlace_52 ca, k_X6_faultyPlace_53 ca, k_X6_faultyPlace_56 ca, k_X6_faultyPlace_57 ca, k_X6_faultyPlace_58 ca, k_X6_faultyPlace_59 ca, k_X6_faultyPlace_62 ca, k_X6_faultyPlace_63 ca, k_X6_faultyPlace_66 ca, k_X6_faultyPlace_67 ca, k_X6_faultyPlace_70 ca, h0, hr, h40, e0, e3, e32]
    by_cases q1 : 32 < n
    · rw [if_pos q1] at hs
      rw [if_neg (by omega)]
      exact hs
    · rw [if_neg q1] at hs
      rw [if_pos (by omega)]
      by_cases q2 : n = 0
      · rw [if_pos q2] at hs ⊢
        exact hs
      · rw [if_neg q2] at hs ⊢
        by_cases q3 : n % 4 = 3
        · rw [if_pos q3] at hs ⊢
          exact hs
        · rw [if_neg q3] at hs ⊢
          exact hs
  have key : ∀ r k, k + r = E → fpG f E 0 = fpG f r k → K 0 0 12 [some (.ref qt), some (.int (nI E)), some (.int (nI k))] [] h := by
    intro r
    induction r with
    | zero =>
      intro k hk hq
      have hk : k = E := hk
      subst hk
      refine go (stp [33]) 6 _ _ _ _ _ _ ?_
      simp only [wpS, ite_not, i_push, i_iload, i_lload, i_aload, i_istore, i_astore, i_lstore, i_iinc, i_bin, i_dv, i_un, i_lbin, i_lsh, i_i2l, i_l2i, i_lcmp, i_dup, i_dup2, i_pop, i_if, i_icmp, i_goto, swG, i_sw, i_getf, i_puti, i_putz, i_putr, i_ald, i_lald, i_aald, i_ast, i_last, i_aast, i_alen, i_new, i_newi, i_newl, i_newq, i_oinit, i_ret, i_zret, i_lret, i_vret, catS, tk, rpush, isO, i_m1, i_m2, i_acopy, i_callV, i_callS, KRet, lget, lput, lputL, lcl0, isL, lv0, List.map_cons, List.map_nil, List.length_cons, List.length_nil, List.cons_append, List.nil_append, Nat.reduceAdd, Nat.reduceSub, Nat.reduceLeDiff, List.replicate_succ, List.replicate_zero, List.getElem?_cons_succ, List.getElem?_cons_zero, List.set_cons_succ, List.set_cons_zero, true_and, and_true, if_true, if_false, reduceIte, Nat.le_refl, Value.category, va_up_app, eq_self, stp, Nat.reduceBEq, Bool.or_false, Bool.false_or, Bool.true_or, Bool.or_true, or_true, true_or, bx_uu, implies_true, true_implies, not_true, not_false_eq_true, false_implies, and_self, Nat.reduceLT, Int32.reduceAdd, Int32.reduceSub, Int32.reduceMul, Int32.reduceLE, Int32.reduceLT, Int32.reduceToNatClampNeg, va_rf_some, Bool.false_eq_true, k_X6_faultyPlace_0 ca, k_X6_faultyPlace_1 ca, k_X6_faultyPlace_4 ca, k_X6_faultyPlace_6 ca, k_X6_faultyPlace_9 ca, k_X6_faultyPlace_10 ca, k_X6_faultyPlace_11 ca, k_X6_faultyPlace_12 ca, k_X6_faultyPlace_13 ca, k_X6_faultyPlace_14 ca, k_X6_faultyPlace_17 ca, k_X6_faultyPlace_18 ca, k_X6_faultyPlace_19 ca, k_X6_faultyPlace_22 ca, k_X6_faultyPlace_25 ca, k_X6_faultyPlace_26 ca, k_X6_faultyPlace_27 ca, k_X6_faultyPlace_30 ca, k_X6_faultyPlace_33 ca, k_X6_faultyPlace_34 ca, k_X6_faultyPlace_37 ca, k_X6_faultyPlace_39 ca, k_X6_faultyPlace_42 ca, k_X6_faultyPlace_44 ca, k_X6_faultyPlace_45 ca, k_X6_faultyPlace_46 ca, k_X6_faultyPlace_49 ca, k_X6_faultyPlace_52 ca, k_X6_faultyPlace_53 ca, k_X6_faultyPlace_56 ca, k_X6_faultyPlace_57 ca, k_X6_faultyPlace_58 ca, k_X6_faultyPlace_59 ca, k_X6_faultyPlace_62 ca, k_X6_faultyPlace_63 ca, k_X6_faultyPlace_66 ca, k_X6_faultyPlace_67 ca, k_X6_faultyPlace_70 ca, Int32.le_refl]
      exact fin hq
    | succ r ih =>
      intro k hk hq
      have g1 : ¬ nI E ≤ nI k := nI_ge (by omega) (by omega)
      have g2 : nI k + 1 = nI (k + 1) := nI_1 k
      refine go (stp [12, 22]) 8 _ _ _ _ _ _ ?_
      simp only [wpS, ite_not, i_push, i_iload, i_lload, i_aload, i_istore, i_astore, i_lstore, i_iinc, i_bin, i_dv, i_un, i_lbin, i_lsh, i_i2l, i_l2i, i_lcmp, i_dup, i_dup2, i_pop, i_if, i_icmp, i_goto, swG, i_sw, i_getf, i_puti, i_putz, i_putr, i_ald, i_lald, i_aald, i_ast, i_last, i_aast, i_alen, i_new, i_newi, i_newl, i_newq, i_oinit, i_ret, i_zret, i_lret, i_vret, catS, tk, rpush, isO, i_m1, i_m2, i_acopy, i_callV, i_callS, KRet, lget, lput, lputL, lcl0, isL, lv0, List.map_cons, List.map_nil, List.length_cons, List.length_nil, List.cons_append, List.nil_append, Nat.reduceAdd, Nat.reduceSub, Nat.reduceLeDiff, List.replicate_succ, List.replicate_zero, List.getElem?_cons_succ, List.getElem?_cons_zero, List.set_cons_succ, List.set_cons_zero, true_and, and_true, if_true, if_false, reduceIte, Nat.le_refl, Value.category, va_up_app, eq_self, stp, Nat.reduceBEq, Bool.or_false, Bool.false_or, Bool.true_or, Bool.or_true, or_true, true_or, bx_uu, implies_true, true_implies, not_true, not_false_eq_true, false_implies, and_self, Nat.reduceLT, Int32.reduceAdd, Int32.reduceSub, Int32.reduceMul, Int32.reduceLE, Int32.reduceLT, Int32.reduceToNatClampNeg, va_rf_some, Bool.false_eq_true, k_X6_faultyPlace_0 ca, k_X6_faultyPlace_1 ca, k_X6_faultyPlace_4 ca, k_X6_faultyPlace_6 ca, k_X6_faultyPlace_9 ca, k_X6_faultyPlace_10 ca, k_X6_faultyPlace_11 ca, k_X6_faultyPlace_12 ca, k_X6_faultyPlace_13 ca, k_X6_faultyPlace_14 ca, k_X6_faultyPlace_17 ca, k_X6_faultyPlace_18 ca, k_X6_faultyPlace_19 ca, k_X6_faultyPlace_22 ca, k_X6_faultyPlace_25 ca, k_X6_faultyPlace_26 ca, k_X6_faultyPlace_27 ca, k_X6_faultyPlace_30 ca, k_X6_faultyPlace_33 ca, k_X6_faultyPlace_34 ca, k_X6_faultyPlace_37 ca, k_X6_faultyPlace_39 ca, k_X6_faultyPlace_42 ca, k_X6_faultyPlace_44 ca, k_X6_faultyPlace_45 ca, k_X6_faultyPlace_46 ca, k_X6_faultyPlace_49 ca, k_X6_faultyPlace_52 ca, k_X6_faultyPlace_53 ca, k_X6_faultyPlace_56 ca, k_X6_faultyPlace_57 ca, k_X6_faultyPlace_58 ca, k_X6_faultyPlace_59 ca, k_X6_faultyPlace_62 ca, k_X6_faultyPlace_63 ca, k_X6_faultyPlace_66 ca, k_X6_faultyPlace_67 ca, k_X6_faultyPlace_70 ca, g1, h0]
      refine ⟨qt, qc, n, f, k, rfl, hX, by omega, ?_⟩
      rw [show fpG f (r + 1) k = if canF f k = true then fpG f r (k + 1) else some k from rfl] at hq
      by_cases q : canF f k = true
      · rw [if_pos q] at hq
        rw [q]
        refine go (stp [12]) 5 _ _ _ _ _ _ ?_
        simp only [wpS, ite_not, i_push, i_iload, i_lload, i_aload, i_istore, i_astore, i_lstore, i_iinc, i_bin, i_dv, i_un, i_lbin, i_lsh, i_i2l, i_l2i, i_lcmp, i_dup, i_dup2, i_pop, i_if, i_icmp, i_goto, swG, i_sw, i_getf, i_puti, i_putz, i_putr, i_ald, i_lald, i_aald, i_ast, i_last, i_aast, i_alen, i_new, i_newi, i_newl, i_newq, i_oinit, i_ret, i_zret, i_lret, i_vret, catS, tk, rpush, isO, i_m1, i_m2, i_acopy, i_callV, i_callS, KRet, lget, lput, lputL, lcl0, isL, lv0, List.map_cons, List.map_nil, List.length_cons, List.length_nil, List.cons_append, List.nil_append, Nat.reduceAdd, Nat.reduceSub, Nat.reduceLeDiff, List.replicate_succ, List.replicate_zero, List.getElem?_cons_succ, List.getElem?_cons_zero, List.set_cons_succ, List.set_cons_zero, true_and, and_true, if_true, if_false, reduceIte, Nat.le_refl, Value.category, va_up_app, eq_self, stp, Nat.reduceBEq, Bool.or_false, Bool.false_or, Bool.true_or, Bool.or_true, or_true, true_or, bx_uu, implies_true, true_implies, not_true, not_false_eq_true, false_implies, and_self, Nat.reduceLT, Int32.reduceAdd, Int32.reduceSub, Int32.reduceMul, Int32.reduceLE, Int32.reduceLT, Int32.reduceToNatClampNeg, va_rf_some, Bool.false_eq_true, k_X6_faultyPlace_0 ca, k_X6_faultyPlace_1 ca, k_X6_faultyPlace_4 ca, k_X6_faultyPlace_6 ca, k_X6_faultyPlace_9 ca, k_X6_faultyPlace_10 ca, k_X6_faultyPlace_11 ca, k_X6_faultyPlace_12 ca, k_X6_faultyPlace_13 ca, k_X6_faultyPlace_14 ca, k_X6_faultyPlace_17 ca, k_X6_faultyPlace_18 ca, k_X6_faultyPlace_19 ca, k_X6_faultyPlace_22 ca, k_X6_faultyPlace_25 ca, k_X6_faultyPlace_26 ca, k_X6_faultyPlace_27 ca, k_X6_faultyPlace_30 ca, k_X6_faultyPlace_33 ca, k_X6_faultyPlace_34 ca, k_X6_faultyPlace_37 ca, k_X6_faultyPlace_39 ca, k_X6_faultyPlace_42 ca, k_X6_faultyPlace_44 ca, k_X6_faultyPlace_45 ca, k_X6_faultyPlace_46 ca, k_X6_faultyPlace_49 ca, k_X6_faultyPlace_52 ca, k_X6_faultyPlace_53 ca, k_X6_faultyPlace_56 ca, k_X6_faultyPlace_57 ca, k_X6_faultyPlace_58 ca, k_X6_faultyPlace_59 ca, k_X6_faultyPlace_62 ca, k_X6_faultyPlace_63 ca, k_X6_faultyPlace_66 ca, k_X6_faultyPlace_67 ca, k_X6_faultyPlace_70 ca, g2, b2i_0, b2i_t]
        have z10 : ¬ (1 : Int32) = 0 := by decide
        simp only [z10, if_false]
        exact ih (k + 1) (by omega) hq
      · rw [if_neg q] at hq
        have q' : canF f k = false := by simpa using q
        rw [q']
        refine go (stp [12]) 5 _ _ _ _ _ _ ?_
        simp only [wpS, ite_not, i_push, i_iload, i_lload, i_aload, i_istore, i_astore, i_lstore, i_iinc, i_bin, i_dv, i_un, i_lbin, i_lsh, i_i2l, i_l2i, i_lcmp, i_dup, i_dup2, i_pop, i_if, i_icmp, i_goto, swG, i_sw, i_getf, i_puti, i_putz, i_putr, i_ald, i_lald, i_aald, i_ast, i_last, i_aast, i_alen, i_new, i_newi, i_newl, i_newq, i_oinit, i_ret, i_zret, i_lret, i_vret, catS, tk, rpush, isO, i_m1, i_m2, i_acopy, i_callV, i_callS, KRet, lget, lput, lputL, lcl0, isL, lv0, List.map_cons, List.map_nil, List.length_cons, List.length_nil, List.cons_append, List.nil_append, Nat.reduceAdd, Nat.reduceSub, Nat.reduceLeDiff, List.replicate_succ, List.replicate_zero, List.getElem?_cons_succ, List.getElem?_cons_zero, List.set_cons_succ, List.set_cons_zero, true_and, and_true, if_true, if_false, reduceIte, Nat.le_refl, Value.category, va_up_app, eq_self, stp, Nat.reduceBEq, Bool.or_false, Bool.false_or, Bool.true_or, Bool.or_true, or_true, true_or, bx_uu, implies_true, true_implies, not_true, not_false_eq_true, false_implies, and_self, Nat.reduceLT, Int32.reduceAdd, Int32.reduceSub, Int32.reduceMul, Int32.reduceLE, Int32.reduceLT, Int32.reduceToNatClampNeg, va_rf_some, Bool.false_eq_true, k_X6_faultyPlace_0 ca, k_X6_faultyPlace_1 ca, k_X6_faultyPlace_4 ca, k_X6_faultyPlace_6 ca, k_X6_faultyPlace_9 ca, k_X6_faultyPlace_10 ca, k_X6_faultyPlace_11 ca, k_X6_faultyPlace_12 ca, k_X6_faultyPlace_13 ca, k_X6_faultyPlace_14 ca, k_X6_faultyPlace_17 ca, k_X6_faultyPlace_18 ca, k_X6_faultyPlace_19 ca, k_X6_faultyPlace_22 ca, k_X6_faultyPlace_25 ca, k_X6_faultyPlace_26 ca, k_X6_faultyPlace_27 ca, k_X6_faultyPlace_30 ca, k_X6_faultyPlace_33 ca, k_X6_faultyPlace_34 ca, k_X6_faultyPlace_37 ca, k_X6_faultyPlace_39 ca, k_X6_faultyPlace_42 ca, k_X6_faultyPlace_44 ca, k_X6_faultyPlace_45 ca, k_X6_faultyPlace_46 ca, k_X6_faultyPlace_49 ca, k_X6_faultyPlace_52 ca, k_X6_faultyPlace_53 ca, k_X6_faultyPlace_56 ca, k_X6_faultyPlace_57 ca, k_X6_faultyPlace_58 ca, k_X6_faultyPlace_59 ca, k_X6_faultyPlace_62 ca, k_X6_faultyPlace_63 ca, k_X6_faultyPlace_66 ca, k_X6_faultyPlace_67 ca, k_X6_faultyPlace_70 ca, g2, b2i_0, b2i_f]
        rw [hq] at hs
        exact hs
  clear fin
  refine go (stp [12]) 10 _ _ _ _ _ _ ?_
  simp only [wpS, ite_not, i_push, i_iload, i_lload, i_aload, i_istore, i_astore, i_lstore, i_iinc, i_bin, i_dv, i_un, i_lbin, i_lsh, i_i2l, i_l2i, i_lcmp, i_dup, i_dup2, i_pop, i_if, i_icmp, i_goto, swG, i_sw, i_getf, i_puti, i_putz, i_putr, i_ald, i_lald, i_aald, i_ast, i_last, i_aast, i_alen, i_new, i_newi, i_newl, i_newq, i_oinit, i_ret, i_zret, i_lret, i_vret, catS, tk, rpush, isO, i_m1, i_m2, i_acopy, i_callV, i_callS, KRet, lget, lput, lputL, lcl0, isL, lv0, List.map_cons, List.map_nil, List.length_cons, List.length_nil, List.cons_append, List.nil_append, Nat.reduceAdd, Nat.reduceSub, Nat.reduceLeDiff, List.replicate_succ, List.replicate_zero, List.getElem?_cons_succ, List.getElem?_cons_zero, List.set_cons_succ, List.set_cons_zero, true_and, and_true, if_true, if_false, reduceIte, Nat.le_refl, Value.category, va_up_app, eq_self, stp, Nat.reduceBEq, Bool.or_false, Bool.false_or, Bool.true_or, Bool.or_true, or_true, true_or, bx_uu, implies_true, true_implies, not_true, not_false_eq_true, false_implies, and_self, Nat.reduceLT, Int32.reduceAdd, Int32.reduceSub, Int32.reduceMul, Int32.reduceLE, Int32.reduceLT, Int32.reduceToNatClampNeg, va_rf_some, Bool.false_eq_true, k_X6_faultyPlace_0 ca, k_X6_faultyPlace_1 ca, k_X6_faultyPlace_4 ca, k_X6_faultyPlace_6 ca, k_X6_faultyPlace_9 ca, k_X6_faultyPlace_10 ca, k_X6_faultyPlace_11 ca, k_X6_faultyPlace_12 ca, k_X6_faultyPlace_13 ca, k_X6_faultyPlace_14 ca, k_X6_faultyPlace_17 ca, k_X6_faultyPlace_18 ca, k_X6_faultyPlace_19 ca, k_X6_faultyPlace_22 ca, k_X6_faultyPlace_25 ca, k_X6_faultyPlace_26 ca, k_X6_faultyPlace_27 ca, k_X6_faultyPlace_30 ca, k_X6_faultyPlace_33 ca, k_X6_faultyPlace_34 ca, k_X6_faultyPlace_37 ca, k_X6_faultyPlace_39 ca, k_X6_faultyPlace_42 ca, k_X6_faultyPlace_44 ca, k_X6_faultyPlace_45 ca, k_X6_faultyPlace_46 ca, k_X6_faultyPlace_49 ca, k_X6_faultyPlace_52 ca, k_X6_faultyPlace_53 ca, k_X6_faultyPlace_56 ca, k_X6_faultyPlace_57 ca, k_X6_faultyPlace_58 ca, k_X6_faultyPlace_59 ca, k_X6_faultyPlace_62 ca, k_X6_faultyPlace_63 ca, k_X6_faultyPlace_66 ca, k_X6_faultyPlace_67 ca, k_X6_faultyPlace_70 ca, h0, m32]
  exact key E 0 (by omega) rfl
def sp_X6_reasonAt (ca : Nat → ClassId) : SPEC := fun av h post => ∃ qt qc n f p, av = [.ref qt, .int p] ∧ XAt ca h qt qc n f ∧ post (some (.int (if p = 32 then (if n ≤ 32 then 1 else 2) else 1))) h
def k_X6_reasonAt (ca : Nat → ClassId) : Nat → IT := fun pc => lk pc [(0, i_iload 1 1),
  (1, i_push (.int 32) 3),
  (3, i_icmp (fun x y => ¬ x = y) 19 6),
  (6, i_aload 0 7),
  (7, i_getf 6 1 10),
  (10, i_push (.int 32) 12),
  (12, i_icmp (fun x y => x ≤ y) 19 15),
  (15, i_push (.int 2) 16),
  (16, i_goto 20),
  (19, i_push (.int 1) 20),
  (20, i_ret)]
set_option maxRecDepth 20000 in
theorem t_X6_reasonAt : Tb k_X6_reasonAt yX6_reasonAt cX6_reasonAt 2 (some .int) 0 0 0 := by
  intro l D ca A p e s m args below meth c post X
  unfold k_X6_reasonAt
  refine snd_cons (snd_iload_n X dX6_reasonAt_0 rfl) ?_
  refine snd_cons (snd_bipush X dX6_reasonAt_1 (by decide)) ?_
  refine snd_cons (snd_icmp_ne X dX6_reasonAt_3 (by decide)) ?_
  refine snd_cons (snd_aload_n X dX6_reasonAt_6 rfl) ?_
  refine snd_cons (snd_getf X Fk6 1 (by decide) w_181 dX6_reasonAt_7) ?_
  refine snd_cons (snd_bipush X dX6_reasonAt_10 (by decide)) ?_
  refine snd_cons (snd_icmp_le X dX6_reasonAt_12 (by decide)) ?_
  refine snd_cons (snd_iconst X dX6_reasonAt_15 (by decide)) ?_
  refine snd_cons (snd_goto X dX6_reasonAt_16 (by decide)) ?_
  refine snd_cons (snd_iconst X dX6_reasonAt_19 (by decide)) ?_
  refine snd_cons (snd_ret X dX6_reasonAt_20) ?_
  exact snd_nil
theorem k_X6_reasonAt_0 (ca : Nat → ClassId) : k_X6_reasonAt ca 0 = i_iload 1 1 := rfl
theorem k_X6_reasonAt_1 (ca : Nat → ClassId) : k_X6_reasonAt ca 1 = i_push (.int 32) 3 := rfl
theorem k_X6_reasonAt_3 (ca : Nat → ClassId) : k_X6_reasonAt ca 3 = i_icmp (fun x y => ¬ x = y) 19 6 := rfl
theorem k_X6_reasonAt_6 (ca : Nat → ClassId) : k_X6_reasonAt ca 6 = i_aload 0 7 := rfl
theorem k_X6_reasonAt_7 (ca : Nat → ClassId) : k_X6_reasonAt ca 7 = i_getf 6 1 10 := rfl
theorem k_X6_reasonAt_10 (ca : Nat → ClassId) : k_X6_reasonAt ca 10 = i_push (.int 32) 12 := rfl
theorem k_X6_reasonAt_12 (ca : Nat → ClassId) : k_X6_reasonAt ca 12 = i_icmp (fun x y => x ≤ y) 19 15 := rfl
theorem k_X6_reasonAt_15 (ca : Nat → ClassId) : k_X6_reasonAt ca 15 = i_push (.int 2) 16 := rfl
theorem k_X6_reasonAt_16 (ca : Nat → ClassId) : k_X6_reasonAt ca 16 = i_goto 20 := rfl
theorem k_X6_reasonAt_19 (ca : Nat → ClassId) : k_X6_reasonAt ca 19 = i_push (.int 1) 20 := rfl
theorem k_X6_reasonAt_20 (ca : Nat → ClassId) : k_X6_reasonAt ca 20 = i_ret := rfl
set_option maxHeartbeats 4000000 in
set_option maxRecDepth 20000 in
theorem ok_X6_reasonAt (l : Launch) (D : va_G) (ca : Nat → ClassId) : OkAll l D ca yX6_reasonAt cX6_reasonAt 2 (some .int) 0 0 0 (sp_X6_reasonAt ca) := by
  intro av h post hs
  obtain ⟨qt, qc, n, f, p, rfl, ⟨h0, h1, hn⟩, hs⟩ := hs
  have e32 : (nI n ≤ 32) = (n ≤ 32) := propext (nI_leI (b := 32) (by omega) (by decide))
  refine okM_of t_X6_reasonAt (by decide +kernel) (c1_ref (c1_int c1_nil)) (Nat.le_of_ble_eq_true rfl) ?_
  intro K go
  refine go (stp []) 14 _ _ _ _ _ _ ?_
  simp only [wpS, ite_not, i_push, i_iload, i_lload, i_aload, i_istore, i_astore, i_lstore, i_iinc, i_bin, i_dv, i_un, i_lbin, i_lsh, i_i2l, i_l2i, i_lcmp, i_dup, i_dup2, i_pop, i_if, i_icmp, i_goto, swG, i_sw, i_getf, i_puti, i_putz, i_putr, i_ald, i_lald, i_aald, i_ast, i_last, i_aast, i_alen, i_new, i_newi, i_newl, i_newq, i_oinit, i_ret, i_zret, i_lret, i_vret, catS, tk, rpush, isO, i_m1, i_m2, i_acopy, i_callV, i_callS, KRet, lget, lput, lputL, lcl0, isL, lv0, List.map_cons, List.map_nil, List.length_cons, List.length_nil, List.cons_append, List.nil_append, Nat.reduceAdd, Nat.reduceSub, Nat.reduceLeDiff, List.replicate_succ, List.replicate_zero, List.getElem?_cons_succ, List.getElem?_cons_zero, List.set_cons_succ, List.set_cons_zero, true_and, and_true, if_true, if_false, reduceIte, Nat.le_refl, Value.category, va_up_app, eq_self, stp, Nat.reduceBEq, Bool.or_false, Bool.false_or, Bool.true_or, Bool.or_true, or_true, true_or, bx_uu, implies_true, true_implies, not_true, not_false_eq_true, false_implies, and_self, Nat.reduceLT, Int32.reduceAdd, Int32.reduceSub, Int32.reduceMul, Int32.reduceLE, Int32.reduceLT, Int32.reduceToNatClampNeg, va_rf_some, Bool.false_eq_true, k_X6_reasonAt_0 ca, k_X6_reasonAt_1 ca, k_X6_reasonAt_3 ca, k_X6_reasonAt_6 ca, k_X6_reasonAt_7 ca, k_X6_reasonAt_10 ca, k_X6_reasonAt_12 ca, k_X6_reasonAt_15 ca, k_X6_reasonAt_16 ca, k_X6_reasonAt_19 ca, k_X6_reasonAt_20 ca, h0, e32]
  clear go
  (repeat' first | intro _ | apply And.intro | apply ifp) <;> first | (simp_all [-Int32.not_lt, -Int32.not_le]; done)
def sp_X6_parts (ca : Nat → ClassId) : SPEC := fun av h post => ∃ qt qc n f, av = [.ref qt] ∧ XAt ca h qt qc n f ∧ post (some (.int (nI ((n + 1) / 4)))) h
def k_X6_parts (ca : Nat → ClassId) : Nat → IT := fun pc => lk pc [(0, i_aload 0 1),
  (1, i_getf 6 1 4),
  (4, i_push (.int 1) 5),
  (5, i_bin (fun x y => x + y) 6),
  (6, i_push (.int 4) 7),
  (7, i_dv (fun x y => x / y) 8),
  (8, i_ret)]
set_option maxRecDepth 20000 in
theorem t_X6_parts : Tb k_X6_parts yX6_parts cX6_parts 1 (some .int) 0 0 0 := by
  intro l D ca A p e s m args below meth c post X
  unfold k_X6_parts
  refine snd_cons (snd_aload_n X dX6_parts_0 rfl) ?_
  refine snd_cons (snd_getf X Fk6 1 (by decide) w_181 dX6_parts_1) ?_
  refine snd_cons (snd_iconst X dX6_parts_4 (by decide)) ?_
  refine snd_cons (snd_iadd X dX6_parts_5) ?_
  refine snd_cons (snd_iconst X dX6_parts_6 (by decide)) ?_
  refine snd_cons (snd_idiv X dX6_parts_7) ?_
  refine snd_cons (snd_ret X dX6_parts_8) ?_
  exact snd_nil
theorem k_X6_parts_0 (ca : Nat → ClassId) : k_X6_parts ca 0 = i_aload 0 1 := rfl
theorem k_X6_parts_1 (ca : Nat → ClassId) : k_X6_parts ca 1 = i_getf 6 1 4 := rfl
theorem k_X6_parts_4 (ca : Nat → ClassId) : k_X6_parts ca 4 = i_push (.int 1) 5 := rfl
theorem k_X6_parts_5 (ca : Nat → ClassId) : k_X6_parts ca 5 = i_bin (fun x y => x + y) 6 := rfl
theorem k_X6_parts_6 (ca : Nat → ClassId) : k_X6_parts ca 6 = i_push (.int 4) 7 := rfl
theorem k_X6_parts_7 (ca : Nat → ClassId) : k_X6_parts ca 7 = i_dv (fun x y => x / y) 8 := rfl
theorem k_X6_parts_8 (ca : Nat → ClassId) : k_X6_parts ca 8 = i_ret := rfl
set_option maxHeartbeats 4000000 in
set_option maxRecDepth 20000 in
theorem ok_X6_parts (l : Launch) (D : va_G) (ca : Nat → ClassId) : OkAll l D ca yX6_parts cX6_parts 1 (some .int) 0 0 0 (sp_X6_parts ca) := by
  intro av h post hs
  obtain ⟨qt, qc, n, f, rfl, ⟨h0, h1, hn⟩, hs⟩ := hs
  have e : (nI n + 1) / 4 = nI ((n + 1) / 4) := by rw [nI_1, ← n4]; exact pk_div (by omega) (by decide) (by decide)
  have h40 : ¬ (4 : Int32) = 0 := by decide
  refine okM_of t_X6_parts (by decide +kernel) (c1_ref c1_nil) (Nat.le_of_ble_eq_true rfl) ?_
  intro K go
  refine go (stp []) 9 _ _ _ _ _ _ ?_
  simp only [wpS, ite_not, i_push, i_iload, i_lload, i_aload, i_istore, i_astore, i_lstore, i_iinc, i_bin, i_dv, i_un, i_lbin, i_lsh, i_i2l, i_l2i, i_lcmp, i_dup, i_dup2, i_pop, i_if, i_icmp, i_goto, swG, i_sw, i_getf, i_puti, i_putz, i_putr, i_ald, i_lald, i_aald, i_ast, i_last, i_aast, i_alen, i_new, i_newi, i_newl, i_newq, i_oinit, i_ret, i_zret, i_lret, i_vret, catS, tk, rpush, isO, i_m1, i_m2, i_acopy, i_callV, i_callS, KRet, lget, lput, lputL, lcl0, isL, lv0, List.map_cons, List.map_nil, List.length_cons, List.length_nil, List.cons_append, List.nil_append, Nat.reduceAdd, Nat.reduceSub, Nat.reduceLeDiff, List.replicate_succ, List.replicate_zero, List.getElem?_cons_succ, List.getElem?_cons_zero, List.set_cons_succ, List.set_cons_zero, true_and, and_true, if_true, if_false, reduceIte, Nat.le_refl, Value.category, va_up_app, eq_self, stp, Nat.reduceBEq, Bool.or_false, Bool.false_or, Bool.true_or, Bool.or_true, or_true, true_or, bx_uu, implies_true, true_implies, not_true, not_false_eq_true, false_implies, and_self, Nat.reduceLT, Int32.reduceAdd, Int32.reduceSub, Int32.reduceMul, Int32.reduceLE, Int32.reduceLT, Int32.reduceToNatClampNeg, va_rf_some, Bool.false_eq_true, k_X6_parts_0 ca, k_X6_parts_1 ca, k_X6_parts_4 ca, k_X6_parts_5 ca, k_X6_parts_6 ca, k_X6_parts_7 ca, k_X6_parts_8 ca, h0, e, h40]
  exact hs
def sp_X6_lengthOfPart (ca : Nat → ClassId) : SPEC := fun av h post => ∃ qt qc n f k, av = [.ref qt, .int (nI k)] ∧ XAt ca h qt qc n f ∧ k < 15 ∧ post (some (.int (f (4 * k) - 48))) h
theorem mul4 {k : Nat} : nI k * 4 = nI (4 * k) := by rw [← n4, pk_mul, Nat.mul_comm]
def k_X6_lengthOfPart (ca : Nat → ClassId) : Nat → IT := fun pc => lk pc [(0, i_aload 0 1),
  (1, i_getf 6 0 4),
  (4, i_iload 1 5),
  (5, i_push (.int 4) 6),
  (6, i_bin (fun x y => x * y) 7),
  (7, i_ald (ca 3) 8),
  (8, i_push (.int 48) 10),
  (10, i_bin (fun x y => x - y) 11),
  (11, i_ret)]
set_option maxRecDepth 20000 in
theorem t_X6_lengthOfPart : Tb k_X6_lengthOfPart yX6_lengthOfPart cX6_lengthOfPart 2 (some .int) 0 0 0 := by
  intro l D ca A p e s m args below meth c post X
  unfold k_X6_lengthOfPart
  refine snd_cons (snd_aload_n X dX6_lengthOfPart_0 rfl) ?_
  refine snd_cons (snd_getf X Fk6 0 (by decide) w_180 dX6_lengthOfPart_1) ?_
  refine snd_cons (snd_iload_n X dX6_lengthOfPart_4 rfl) ?_
  refine snd_cons (snd_iconst X dX6_lengthOfPart_5 (by decide)) ?_
  refine snd_cons (snd_imul X dX6_lengthOfPart_6) ?_
  refine snd_cons (snd_caload X dX6_lengthOfPart_7) ?_
  refine snd_cons (snd_bipush X dX6_lengthOfPart_8 (by decide)) ?_
  refine snd_cons (snd_isub X dX6_lengthOfPart_10) ?_
  refine snd_cons (snd_ret X dX6_lengthOfPart_11) ?_
  exact snd_nil
theorem k_X6_lengthOfPart_0 (ca : Nat → ClassId) : k_X6_lengthOfPart ca 0 = i_aload 0 1 := rfl
theorem k_X6_lengthOfPart_1 (ca : Nat → ClassId) : k_X6_lengthOfPart ca 1 = i_getf 6 0 4 := rfl
theorem k_X6_lengthOfPart_4 (ca : Nat → ClassId) : k_X6_lengthOfPart ca 4 = i_iload 1 5 := rfl
theorem k_X6_lengthOfPart_5 (ca : Nat → ClassId) : k_X6_lengthOfPart ca 5 = i_push (.int 4) 6 := rfl
theorem k_X6_lengthOfPart_6 (ca : Nat → ClassId) : k_X6_lengthOfPart ca 6 = i_bin (fun x y => x * y) 7 := rfl
theorem k_X6_lengthOfPart_7 (ca : Nat → ClassId) : k_X6_lengthOfPart ca 7 = i_ald (ca 3) 8 := rfl
theorem k_X6_lengthOfPart_8 (ca : Nat → ClassId) : k_X6_lengthOfPart ca 8 = i_push (.int 48) 10 := rfl
theorem k_X6_lengthOfPart_10 (ca : Nat → ClassId) : k_X6_lengthOfPart ca 10 = i_bin (fun x y => x - y) 11 := rfl
theorem k_X6_lengthOfPart_11 (ca : Nat → ClassId) : k_X6_lengthOfPart ca 11 = i_ret := rfl
set_option maxHeartbeats 4000000 in
set_option maxRecDepth 20000 in
theorem ok_X6_lengthOfPart (l : Launch) (D : va_G) (ca : Nat → ClassId) : OkAll l D ca yX6_lengthOfPart cX6_lengthOfPart 2 (some .int) 0 0 0 (sp_X6_lengthOfPart ca) := by
  intro av h post hs
  obtain ⟨qt, qc, n, f, k, rfl, ⟨h0, h1, hn⟩, hk, hs⟩ := hs
  have hv : vp_in (nI (4 * k)) 60 := vp_in_nI (by omega) (by decide)
  have ht : (nI (4 * k)).toNatClampNeg = 4 * k := nI_clamp (by omega)
  refine okM_of t_X6_lengthOfPart (by decide +kernel) (c1_ref (c1_int c1_nil)) (Nat.le_of_ble_eq_true rfl) ?_
  intro K go
  refine go (stp []) 12 _ _ _ _ _ _ ?_
  simp only [wpS, ite_not, i_push, i_iload, i_lload, i_aload, i_istore, i_astore, i_lstore, i_iinc, i_bin, i_dv, i_un, i_lbin, i_lsh, i_i2l, i_l2i, i_lcmp, i_dup, i_dup2, i_pop, i_if, i_icmp, i_goto, swG, i_sw, i_getf, i_puti, i_putz, i_putr, i_ald, i_lald, i_aald, i_ast, i_last, i_aast, i_alen, i_new, i_newi, i_newl, i_newq, i_oinit, i_ret, i_zret, i_lret, i_vret, catS, tk, rpush, isO, i_m1, i_m2, i_acopy, i_callV, i_callS, KRet, lget, lput, lputL, lcl0, isL, lv0, List.map_cons, List.map_nil, List.length_cons, List.length_nil, List.cons_append, List.nil_append, Nat.reduceAdd, Nat.reduceSub, Nat.reduceLeDiff, List.replicate_succ, List.replicate_zero, List.getElem?_cons_succ, List.getElem?_cons_zero, List.set_cons_succ, List.set_cons_zero, true_and, and_true, if_true, if_false, reduceIte, Nat.le_refl, Value.category, va_up_app, eq_self, stp, Nat.reduceBEq, Bool.or_false, Bool.false_or, Bool.true_or, Bool.or_true, or_true, true_or, bx_uu, implies_true, true_implies, not_true, not_false_eq_true, false_implies, and_self, Nat.reduceLT, Int32.reduceAdd, Int32.reduceSub, Int32.reduceMul, Int32.reduceLE, Int32.reduceLT, Int32.reduceToNatClampNeg, va_rf_some, Bool.false_eq_true, k_X6_lengthOfPart_0 ca, k_X6_lengthOfPart_1 ca, k_X6_lengthOfPart_4 ca, k_X6_lengthOfPart_5 ca, k_X6_lengthOfPart_6 ca, k_X6_lengthOfPart_7 ca, k_X6_lengthOfPart_8 ca, k_X6_lengthOfPart_10 ca, k_X6_lengthOfPart_11 ca, h0, h1, mul4, hv, ht]
  exact hs
def sp_X6_upperOfPart (ca : Nat → ClassId) : SPEC := fun av h post => ∃ qt qc n f k, av = [.ref qt, .int (nI k)] ∧ XAt ca h qt qc n f ∧ k < 14 ∧ post (some (.int (f (4 * k + 1) - 97))) h
def k_X6_upperOfPart (ca : Nat → ClassId) : Nat → IT := fun pc => lk pc [(0, i_aload 0 1),
  (1, i_getf 6 0 4),
  (4, i_iload 1 5),
  (5, i_push (.int 4) 6),
  (6, i_bin (fun x y => x * y) 7),
  (7, i_push (.int 1) 8),
  (8, i_bin (fun x y => x + y) 9),
  (9, i_ald (ca 3) 10),
  (10, i_push (.int 97) 12),
  (12, i_bin (fun x y => x - y) 13),
  (13, i_ret)]
set_option maxRecDepth 20000 in
theorem t_X6_upperOfPart : Tb k_X6_upperOfPart yX6_upperOfPart cX6_upperOfPart 2 (some .int) 0 0 0 := by
  intro l D ca A p e s m args below meth c post X
  unfold k_X6_upperOfPart
  refine snd_cons (snd_aload_n X dX6_upperOfPart_0 rfl) ?_
  refine snd_cons (snd_getf X Fk6 0 (by decide) w_180 dX6_upperOfPart_1) ?_
  refine snd_cons (snd_iload_n X dX6_upperOfPart_4 rfl) ?_
  refine snd_cons (snd_iconst X dX6_upperOfPart_5 (by decide)) ?_
  refine snd_cons (snd_imul X dX6_upperOfPart_6) ?_
  refine snd_cons (snd_iconst X dX6_upperOfPart_7 (by decide)) ?_
  refine snd_cons (snd_iadd X dX6_upperOfPart_8) ?_
  refine snd_cons (snd_caload X dX6_upperOfPart_9) ?_
  refine snd_cons (snd_bipush X dX6_upperOfPart_10 (by decide)) ?_
  refine snd_cons (snd_isub X dX6_upperOfPart_12) ?_
  refine snd_cons (snd_ret X dX6_upperOfPart_13) ?_
  exact snd_nil
theorem k_X6_upperOfPart_0 (ca : Nat → ClassId) : k_X6_upperOfPart ca 0 = i_aload 0 1 := rfl
theorem k_X6_upperOfPart_1 (ca : Nat → ClassId) : k_X6_upperOfPart ca 1 = i_getf 6 0 4 := rfl
theorem k_X6_upperOfPart_4 (ca : Nat → ClassId) : k_X6_upperOfPart ca 4 = i_iload 1 5 := rfl
theorem k_X6_upperOfPart_5 (ca : Nat → ClassId) : k_X6_upperOfPart ca 5 = i_push (.int 4) 6 := rfl
theorem k_X6_upperOfPart_6 (ca : Nat → ClassId) : k_X6_upperOfPart ca 6 = i_bin (fun x y => x * y) 7 := rfl
theorem k_X6_upperOfPart_7 (ca : Nat → ClassId) : k_X6_upperOfPart ca 7 = i_push (.int 1) 8 := rfl
theorem k_X6_upperOfPart_8 (ca : Nat → ClassId) : k_X6_upperOfPart ca 8 = i_bin (fun x y => x + y) 9 := rfl
theorem k_X6_upperOfPart_9 (ca : Nat → ClassId) : k_X6_upperOfPart ca 9 = i_ald (ca 3) 10 := rfl
theorem k_X6_upperOfPart_10 (ca : Nat → ClassId) : k_X6_upperOfPart ca 10 = i_push (.int 97) 12 := rfl
theorem k_X6_upperOfPart_12 (ca : Nat → ClassId) : k_X6_upperOfPart ca 12 = i_bin (fun x y => x - y) 13 := rfl
theorem k_X6_upperOfPart_13 (ca : Nat → ClassId) : k_X6_upperOfPart ca 13 = i_ret := rfl
set_option maxHeartbeats 4000000 in
set_option maxRecDepth 20000 in
theorem ok_X6_upperOfPart (l : Launch) (D : va_G) (ca : Nat → ClassId) : OkAll l D ca yX6_upperOfPart cX6_upperOfPart 2 (some .int) 0 0 0 (sp_X6_upperOfPart ca) := by
  intro av h post hs
  obtain ⟨qt, qc, n, f, k, rfl, ⟨h0, h1, hn⟩, hk, hs⟩ := hs
  have e1 : nI (4 * k) + 1 = nI (4 * k + 1) := nI_1 _
  have hv : vp_in (nI (4 * k + 1)) 60 := vp_in_nI (by omega) (by decide)
  have ht : (nI (4 * k + 1)).toNatClampNeg = 4 * k + 1 := nI_clamp (by omega)
  refine okM_of t_X6_upperOfPart (by decide +kernel) (c1_ref (c1_int c1_nil)) (Nat.le_of_ble_eq_true rfl) ?_
  intro K go
  refine go (stp []) 14 _ _ _ _ _ _ ?_
  simp only [wpS, ite_not, i_push, i_iload, i_lload, i_aload, i_istore, i_astore, i_lstore, i_iinc, i_bin, i_dv, i_un, i_lbin, i_lsh, i_i2l, i_l2i, i_lcmp, i_dup, i_dup2, i_pop, i_if, i_icmp, i_goto, swG, i_sw, i_getf, i_puti, i_putz, i_putr, i_ald, i_lald, i_aald, i_ast, i_last, i_aast, i_alen, i_new, i_newi, i_newl, i_newq, i_oinit, i_ret, i_zret, i_lret, i_vret, catS, tk, rpush, isO, i_m1, i_m2, i_acopy, i_callV, i_callS, KRet, lget, lput, lputL, lcl0, isL, lv0, List.map_cons, List.map_nil, List.length_cons, List.length_nil, List.cons_append, List.nil_append, Nat.reduceAdd, Nat.reduceSub, Nat.reduceLeDiff, List.replicate_succ, List.replicate_zero, List.getElem?_cons_succ, List.getElem?_cons_zero, List.set_cons_succ, List.set_cons_zero, true_and, and_true, if_true, if_false, reduceIte, Nat.le_refl, Value.category, va_up_app, eq_self, stp, Nat.reduceBEq, Bool.or_false, Bool.false_or, Bool.true_or, Bool.or_true, or_true, true_or, bx_uu, implies_true, true_implies, not_true, not_false_eq_true, false_implies, and_self, Nat.reduceLT, Int32.reduceAdd, Int32.reduceSub, Int32.reduceMul, Int32.reduceLE, Int32.reduceLT, Int32.reduceToNatClampNeg, va_rf_some, Bool.false_eq_true, k_X6_upperOfPart_0 ca, k_X6_upperOfPart_1 ca, k_X6_upperOfPart_4 ca, k_X6_upperOfPart_5 ca, k_X6_upperOfPart_6 ca, k_X6_upperOfPart_7 ca, k_X6_upperOfPart_8 ca, k_X6_upperOfPart_9 ca, k_X6_upperOfPart_10 ca, k_X6_upperOfPart_12 ca, k_X6_upperOfPart_13 ca, h0, h1, mul4, e1, hv, ht]
  exact hs
def sp_X6_lowerOfPart (ca : Nat → ClassId) : SPEC := fun av h post => ∃ qt qc n f k, av = [.ref qt, .int (nI k)] ∧ XAt ca h qt qc n f ∧ k < 14 ∧ post (some (.int (f (4 * k + 2) - 97))) h
def k_X6_lowerOfPart (ca : Nat → ClassId) : Nat → IT := fun pc => lk pc [(0, i_aload 0 1),
  (1, i_getf 6 0 4),
  (4, i_iload 1 5),
  (5, i_push (.int 4) 6),
  (6, i_bin (fun x y => x * y) 7),
  (7, i_push (.int 2) 8),
  (8, i_bin (fun x y => x + y) 9),
  (9, i_ald (ca 3) 10),
  (10, i_push (.int 97) 12),
  (12, i_bin (fun x y => x - y) 13),
  (13, i_ret)]
set_option maxRecDepth 20000 in
theorem t_X6_lowerOfPart : Tb k_X6_lowerOfPart yX6_lowerOfPart cX6_lowerOfPart 2 (some .int) 0 0 0 := by
  intro l D ca A p e s m args below meth c post X
  unfold k_X6_lowerOfPart
  refine snd_cons (snd_aload_n X dX6_lowerOfPart_0 rfl) ?_
  refine snd_cons (snd_getf X Fk6 0 (by decide) w_180 dX6_lowerOfPart_1) ?_
  refine snd_cons (snd_iload_n X dX6_lowerOfPart_4 rfl) ?_
  refine snd_cons (snd_iconst X dX6_lowerOfPart_5 (by decide)) ?_
  refine snd_cons (snd_imul X dX6_lowerOfPart_6) ?_
  refine snd_cons (snd_iconst X dX6_lowerOfPart_7 (by decide)) ?_
  refine snd_cons (snd_iadd X dX6_lowerOfPart_8) ?_
  refine snd_cons (snd_caload X dX6_lowerOfPart_9) ?_
  refine snd_cons (snd_bipush X dX6_lowerOfPart_10 (by decide)) ?_
  refine snd_cons (snd_isub X dX6_lowerOfPart_12) ?_
  refine snd_cons (snd_ret X dX6_lowerOfPart_13) ?_
  exact snd_nil
theorem k_X6_lowerOfPart_0 (ca : Nat → ClassId) : k_X6_lowerOfPart ca 0 = i_aload 0 1 := rfl
theorem k_X6_lowerOfPart_1 (ca : Nat → ClassId) : k_X6_lowerOfPart ca 1 = i_getf 6 0 4 := rfl
theorem k_X6_lowerOfPart_4 (ca : Nat → ClassId) : k_X6_lowerOfPart ca 4 = i_iload 1 5 := rfl
theorem k_X6_lowerOfPart_5 (ca : Nat → ClassId) : k_X6_lowerOfPart ca 5 = i_push (.int 4) 6 := rfl
theorem k_X6_lowerOfPart_6 (ca : Nat → ClassId) : k_X6_lowerOfPart ca 6 = i_bin (fun x y => x * y) 7 := rfl
theorem k_X6_lowerOfPart_7 (ca : Nat → ClassId) : k_X6_lowerOfPart ca 7 = i_push (.int 2) 8 := rfl
theorem k_X6_lowerOfPart_8 (ca : Nat → ClassId) : k_X6_lowerOfPart ca 8 = i_bin (fun x y => x + y) 9 := rfl
theorem k_X6_lowerOfPart_9 (ca : Nat → ClassId) : k_X6_lowerOfPart ca 9 = i_ald (ca 3) 10 := rfl
theorem k_X6_lowerOfPart_10 (ca : Nat → ClassId) : k_X6_lowerOfPart ca 10 = i_push (.int 97) 12 := rfl
theorem k_X6_lowerOfPart_12 (ca : Nat → ClassId) : k_X6_lowerOfPart ca 12 = i_bin (fun x y => x - y) 13 := rfl
theorem k_X6_lowerOfPart_13 (ca : Nat → ClassId) : k_X6_lowerOfPart ca 13 = i_ret := rfl
set_option maxHeartbeats 4000000 in
set_option maxRecDepth 20000 in
theorem ok_X6_lowerOfPart (l : Launch) (D : va_G) (ca : Nat → ClassId) : OkAll l D ca yX6_lowerOfPart cX6_lowerOfPart 2 (some .int) 0 0 0 (sp_X6_lowerOfPart ca) := by
  intro av h post hs
  obtain ⟨qt, qc, n, f, k, rfl, ⟨h0, h1, hn⟩, hk, hs⟩ := hs
  have e1 : nI (4 * k) + 2 = nI (4 * k + 2) := nI_add _ 2
  have hv : vp_in (nI (4 * k + 2)) 60 := vp_in_nI (by omega) (by decide)
  have ht : (nI (4 * k + 2)).toNatClampNeg = 4 * k + 2 := nI_clamp (by omega)
  refine okM_of t_X6_lowerOfPart (by decide +kernel) (c1_ref (c1_int c1_nil)) (Nat.le_of_ble_eq_true rfl) ?_
  intro K go
  refine go (stp []) 14 _ _ _ _ _ _ ?_
  simp only [wpS, ite_not, i_push, i_iload, i_lload, i_aload, i_istore, i_astore, i_lstore, i_iinc, i_bin, i_dv, i_un, i_lbin, i_lsh, i_i2l, i_l2i, i_lcmp, i_dup, i_dup2, i_pop, i_if, i_icmp, i_goto, swG, i_sw, i_getf, i_puti, i_putz, i_putr, i_ald, i_lald, i_aald, i_ast, i_last, i_aast, i_alen, i_new, i_newi, i_newl, i_newq, i_oinit, i_ret, i_zret, i_lret, i_vret, catS, tk, rpush, isO, i_m1, i_m2, i_acopy, i_callV, i_callS, KRet, lget, lput, lputL, lcl0, isL, lv0, List.map_cons, List.map_nil, List.length_cons, List.length_nil, List.cons_append, List.nil_append, Nat.reduceAdd, Nat.reduceSub, Nat.reduceLeDiff, List.replicate_succ, List.replicate_zero, List.getElem?_cons_succ, List.getElem?_cons_zero, List.set_cons_succ, List.set_cons_zero, true_and, and_true, if_true, if_false, reduceIte, Nat.le_refl, Value.category, va_up_app, eq_self, stp, Nat.reduceBEq, Bool.or_false, Bool.false_or, Bool.true_or, Bool.or_true, or_true, true_or, bx_uu, implies_true, true_implies, not_true, not_false_eq_true, false_implies, and_self, Nat.reduceLT, Int32.reduceAdd, Int32.reduceSub, Int32.reduceMul, Int32.reduceLE, Int32.reduceLT, Int32.reduceToNatClampNeg, va_rf_some, Bool.false_eq_true, k_X6_lowerOfPart_0 ca, k_X6_lowerOfPart_1 ca, k_X6_lowerOfPart_4 ca, k_X6_lowerOfPart_5 ca, k_X6_lowerOfPart_6 ca, k_X6_lowerOfPart_7 ca, k_X6_lowerOfPart_8 ca, k_X6_lowerOfPart_9 ca, k_X6_lowerOfPart_10 ca, k_X6_lowerOfPart_12 ca, k_X6_lowerOfPart_13 ca, h0, h1, mul4, e1, hv, ht]
  exact hs
def sp_X6_append (ca : Nat → ClassId) : SPEC := fun av h post => ∃ qt qc n f x, av = [.ref qt, .int x] ∧ XAt ca h qt qc n f ∧ n < 60 ∧ ¬ qc = qt ∧ post none (va_up (va_up h qc (some (.inl (ca 3, 60, .inl (upd f n (vp_nar .char x)))))) qt (some (.inr (6, [.ref qc, .int (nI (n + 1))]))))
def k_X6_append (ca : Nat → ClassId) : Nat → IT := fun pc => lk pc [(0, i_aload 0 1),
  (1, i_getf 6 1 4),
  (4, i_push (.int 60) 6),
  (6, i_icmp (fun x y => y ≤ x) 29 9),
  (9, i_aload 0 10),
  (10, i_getf 6 0 13),
  (13, i_aload 0 14),
  (14, i_getf 6 1 17),
  (17, i_iload 1 18),
  (18, i_ast (vp_nar .char) (ca 3) 19),
  (19, i_aload 0 20),
  (20, i_dup 21),
  (21, i_getf 6 1 24),
  (24, i_push (.int 1) 25),
  (25, i_bin (fun x y => x + y) 26),
  (26, i_puti 6 1 29),
  (29, i_vret)]
set_option maxRecDepth 20000 in
theorem t_X6_append : Tb k_X6_append yX6_append cX6_append 2 none 0 0 0 := by
  intro l D ca A p e s m args below meth c post X
  unfold k_X6_append
  refine snd_cons (snd_aload_n X dX6_append_0 rfl) ?_
  refine snd_cons (snd_getf X Fk6 1 (by decide) w_181 dX6_append_1) ?_
  refine snd_cons (snd_bipush X dX6_append_4 (by decide)) ?_
  refine snd_cons (snd_icmp_ge X dX6_append_6 (by decide)) ?_
  refine snd_cons (snd_aload_n X dX6_append_9 rfl) ?_
  refine snd_cons (snd_getf X Fk6 0 (by decide) w_180 dX6_append_10) ?_
  refine snd_cons (snd_aload_n X dX6_append_13 rfl) ?_
  refine snd_cons (snd_getf X Fk6 1 (by decide) w_181 dX6_append_14) ?_
  refine snd_cons (snd_iload_n X dX6_append_17 rfl) ?_
  refine snd_cons (snd_castore X dX6_append_18) ?_
  refine snd_cons (snd_aload_n X dX6_append_19 rfl) ?_
  refine snd_cons (snd_dup X dX6_append_20) ?_
  refine snd_cons (snd_getf X Fk6 1 (by decide) w_181 dX6_append_21) ?_
  refine snd_cons (snd_iconst X dX6_append_24 (by decide)) ?_
  refine snd_cons (snd_iadd X dX6_append_25) ?_
  refine snd_cons (snd_puti X Fk6 1 (by decide) rfl rfl w_181 dX6_append_26) ?_
  refine snd_cons (snd_vret X dX6_append_29) ?_
  exact snd_nil
theorem k_X6_append_0 (ca : Nat → ClassId) : k_X6_append ca 0 = i_aload 0 1 := rfl
theorem k_X6_append_1 (ca : Nat → ClassId) : k_X6_append ca 1 = i_getf 6 1 4 := rfl
theorem k_X6_append_4 (ca : Nat → ClassId) : k_X6_append ca 4 = i_push (.int 60) 6 := rfl
theorem k_X6_append_6 (ca : Nat → ClassId) : k_X6_append ca 6 = i_icmp (fun x y => y ≤ x) 29 9 := rfl
theorem k_X6_append_9 (ca : Nat → ClassId) : k_X6_append ca 9 = i_aload 0 10 := rfl
theorem k_X6_append_10 (ca : Nat → ClassId) : k_X6_append ca 10 = i_getf 6 0 13 := rfl
theorem k_X6_append_13 (ca : Nat → ClassId) : k_X6_append ca 13 = i_aload 0 14 := rfl
theorem k_X6_append_14 (ca : Nat → ClassId) : k_X6_append ca 14 = i_getf 6 1 17 := rfl
theorem k_X6_append_17 (ca : Nat → ClassId) : k_X6_append ca 17 = i_iload 1 18 := rfl
theorem k_X6_append_18 (ca : Nat → ClassId) : k_X6_append ca 18 = i_ast (vp_nar .char) (ca 3) 19 := rfl
theorem k_X6_append_19 (ca : Nat → ClassId) : k_X6_append ca 19 = i_aload 0 20 := rfl
theorem k_X6_append_20 (ca : Nat → ClassId) : k_X6_append ca 20 = i_dup 21 := rfl
theorem k_X6_append_21 (ca : Nat → ClassId) : k_X6_append ca 21 = i_getf 6 1 24 := rfl
theorem k_X6_append_24 (ca : Nat → ClassId) : k_X6_append ca 24 = i_push (.int 1) 25 := rfl
theorem k_X6_append_25 (ca : Nat → ClassId) : k_X6_append ca 25 = i_bin (fun x y => x + y) 26 := rfl
theorem k_X6_append_26 (ca : Nat → ClassId) : k_X6_append ca 26 = i_puti 6 1 29 := rfl
theorem k_X6_append_29 (ca : Nat → ClassId) : k_X6_append ca 29 = i_vret := rfl
set_option maxHeartbeats 4000000 in
set_option maxRecDepth 20000 in
theorem ok_X6_append (l : Launch) (D : va_G) (ca : Nat → ClassId) : OkAll l D ca yX6_append cX6_append 2 none 0 0 0 (sp_X6_append ca) := by
  intro av h post hs
  obtain ⟨qt, qc, n, f, x, rfl, ⟨h0, h1, hn⟩, h60, hq, hs⟩ := hs
  have hq2 : ¬ qt = qc := fun z => hq z.symm
  have hv : vp_in (nI n) 60 := vp_in_nI (by omega) (by decide)
  have ht : (nI n).toNatClampNeg = n := nI_clamp (by omega)
  have hle : ¬ 60 ≤ nI n := nI_ge (b := 60) h60 (by decide)
  have e1 : nI n + 1 = nI (n + 1) := nI_1 _
  refine okM_of t_X6_append (by decide +kernel) (c1_ref (c1_int c1_nil)) (Nat.le_of_ble_eq_true rfl) ?_
  intro K go
  refine go (stp []) 20 _ _ _ _ _ _ ?_
  simp only [wpS, ite_not, i_push, i_iload, i_lload, i_aload, i_istore, i_astore, i_lstore, i_iinc, i_bin, i_dv, i_un, i_lbin, i_lsh, i_i2l, i_l2i, i_lcmp, i_dup, i_dup2, i_pop, i_if, i_icmp, i_goto, swG, i_sw, i_getf, i_puti, i_putz, i_putr, i_ald, i_lald, i_aald, i_ast, i_last, i_aast, i_alen, i_new, i_newi, i_newl, i_newq, i_oinit, i_ret, i_zret, i_lret, i_vret, catS, tk, rpush, isO, i_m1, i_m2, i_acopy, i_callV, i_callS, KRet, lget, lput, lputL, lcl0, isL, lv0, List.map_cons, List.map_nil, List.length_cons, List.length_nil, List.cons_append, List.nil_append, Nat.reduceAdd, Nat.reduceSub, Nat.reduceLeDiff, List.replicate_succ, List.replicate_zero, List.getElem?_cons_succ, List.getElem?_cons_zero, List.set_cons_succ, List.set_cons_zero, true_and, and_true, if_true, if_false, reduceIte, Nat.le_refl, Value.category, va_up_app, eq_self, stp, Nat.reduceBEq, Bool.or_false, Bool.false_or, Bool.true_or, Bool.or_true, or_true, true_or, bx_uu, implies_true, true_implies, not_true, not_false_eq_true, false_implies, and_self, Nat.reduceLT, Int32.reduceAdd, Int32.reduceSub, Int32.reduceMul, Int32.reduceLE, Int32.reduceLT, Int32.reduceToNatClampNeg, va_rf_some, Bool.false_eq_true, k_X6_append_0 ca, k_X6_append_1 ca, k_X6_append_4 ca, k_X6_append_6 ca, k_X6_append_9 ca, k_X6_append_10 ca, k_X6_append_13 ca, k_X6_append_14 ca, k_X6_append_17 ca, k_X6_append_18 ca, k_X6_append_19 ca, k_X6_append_20 ca, k_X6_append_21 ca, k_X6_append_24 ca, k_X6_append_25 ca, k_X6_append_26 ca, k_X6_append_29 ca, h0, h1, hq, hq2, hv, ht, hle, e1]
  exact hs

